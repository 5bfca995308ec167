
def pm_hold (g : pm_G) (A : pm_H) (H : Heap) : Prop := ∀ (a : Nat) (e : va_E), A a = some e → va_at g.1 vwCl (a, e) H
def pm_ty (g : pm_G) : List (ClassId × FieldType) := [(g.2.1, .int), (g.2.2.1, .object RX7), (g.2.2.2, .array .int)]
def pm_AM (U : State) : Prop := (Cond.arrayOver (.array .int)).before #[] U = true
def pm_K (g : pm_G) (U : State) : Prop := va_K g.1 vwCl (pm_ty g) U ∧ va_AO RX7 U ∧ pm_AM U ∧ ∀ q ∈ pm_nl2, va_Nw (pm_nlw q) U
def pm_fr (A : pm_H) (sz : Nat) : Nat → Prop := fun q => A q ≠ none ∨ sz ≤ q
def pm_ws (n : Nat) : List Cond := .code (pm_me n).1 (pm_me n).2.1 (pm_me n).2.2.1 (pm_me n).2.2.2.1 :: pm_W
def pm_Qc (g : pm_G) (A : pm_H) (sz : Nat) (Q : Option Value → pm_H → Prop) : Array Value → State → Outcome → State → Prop := fun _ st o t =>
  ∃ (r : Option Value) (A' : pm_H), o = .returned r ∧ Q r A' ∧ pm_hold g A' t.heap ∧ (∀ q, A' q ≠ none → pm_fr A sz q) ∧ st.heap.size ≤ t.heap.size ∧ ∀ q, q < st.heap.size → ¬ pm_fr A sz q → t.heap[q]? = st.heap[q]?
def pm_Mt (l : Launch) (g : pm_G) (n d mc ms : Nat) (as : List Value) (A : pm_H) (Q : Option Value → pm_H → Prop) : Prop :=
  ∀ sz : Nat, Met l (pm_me n).1 (pm_ws n) ({ frames := d, cells := mc, slots := ms, locals := 40 * d }) (va_Pc as (fun U => U.heap.size = sz ∧ pm_hold g A U.heap ∧ pm_K g U)) (pm_Qc g A sz Q) mc ms (pm_fr A sz)
def pm_pop : Nat → List Value → List Value → Option (List Value × List Value)
  | 0, st, acc => some (acc, st)
  | k + 1, v :: st, acc => pm_pop k st (v :: acc)
  | _ + 1, [], _ => none
def pm_rm (rest : List Value) : Bool := Nat.ble (rest.map fun v => v.category).sum 8
def pm_vk : Nat → Value → Bool
  | 0, .int _ => true
  | 1, .ref _ => true
  | 1, .null => true
  | _, _ => false
def pm_at : List Value → Nat → Option Value
  | [], _ => none
  | v :: _, 0 => some v
  | _ :: r, k + 1 => pm_at r k
def pm_rd (g : pm_G) (ro : Nat → Option (Nat × (Nat → Int32))) (A : pm_H) (a n : Nat) (f : Nat → Int32) : Prop := A a = some (pm_ia g n f) ∨ ro a = some (n, f)
def pm_sw (pc : Nat) (dflt lo hi : Int) (offs : Array Int) (x : Int32) (t : Nat) : Prop := ((x.toInt < lo ∨ hi < x.toInt) ∧ t = ((pc : Int) + dflt).toNat) ∨ (¬ x.toInt < lo ∧ ¬ hi < x.toInt ∧ ∃ off, offs[(x.toInt - lo).toNat]? = some off ∧ t = ((pc : Int) + off).toNat)
def pm_df (ci : Nat) : List Value := (List.range (pm_cT ci).2.2).map (fun k => defaultValue (pm_tys ci k))
def pm_upm (g : pm_G) (A : pm_H) (a : Nat) (r : Nat → Nat) (N K : Nat) : pm_H := fun q => if q = a then some (pm_ma g N (fun j => if j < N then some (r j) else none)) else if ∃ j, j < N ∧ q = r j then some (pm_ia g K (fun _ => 0)) else A q
def pm_call (l : Launch) (g : pm_G) (d mc ms n : Nat) (as rest : List Value) (A : pm_H) (c s : Nat) (kk : List Value → pm_H → Nat → Nat → Prop) : Prop :=
  ∃ (d' mc' ms' : Nat) (Q' : Option Value → pm_H → Prop), pm_Mt l g n d' mc' ms' as A Q' ∧ (Nat.blt d' d && (Nat.ble (c + mc') mc && (Nat.ble (s + ms') ms && pm_rm rest))) = true ∧ ∀ (r : Option Value) (A' : pm_H), Q' r A' → kk (r.toList ++ rest) A' (c + mc') (s + ms')
def pm_li (L : pm_L) (i : Nat) (K : Int32 → Prop) : Prop := match pm_gt L i with
  | some (.int x) => K x
  | _ => False
def pm_ll (L : pm_L) (i : Nat) (K : Int64 → Prop) : Prop := match pm_gt L i with
  | some (.long x) => K x
  | _ => False
def pm_lr (L : pm_L) (i : Nat) (K : Nat → Prop) (K0 : Prop) : Prop := match pm_gt L i with
  | some (.ref x) => K x
  | some .null => K0
  | _ => False
def pm_si (K : Int32 → List Value → Prop) : List Value → Prop
  | .int x :: st => K x st
  | _ => False
def pm_sl (K : Int64 → List Value → Prop) : List Value → Prop
  | .long x :: st => K x st
  | _ => False
def pm_sr (K : Nat → List Value → Prop) : List Value → Prop
  | .ref x :: st => K x st
  | _ => False
def pm_srn (K : Nat → List Value → Prop) (K0 : List Value → Prop) : List Value → Prop
  | .ref x :: st => K x st
  | .null :: st => K0 st
  | _ => False
def pm_sd (K : Int32 → List Value → Prop) (K0 : Nat → List Value → Prop) : List Value → Prop
  | .int x :: st => K x st
  | .ref x :: st => K0 x st
  | _ => False
def pm_svr (K : Value → Nat → List Value → Prop) : List Value → Prop
  | v :: .ref a :: st => K v a st
  | _ => False
def pm_sii (K : Int32 → Int32 → List Value → Prop) : List Value → Prop
  | .int y :: .int x :: st => K x y st
  | _ => False
def pm_sll (K : Int64 → Int64 → List Value → Prop) : List Value → Prop
  | .long y :: .long x :: st => K x y st
  | _ => False
def pm_sir (K : Int32 → Nat → List Value → Prop) : List Value → Prop
  | .int x :: .ref a :: st => K x a st
  | _ => False
def pm_siir (K : Int32 → Int32 → Nat → List Value → Prop) : List Value → Prop
  | .int v :: .int x :: .ref a :: st => K v x a st
  | _ => False
def pm_srir (K : Nat → Int32 → Nat → List Value → Prop) : List Value → Prop
  | .ref v :: .int x :: .ref a :: st => K v x a st
  | _ => False
def pm_ga (fs : List Value) (k : Nat) (K : Value → Prop) : Prop := match pm_at fs k with
  | some v => K v
  | none => False
def pm_pv (k : Nat) (st : List Value) (K : List Value → Nat → List Value → Prop) : Prop := match pm_pop k st [] with
  | some (as, .ref b :: rest) => K as b rest
  | _ => False
def pm_ps (k : Nat) (st : List Value) (K : List Value → List Value → Prop) : Prop := match pm_pop k st [] with
  | some (as, rest) => K as rest
  | none => False
def pm_z0 (z : Int32) (P Q : Prop) : Prop := match z.toInt.toNat with
  | 0 => P
  | _ => Q
theorem pm_li_v {L : pm_L} {i : Nat} {K : Int32 → Prop} (h : pm_li L i K) : ∃ x, pm_gt L i = some (.int x) ∧ K x := by
  unfold pm_li at h; split at h
  · rename_i x e; exact ⟨x, e, h⟩
  · exact h.elim
theorem pm_ll_v {L : pm_L} {i : Nat} {K : Int64 → Prop} (h : pm_ll L i K) : ∃ x, pm_gt L i = some (.long x) ∧ K x := by
  unfold pm_ll at h; split at h
  · rename_i x e; exact ⟨x, e, h⟩
  · exact h.elim
theorem pm_lr_v {L : pm_L} {i : Nat} {K : Nat → Prop} {K0 : Prop} (h : pm_lr L i K K0) : (∃ x, pm_gt L i = some (.ref x) ∧ K x) ∨ (pm_gt L i = some .null ∧ K0) := by
  unfold pm_lr at h; split at h
  · rename_i x e; exact Or.inl ⟨x, e, h⟩
  · rename_i e; exact Or.inr ⟨e, h⟩
  · exact h.elim
theorem pm_si_v {K : Int32 → List Value → Prop} {st : List Value} (h : pm_si K st) : ∃ x r, st = .int x :: r ∧ K x r := by
  unfold pm_si at h; split at h
  · exact ⟨_, _, rfl, h⟩
  · exact h.elim
theorem pm_sl_v {K : Int64 → List Value → Prop} {st : List Value} (h : pm_sl K st) : ∃ x r, st = .long x :: r ∧ K x r := by
  unfold pm_sl at h; split at h
  · exact ⟨_, _, rfl, h⟩
  · exact h.elim
theorem pm_sr_v {K : Nat → List Value → Prop} {st : List Value} (h : pm_sr K st) : ∃ x r, st = .ref x :: r ∧ K x r := by
  unfold pm_sr at h; split at h
  · exact ⟨_, _, rfl, h⟩
  · exact h.elim
theorem pm_srn_v {K : Nat → List Value → Prop} {K0 : List Value → Prop} {st : List Value} (h : pm_srn K K0 st) : (∃ x r, st = .ref x :: r ∧ K x r) ∨ ∃ r, st = .null :: r ∧ K0 r := by
  unfold pm_srn at h; split at h
  · exact Or.inl ⟨_, _, rfl, h⟩
  · exact Or.inr ⟨_, rfl, h⟩
  · exact h.elim
theorem pm_sd_v {K : Int32 → List Value → Prop} {K0 : Nat → List Value → Prop} {st : List Value} (h : pm_sd K K0 st) : (∃ x r, st = .int x :: r ∧ K x r) ∨ ∃ x r, st = .ref x :: r ∧ K0 x r := by
  unfold pm_sd at h; split at h
  · exact Or.inl ⟨_, _, rfl, h⟩
  · exact Or.inr ⟨_, _, rfl, h⟩
  · exact h.elim
theorem pm_svr_v {K : Value → Nat → List Value → Prop} {st : List Value} (h : pm_svr K st) : ∃ v a r, st = v :: .ref a :: r ∧ K v a r := by
  unfold pm_svr at h; split at h
  · exact ⟨_, _, _, rfl, h⟩
  · exact h.elim
theorem pm_sii_v {K : Int32 → Int32 → List Value → Prop} {st : List Value} (h : pm_sii K st) : ∃ x y r, st = .int y :: .int x :: r ∧ K x y r := by
  unfold pm_sii at h; split at h
  · exact ⟨_, _, _, rfl, h⟩
  · exact h.elim
theorem pm_sll_v {K : Int64 → Int64 → List Value → Prop} {st : List Value} (h : pm_sll K st) : ∃ x y r, st = .long y :: .long x :: r ∧ K x y r := by
  unfold pm_sll at h; split at h
  · exact ⟨_, _, _, rfl, h⟩
  · exact h.elim
