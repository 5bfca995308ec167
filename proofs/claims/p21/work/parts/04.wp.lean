/-! a contract over the pure cells, and what a block of instructions wants of the state ahead of it -/
def pm_hold (g : pm_G) (A : pm_H) (H : Heap) : Prop := ∀ (a : Nat) (e : va_E), A a = some e → va_at g.1 vwCl (a, e) H
def pm_ty (g : pm_G) : List (ClassId × FieldType) := [(g.2.1, .int), (g.2.2.1, .object RX7), (g.2.2.2, .array .int)]
def pm_AM (U : State) : Prop := (Cond.arrayOver (.array .int)).before #[] U = true
def pm_K (g : pm_G) (U : State) : Prop := va_K g.1 vwCl (pm_ty g) U ∧ va_AO RX7 U ∧ pm_AM U ∧ ∀ q ∈ pm_nl2, va_Nw (pm_nlw q) U
def pm_fr (A : pm_H) (sz : Nat) : Nat → Prop := fun q => A q ≠ none ∨ sz ≤ q
def pm_ws (n : Nat) : List Cond := .code (pm_me n).1 (pm_me n).2.1 (pm_me n).2.2.1 (pm_me n).2.2.2.1 :: pm_W
def pm_Qc (g : pm_G) (A : pm_H) (sz : Nat) (Q : Option Value → pm_H → Prop) : Array Value → State → Outcome → State → Prop := fun _ st o t =>
  ∃ (r : Option Value) (A' : pm_H), o = .returned r ∧ Q r A' ∧ pm_hold g A' t.heap ∧ (∀ q, A' q ≠ none → pm_fr A sz q) ∧ st.heap.size ≤ t.heap.size ∧ ∀ q, q < st.heap.size → ¬ pm_fr A sz q → t.heap[q]? = st.heap[q]?
/-- method n, called with these arguments over these cells, ends, with Q of its answer and of the cells; at most mc cells of ms slots are new; depth d -/
def pm_Mt (l : Launch) (g : pm_G) (n d mc ms : Nat) (as : List Value) (A : pm_H) (Q : Option Value → pm_H → Prop) : Prop :=
  ∀ sz : Nat, Met l (pm_me n).1 (pm_ws n) ({ frames := d, cells := mc, slots := ms, locals := 40 * d }) (va_Pc as (fun U => U.heap.size = sz ∧ pm_hold g A U.heap ∧ pm_K g U)) (pm_Qc g A sz Q) mc ms (pm_fr A sz)
def pm_pop : Nat → List Value → List Value → Option (List Value × List Value)
  | 0, st, acc => some (acc, st)
  | k + 1, v :: st, acc => pm_pop k st (v :: acc)
  | _ + 1, [], _ => none
def pm_rm (rest : List Value) : Bool := Nat.ble (rest.map fun v => v.category).sum 8
def pm_vk : Nat → Value → Bool
  | 0, .int _ => true
  | 1, .ref _ => true
  | 1, .null => true
  | _, _ => false
def pm_at : List Value → Nat → Option Value
  | [], _ => none
  | v :: _, 0 => some v
  | _ :: r, k + 1 => pm_at r k
def pm_rd (g : pm_G) (ro : Nat → Option (Nat × (Nat → Int32))) (A : pm_H) (a n : Nat) (f : Nat → Int32) : Prop := A a = some (pm_ia g n f) ∨ ro a = some (n, f)
def pm_sw (pc : Nat) (dflt lo hi : Int) (offs : Array Int) (x : Int32) (t : Nat) : Prop := ((x.toInt < lo ∨ hi < x.toInt) ∧ t = ((pc : Int) + dflt).toNat) ∨ (¬ x.toInt < lo ∧ ¬ hi < x.toInt ∧ ∃ off, offs[(x.toInt - lo).toNat]? = some off ∧ t = ((pc : Int) + off).toNat)
def pm_df (ci : Nat) : List Value := (List.range (pm_cT ci).2.2).map (fun k => defaultValue (pm_tys ci k))
def pm_upm (g : pm_G) (A : pm_H) (a : Nat) (r : Nat → Nat) (N K : Nat) : pm_H := fun q => if q = a then some (pm_ma g N (fun j => if j < N then some (r j) else none)) else if ∃ j, j < N ∧ q = r j then some (pm_ia g K (fun _ => 0)) else A q
/-- a call: its arguments, what is left below them -/
def pm_call (l : Launch) (g : pm_G) (d mc ms n : Nat) (as rest : List Value) (A : pm_H) (c s : Nat) (kk : List Value → pm_H → Nat → Nat → Prop) : Prop :=
  ∃ (d' mc' ms' : Nat) (Q' : Option Value → pm_H → Prop), pm_Mt l g n d' mc' ms' as A Q' ∧ (Nat.blt d' d && (Nat.ble (c + mc') mc && (Nat.ble (s + ms') ms && pm_rm rest))) = true ∧ ∀ (r : Option Value) (A' : pm_H), Q' r A' → kk (r.toList ++ rest) A' (c + mc') (s + ms')
/-- what stands on the stack, what a place holds: a shape, or nothing goes on -/
def pm_li (L : pm_L) (i : Nat) (K : Int32 → Prop) : Prop := match pm_gt L i with
  | some (.int x) => K x
  | _ => False
def pm_ll (L : pm_L) (i : Nat) (K : Int64 → Prop) : Prop := match pm_gt L i with
  | some (.long x) => K x
  | _ => False
def pm_lr (L : pm_L) (i : Nat) (K : Nat → Prop) (K0 : Prop) : Prop := match pm_gt L i with
  | some (.ref x) => K x
  | some .null => K0
  | _ => False
def pm_si (K : Int32 → List Value → Prop) : List Value → Prop
  | .int x :: st => K x st
  | _ => False
def pm_sl (K : Int64 → List Value → Prop) : List Value → Prop
  | .long x :: st => K x st
  | _ => False
def pm_sr (K : Nat → List Value → Prop) : List Value → Prop
  | .ref x :: st => K x st
  | _ => False
def pm_srn (K : Nat → List Value → Prop) (K0 : List Value → Prop) : List Value → Prop
  | .ref x :: st => K x st
  | .null :: st => K0 st
  | _ => False
def pm_sd (K : Int32 → List Value → Prop) (K0 : Nat → List Value → Prop) : List Value → Prop
  | .int x :: st => K x st
  | .ref x :: st => K0 x st
  | _ => False
def pm_svr (K : Value → Nat → List Value → Prop) : List Value → Prop
  | v :: .ref a :: st => K v a st
  | _ => False
def pm_sii (K : Int32 → Int32 → List Value → Prop) : List Value → Prop
  | .int y :: .int x :: st => K x y st
  | _ => False
def pm_sll (K : Int64 → Int64 → List Value → Prop) : List Value → Prop
  | .long y :: .long x :: st => K x y st
  | _ => False
def pm_sir (K : Int32 → Nat → List Value → Prop) : List Value → Prop
  | .int x :: .ref a :: st => K x a st
  | _ => False
def pm_siir (K : Int32 → Int32 → Nat → List Value → Prop) : List Value → Prop
  | .int v :: .int x :: .ref a :: st => K v x a st
  | _ => False
def pm_srir (K : Nat → Int32 → Nat → List Value → Prop) : List Value → Prop
  | .ref v :: .int x :: .ref a :: st => K v x a st
  | _ => False
def pm_ga (fs : List Value) (k : Nat) (K : Value → Prop) : Prop := match pm_at fs k with
  | some v => K v
  | none => False
def pm_pv (k : Nat) (st : List Value) (K : List Value → Nat → List Value → Prop) : Prop := match pm_pop k st [] with
  | some (as, .ref b :: rest) => K as b rest
  | _ => False
def pm_ps (k : Nat) (st : List Value) (K : List Value → List Value → Prop) : Prop := match pm_pop k st [] with
  | some (as, rest) => K as rest
  | none => False
def pm_z0 (z : Int32) (P Q : Prop) : Prop := match z.toInt.toNat with
  | 0 => P
  | _ => Q
theorem pm_li_v {L : pm_L} {i : Nat} {K : Int32 → Prop} (h : pm_li L i K) : ∃ x, pm_gt L i = some (.int x) ∧ K x := by
  unfold pm_li at h; split at h
  · rename_i x e; exact ⟨x, e, h⟩
  · exact h.elim
theorem pm_ll_v {L : pm_L} {i : Nat} {K : Int64 → Prop} (h : pm_ll L i K) : ∃ x, pm_gt L i = some (.long x) ∧ K x := by
  unfold pm_ll at h; split at h
  · rename_i x e; exact ⟨x, e, h⟩
  · exact h.elim
theorem pm_lr_v {L : pm_L} {i : Nat} {K : Nat → Prop} {K0 : Prop} (h : pm_lr L i K K0) : (∃ x, pm_gt L i = some (.ref x) ∧ K x) ∨ (pm_gt L i = some .null ∧ K0) := by
  unfold pm_lr at h; split at h
  · rename_i x e; exact Or.inl ⟨x, e, h⟩
  · rename_i e; exact Or.inr ⟨e, h⟩
  · exact h.elim
theorem pm_si_v {K : Int32 → List Value → Prop} {st : List Value} (h : pm_si K st) : ∃ x r, st = .int x :: r ∧ K x r := by
  unfold pm_si at h; split at h
  · exact ⟨_, _, rfl, h⟩
  · exact h.elim
theorem pm_sl_v {K : Int64 → List Value → Prop} {st : List Value} (h : pm_sl K st) : ∃ x r, st = .long x :: r ∧ K x r := by
  unfold pm_sl at h; split at h
  · exact ⟨_, _, rfl, h⟩
  · exact h.elim
theorem pm_sr_v {K : Nat → List Value → Prop} {st : List Value} (h : pm_sr K st) : ∃ x r, st = .ref x :: r ∧ K x r := by
  unfold pm_sr at h; split at h
  · exact ⟨_, _, rfl, h⟩
  · exact h.elim
theorem pm_srn_v {K : Nat → List Value → Prop} {K0 : List Value → Prop} {st : List Value} (h : pm_srn K K0 st) : (∃ x r, st = .ref x :: r ∧ K x r) ∨ ∃ r, st = .null :: r ∧ K0 r := by
  unfold pm_srn at h; split at h
  · exact Or.inl ⟨_, _, rfl, h⟩
  · exact Or.inr ⟨_, rfl, h⟩
  · exact h.elim
theorem pm_sd_v {K : Int32 → List Value → Prop} {K0 : Nat → List Value → Prop} {st : List Value} (h : pm_sd K K0 st) : (∃ x r, st = .int x :: r ∧ K x r) ∨ ∃ x r, st = .ref x :: r ∧ K0 x r := by
  unfold pm_sd at h; split at h
  · exact Or.inl ⟨_, _, rfl, h⟩
  · exact Or.inr ⟨_, _, rfl, h⟩
  · exact h.elim
theorem pm_svr_v {K : Value → Nat → List Value → Prop} {st : List Value} (h : pm_svr K st) : ∃ v a r, st = v :: .ref a :: r ∧ K v a r := by
  unfold pm_svr at h; split at h
  · exact ⟨_, _, _, rfl, h⟩
  · exact h.elim
theorem pm_sii_v {K : Int32 → Int32 → List Value → Prop} {st : List Value} (h : pm_sii K st) : ∃ x y r, st = .int y :: .int x :: r ∧ K x y r := by
  unfold pm_sii at h; split at h
  · exact ⟨_, _, _, rfl, h⟩
  · exact h.elim
theorem pm_sll_v {K : Int64 → Int64 → List Value → Prop} {st : List Value} (h : pm_sll K st) : ∃ x y r, st = .long y :: .long x :: r ∧ K x y r := by
  unfold pm_sll at h; split at h
  · exact ⟨_, _, _, rfl, h⟩
  · exact h.elim
theorem pm_sir_v {K : Int32 → Nat → List Value → Prop} {st : List Value} (h : pm_sir K st) : ∃ x a r, st = .int x :: .ref a :: r ∧ K x a r := by
  unfold pm_sir at h; split at h
  · exact ⟨_, _, _, rfl, h⟩
  · exact h.elim
theorem pm_siir_v {K : Int32 → Int32 → Nat → List Value → Prop} {st : List Value} (h : pm_siir K st) : ∃ v x a r, st = .int v :: .int x :: .ref a :: r ∧ K v x a r := by
  unfold pm_siir at h; split at h
  · exact ⟨_, _, _, _, rfl, h⟩
  · exact h.elim
theorem pm_srir_v {K : Nat → Int32 → Nat → List Value → Prop} {st : List Value} (h : pm_srir K st) : ∃ v x a r, st = .ref v :: .int x :: .ref a :: r ∧ K v x a r := by
  unfold pm_srir at h; split at h
  · exact ⟨_, _, _, _, rfl, h⟩
  · exact h.elim
theorem pm_ga_v {fs : List Value} {k : Nat} {K : Value → Prop} (h : pm_ga fs k K) : ∃ v, pm_at fs k = some v ∧ K v := by
  unfold pm_ga at h; split at h
  · rename_i v e; exact ⟨v, e, h⟩
  · exact h.elim
theorem pm_pop_v : ∀ (k : Nat) (st acc as rest : List Value), pm_pop k st acc = some (as, rest) → ∃ bs, as = bs ++ acc ∧ bs.length = k ∧ st = bs.reverse ++ rest
  | 0, st, acc, as, rest, h => by
    simp only [pm_pop, Option.some.injEq, Prod.mk.injEq] at h
    exact ⟨[], by simp [h.1], rfl, by simp [h.2]⟩
  | k + 1, [], acc, as, rest, h => by simp [pm_pop] at h
  | k + 1, v :: st, acc, as, rest, h => by
    simp only [pm_pop] at h
    obtain ⟨bs, h1, h2, h3⟩ := pm_pop_v k st (v :: acc) as rest h
    exact ⟨bs ++ [v], by simp [h1], by simp [h2], by simp [h3]⟩
theorem pm_pv_v {k : Nat} {st : List Value} {K : List Value → Nat → List Value → Prop} (h : pm_pv k st K) : ∃ as b rest, as.length = k ∧ st = as.reverse ++ .ref b :: rest ∧ K as b rest := by
  unfold pm_pv at h; split at h
  · rename_i as b rest e
    obtain ⟨bs, h1, h2, h3⟩ := pm_pop_v _ _ _ _ _ e
    rw [List.append_nil] at h1
    subst h1
    exact ⟨as, b, rest, h2, h3, h⟩
  · exact h.elim
theorem pm_ps_v {k : Nat} {st : List Value} {K : List Value → List Value → Prop} (h : pm_ps k st K) : ∃ as rest, as.length = k ∧ st = as.reverse ++ rest ∧ K as rest := by
  unfold pm_ps at h; split at h
  · rename_i as rest e
    obtain ⟨bs, h1, h2, h3⟩ := pm_pop_v _ _ _ _ _ e
    rw [List.append_nil] at h1
    subst h1
    exact ⟨as, rest, h2, h3, h⟩
  · exact h.elim
def pm_wp (l : Launch) (g : pm_G) (ro : Nat → Option (Nat × (Nat → Int32))) (d mc ms : Nat) (Ret : Option Value → pm_H → Nat → Nat → Prop) (J : pm_J) (fin : Nat) : List pm_Op → pm_L → List Value → pm_H → Nat → Nat → Prop
  | [], L, st, A, c, s => J fin L st A c s
  | (ins, _, i, k, z) :: r, L, st, A, c, s =>
    match ins with
    | .iconst _ => pm_wp l g ro d mc ms Ret J fin r L (.int z :: st) A c s
    | .bipush _ => pm_wp l g ro d mc ms Ret J fin r L (.int z :: st) A c s
    | .sipush _ => pm_wp l g ro d mc ms Ret J fin r L (.int z :: st) A c s
    | .ldc _ => pm_wp l g ro d mc ms Ret J fin r L (.int z :: st) A c s
    | .ldc_w _ => pm_wp l g ro d mc ms Ret J fin r L (.int z :: st) A c s
    | .aconst_null => pm_wp l g ro d mc ms Ret J fin r L (.null :: st) A c s
    | .lconst n => pm_wp l g ro d mc ms Ret J fin r L (.long (Int64.ofNat n) :: st) A c s
    | .iload _ => pm_li L i (fun x => pm_wp l g ro d mc ms Ret J fin r L (.int x :: st) A c s)
    | .iload_n _ => pm_li L i (fun x => pm_wp l g ro d mc ms Ret J fin r L (.int x :: st) A c s)
    | .lload_n _ => pm_ll L i (fun x => pm_wp l g ro d mc ms Ret J fin r L (.long x :: st) A c s)
    | .aload _ => pm_lr L i (fun x => pm_wp l g ro d mc ms Ret J fin r L (.ref x :: st) A c s) (pm_wp l g ro d mc ms Ret J fin r L (.null :: st) A c s)
    | .aload_n _ => pm_lr L i (fun x => pm_wp l g ro d mc ms Ret J fin r L (.ref x :: st) A c s) (pm_wp l g ro d mc ms Ret J fin r L (.null :: st) A c s)
    | .istore _ => pm_si (fun x st => pm_wp l g ro d mc ms Ret J fin r (pm_st L i (.int x)) st A c s) st
    | .istore_n _ => pm_si (fun x st => pm_wp l g ro d mc ms Ret J fin r (pm_st L i (.int x)) st A c s) st
    | .lstore_n _ => pm_sl (fun x st => pm_wp l g ro d mc ms Ret J fin r (pm_un (pm_st L i (.long x)) (i + 1)) st A c s) st
    | .astore _ => pm_srn (fun x st => pm_wp l g ro d mc ms Ret J fin r (pm_st L i (.ref x)) st A c s) (fun st => pm_wp l g ro d mc ms Ret J fin r (pm_st L i .null) st A c s) st
    | .astore_n _ => pm_srn (fun x st => pm_wp l g ro d mc ms Ret J fin r (pm_st L i (.ref x)) st A c s) (fun st => pm_wp l g ro d mc ms Ret J fin r (pm_st L i .null) st A c s) st
    | .iinc _ _ => pm_li L i (fun x => ∀ m : Int32, m = x + z → pm_wp l g ro d mc ms Ret J fin r (pm_st L i (.int m)) st A c s)
    | .iaload => pm_sir (fun x a st => ∃ (n : Nat) (f : Nat → Int32), pm_rd g ro A a n f ∧ (0 ≤ x.toInt ∧ x.toInt < n) ∧ pm_wp l g ro d mc ms Ret J fin r L (.int (f x.toInt.toNat) :: st) A c s) st
    | .iastore => pm_siir (fun v x a st => ∃ (n : Nat) (f : Nat → Int32), A a = some (pm_ia g n f) ∧ (0 ≤ x.toInt ∧ x.toInt < n) ∧ pm_wp l g ro d mc ms Ret J fin r L st (pm_up A a (pm_ia g n (upd f x.toInt.toNat v))) c s) st
    | .aaload => pm_sir (fun x a st => ∃ (n : Nat) (f : Nat → Option Nat), (A a = some (pm_ra g n f) ∨ A a = some (pm_ma g n f)) ∧ (0 ≤ x.toInt ∧ x.toInt < n) ∧ pm_wp l g ro d mc ms Ret J fin r L (va_rf (f x.toInt.toNat) :: st) A c s) st
    | .aastore => pm_srir (fun v x a st => ∃ (n : Nat) (f : Nat → Option Nat) (fs : List Value), A a = some (pm_ra g n f) ∧ A v = some (pm_ob 7 fs) ∧ (0 ≤ x.toInt ∧ x.toInt < n) ∧ pm_wp l g ro d mc ms Ret J fin r L st (pm_up A a (pm_ra g n (va_up f x.toInt.toNat (some v)))) c s) st
    | .arraylength => pm_sr (fun a st => ∃ (n : Nat) (f : Nat → Int32), pm_rd g ro A a n f ∧ pm_wp l g ro d mc ms Ret J fin r L (.int (nI n) :: st) A c s) st
    | .pop => pm_si (fun _ st => pm_wp l g ro d mc ms Ret J fin r L st A c s) st
    | .pop2 => pm_sl (fun _ st => pm_wp l g ro d mc ms Ret J fin r L st A c s) st
    | .dup => pm_sd (fun x st => pm_wp l g ro d mc ms Ret J fin r L (.int x :: .int x :: st) A c s) (fun x st => pm_wp l g ro d mc ms Ret J fin r L (.ref x :: .ref x :: st) A c s) st
    | .dup2 => pm_sir (fun x a st => pm_wp l g ro d mc ms Ret J fin r L (.int x :: .ref a :: .int x :: .ref a :: st) A c s) st
    | .iadd => pm_sii (fun x y st => ∀ m : Int32, m = x + y → pm_wp l g ro d mc ms Ret J fin r L (.int m :: st) A c s) st
    | .isub => pm_sii (fun x y st => ∀ m : Int32, m = x - y → pm_wp l g ro d mc ms Ret J fin r L (.int m :: st) A c s) st
    | .imul => pm_sii (fun x y st => ∀ m : Int32, m = x * y → pm_wp l g ro d mc ms Ret J fin r L (.int m :: st) A c s) st
    | .idiv => pm_sii (fun x y st => ¬ y = 0 ∧ ∀ m : Int32, m = x / y → pm_wp l g ro d mc ms Ret J fin r L (.int m :: st) A c s) st
    | .irem => pm_sii (fun x y st => ¬ y = 0 ∧ ∀ m : Int32, m = x - x / y * y → pm_wp l g ro d mc ms Ret J fin r L (.int m :: st) A c s) st
    | .ineg => pm_si (fun x st => ∀ m : Int32, m = -x → pm_wp l g ro d mc ms Ret J fin r L (.int m :: st) A c s) st
    | .ishl => pm_sii (fun x y st => pm_wp l g ro d mc ms Ret J fin r L (.int (x <<< (y &&& 31)) :: st) A c s) st
    | .ishr => pm_sii (fun x y st => pm_wp l g ro d mc ms Ret J fin r L (.int (x >>> (y &&& 31)) :: st) A c s) st
    | .iushr => pm_sii (fun x y st => pm_wp l g ro d mc ms Ret J fin r L (.int (x.toUInt32 >>> (y.toUInt32 &&& Int32.toUInt32 31)).toInt32 :: st) A c s) st
    | .iand => pm_sii (fun x y st => pm_wp l g ro d mc ms Ret J fin r L (.int (x &&& y) :: st) A c s) st
    | .ior => pm_sii (fun x y st => pm_wp l g ro d mc ms Ret J fin r L (.int (x ||| y) :: st) A c s) st
    | .ixor => pm_sii (fun x y st => pm_wp l g ro d mc ms Ret J fin r L (.int (x ^^^ y) :: st) A c s) st
    | .i2l => pm_si (fun x st => pm_wp l g ro d mc ms Ret J fin r L (.long x.toInt64 :: st) A c s) st
    | .ladd => pm_sll (fun x y st => pm_wp l g ro d mc ms Ret J fin r L (.long (x + y) :: st) A c s) st
    | .lmul => pm_sll (fun x y st => pm_wp l g ro d mc ms Ret J fin r L (.long (x * y) :: st) A c s) st
    | .lcmp => pm_sll (fun x y st => pm_wp l g ro d mc ms Ret J fin r L (.int (lg_cmp x y) :: st) A c s) st
    | .goto _ => J i L st A c s
    | .if_icmp .eq _ => pm_sii (fun x y st => (x = y → J i L st A c s) ∧ (¬ x = y → pm_wp l g ro d mc ms Ret J fin r L st A c s)) st
    | .if_icmp .ne _ => pm_sii (fun x y st => (¬ x = y → J i L st A c s) ∧ (x = y → pm_wp l g ro d mc ms Ret J fin r L st A c s)) st
    | .if_icmp .lt _ => pm_sii (fun x y st => (x.toInt < y.toInt → J i L st A c s) ∧ (y.toInt ≤ x.toInt → pm_wp l g ro d mc ms Ret J fin r L st A c s)) st
    | .if_icmp .ge _ => pm_sii (fun x y st => (y.toInt ≤ x.toInt → J i L st A c s) ∧ (x.toInt < y.toInt → pm_wp l g ro d mc ms Ret J fin r L st A c s)) st
    | .if_icmp .gt _ => pm_sii (fun x y st => (y.toInt < x.toInt → J i L st A c s) ∧ (x.toInt ≤ y.toInt → pm_wp l g ro d mc ms Ret J fin r L st A c s)) st
    | .if_icmp .le _ => pm_sii (fun x y st => (x.toInt ≤ y.toInt → J i L st A c s) ∧ (y.toInt < x.toInt → pm_wp l g ro d mc ms Ret J fin r L st A c s)) st
    | .ifCond .eq _ => pm_si (fun x st => (x = 0 → J i L st A c s) ∧ (¬ x = 0 → pm_wp l g ro d mc ms Ret J fin r L st A c s)) st
    | .ifCond .ne _ => pm_si (fun x st => (¬ x = 0 → J i L st A c s) ∧ (x = 0 → pm_wp l g ro d mc ms Ret J fin r L st A c s)) st
    | .ifCond .lt _ => pm_si (fun x st => (x.toInt < 0 → J i L st A c s) ∧ (0 ≤ x.toInt → pm_wp l g ro d mc ms Ret J fin r L st A c s)) st
    | .ifCond .ge _ => pm_si (fun x st => (0 ≤ x.toInt → J i L st A c s) ∧ (x.toInt < 0 → pm_wp l g ro d mc ms Ret J fin r L st A c s)) st
    | .ifCond .gt _ => pm_si (fun x st => (0 < x.toInt → J i L st A c s) ∧ (x.toInt ≤ 0 → pm_wp l g ro d mc ms Ret J fin r L st A c s)) st
    | .ifCond .le _ => pm_si (fun x st => (x.toInt ≤ 0 → J i L st A c s) ∧ (0 < x.toInt → pm_wp l g ro d mc ms Ret J fin r L st A c s)) st
    | .ifnull _ => pm_srn (fun _ st => pm_wp l g ro d mc ms Ret J fin r L st A c s) (fun st => J i L st A c s) st
    | .ifnonnull _ => pm_srn (fun _ st => J i L st A c s) (fun st => pm_wp l g ro d mc ms Ret J fin r L st A c s) st
    | .tableswitch dflt lo hi offs => pm_si (fun x st => ∀ t : Nat, pm_sw i dflt lo hi offs x t → J t L st A c s) st
    | .getfield _ => pm_sr (fun a st => ∃ fs : List Value, A a = some (pm_ob i fs) ∧ pm_ga fs k (fun v => pm_wp l g ro d mc ms Ret J fin r L (v :: st) A c s)) st
    | .putfield _ => pm_svr (fun v a st => ∃ fs : List Value, A a = some (pm_ob i fs) ∧ (pm_vk z.toInt.toNat v && (pm_at fs k).isSome) = true ∧ pm_wp l g ro d mc ms Ret J fin r L st (pm_up A a (pm_ob i (fs.set k v))) c s) st
    | .invokevirtual _ => pm_pv k st (fun as b rest => (∃ fs : List Value, A b = some (pm_ob z.toInt.toNat fs)) ∧ pm_call l g d mc ms i (.ref b :: as) rest A c s (fun st A c s => pm_wp l g ro d mc ms Ret J fin r L st A c s))
    | .invokestatic _ => pm_ps k st (fun as rest => pm_call l g d mc ms i as rest A c s (fun st A c s => pm_wp l g ro d mc ms Ret J fin r L st A c s))
    | .invokespecial _ => pm_sr (fun b rest => pm_z0 z ((Nat.ble 1 d && pm_rm rest) = true ∧ pm_wp l g ro d mc ms Ret J fin r L rest A c s) (pm_call l g d mc ms i [.ref b] rest A c s (fun st A c s => pm_wp l g ro d mc ms Ret J fin r L st A c s))) st
    | .new _ => (Nat.ble (c + 1) mc && Nat.ble (s + k) ms) = true ∧ ∀ a : Nat, A a = none → pm_wp l g ro d mc ms Ret J fin r L (.ref a :: st) (pm_up A a (pm_ob i (pm_df i))) (c + 1) (s + k)
    | .newarray .int => pm_si (fun n st => n = nI i ∧ (Nat.ble (c + 1) mc && Nat.ble (s + i) ms) = true ∧ ∀ a : Nat, A a = none → pm_wp l g ro d mc ms Ret J fin r L (.ref a :: st) (pm_up A a (pm_ia g i (fun _ => 0))) (c + 1) (s + i)) st
    | .anewarray _ => pm_si (fun n st => n = nI i ∧ (Nat.ble (c + 1) mc && Nat.ble (s + i) ms) = true ∧ ∀ a : Nat, A a = none → pm_wp l g ro d mc ms Ret J fin r L (.ref a :: st) (pm_up A a (pm_ra g i (fun _ => none))) (c + 1) (s + i)) st
    | .multianewarray _ _ => pm_sii (fun n m st => n = nI i ∧ m = nI k ∧ (Nat.ble (c + (1 + i)) mc && Nat.ble (s + (i + i * k)) ms) = true ∧ ∀ (a : Nat) (rw : Nat → Nat), A a = none → (∀ j, j < i → A (rw j) = none) → (∀ j, j < i → rw j ≠ a) → (∀ x y, x < i → y < i → rw x = rw y → x = y) → pm_wp l g ro d mc ms Ret J fin r L (.ref a :: st) (pm_upm g A a rw i k) (c + 1 + i) (s + i + i * k)) st
    | .ireturn => pm_si (fun v st => st = [] ∧ (i = 1 → v = 0 ∨ v = 1) ∧ Ret (some (.int v)) A c s) st
    | .lreturn => pm_sl (fun v st => st = [] ∧ Ret (some (.long v)) A c s) st
    | .areturn => pm_srn (fun v st => st = [] ∧ Ret (some (.ref v)) A c s) (fun st => st = [] ∧ Ret (some .null) A c s) st
    | .return_ => st = [] ∧ Ret none A c s
    | _ => False
