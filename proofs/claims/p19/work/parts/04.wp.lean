section
/-! a contract over the pure cells, and what a block of instructions wants of the state ahead of it -/
noncomputable def pm_hold (g : pm_G) (A : pm_H) (H : Heap) : Prop := ∀ (a : Nat) (e : va_E), A a = some e → va_at g.1 vwCl (a, e) H
noncomputable def pm_ty (g : pm_G) : List (ClassId × FieldType) := [(g.2.1, .int), (g.2.2.1, .object RX7), (g.2.2.2, .array .int)]
noncomputable def pm_AM (U : State) : Prop := (Cond.arrayOver (.array .int)).before #[] U = true
noncomputable def pm_K (g : pm_G) (U : State) : Prop := va_K g.1 vwCl (pm_ty g) U ∧ va_AO RX7 U ∧ pm_AM U ∧ ∀ q ∈ pm_nl2, va_Nw (pm_nlw q) U
noncomputable def pm_fr (A : pm_H) (sz : Nat) : Nat → Prop := fun q => A q ≠ none ∨ sz ≤ q
noncomputable def pm_ws (n : Nat) : List Cond := .code (pm_me n).1 (pm_me n).2.1 (pm_me n).2.2.1 (pm_me n).2.2.2.1 :: pm_W
noncomputable def pm_Qc (g : pm_G) (A : pm_H) (sz : Nat) (Q : Option Value → pm_H → Prop) : Array Value → State → Outcome → State → Prop := fun _ st o t =>
  ∃ (r : Option Value) (A' : pm_H), o = .returned r ∧ Q r A' ∧ pm_hold g A' t.heap ∧ (∀ q, A' q ≠ none → pm_fr A sz q) ∧ st.heap.size ≤ t.heap.size ∧ ∀ q, q < st.heap.size → ¬ pm_fr A sz q → t.heap[q]? = st.heap[q]?
/-- method n, called with these arguments over these cells, ends, with Q of its answer and of the cells; at most mc cells of ms slots are new; depth d -/
noncomputable def pm_Mt (l : Launch) (g : pm_G) (n d mc ms : Nat) (as : List Value) (A : pm_H) (Q : Option Value → pm_H → Prop) : Prop :=
  ∀ sz : Nat, Met l (pm_me n).1 (pm_ws n) ({ frames := d, cells := mc, slots := ms, locals := 40 * d }) (va_Pc as (fun U => U.heap.size = sz ∧ pm_hold g A U.heap ∧ pm_K g U)) (pm_Qc g A sz Q) mc ms (pm_fr A sz)
noncomputable def pm_pop : Nat → List Value → List Value → Option (List Value × List Value)
  | 0, st, acc => some (acc, st)
  | k + 1, v :: st, acc => pm_pop k st (v :: acc)
  | _ + 1, [], _ => none
noncomputable def pm_rm (rest : List Value) : Bool := Nat.ble (rest.map fun v => v.category).sum 8
noncomputable def pm_vk : Nat → Value → Bool
  | 0, .int _ => true
  | 1, .ref _ => true
  | 1, .null => true
  | _, _ => false
noncomputable def pm_at : List Value → Nat → Option Value
  | [], _ => none
  | v :: _, 0 => some v
  | _ :: r, k + 1 => pm_at r k
noncomputable def pm_rd (g : pm_G) (ro : Nat → Option (Nat × (Nat → Int32))) (A : pm_H) (a n : Nat) (f : Nat → Int32) : Prop := A a = some (pm_ia g n f) ∨ ro a = some (n, f)
noncomputable def pm_sw (pc : Nat) (dflt lo hi : Int) (offs : Array Int) (x : Int32) (t : Nat) : Prop := ((x.toInt < lo ∨ hi < x.toInt) ∧ t = ((pc : Int) + dflt).toNat) ∨ (¬ x.toInt < lo ∧ ¬ hi < x.toInt ∧ ∃ off, offs[(x.toInt - lo).toNat]? = some off ∧ t = ((pc : Int) + off).toNat)
noncomputable def pm_df (ci : Nat) : List Value := (List.range (pm_cT ci).2.2).map (fun k => defaultValue (pm_tys ci k))
noncomputable def pm_upm (g : pm_G) (A : pm_H) (a : Nat) (r : Nat → Nat) (N K : Nat) : pm_H := fun q => if q = a then some (pm_ma g N (fun j => if j < N then some (r j) else none)) else if ∃ j, j < N ∧ q = r j then some (pm_ia g K (fun _ => 0)) else A q
/-- a call: its arguments, what is left below them -/
noncomputable def pm_call (l : Launch) (g : pm_G) (d mc ms n : Nat) (as rest : List Value) (A : pm_H) (c s : Nat) (kk : List Value → pm_H → Nat → Nat → Prop) : Prop :=
  ∃ (d' mc' ms' : Nat) (Q' : Option Value → pm_H → Prop), pm_Mt l g n d' mc' ms' as A Q' ∧ (Nat.blt d' d && (Nat.ble (c + mc') mc && (Nat.ble (s + ms') ms && pm_rm rest))) = true ∧ ∀ (r : Option Value) (A' : pm_H), Q' r A' → kk (r.toList ++ rest) A' (c + mc') (s + ms')
/-- what stands on the stack, what a place holds: a shape, or nothing goes on -/
noncomputable def pm_li (L : pm_L) (i : Nat) (K : Int32 → Prop) : Prop := match pm_gt L i with
  | some (.int x) => K x
  | _ => False
noncomputable def pm_ll (L : pm_L) (i : Nat) (K : Int64 → Prop) : Prop := match pm_gt L i with
  | some (.long x) => K x
  | _ => False
noncomputable def pm_lr (L : pm_L) (i : Nat) (K : Nat → Prop) (K0 : Prop) : Prop := match pm_gt L i with
  | some (.ref x) => K x
  | some .null => K0
  | _ => False
noncomputable def pm_si (K : Int32 → List Value → Prop) : List Value → Prop
  | .int x :: st => K x st
  | _ => False
noncomputable def pm_sl (K : Int64 → List Value → Prop) : List Value → Prop
  | .long x :: st => K x st
  | _ => False
noncomputable def pm_sr (K : Nat → List Value → Prop) : List Value → Prop
  | .ref x :: st => K x st
  | _ => False
noncomputable def pm_srn (K : Nat → List Value → Prop) (K0 : List Value → Prop) : List Value → Prop
  | .ref x :: st => K x st
  | .null :: st => K0 st
  | _ => False
noncomputable def pm_sd (K : Int32 → List Value → Prop) (K0 : Nat → List Value → Prop) : List Value → Prop
  | .int x :: st => K x st
  | .ref x :: st => K0 x st
  | _ => False
noncomputable def pm_svr (K : Value → Nat → List Value → Prop) : List Value → Prop
  | v :: .ref a :: st => K v a st
  | _ => False
noncomputable def pm_sii (K : Int32 → Int32 → List Value → Prop) : List Value → Prop
  | .int y :: .int x :: st => K x y st
  | _ => False
noncomputable def pm_sll (K : Int64 → Int64 → List Value → Prop) : List Value → Prop
  | .long y :: .long x :: st => K x y st
  | _ => False
noncomputable def pm_sir (K : Int32 → Nat → List Value → Prop) : List Value → Prop
  | .int x :: .ref a :: st => K x a st
  | _ => False
noncomputable def pm_siir (K : Int32 → Int32 → Nat → List Value → Prop) : List Value → Prop
  | .int v :: .int x :: .ref a :: st => K v x a st
  | _ => False
noncomputable def pm_srir (K : Nat → Int32 → Nat → List Value → Prop) : List Value → Prop
  | .ref v :: .int x :: .ref a :: st => K v x a st
  | _ => False
noncomputable def pm_ga (fs : List Value) (k : Nat) (K : Value → Prop) : Prop := match pm_at fs k with
  | some v => K v
  | none => False
noncomputable def pm_pv (k : Nat) (st : List Value) (K : List Value → Nat → List Value → Prop) : Prop := match pm_pop k st [] with
  | some (as, .ref b :: rest) => K as b rest
  | _ => False
noncomputable def pm_ps (k : Nat) (st : List Value) (K : List Value → List Value → Prop) : Prop := match pm_pop k st [] with
  | some (as, rest) => K as rest
  | none => False
noncomputable def pm_z0 (z : Int32) (P Q : Prop) : Prop := match z.toInt.toNat with
  | 0 => P
  | _ => Q
theorem pm_li_v {L : pm_L} {i : Nat} {K : Int32 → Prop} (h : pm_li L i K) : ∃ x, pm_gt L i = some (.int x) ∧ K x := by
  unfold pm_li at h; split at h
  · rename_i x e; exact ⟨x, e, h⟩
  · exact h.elim
theorem pm_ll_v {L : pm_L} {i : Nat} {K : Int64 → Prop} (h : pm_ll L i K) : ∃ x, pm_gt L i = some (.long x) ∧ K x := by
  unfold pm_ll at h; split at h
  · rename_i x e; exact ⟨x, e, h⟩
  · exact h.elim
theorem pm_lr_v {L : pm_L} {i : Nat} {K : Nat → Prop} {K0 : Prop} (h : pm_lr L i K K0) : (∃ x, pm_gt L i = some (.ref x) ∧ K x) ∨ (pm_gt L i = some .null ∧ K0) := by
  unfold pm_lr at h; split at h
  · rename_i x e; exact Or.inl ⟨x, e, h⟩
  · rename_i e; exact Or.inr ⟨e, h⟩
  · exact h.elim
theorem pm_si_v {K : Int32 → List Value → Prop} {st : List Value} (h : pm_si K st) : ∃ x r, st = .int x :: r ∧ K x r := by
  unfold pm_si at h; split at h
  · exact ⟨_, _, rfl, h⟩
  · exact h.elim
theorem pm_sl_v {K : Int64 → List Value → Prop} {st : List Value} (h : pm_sl K st) : ∃ x r, st = .long x :: r ∧ K x r := by
  unfold pm_sl at h; split at h
  · exact ⟨_, _, rfl, h⟩
  · exact h.elim
theorem pm_sr_v {K : Nat → List Value → Prop} {st : List Value} (h : pm_sr K st) : ∃ x r, st = .ref x :: r ∧ K x r := by
  unfold pm_sr at h; split at h
  · exact ⟨_, _, rfl, h⟩
  · exact h.elim
theorem pm_srn_v {K : Nat → List Value → Prop} {K0 : List Value → Prop} {st : List Value} (h : pm_srn K K0 st) : (∃ x r, st = .ref x :: r ∧ K x r) ∨ ∃ r, st = .null :: r ∧ K0 r := by
  unfold pm_srn at h; split at h
  · exact Or.inl ⟨_, _, rfl, h⟩
  · exact Or.inr ⟨_, rfl, h⟩
  · exact h.elim
theorem pm_sd_v {K : Int32 → List Value → Prop} {K0 : Nat → List Value → Prop} {st : List Value} (h : pm_sd K K0 st) : (∃ x r, st = .int x :: r ∧ K x r) ∨ ∃ x r, st = .ref x :: r ∧ K0 x r := by
  unfold pm_sd at h; split at h
  · exact Or.inl ⟨_, _, rfl, h⟩
  · exact Or.inr ⟨_, _, rfl, h⟩
  · exact h.elim
theorem pm_svr_v {K : Value → Nat → List Value → Prop} {st : List Value} (h : pm_svr K st) : ∃ v a r, st = v :: .ref a :: r ∧ K v a r := by
  unfold pm_svr at h; split at h
  · exact ⟨_, _, _, rfl, h⟩
  · exact h.elim
theorem pm_sii_v {K : Int32 → Int32 → List Value → Prop} {st : List Value} (h : pm_sii K st) : ∃ x y r, st = .int y :: .int x :: r ∧ K x y r := by
  unfold pm_sii at h; split at h
  · exact ⟨_, _, _, rfl, h⟩
  · exact h.elim
theorem pm_sll_v {K : Int64 → Int64 → List Value → Prop} {st : List Value} (h : pm_sll K st) : ∃ x y r, st = .long y :: .long x :: r ∧ K x y r := by
  unfold pm_sll at h; split at h
  · exact ⟨_, _, _, rfl, h⟩
  · exact h.elim
theorem pm_sir_v {K : Int32 → Nat → List Value → Prop} {st : List Value} (h : pm_sir K st) : ∃ x a r, st = .int x :: .ref a :: r ∧ K x a r := by
  unfold pm_sir at h; split at h
  · exact ⟨_, _, _, rfl, h⟩
  · exact h.elim
theorem pm_siir_v {K : Int32 → Int32 → Nat → List Value → Prop} {st : List Value} (h : pm_siir K st) : ∃ v x a r, st = .int v :: .int x :: .ref a :: r ∧ K v x a r := by
  unfold pm_siir at h; split at h
  · exact ⟨_, _, _, _, rfl, h⟩
  · exact h.elim
theorem pm_srir_v {K : Nat → Int32 → Nat → List Value → Prop} {st : List Value} (h : pm_srir K st) : ∃ v x a r, st = .ref v :: .int x :: .ref a :: r ∧ K v x a r := by
  unfold pm_srir at h; split at h
  · exact ⟨_, _, _, _, rfl, h⟩
  · exact h.elim
theorem pm_ga_v {fs : List Value} {k : Nat} {K : Value → Prop} (h : pm_ga fs k K) : ∃ v, pm_at fs k = some v ∧ K v := by
  unfold pm_ga at h; split at h
  · rename_i v e; exact ⟨v, e, h⟩
  · exact h.elim
theorem pm_pop_v : ∀ (k : Nat) (st acc as rest : List Value), pm_pop k st acc = some (as, rest) → ∃ bs, as = bs ++ acc ∧ bs.length = k ∧ st = bs.reverse ++ rest
  | 0, st, acc, as, rest, h => by
    simp only [pm_pop, Option.some.injEq, Prod.mk.injEq] at h
    exact ⟨[], by simp [h.1], rfl, by simp [h.2]⟩
  | k + 1, [], acc, as, rest, h => by simp [pm_pop] at h
  | k + 1, v :: st, acc, as, rest, h => by
    simp only [pm_pop] at h
    obtain ⟨bs, h1, h2, h3⟩ := pm_pop_v k st (v :: acc) as rest h
    exact ⟨bs ++ [v], by simp [h1], by simp [h2], by simp [h3]⟩
theorem pm_pv_v {k : Nat} {st : List Value} {K : List Value → Nat → List Value → Prop} (h : pm_pv k st K) : ∃ as b rest, as.length = k ∧ st = as.reverse ++ .ref b :: rest ∧ K as b rest := by
  unfold pm_pv at h; split at h
  · rename_i as b rest e
    obtain ⟨bs, h1, h2, h3⟩ := pm_pop_v _ _ _ _ _ e
    rw [List.append_nil] at h1
    subst h1
    exact ⟨as, b, rest, h2, h3, h⟩
  · exact h.elim
theorem pm_ps_v {k : Nat} {st : List Value} {K : List Value → List Value → Prop} (h : pm_ps k st K) : ∃ as rest, as.length = k ∧ st = as.reverse ++ rest ∧ K as rest := by
  unfold pm_ps at h; split at h
  · rename_i as rest e
    obtain ⟨bs, h1, h2, h3⟩ := pm_pop_v _ _ _ _ _ e
    rw [List.append_nil] at h1
    subst h1
    exact ⟨as, rest, h2, h3, h⟩
  · exact h.elim
noncomputable def pm_wp (l : Launch) (g : pm_G) (ro : Nat → Option (Nat × (Nat → Int32))) (d mc ms : Nat) (Ret : Option Value → pm_H → Nat → Nat → Prop) (J : pm_J) (fin : Nat) : List pm_Op → pm_L → List Value → pm_H → Nat → Nat → Prop
  | [], L, st, A, c, s => J fin L st A c s
  | (ins, _, i, k, z) :: r, L, st, A, c, s =>
    match ins with
    | .iconst _ => pm_wp l g ro d mc ms Ret J fin r L (.int z :: st) A c s
    | .bipush _ => pm_wp l g ro d mc ms Ret J fin r L (.int z :: st) A c s
    | .sipush _ => pm_wp l g ro d mc ms Ret J fin r L (.int z :: st) A c s
    | .ldc _ => pm_wp l g ro d mc ms Ret J fin r L (.int z :: st) A c s
    | .ldc_w _ => pm_wp l g ro d mc ms Ret J fin r L (.int z :: st) A c s
    | .aconst_null => pm_wp l g ro d mc ms Ret J fin r L (.null :: st) A c s
    | .lconst n => pm_wp l g ro d mc ms Ret J fin r L (.long (Int64.ofNat n) :: st) A c s
    | .iload _ => pm_li L i (fun x => pm_wp l g ro d mc ms Ret J fin r L (.int x :: st) A c s)
    | .iload_n _ => pm_li L i (fun x => pm_wp l g ro d mc ms Ret J fin r L (.int x :: st) A c s)
    | .lload_n _ => pm_ll L i (fun x => pm_wp l g ro d mc ms Ret J fin r L (.long x :: st) A c s)
    | .aload _ => pm_lr L i (fun x => pm_wp l g ro d mc ms Ret J fin r L (.ref x :: st) A c s) (pm_wp l g ro d mc ms Ret J fin r L (.null :: st) A c s)
    | .aload_n _ => pm_lr L i (fun x => pm_wp l g ro d mc ms Ret J fin r L (.ref x :: st) A c s) (pm_wp l g ro d mc ms Ret J fin r L (.null :: st) A c s)
    | .istore _ => pm_si (fun x st => pm_wp l g ro d mc ms Ret J fin r (pm_st L i (.int x)) st A c s) st
    | .istore_n _ => pm_si (fun x st => pm_wp l g ro d mc ms Ret J fin r (pm_st L i (.int x)) st A c s) st
    | .lstore_n _ => pm_sl (fun x st => pm_wp l g ro d mc ms Ret J fin r (pm_un (pm_st L i (.long x)) (i + 1)) st A c s) st
    | .astore _ => pm_srn (fun x st => pm_wp l g ro d mc ms Ret J fin r (pm_st L i (.ref x)) st A c s) (fun st => pm_wp l g ro d mc ms Ret J fin r (pm_st L i .null) st A c s) st
    | .astore_n _ => pm_srn (fun x st => pm_wp l g ro d mc ms Ret J fin r (pm_st L i (.ref x)) st A c s) (fun st => pm_wp l g ro d mc ms Ret J fin r (pm_st L i .null) st A c s) st
    | .iinc _ _ => pm_li L i (fun x => ∀ m : Int32, m = x + z → pm_wp l g ro d mc ms Ret J fin r (pm_st L i (.int m)) st A c s)
    | .iaload => pm_sir (fun x a st => ∃ (n : Nat) (f : Nat → Int32), pm_rd g ro A a n f ∧ (0 ≤ x.toInt ∧ x.toInt < n) ∧ pm_wp l g ro d mc ms Ret J fin r L (.int (f x.toInt.toNat) :: st) A c s) st
    | .iastore => pm_siir (fun v x a st => ∃ (n : Nat) (f : Nat → Int32), A a = some (pm_ia g n f) ∧ (0 ≤ x.toInt ∧ x.toInt < n) ∧ pm_wp l g ro d mc ms Ret J fin r L st (pm_up A a (pm_ia g n (upd f x.toInt.toNat v))) c s) st
    | .aaload => pm_sir (fun x a st => ∃ (n : Nat) (f : Nat → Option Nat), (A a = some (pm_ra g n f) ∨ A a = some (pm_ma g n f)) ∧ (0 ≤ x.toInt ∧ x.toInt < n) ∧ pm_wp l g ro d mc ms Ret J fin r L (va_rf (f x.toInt.toNat) :: st) A c s) st
    | .aastore => pm_srir (fun v x a st => ∃ (n : Nat) (f : Nat → Option Nat) (fs : List Value), A a = some (pm_ra g n f) ∧ A v = some (pm_ob 7 fs) ∧ (0 ≤ x.toInt ∧ x.toInt < n) ∧ pm_wp l g ro d mc ms Ret J fin r L st (pm_up A a (pm_ra g n (va_up f x.toInt.toNat (some v)))) c s) st
    | .arraylength => pm_sr (fun a st => ∃ (n : Nat) (f : Nat → Int32), pm_rd g ro A a n f ∧ pm_wp l g ro d mc ms Ret J fin r L (.int (nI n) :: st) A c s) st
    | .pop => pm_si (fun _ st => pm_wp l g ro d mc ms Ret J fin r L st A c s) st
    | .pop2 => pm_sl (fun _ st => pm_wp l g ro d mc ms Ret J fin r L st A c s) st
    | .dup => pm_sd (fun x st => pm_wp l g ro d mc ms Ret J fin r L (.int x :: .int x :: st) A c s) (fun x st => pm_wp l g ro d mc ms Ret J fin r L (.ref x :: .ref x :: st) A c s) st
    | .dup2 => pm_sir (fun x a st => pm_wp l g ro d mc ms Ret J fin r L (.int x :: .ref a :: .int x :: .ref a :: st) A c s) st
    | .iadd => pm_sii (fun x y st => ∀ m : Int32, m = x + y → pm_wp l g ro d mc ms Ret J fin r L (.int m :: st) A c s) st
    | .isub => pm_sii (fun x y st => ∀ m : Int32, m = x - y → pm_wp l g ro d mc ms Ret J fin r L (.int m :: st) A c s) st
    | .imul => pm_sii (fun x y st => ∀ m : Int32, m = x * y → pm_wp l g ro d mc ms Ret J fin r L (.int m :: st) A c s) st
    | .idiv => pm_sii (fun x y st => ¬ y = 0 ∧ ∀ m : Int32, m = x / y → pm_wp l g ro d mc ms Ret J fin r L (.int m :: st) A c s) st
    | .irem => pm_sii (fun x y st => ¬ y = 0 ∧ ∀ m : Int32, m = x - x / y * y → pm_wp l g ro d mc ms Ret J fin r L (.int m :: st) A c s) st
    | .ineg => pm_si (fun x st => ∀ m : Int32, m = -x → pm_wp l g ro d mc ms Ret J fin r L (.int m :: st) A c s) st
    | .ishl => pm_sii (fun x y st => pm_wp l g ro d mc ms Ret J fin r L (.int (x <<< (y &&& 31)) :: st) A c s) st
    | .ishr => pm_sii (fun x y st => pm_wp l g ro d mc ms Ret J fin r L (.int (x >>> (y &&& 31)) :: st) A c s) st
    | .iushr => pm_sii (fun x y st => pm_wp l g ro d mc ms Ret J fin r L (.int (x.toUInt32 >>> (y.toUInt32 &&& Int32.toUInt32 31)).toInt32 :: st) A c s) st
    | .iand => pm_sii (fun x y st => pm_wp l g ro d mc ms Ret J fin r L (.int (x &&& y) :: st) A c s) st
    | .ior => pm_sii (fun x y st => pm_wp l g ro d mc ms Ret J fin r L (.int (x ||| y) :: st) A c s) st
    | .ixor => pm_sii (fun x y st => pm_wp l g ro d mc ms Ret J fin r L (.int (x ^^^ y) :: st) A c s) st
    | .i2l => pm_si (fun x st => pm_wp l g ro d mc ms Ret J fin r L (.long x.toInt64 :: st) A c s) st
    | .ladd => pm_sll (fun x y st => pm_wp l g ro d mc ms Ret J fin r L (.long (x + y) :: st) A c s) st
    | .lmul => pm_sll (fun x y st => pm_wp l g ro d mc ms Ret J fin r L (.long (x * y) :: st) A c s) st
    | .lcmp => pm_sll (fun x y st => pm_wp l g ro d mc ms Ret J fin r L (.int (lg_cmp x y) :: st) A c s) st
    | .goto _ => J i L st A c s
    | .if_icmp .eq _ => pm_sii (fun x y st => (x = y → J i L st A c s) ∧ (¬ x = y → pm_wp l g ro d mc ms Ret J fin r L st A c s)) st
    | .if_icmp .ne _ => pm_sii (fun x y st => (¬ x = y → J i L st A c s) ∧ (x = y → pm_wp l g ro d mc ms Ret J fin r L st A c s)) st
    | .if_icmp .lt _ => pm_sii (fun x y st => (x.toInt < y.toInt → J i L st A c s) ∧ (y.toInt ≤ x.toInt → pm_wp l g ro d mc ms Ret J fin r L st A c s)) st
    | .if_icmp .ge _ => pm_sii (fun x y st => (y.toInt ≤ x.toInt → J i L st A c s) ∧ (x.toInt < y.toInt → pm_wp l g ro d mc ms Ret J fin r L st A c s)) st
    | .if_icmp .gt _ => pm_sii (fun x y st => (y.toInt < x.toInt → J i L st A c s) ∧ (x.toInt ≤ y.toInt → pm_wp l g ro d mc ms Ret J fin r L st A c s)) st
    | .if_icmp .le _ => pm_sii (fun x y st => (x.toInt ≤ y.toInt → J i L st A c s) ∧ (y.toInt < x.toInt → pm_wp l g ro d mc ms Ret J fin r L st A c s)) st
    | .ifCond .eq _ => pm_si (fun x st => (x = 0 → J i L st A c s) ∧ (¬ x = 0 → pm_wp l g ro d mc ms Ret J fin r L st A c s)) st
    | .ifCond .ne _ => pm_si (fun x st => (¬ x = 0 → J i L st A c s) ∧ (x = 0 → pm_wp l g ro d mc ms Ret J fin r L st A c s)) st
    | .ifCond .lt _ => pm_si (fun x st => (x.toInt < 0 → J i L st A c s) ∧ (0 ≤ x.toInt → pm_wp l g ro d mc ms Ret J fin r L st A c s)) st
    | .ifCond .ge _ => pm_si (fun x st => (0 ≤ x.toInt → J i L st A c s) ∧ (x.toInt < 0 → pm_wp l g ro d mc ms Ret J fin r L st A c s)) st
    | .ifCond .gt _ => pm_si (fun x st => (0 < x.toInt → J i L st A c s) ∧ (x.toInt ≤ 0 → pm_wp l g ro d mc ms Ret J fin r L st A c s)) st
    | .ifCond .le _ => pm_si (fun x st => (x.toInt ≤ 0 → J i L st A c s) ∧ (0 < x.toInt → pm_wp l g ro d mc ms Ret J fin r L st A c s)) st
    | .ifnull _ => pm_srn (fun _ st => pm_wp l g ro d mc ms Ret J fin r L st A c s) (fun st => J i L st A c s) st
    | .ifnonnull _ => pm_srn (fun _ st => J i L st A c s) (fun st => pm_wp l g ro d mc ms Ret J fin r L st A c s) st
    | .tableswitch dflt lo hi offs => pm_si (fun x st => ∀ t : Nat, pm_sw i dflt lo hi offs x t → J t L st A c s) st
    | .getfield _ => pm_sr (fun a st => ∃ fs : List Value, A a = some (pm_ob i fs) ∧ pm_ga fs k (fun v => pm_wp l g ro d mc ms Ret J fin r L (v :: st) A c s)) st
    | .putfield _ => pm_svr (fun v a st => ∃ fs : List Value, A a = some (pm_ob i fs) ∧ (pm_vk z.toInt.toNat v && (pm_at fs k).isSome) = true ∧ pm_wp l g ro d mc ms Ret J fin r L st (pm_up A a (pm_ob i (fs.set k v))) c s) st
    | .invokevirtual _ => pm_pv k st (fun as b rest => (∃ fs : List Value, A b = some (pm_ob z.toInt.toNat fs)) ∧ pm_call l g d mc ms i (.ref b :: as) rest A c s (fun st A c s => pm_wp l g ro d mc ms Ret J fin r L st A c s))
    | .invokestatic _ => pm_ps k st (fun as rest => pm_call l g d mc ms i as rest A c s (fun st A c s => pm_wp l g ro d mc ms Ret J fin r L st A c s))
    | .invokespecial _ => pm_sr (fun b rest => pm_z0 z ((Nat.ble 1 d && pm_rm rest) = true ∧ pm_wp l g ro d mc ms Ret J fin r L rest A c s) (pm_call l g d mc ms i [.ref b] rest A c s (fun st A c s => pm_wp l g ro d mc ms Ret J fin r L st A c s))) st
    | .new _ => (Nat.ble (c + 1) mc && Nat.ble (s + k) ms) = true ∧ ∀ a : Nat, A a = none → pm_wp l g ro d mc ms Ret J fin r L (.ref a :: st) (pm_up A a (pm_ob i (pm_df i))) (c + 1) (s + k)
    | .newarray .int => pm_si (fun n st => n = nI i ∧ (Nat.ble (c + 1) mc && Nat.ble (s + i) ms) = true ∧ ∀ a : Nat, A a = none → pm_wp l g ro d mc ms Ret J fin r L (.ref a :: st) (pm_up A a (pm_ia g i (fun _ => 0))) (c + 1) (s + i)) st
    | .anewarray _ => pm_si (fun n st => n = nI i ∧ (Nat.ble (c + 1) mc && Nat.ble (s + i) ms) = true ∧ ∀ a : Nat, A a = none → pm_wp l g ro d mc ms Ret J fin r L (.ref a :: st) (pm_up A a (pm_ra g i (fun _ => none))) (c + 1) (s + i)) st
    | .multianewarray _ _ => pm_sii (fun n m st => n = nI i ∧ m = nI k ∧ (Nat.ble (c + (1 + i)) mc && Nat.ble (s + (i + i * k)) ms) = true ∧ ∀ (a : Nat) (rw : Nat → Nat), A a = none → (∀ j, j < i → A (rw j) = none) → (∀ j, j < i → rw j ≠ a) → (∀ x y, x < i → y < i → rw x = rw y → x = y) → pm_wp l g ro d mc ms Ret J fin r L (.ref a :: st) (pm_upm g A a rw i k) (c + 1 + i) (s + i + i * k)) st
    | .ireturn => pm_si (fun v st => st = [] ∧ (i = 1 → v = 0 ∨ v = 1) ∧ Ret (some (.int v)) A c s) st
    | .lreturn => pm_sl (fun v st => st = [] ∧ Ret (some (.long v)) A c s) st
    | .areturn => pm_srn (fun v st => st = [] ∧ Ret (some (.ref v)) A c s) (fun st => st = [] ∧ Ret (some .null) A c s) st
    | .return_ => st = [] ∧ Ret none A c s
    | _ => False
end
section
/-! a block is checked against the code and the tables; what it wants is enough for the machine -/
noncomputable def pm_ln : Instr → Nat
  | .iconst _ => 1 | .bipush _ => 2 | .sipush _ => 3 | .ldc _ => 2 | .ldc_w _ => 3 | .aconst_null => 1 | .lconst _ => 1
  | .iload _ => 2 | .iload_n _ => 1 | .lload_n _ => 1 | .aload _ => 2 | .aload_n _ => 1 | .istore _ => 2 | .istore_n _ => 1 | .lstore_n _ => 1 | .astore _ => 2 | .astore_n _ => 1 | .iinc _ _ => 3
  | .goto _ => 3 | .if_icmp _ _ => 3 | .ifCond _ _ => 3 | .ifnull _ => 3 | .ifnonnull _ => 3
  | .getfield _ => 3 | .putfield _ => 3 | .invokevirtual _ => 3 | .invokestatic _ => 3 | .invokespecial _ => 3 | .new _ => 3 | .newarray _ => 2 | .anewarray _ => 3 | .multianewarray _ _ => 4
  | _ => 1
noncomputable def pm_isTab : Instr → Bool
  | .tableswitch _ _ _ _ => true
  | _ => false
noncomputable def pm_tm : Instr → Bool
  | .goto _ => true
  | .tableswitch _ _ _ _ => true
  | .ireturn => true
  | .lreturn => true
  | .areturn => true
  | .return_ => true
  | _ => false
noncomputable def pm_rs (own nL : Nat) (isI : Bool) (ret : Option FieldType) (pc : Nat) (ins : Instr) (i k : Nat) (z : Int32) : Bool := match ins with
  | .iconst n => decide (Int32.ofInt n = z)
  | .bipush n => decide ((Int8.ofInt n).toInt32 = z)
  | .sipush n => decide ((Int16.ofInt n).toInt32 = z)
  | .ldc idx => decide ((own, idx, z) ∈ pm_kl)
  | .ldc_w idx => decide ((own, idx, z) ∈ pm_kl)
  | .iload j => decide (j = i)
  | .iload_n j => decide ((j : Nat) = i)
  | .lload_n j => decide ((j : Nat) = i)
  | .aload j => decide (j = i)
  | .aload_n j => decide ((j : Nat) = i)
  | .istore j => decide (j = i ∧ i < nL)
  | .istore_n j => decide ((j : Nat) = i ∧ i < nL)
  | .lstore_n j => decide ((j : Nat) = i ∧ i + 1 < nL)
  | .astore j => decide (j = i ∧ i < nL)
  | .astore_n j => decide ((j : Nat) = i ∧ i < nL)
  | .iinc j n => decide (j = i ∧ i < nL ∧ Int32.ofInt n = z)
  | .goto off => decide ((pc : Int) + off = (i : Int))
  | .if_icmp _ off => decide ((pc : Int) + off = (i : Int))
  | .ifCond _ off => decide ((pc : Int) + off = (i : Int))
  | .ifnull off => decide ((pc : Int) + off = (i : Int))
  | .ifnonnull off => decide ((pc : Int) + off = (i : Int))
  | .tableswitch dflt lo hi offs => decide (pc = i ∧ 0 ≤ (pc : Int) + dflt ∧ hi - lo + 1 = (offs.size : Int)) && offs.toList.all (fun o => decide (0 ≤ (pc : Int) + o))
  | .getfield idx => decide ((own, idx, i, k) ∈ pm_fl)
  | .putfield idx => decide ((own, idx, i, k) ∈ pm_fl) && (decide (((pm_cT i).2.1 k).2.2.2 = false ∨ (isI = true ∧ ((pm_cT i).2.1 k).2.2.2 = true ∧ ((pm_cT i).2.1 k).1 = pm_nm own)) && (match pm_tys i k with
    | .int => decide (z.toInt.toNat = 0)
    | .object _ => decide (z.toInt.toNat = 1)
    | .array _ => decide (z.toInt.toNat = 1)
    | _ => false))
  | .invokevirtual idx => decide ((own, idx, i) ∈ pm_ml ∧ (pm_me i).2.2.2.2.2 = 0 ∧ (pm_me i).2.2.2.2.1 = k ∧ pm_nm z.toInt.toNat = (pm_me i).1.cls ∧ z.toInt.toNat < 12)
  | .invokestatic idx => decide ((own, idx, i) ∈ pm_ml ∧ (pm_me i).2.2.2.2.2 = 1 ∧ (pm_me i).2.2.2.2.1 = k)
  | .invokespecial idx => match z.toInt.toNat with
    | 0 => decide ((own, idx) ∈ pm_ol)
    | 1 => decide ((own, idx, i) ∈ pm_ml ∧ (pm_me i).2.2.2.2.2 = 2 ∧ (pm_me i).2.2.2.2.1 = 0)
    | _ => decide ((own, idx, i, 10) ∈ pm_nl2 ∧ (pm_me i).2.2.2.2.2 = 2 ∧ (pm_me i).2.2.2.2.1 = 0)
  | .new idx => decide ((own, idx, i) ∈ pm_cl ∧ k = (pm_cT i).2.2)
  | .newarray .int => decide (i ≤ 100000)
  | .anewarray idx => decide ((own, idx, 7) ∈ pm_cl ∧ i ≤ 100000)
  | .multianewarray idx dm => decide (own = 3 ∧ idx = 9 ∧ dm = 2 ∧ i ≤ 1000 ∧ k ≤ 1000)
  | .ireturn => decide ((i = 0 ∧ ret = some .int) ∨ (i = 1 ∧ ret = some .boolean))
  | .lreturn => decide (ret = some .long)
  | .areturn => match ret with
    | some (.object _) => true
    | _ => false
  | .return_ => decide (ret = none)
  | _ => true
noncomputable def pm_ok (own nL : Nat) (isI : Bool) (ret : Option FieldType) (cc : ByteArray) (fin : Nat) : Nat → List pm_Op → Bool
  | pc, [] => decide (pc = fin)
  | pc, (ins, len, i, k, z) :: r => decide (decode cc pc = .ok (ins, len)) && ((pm_isTab ins || decide (len = pm_ln ins)) && (pm_rs own nL isI ret pc ins i k z && (pm_tm ins || pm_ok own nL isI ret cc fin (pc + len) r)))
noncomputable def pm_rk (ret : Option FieldType) (ins : Instr) (v : Option Value) : Prop :=
  (ins = .ireturn ∧ ∃ x : Int32, v = some (.int x) ∧ (ret = some .int ∨ (ret = some .boolean ∧ (x = 0 ∨ x = 1)))) ∨ (ins = .lreturn ∧ ret = some .long ∧ ∃ x : Int64, v = some (.long x)) ∨ (ins = .areturn ∧ (∃ n, ret = some (.object n)) ∧ ∃ w : Value, v = some w ∧ (w = .null ∨ ∃ a, w = .ref a)) ∨ (ins = .return_ ∧ ret = none ∧ v = none)
section PMS
variable {p : Program} {l : Launch} {e : Env} {R : Room} {s : State} {m : MethodId} {args : Array Value} {below : List Frame} {meth : Method} {c : Code} {Q : State → Prop}
noncomputable def pm_Sem (p : Program) (l : Launch) (e : Env) (R : Room) (s : State) (m : MethodId) (args : Array Value) (below : List Frame) (meth : Method) (c : Code) (Q : State → Prop) (g : pm_G) (nL : Nat) (fr : Nat → Prop) : pm_J := fun pc L st A cells slots =>
  ∀ (H : Heap) (locs : List Loc) (ls : Array Slot), pm_hold g A H → (∀ q, A q ≠ none → fr q) → va_S fr s.heap H locs → pm_lv ls nL L → W p l e R s m args below meth c H locs cells slots Q (F0 m pc ls st)
noncomputable def pm_Rt (p : Program) (l : Launch) (e : Env) (R : Room) (s : State) (m : MethodId) (args : Array Value) (below : List Frame) (meth : Method) (c : Code) (Q : State → Prop) (g : pm_G) (fr : Nat → Prop) (cc : ByteArray) (ret : Option FieldType) (Ret : Option Value → pm_H → Nat → Nat → Prop) : Prop :=
  ∀ (v : Option Value) (A : pm_H) (cells slots : Nat) (H : Heap) (locs : List Loc) (ls : Array Slot) (pc : Nat) (ins : Instr), Ret v A cells slots → pm_hold g A H → (∀ q, A q ≠ none → fr q) → va_S fr s.heap H locs → decode cc pc = .ok (ins, 1) → pm_rk ret ins v → W p l e R s m args below meth c H locs cells slots Q (F0 m pc ls v.toList)
noncomputable def pm_Cx (p : Program) (l : Launch) (e : Env) (R : Room) (s : State) (m : MethodId) (args : Array Value) (below : List Frame) (meth : Method) (c : Code) (Q : State → Prop) (g : pm_G) (own nL : Nat) (isI : Bool) (ret : Option FieldType) (cc : ByteArray) (ro : Nat → Option (Nat × (Nat → Int32))) (d mc ms : Nat) (Ret : Option Value → pm_H → Nat → Nat → Prop) (fr : Nat → Prop) : Prop :=
  p.tables.exec = Jvm.exec ∧ c.code = cc ∧ c.maxLocals = nL ∧ s.vm.findClass (pm_nm own) = some m.cls ∧ (∀ w ∈ pm_W, w.before args s = true) ∧ pm_K g s ∧ (∀ q, s.heap.size ≤ q → fr q) ∧ (∀ b n f, ro b = some (n, f) → b < s.heap.size ∧ ¬ fr b ∧ va_X b n f s s.heap) ∧ (isI = true → meth.name = "<init>") ∧ (d ≤ R.frames ∧ 40 * d ≤ R.locals ∧ mc ≤ R.cells ∧ ms ≤ R.slots) ∧ pm_Rt p l e R s m args below meth c Q g fr cc ret Ret
theorem pm_hold_up {g : pm_G} {A : pm_H} {H H1 : Heap} {a : Nat} {e : va_E} (h : pm_hold g A H) (he : va_at g.1 vwCl (a, e) H1) (oq : ∀ q : Nat, q ≠ a → H1[q]? = H[q]?) : pm_hold g (pm_up A a e) H1 := by
  intro q x hq
  by_cases hqa : q = a
  · subst hqa
    rw [pm_up_s] at hq
    cases hq
    exact he
  · rw [pm_up_n hqa] at hq
    exact (h q x hq).kept (oq q hqa)
theorem pm_hold_new {g : pm_G} {A : pm_H} {H H1 : Heap} {e : va_E} (h : pm_hold g A H) (he : va_at g.1 vwCl (H.size, e) H1) (oq : ∀ q : Nat, q < H.size → H1[q]? = H[q]?) : pm_hold g (pm_up A H.size e) H1 := by
  intro q x hq
  by_cases hqa : q = H.size
  · subst hqa
    rw [pm_up_s] at hq
    cases hq
    exact he
  · rw [pm_up_n hqa] at hq
    exact (h q x hq).kept (oq q (h q x hq).lt)
theorem pm_hold_free {g : pm_G} {A : pm_H} {H : Heap} (h : pm_hold g A H) {a : Nat} (ha : H.size ≤ a) : A a = none := by
  cases hx : A a with
  | none => rfl
  | some e => exact absurd (h a e hx).lt (Nat.not_lt.mpr ha)
theorem pm_dom_up {A : pm_H} {a : Nat} {e : va_E} {fr : Nat → Prop} (hd : ∀ q, A q ≠ none → fr q) (ha : fr a) : ∀ q, pm_up A a e q ≠ none → fr q := by
  intro q hq
  by_cases hqa : q = a
  · rw [hqa]; exact ha
  · rw [pm_up_n hqa] at hq
    exact hd q hq
theorem pm_S_put {fr : Nat → Prop} {H0 H H1 : Heap} {locs : List Loc} {a i : Nat} (h : va_S fr H0 H locs) (z : H1.size = H.size) (oq : ∀ q : Nat, q ≠ a → H1[q]? = H[q]?) (ha : fr a) : va_S fr H0 H1 (locs ++ [⟨a, i⟩]) := h.put z oq ha
theorem pm_S_new {fr : Nat → Prop} {H0 H H1 : Heap} {locs : List Loc} (h : va_S fr H0 H locs) (z : H.size ≤ H1.size) (oq : ∀ q : Nat, q < H.size → H1[q]? = H[q]?) : va_S fr H0 H1 locs :=
  ⟨Nat.le_trans h.1 z, fun q h1 h2 => (oq q (Nat.lt_of_lt_of_le h1 h.1)).trans (h.2.1 q h1 h2), h.2.2⟩
theorem pm_cl_at {ci : Nat} (h : ci < 12) : vwCl[ci]? = some (pm_cT ci) := by
  rcases (show ci = 0 ∨ ci = 1 ∨ ci = 2 ∨ ci = 3 ∨ ci = 4 ∨ ci = 5 ∨ ci = 6 ∨ ci = 7 ∨ ci = 8 ∨ ci = 9 ∨ ci = 10 ∨ ci = 11 by omega) with rfl | rfl | rfl | rfl | rfl | rfl | rfl | rfl | rfl | rfl | rfl | rfl <;> rfl
theorem pm_at_get : ∀ (fs : List Value) (k : Nat), pm_at fs k = fs[k]?
  | [], k => by simp [pm_at]
  | v :: r, 0 => by simp [pm_at]
  | v :: r, k + 1 => by simp [pm_at, pm_at_get r k]
theorem pm_in_of {x : Int32} {n : Nat} (h : 0 ≤ x.toInt ∧ x.toInt < n) : vp_in x n := vp_in_iff.mpr h
theorem pm_lt (x y : Int32) : x < y ↔ x.toInt < y.toInt := Int32.lt_iff_toInt_lt
theorem pm_le (x y : Int32) : x ≤ y ↔ x.toInt ≤ y.toInt := Int32.le_iff_toInt_le
end PMS
end
section
/-! one instruction that reads or writes cells, over the pure cells -/
theorem pm_P1 {g : pm_G} {a : Nat} {e : va_E} {H : Heap} (h : va_at g.1 vwCl (a, e) H) : va_P g.1 vwCl [(a, e)] H := by
  intro k q hk
  have h0 : k < 1 := (List.getElem?_eq_some_iff.mp hk).1
  rw [show k = 0 by omega] at hk
  cases hk
  exact h
theorem pm_outer (c : ClassId) (N h0 : Nat) : ∀ i : Nat, Jvm.Free.Multi.outerC c N h0 i = arrV c N (fun j => va_rf (if j < i then some (h0 + 1 + j) else none))
  | 0 => by
    show ({ cls := c, slots := Array.replicate N .null, vm := .none } : Cell) = _
    rw [arrV_new]
    rfl
  | i + 1 => by
    show (Jvm.Free.Multi.outerC c N h0 i).setSlot i (.ref (h0 + 1 + i)) = _
    rw [pm_outer c N h0 i, arrV_store]
    congr 1
    funext j
    by_cases h : j = i
    · subst h
      simp [updV, va_rf]
    · have h2 : (j < i + 1) = (j < i) := by apply propext; omega
      simp [updV, h, h2]
section PMH
variable {p : Program} {l : Launch} {e : Env} {R : Room} {s : State} {m : MethodId} {args : Array Value} {below : List Frame} {meth : Method} {c : Code} {H : Heap} {locs : List Loc} {cells slots : Nat} {Q : State → Prop}
variable {cc : ByteArray} {pc : Nat} {ls : Array Slot} {rest : List Value} {a : Nat} {g : pm_G} {A : pm_H} {own : Nat} {fr : Nat → Prop}
theorem pm_w_get (hx : p.tables.exec = Jvm.exec) (hb : c.code = cc) (hown : s.vm.findClass (pm_nm own) = some m.cls) (hts : ∀ w ∈ pm_W, w.before args s = true) (hK : pm_K g s) (hH : pm_hold g A H) {idx ci k : Nat} {fs : List Value} {v : Value} (hm : (own, idx, ci, k) ∈ pm_fl) (ha : A a = some (pm_ob ci fs)) (hv : pm_at fs k = some v) (hdg : decode cc pc = .ok (.getfield idx, 3))
    (kk : W p l e R s m args below meth c H locs cells slots Q (F0 m (pc + 3) ls (v :: rest))) : W p l e R s m args below meth c H locs cells slots Q (F0 m pc ls (.ref a :: rest)) := by
  obtain ⟨h1, h2, h3⟩ := pm_fl_ok _ hm
  exact va_get (D := g.1) (cl := vwCl) (C := (pm_cT ci).1) (T := (pm_cT ci).2.1) (N := (pm_cT ci).2.2) hx hb hts (pm_u_ok ci h2) hown hK.1 (pm_P1 (hH a _ ha)) 0 rfl (pm_cl_at h2) k h3 (hts _ h1) (fun _ h => h) (by rw [← pm_at_get]; exact hv) hdg kk
theorem pm_fit {ci k : Nat} {z : Nat} {v : Value} (hz : (match pm_tys ci k with
    | .int => decide (z = 0)
    | .object _ => decide (z = 1)
    | .array _ => decide (z = 1)
    | _ => false) = true) (hv : pm_vk z v = true) : narrow (pm_tys ci k) v = v ∧ fits (pm_tys ci k) v = true := by
  cases ht : pm_tys ci k <;> rw [ht] at hz <;> simp at hz <;> subst hz <;> cases v <;> simp [pm_vk] at hv <;> exact ⟨rfl, rfl⟩
theorem pm_w_put (hx : p.tables.exec = Jvm.exec) (hb : c.code = cc) (hown : s.vm.findClass (pm_nm own) = some m.cls) (hts : ∀ w ∈ pm_W, w.before args s = true) (hK : pm_K g s) (hH : pm_hold g A H) {idx ci k : Nat} {fs : List Value} {v : Value} {isI : Bool} (hin : isI = true → meth.name = "<init>") (hm : (own, idx, ci, k) ∈ pm_fl) (hfin : ((pm_cT ci).2.1 k).2.2.2 = false ∨ (isI = true ∧ ((pm_cT ci).2.1 k).2.2.2 = true ∧ ((pm_cT ci).2.1 k).1 = pm_nm own)) (hn : narrow (pm_tys ci k) v = v) (hf : fits (pm_tys ci k) v = true) (ha : A a = some (pm_ob ci fs)) (hl : (pm_at fs k).isSome = true) (hdg : decode cc pc = .ok (.putfield idx, 3))
    (kk : ∀ (H1 : Heap) (i : Nat), pm_hold g (pm_up A a (pm_ob ci (fs.set k v))) H1 → H1.size = H.size → (∀ q : Nat, q ≠ a → H1[q]? = H[q]?) → W p l e R s m args below meth c H1 (locs ++ [⟨a, i⟩]) cells slots Q (F0 m (pc + 3) ls rest)) : W p l e R s m args below meth c H locs cells slots Q (F0 m pc ls (v :: .ref a :: rest)) := by
  obtain ⟨h1, h2, h3⟩ := pm_fl_ok _ hm
  have hap := va_apart (D := g.1) (cl := vwCl) (own := pm_nm own) (C := (pm_cT ci).1) (T := (pm_cT ci).2.1) (N := (pm_cT ci).2.2) hts (pm_u_ok ci h2) (pm_tys ci) (pm_ty_ok ci h2) (pm_nm_ok ci h2) hK.1 (pm_cl_at h2)
  have hl2 : k < fs.length := by
    rw [pm_at_get, Option.isSome_iff_exists] at hl
    obtain ⟨w, hw⟩ := hl
    exact (List.getElem?_eq_some_iff.mp hw).1
  obtain ⟨r, hr, cell, q1, q2, q3, q4⟩ := hH a _ ha
  have hr2 : r = pm_cT ci := Option.some.inj (hr.symm.trans (pm_cl_at h2))
  subst hr2
  obtain ⟨hSl, hfc, kC, hkC, hkind⟩ := hK.1.1 ci _ (pm_cl_at h2)
  obtain ⟨cf, kf, fi, f, hi, hsl⟩ := hSl k h3
  have hst := (u_facts hfc hkC (u_lays hts (pm_u_ok ci h2) h3) hi).1
  have fin : ∀ H' : Heap, H'[a]? = some (cell.setSlot f.slot v) → (∀ q, q ≠ a → H'[q]? = H[q]?) → pm_hold g (pm_up A a (pm_ob ci (fs.set k v))) H' := by
    intro H' e1 e3
    rw [hsl] at e1
    exact pm_hold_up hH ⟨_, pm_cl_at h2, t_OB.to (V := updV (vp_V fs) k v) ⟨_, e1, q2, q3, t_set q4 hap h3 v⟩ (fun j _ => vp_updV_set hl2 v j)⟩ e3
  have hlay := hts _ (pm_u_ok ci h2 _ (u_in_lay h3))
  unfold u_lay at hlay
  rcases hfin with hfin | ⟨hI, hfin, hdecl⟩
  · rw [if_neg (by rw [hfin]; decide)] at hlay
    have h6 := u_store hfc hkC hkind hlay hi (pm_ty_ok ci h2 k h3) hn hf
    refine W.putK hx hb (f := f) ⟨hown, hts _ h1, ⟨_, _, _, hi⟩, hst⟩ (by rw [q2]; exact h6) q1 q3 (by rw [hsl]; exact k2_hasslot (q4 k h3)) rfl rfl hdg fun H' e1 e2 e3 => ?_
    exact kk H' _ (fin H' e1 e3) e2 e3
  · rw [if_pos hfin] at hlay
    have hcf : m.cls = cf := by
      obtain ⟨_, _, c', _, _, _, -, -, hf', -, -, -, hown2, -⟩ := Cond.laysFinal_spec hlay
      have e1 : c' = cf := by have := hi.symm.trans hf'; simp at this; exact this.1.symm
      rw [hdecl] at hown2
      rw [← e1]; exact Option.some.inj (hown.symm.trans hown2)
    have h6 := u_fits hfc hkC hkind (Or.inr hlay) hi (pm_ty_ok ci h2 k h3) hn hf
    refine W.putFinK hx hb hown (hts _ h1) hi hst hcf (hin hI) (by rw [q2]; exact h6) q1 q3 (by rw [hsl]; exact k2_hasslot (q4 k h3)) rfl rfl hdg fun H' e1 e2 e3 => ?_
    exact kk H' _ (fin H' e1 e3) e2 e3
theorem pm_w_iald (hx : p.tables.exec = Jvm.exec) (hb : c.code = cc) (hK : pm_K g s) (hH : pm_hold g A H) {n : Nat} {f : Nat → Int32} {x : Int32} (ha : A a = some (pm_ia g n f)) (hin : 0 ≤ x.toInt ∧ x.toInt < n) (hdg : decode cc pc = .ok (.iaload, 1))
    (kk : W p l e R s m args below meth c H locs cells slots Q (F0 m (pc + 1) ls (.int (f x.toInt.toNat) :: rest))) : W p l e R s m args below meth c H locs cells slots Q (F0 m pc ls (.int x :: .ref a :: rest)) :=
  va_iald (D := g.1) (cl := vwCl) hx hb hK.1 (pm_P1 (hH a _ ha)) 0 0 rfl rfl (pm_in_of hin) hdg kk
theorem pm_w_iast (hx : p.tables.exec = Jvm.exec) (hb : c.code = cc) (hK : pm_K g s) (hH : pm_hold g A H) {n : Nat} {f : Nat → Int32} {x v : Int32} (ha : A a = some (pm_ia g n f)) (hin : 0 ≤ x.toInt ∧ x.toInt < n) (hdg : decode cc pc = .ok (.iastore, 1))
    (kk : ∀ (H1 : Heap) (i : Nat), pm_hold g (pm_up A a (pm_ia g n (upd f x.toInt.toNat v))) H1 → H1.size = H.size → (∀ q : Nat, q ≠ a → H1[q]? = H[q]?) → W p l e R s m args below meth c H1 (locs ++ [⟨a, i⟩]) cells slots Q (F0 m (pc + 1) ls rest)) : W p l e R s m args below meth c H locs cells slots Q (F0 m pc ls (.int v :: .int x :: .ref a :: rest)) := by
  refine W.iast hx hb (hH a _ ha) ((hK.1.2 0 _ rfl).1 n (fun j => .int (f j))) (fun q => by cases q) (by show ¬ (x < 0 ∨ (arrV _ _ _).slots.size ≤ _); rw [arrV_size]; exact pm_in_of hin) rfl rfl hdg fun H1 e1 z oq => ?_
  refine kk H1 _ (pm_hold_up hH ?_ oq) z oq
  show H1[a]? = some (vp_cell _ _)
  rw [e1]
  simp only [vp_cell_i, vp_cell_q, arrV_store]
  congr 2
  funext q
  by_cases hq : q = x.toNatClampNeg
  · subst hq
    simp [updV, upd]
  · simp [updV, upd, hq]
theorem pm_w_aald (hx : p.tables.exec = Jvm.exec) (hb : c.code = cc) (hK : pm_K g s) (hH : pm_hold g A H) {n : Nat} {f : Nat → Option Nat} {x : Int32} (ha : A a = some (pm_ra g n f) ∨ A a = some (pm_ma g n f)) (hin : 0 ≤ x.toInt ∧ x.toInt < n) (hdg : decode cc pc = .ok (.aaload, 1))
    (kk : W p l e R s m args below meth c H locs cells slots Q (F0 m (pc + 1) ls (va_rf (f x.toInt.toNat) :: rest))) : W p l e R s m args below meth c H locs cells slots Q (F0 m pc ls (.int x :: .ref a :: rest)) := by
  have hlt : x.toNatClampNeg < n := Nat.not_le.mp fun q => (pm_in_of hin) (Or.inr q)
  rcases ha with ha | ha
  · exact va_aldq (D := g.1) (cl := vwCl) hx hb hK.1 (pm_P1 (hH a _ ha)) 0 1 rfl rfl (pm_in_of hin) hdg kk
  · exact W.aald (v := va_rf (f x.toNatClampNeg)) (ty := .array .int) hx hb (hH a _ ha) ((hK.1.2 2 _ rfl).1 n (fun j => va_rf (f j))) rfl (fun q => by cases q) (by show ¬ (x < 0 ∨ (arrV _ _ _).slots.size ≤ _); rw [arrV_size]; exact pm_in_of hin) (by show (arrV _ _ _).slots[_]? = _; rw [arrV_read _ _ hlt]) rfl rfl hdg kk
theorem pm_w_aast (hx : p.tables.exec = Jvm.exec) (hb : c.code = cc) (hK : pm_K g s) (hH : pm_hold g A H) {n v : Nat} {f : Nat → Option Nat} {fs : List Value} {x : Int32} (ha : A a = some (pm_ra g n f)) (hv : A v = some (pm_ob 7 fs)) (hin : 0 ≤ x.toInt ∧ x.toInt < n) (hdg : decode cc pc = .ok (.aastore, 1))
    (kk : ∀ (H1 : Heap) (i : Nat), pm_hold g (pm_up A a (pm_ra g n (va_up f x.toInt.toNat (some v)))) H1 → H1.size = H.size → (∀ q : Nat, q ≠ a → H1[q]? = H[q]?) → W p l e R s m args below meth c H1 (locs ++ [⟨a, i⟩]) cells slots Q (F0 m (pc + 1) ls rest)) : W p l e R s m args below meth c H locs cells slots Q (F0 m pc ls (.ref v :: .int x :: .ref a :: rest)) := by
  have hlt : x.toNatClampNeg < n := Nat.not_le.mp fun q => (pm_in_of hin) (Or.inr q)
  have h0 : ¬ x < 0 := fun q => (pm_in_of hin) (Or.inl q)
  obtain ⟨r', hr', cellV, g1, g2, g3, -⟩ := hH v _ hv
  have hcls := (hK.1.1 7 _ (pm_cl_at (by decide))).2
  obtain ⟨kA, comp, k1, k2, k3, -⟩ := (hK.1.2 1 _ rfl).2
  have hcomp : comp = g.1.1 7 := Option.some.inj (k3.symm.trans hcls.1)
  subst hcomp
  obtain ⟨kC, hkC, -⟩ := hcls.2
  refine W.aast hx hb (hH a _ ha) (fun q h => by cases h) (fun h => by cases h) k1 k2 rfl hkC ⟨h0, by show _ < (arrV _ _ _).slots.size; rw [arrV_size]; exact hlt⟩ g1 (fun q h => by rw [g3] at h; cases h) (by rw [g2]; exact hkC) (by rw [g2]; exact va_assign hcls) rfl rfl hdg fun H1 e1 z oq => ?_
  refine kk H1 _ (pm_hold_up hH ?_ oq) z oq
  show H1[a]? = some (vp_cell _ _)
  rw [e1]
  simp only [vp_cell_i, vp_cell_q, arrV_store]
  congr 2
  funext q
  by_cases hq : q = x.toNatClampNeg
  · subst hq
    simp [updV, va_up, va_rf]
  · simp [updV, va_up, hq]
theorem pm_w_alen (hx : p.tables.exec = Jvm.exec) (hb : c.code = cc) (hK : pm_K g s) (hH : pm_hold g A H) {n : Nat} {f : Nat → Int32} (ha : A a = some (pm_ia g n f)) (hdg : decode cc pc = .ok (.arraylength, 1))
    (kk : W p l e R s m args below meth c H locs cells slots Q (F0 m (pc + 1) ls (.int (nI n) :: rest))) : W p l e R s m args below meth c H locs cells slots Q (F0 m pc ls (.ref a :: rest)) :=
  W.alen (n := nI n) hx hb (hH a _ ha) ((hK.1.2 0 _ rfl).1 n (fun j => .int (f j))) (by show (arrV _ _ _).slots.size.toInt32 = _; rw [arrV_size]; rfl) rfl rfl hdg kk
theorem pm_w_newa (hx : p.tables.exec = Jvm.exec) (hb : c.code = cc) (hts : ∀ w ∈ pm_W, w.before args s = true) (hK : pm_K g s) (hH : pm_hold g A H) {i : Nat} (hi : i ≤ 100000) (hc : cells + 1 ≤ R.cells) (hs : slots + i ≤ R.slots) (hdg : decode cc pc = .ok (.newarray .int, 2))
    (kk : ∀ H1 : Heap, pm_hold g (pm_up A H.size (pm_ia g i (fun _ => 0))) H1 → H1.size = H.size + 1 → (∀ q : Nat, q < H.size → H1[q]? = H[q]?) → W p l e R s m args below meth c H1 locs (cells + 1) (slots + i) Q (F0 m (pc + 2) ls (.ref H.size :: rest))) : W p l e R s m args below meth c H locs cells slots Q (F0 m pc ls (.int (nI i) :: rest)) := by
  refine va_newaK (atype := .int) hx hb (hts _ pm_arc) rfl hdg rfl (nI_pos (by omega)) (nI_clamp (by omega)) (by show i * 4 ≤ _; omega) hc hs rfl fun H1 cA e1 z1 o1 hAr hNm => ?_
  have hcA : cA = g.2.1 := Option.some.inj (hNm.symm.trans (hK.1.2 0 _ rfl).2)
  subst hcA
  refine kk H1 (pm_hold_new hH ?_ o1) z1 o1
  exact e1
theorem pm_w_newq (hx : p.tables.exec = Jvm.exec) (hb : c.code = cc) (hown : s.vm.findClass (pm_nm own) = some m.cls) (hts : ∀ w ∈ pm_W, w.before args s = true) (hK : pm_K g s) (hH : pm_hold g A H) {i idx : Nat} (hm : (own, idx, 7) ∈ pm_cl) (hi : i ≤ 100000) (hc : cells + 1 ≤ R.cells) (hs : slots + i ≤ R.slots) (hdg : decode cc pc = .ok (.anewarray idx, 3))
    (kk : ∀ H1 : Heap, pm_hold g (pm_up A H.size (pm_ra g i (fun _ => none))) H1 → H1.size = H.size + 1 → (∀ q : Nat, q < H.size → H1[q]? = H[q]?) → W p l e R s m args below meth c H1 locs (cells + 1) (slots + i) Q (F0 m (pc + 3) ls (.ref H.size :: rest))) : W p l e R s m args below meth c H locs cells slots Q (F0 m pc ls (.int (nI i) :: rest)) := by
  have hN : (nI i).toNatClampNeg = i := nI_clamp (by omega)
  refine W.anew (C := RX7) hx hb hown (hts _ (pm_cl_ok _ hm).1) (va_AO.use hK.2.1) rfl hdg rfl (nI_pos (by omega)) (by rw [hN]; omega) hc (by rw [hN]; exact hs) fun cA kA comp f1 f2 f3 f4 => ?_
  rw [hN]
  obtain ⟨kA', comp', k1, k2, k3, k4⟩ := (hK.1.2 1 _ rfl).2
  have hcA : cA = g.2.2.1 := Option.some.inj (f1.symm.trans k4)
  subst hcA
  have o1 : ∀ q : Nat, q < H.size → (H.push ({ cls := g.2.2.1, slots := Array.replicate i .null, vm := .none } : Cell))[q]? = H[q]? := fun q hq => by rw [Array.getElem?_push, if_neg (Nat.ne_of_lt hq)]
  refine kk _ (pm_hold_new hH ?_ o1) (by rw [Array.size_push]) o1
  show _ = some (vp_cell _ _)
  rw [Array.getElem?_push_size, arrV_new]
  rfl
theorem pm_w_new (hx : p.tables.exec = Jvm.exec) (hb : c.code = cc) (hown : s.vm.findClass (pm_nm own) = some m.cls) (hts : ∀ w ∈ pm_W, w.before args s = true) (hK : pm_K g s) (hH : pm_hold g A H) {ci idx : Nat} (hm : (own, idx, ci) ∈ pm_cl) (hc : cells + 1 ≤ R.cells) (hs : slots + (pm_cT ci).2.2 ≤ R.slots) (hdg : decode cc pc = .ok (.new idx, 3))
    (kk : ∀ H1 : Heap, pm_hold g (pm_up A H.size (pm_ob ci (pm_df ci))) H1 → H1.size = H.size + 1 → (∀ q : Nat, q < H.size → H1[q]? = H[q]?) → W p l e R s m args below meth c H1 locs (cells + 1) (slots + (pm_cT ci).2.2) Q (F0 m (pc + 3) ls (.ref H.size :: rest))) : W p l e R s m args below meth c H locs cells slots Q (F0 m pc ls rest) := by
  obtain ⟨m1, m2⟩ := pm_cl_ok _ hm
  obtain ⟨n1, n2⟩ := pm_ci_ok ci m2
  have hKn := hK.1.1 ci _ (pm_cl_at m2)
  have m3 : (Cond.classLink (pm_nm own) idx (pm_cT ci).1).before args s = true := by rw [← n2]; exact hts _ m1
  refine W.newcK hx hb hown m3 (hts _ n1) (hts _ (pm_cz_ok ci m2)) rfl hdg hc hs hKn.2.1 rfl fun H1 kC hkC e1 z1 o1 => ?_
  refine kk H1 (pm_hold_new hH ⟨_, pm_cl_at m2, (u_born (pm_tys ci) hts (pm_u_ok ci m2) hKn hkC e1 (pm_ty_ok ci m2)).to (fun k hk => ?_)⟩ o1) z1 o1
  have hk' : k < (pm_cT ci).2.2 := hk
  show _ = (pm_df ci).getD k .null
  simp [pm_df, List.getD_eq_getElem?_getD, hk']
theorem pm_w_mna (hx : p.tables.exec = Jvm.exec) (hb : c.code = cc) (hown : s.vm.findClass (pm_nm 3) = some m.cls) (hts : ∀ w ∈ pm_W, w.before args s = true) (hK : pm_K g s) (hH : pm_hold g A H) {i k : Nat} (hi : i ≤ 1000) (hk : k ≤ 1000) (hc : cells + (1 + i) ≤ R.cells) (hs : slots + (i + i * k) ≤ R.slots) (hdg : decode cc pc = .ok (.multianewarray 9 2, 4))
    (kk : ∀ H1 : Heap, pm_hold g (pm_upm g A H.size (fun j => H.size + 1 + j) i k) H1 → H.size ≤ H1.size → (∀ q : Nat, q < H.size → H1[q]? = H[q]?) → W p l e R s m args below meth c H1 locs (cells + 1 + i) (slots + i + i * k) Q (F0 m (pc + 4) ls (.ref H.size :: rest))) : W p l e R s m args below meth c H locs cells slots Q (F0 m pc ls (.int (nI k) :: .int (nI i) :: rest)) := by
  have hN : (nI i).toNatClampNeg = i := nI_clamp (by omega)
  have hM : (nI k).toNatClampNeg = k := nI_clamp (by omega)
  intro T hT Xs
  have hcl : (Cond.classLink (pm_nm 3) 9 ("[" ++ (FieldType.array .int).toString)).before args s = true := hts _ pm_mal
  obtain ⟨vm₁, cA, comp, -, fA, fC, hO, -, X', step⟩ := Xs.multianewarray2F (ty := .int) hx hown hcl hK.2.2.1 (hts _ pm_arc) (g := F0 m pc ls (.int (nI k) :: .int (nI i) :: rest)) rfl (by rw [hb]; exact hdg) rfl (nI_pos (by omega)) (nI_pos (by omega)) (by rw [hN]; omega) (by rw [hM]; show k * 4 ≤ _; omega) (by rw [hM]; omega) rfl rfl (by rw [hN]; exact hc) (by rw [hN, hM]; exact hs)
  rw [hN, hM] at X' step
  have e1 : comp = g.2.1 := Option.some.inj (fC.symm.trans (hK.1.2 0 _ rfl).2)
  have e2 : cA = g.2.2.2 := Option.some.inj (fA.symm.trans (hK.1.2 2 _ rfl).2)
  subst e1; subst e2
  generalize hF : Jvm.Free.Multi.fill (T.setVm vm₁) g.2.2.2 g.2.1 i k (defaultValue .int) i = F at X' step
  have hTh : (T.setVm vm₁).heap = H := hT
  obtain ⟨f1, f2, -, -⟩ := Jvm.Free.Multi.fill_facts (T.setVm vm₁) g.2.2.2 g.2.1 i k (defaultValue .int) i
  rw [hF, hTh] at f1 f2
  have hold : ∀ x : Nat, x < H.size → F.heap[x]? = H[x]? := fun x hx => by
    have := Jvm.Free.Multi.fill_old (T.setVm vm₁) g.2.2.2 g.2.1 i k (defaultValue .int) (a := x) (by rw [hTh]; exact hx) i
    rw [hF, hTh] at this
    exact this
  have hrow : ∀ j : Nat, j < i → F.heap[H.size + 1 + j]? = some (Jvm.Free.Multi.innerC g.2.1 k (defaultValue .int)) := fun j hj => by
    have := Jvm.Free.Multi.fill_inner (T.setVm vm₁) g.2.2.2 g.2.1 i k (defaultValue .int) i j hj
    rw [hF, hTh] at this
    exact this
  have hI : Jvm.Free.Multi.innerC g.2.1 k (defaultValue .int) = vp_cell g.2.1 (k, .inl (fun _ => 0)) := arrV_new _ _ _
  have hOu : Jvm.Free.Multi.outerC g.2.2.2 i H.size i = vp_cell g.2.2.2 (i, .inr (.inr (.inr (.inr (fun j => if j < i then some (H.size + 1 + j) else none))))) := pm_outer _ _ _ _
  have hF1 : pm_hold g (pm_upm g A H.size (fun j => H.size + 1 + j) i k) F.heap := by
    intro q x hq
    unfold pm_upm at hq
    by_cases h1 : q = H.size
    · rw [if_pos h1] at hq
      cases hq
      subst h1
      show F.heap[H.size]? = some (vp_cell _ _)
      rw [f2, hOu]
    · rw [if_neg h1] at hq
      by_cases h2 : ∃ j, j < i ∧ q = H.size + 1 + j
      · rw [if_pos h2] at hq
        cases hq
        obtain ⟨j, hj, rfl⟩ := h2
        show F.heap[H.size + 1 + j]? = some (vp_cell _ _)
        rw [hrow j hj, hI]
      · rw [if_neg h2] at hq
        exact (hH q x hq).kept (hold q (hH q x hq).lt)
  obtain ⟨t, a1, b1⟩ := kk F.heap hF1 (by rw [f1]; omega) hold F rfl X'
  refine ⟨t, step t ?_, b1⟩
  rw [hT]
  exact a1
end PMH
end
section
/-! a call, by its contract over the pure cells -/
theorem pm_AM.moved {u U : State} (hvm : u.vm.Alike U.vm) (h : pm_AM u) : pm_AM U := by
  obtain ⟨comp, c, k, h1, h2, h3, h4, h5⟩ := arrayOverA_spec h
  obtain ⟨k', hk', he⟩ := hvm.2.2 _ _ h3
  have hi : (U.vm.classes.findIdx? fun (x : Class) => match x.kind with | .array component _ => component == comp | _ => false) = some c := by
    refine (va_idx_bare U.vm comp).symm.trans ?_
    first | rw [hvm.bare_eq] | rw [← hvm.bare_eq]
    exact (va_idx_bare u.vm comp).trans h2
  have hkind : k'.kind = .array comp (.array .int) := by rw [he]; exact h4
  have f1 : U.vm.findClass (FieldType.array .int).toString = some comp := by rw [hvm.findClass]; exact h1
  have f2 : U.vm.findClass ("[" ++ (FieldType.array .int).toString) = some c := by rw [hvm.findClass]; exact h5
  unfold pm_AM Cond.before Cond.holds
  simp only [Cond.value]
  rw [f1, Option.bind_some]
  refine (congrArg (fun o : Option Nat => (o.bind (fun c => (U.vm.classes[c]?).map fun (k : Class) => match k.kind with | .array _ ty => decide (ty = FieldType.array .int) && decide (U.vm.findClass ("[" ++ (FieldType.array .int).toString) = some c) | _ => false) == some true)) hi).trans ?_
  simp [hk', hkind, f2]
theorem pm_K.same {g : pm_G} {u U : State} (h : u.vm = U.vm) (hK : pm_K g u) : pm_K g U := by
  have ha : u.vm.Alike U.vm := by rw [h]; exact Vm.Alike.refl _
  exact ⟨hK.1.moved ha, hK.2.1.moved ha, hK.2.2.1.moved ha, fun q hq => va_Nw.same rfl h (hK.2.2.2 q hq)⟩
theorem pm_K.warm {g : pm_G} {u U : State} (h : u.WarmedH U.vm) (hK : pm_K g u) : pm_K g U := by
  have ha : u.vm.Alike U.vm := h.alike
  exact ⟨hK.1.moved ha, hK.2.1.moved ha, hK.2.2.1.moved ha, fun q hq => va_Nw.warmM h (hK.2.2.2 q hq)⟩
theorem pm_good {n : Nat} (hn : n < 283) : GoodIn pm_W (pm_ws n) := by
  intro w hw
  rcases List.mem_cons.mp hw with h | h
  · rw [h]
    have h1 := pm_cw_ok _ (pm_me_mem hn)
    exact ⟨h1, good_of_word (List.mem_filter.mp h1).2⟩
  · exact ⟨h, good_of_word (List.mem_filter.mp h).2⟩
theorem pm_mok {n : Nat} (hn : n < 283) : Cond.initialized (pm_me n).1.cls ∈ pm_W ∧ ((pm_me n).1.cls ≠ "java/lang/invoke/MethodHandle" ∧ (pm_me n).1.cls ≠ "java/lang/invoke/VarHandle" ∧ (parseMethodDescriptor (pm_me n).1.desc).map (fun d => d.parameters.length) = some (pm_me n).2.2.2.2.1) ∧ (pm_me n).2.2.1 ≤ 21 ∧ ((pm_me n).2.2.2.2.2 = 0 → Cond.instanceMethod (pm_me n).1 ∈ pm_W ∧ Cond.selects (pm_me n).1.cls (pm_me n).1 (pm_me n).1 ∈ pm_W) ∧ ((pm_me n).2.2.2.2.2 = 1 → Cond.static (pm_me n).1 ∈ pm_W) ∧ ((pm_me n).2.2.2.2.2 = 2 → Cond.instanceMethod (pm_me n).1 ∈ pm_W ∧ (pm_me n).1.name = "<init>" ∧ (pm_me n).2.2.2.1 = none) := by
  obtain ⟨p, hp⟩ := pm_mt_ok _ (pm_me_mem hn)
  generalize pm_me n = e at hp ⊢
  obtain ⟨y, cd, mx, rt, na, kd⟩ := e
  simp only [pm_okm, Bool.and_eq_true, decide_eq_true_eq] at hp
  obtain ⟨h1, h2, h3, h4⟩ := hp
  refine ⟨pm_in_ok h1, h2, h3, fun hk => ?_, fun hk => ?_, fun hk => ?_⟩
  · have hk : kd = 0 := hk
    subst hk
    simp only [Bool.and_eq_true] at h4
    exact ⟨pm_in_ok h4.1, pm_in_ok h4.2⟩
  · have hk : kd = 1 := hk
    subst hk
    exact pm_in_ok h4
  · have hk : kd = 2 := hk
    subst hk
    simp only [Bool.and_eq_true, decide_eq_true_eq] at h4
    exact ⟨pm_in_ok h4.1, h4.2⟩
section PMC
variable {p : Program} {l : Launch} {e : Env} {R : Room} {s : State} {m : MethodId} {args : Array Value} {below : List Frame} {meth : Method} {c : Code} {H : Heap} {locs : List Loc} {cells slots : Nat} {Q : State → Prop}
variable {cc : ByteArray} {pc : Nat} {ls : Array Slot} {rest : List Value} {a : Nat} {g : pm_G} {A : pm_H} {own nL : Nat} {fr : Nat → Prop}
theorem pm_w_after {mc ms : Nat} {st0 : List Value} {av : Array Value} {Q' : Option Value → pm_H → Prop} (hr : va_Run p l e R s m args below meth c H locs cells slots mc ms (F0 m pc ls st0) rest (pm_Qc g A H.size Q' av) (pm_fr A H.size)) (hd : ∀ q, A q ≠ none → fr q) (hS : va_S fr s.heap H locs) (hA : ∀ q, s.heap.size ≤ q → fr q)
    (kk : ∀ (r : Option Value) (A' : pm_H) (H1 : Heap) (locs1 : List Loc), Q' r A' → pm_hold g A' H1 → (∀ q, A' q ≠ none → fr q) → va_S fr s.heap H1 locs1 → W p l e R s m args below meth c H1 locs1 (cells + mc) (slots + ms) Q (F0 m (pc + 3) ls (r.toList ++ rest))) : W p l e R s m args below meth c H locs cells slots Q (F0 m pc ls st0) := by
  have hf : ∀ q, pm_fr A H.size q → fr q := fun q h => by
    rcases h with h | h
    · exact hd q h
    · exact hA q (Nat.le_trans hS.1 h)
  intro T hT X
  obtain ⟨v, st₀, t, T', L, h0, X', hL, e1, e2, ⟨r, A', ho, hq, hh, hdm, hz, hk⟩, st⟩ := hr T hT X
  cases ho
  rw [h0] at hz hk
  obtain ⟨t2, a1, b1⟩ := kk v A' T'.heap (locs ++ L) hq (by rw [e1]; exact hh) (fun q h => hf q (hdm q h))
    ⟨Nat.le_trans hS.1 (by rw [e1]; exact hz), fun q h1 h2 => by rw [e1, hk q (Nat.lt_of_lt_of_le h1 hS.1) (fun z => h2 (hf q z))]; exact hS.2.1 q h1 h2, fun q hq => by
      rcases List.mem_append.mp hq with h | h
      · exact hS.2.2 q h
      · exact hf _ (hL q h)⟩ T' rfl X'
  exact ⟨t2, st t2 a1, b1⟩
theorem pm_blind {as : List Value} {sz : Nat} : FrameBlind (va_Pc as (fun U => U.heap.size = sz ∧ pm_hold g A U.heap ∧ pm_K g U)) := by
  intro a U g' mk h
  obtain ⟨h1, h2, h3, h4⟩ := h
  exact ⟨h1, h2, h3, pm_K.same (u := U) (U := U.calling g' mk a) rfl h4⟩
theorem pm_cb (hts : ∀ w ∈ pm_W, w.before args s = true) {n idx d' mc' ms' : Nat} (hm : (own, idx, n) ∈ pm_ml) (hf : d' + 1 ≤ R.frames) (hl : 40 * (d' + 1) ≤ R.locals) : CallB R s args (pm_nm own) idx (pm_me n).1 (pm_me n).2.1 (pm_me n).2.2.1 (pm_me n).2.2.2.1 (pm_ws n) ({ frames := d', cells := mc', slots := ms', locals := 40 * d' }) mc' ms' (pm_me n).2.2.2.2.1 := by
  obtain ⟨h1, h2⟩ := pm_ml_ok _ hm
  obtain ⟨k1, k2, k3, -⟩ := pm_mok h2
  have k3 : (pm_me n).2.2.1 ≤ 21 := k3
  exact callB_of _ hts (pm_good h2) rfl rfl rfl (hts _ k1) (hts _ h1) k2 ⟨hf, by show 8 + (_ + 11) + 40 * d' ≤ _; omega⟩
theorem pm_w_callV (hx : p.tables.exec = Jvm.exec) (hb : c.code = cc) (hml : c.maxLocals = nL) (hown : s.vm.findClass (pm_nm own) = some m.cls) (hts : ∀ w ∈ pm_W, w.before args s = true) (hK : pm_K g s) (hA : ∀ q, s.heap.size ≤ q → fr q) (hH : pm_hold g A H) (hd : ∀ q, A q ≠ none → fr q) (hS : va_S fr s.heap H locs) (hls : ls.size = nL)
    {n idx d' mc' ms' ci b : Nat} {as fs : List Value} {Q' : Option Value → pm_H → Prop} (hM : pm_Mt l g n d' mc' ms' (.ref b :: as) A Q') (hm : (own, idx, n) ∈ pm_ml) (hk0 : (pm_me n).2.2.2.2.2 = 0) (hna : as.length = (pm_me n).2.2.2.2.1) (hci : ci < 12) (hcn : pm_nm ci = (pm_me n).1.cls) (hb0 : A b = some (pm_ob ci fs)) (hf : d' + 1 ≤ R.frames) (hl : 40 * (d' + 1) ≤ R.locals) (hrc : cells + mc' ≤ R.cells) (hrs : slots + ms' ≤ R.slots) (hrm : (rest.map fun v => v.category).sum ≤ 8) (hdg : decode cc pc = .ok (.invokevirtual idx, 3))
    (kk : ∀ (r : Option Value) (A' : pm_H) (H1 : Heap) (locs1 : List Loc), Q' r A' → pm_hold g A' H1 → (∀ q, A' q ≠ none → fr q) → va_S fr s.heap H1 locs1 → W p l e R s m args below meth c H1 locs1 (cells + mc') (slots + ms') Q (F0 m (pc + 3) ls (r.toList ++ rest))) : W p l e R s m args below meth c H locs cells slots Q (F0 m pc ls (as.reverse ++ .ref b :: rest)) := by
  obtain ⟨h1, h2⟩ := pm_ml_ok _ hm
  obtain ⟨-, -, -, k4, -⟩ := pm_mok h2
  obtain ⟨k5, k6⟩ := k4 hk0
  refine pm_w_after (va_runV (C := (pm_me n).1.cls) (b := b) (As := as) (rest := rest) ⟨hx, hb, hml, hown, hts⟩ (hM H.size) ⟨pm_cb hts hm hf hl, hts _ k5, hts _ k6⟩ ⟨pm_blind, ?_, fun U hU hW => ⟨rfl, by rw [hU], by rw [hU]; exact hH, hK.warm hW⟩⟩ rfl hna hls rfl (lv_room hrm) hdg ⟨hrc, hrs⟩) hd hS hA kk
  rw [← hcn, (pm_ci_ok ci hci).2]
  exact va_recv hK.1 (pm_P1 (hH b _ hb0)) (ci := ci) (q0 := 0) (pm_cl_at hci) rfl
theorem pm_w_callS (hx : p.tables.exec = Jvm.exec) (hb : c.code = cc) (hml : c.maxLocals = nL) (hown : s.vm.findClass (pm_nm own) = some m.cls) (hts : ∀ w ∈ pm_W, w.before args s = true) (hK : pm_K g s) (hA : ∀ q, s.heap.size ≤ q → fr q) (hH : pm_hold g A H) (hd : ∀ q, A q ≠ none → fr q) (hS : va_S fr s.heap H locs) (hls : ls.size = nL)
    {n idx d' mc' ms' : Nat} {as : List Value} {Q' : Option Value → pm_H → Prop} (hM : pm_Mt l g n d' mc' ms' as A Q') (hm : (own, idx, n) ∈ pm_ml) (hk0 : (pm_me n).2.2.2.2.2 = 1) (hna : as.length = (pm_me n).2.2.2.2.1) (hf : d' + 1 ≤ R.frames) (hl : 40 * (d' + 1) ≤ R.locals) (hrc : cells + mc' ≤ R.cells) (hrs : slots + ms' ≤ R.slots) (hrm : (rest.map fun v => v.category).sum ≤ 8) (hdg : decode cc pc = .ok (.invokestatic idx, 3))
    (kk : ∀ (r : Option Value) (A' : pm_H) (H1 : Heap) (locs1 : List Loc), Q' r A' → pm_hold g A' H1 → (∀ q, A' q ≠ none → fr q) → va_S fr s.heap H1 locs1 → W p l e R s m args below meth c H1 locs1 (cells + mc') (slots + ms') Q (F0 m (pc + 3) ls (r.toList ++ rest))) : W p l e R s m args below meth c H locs cells slots Q (F0 m pc ls (as.reverse ++ rest)) := by
  obtain ⟨h1, h2⟩ := pm_ml_ok _ hm
  obtain ⟨-, -, -, -, k4, -⟩ := pm_mok h2
  exact pm_w_after (va_runS (As := as) (rest := rest) ⟨hx, hb, hml, hown, hts⟩ (hM H.size) ⟨pm_cb hts hm hf hl, hts _ (k4 hk0)⟩ ⟨pm_blind, fun U hU hW => ⟨rfl, by rw [hU], by rw [hU]; exact hH, hK.warm hW⟩⟩ rfl hna hls rfl (lv_room hrm) hdg ⟨hrc, hrs⟩) hd hS hA kk
theorem pm_w_callI (hx : p.tables.exec = Jvm.exec) (hb : c.code = cc) (hml : c.maxLocals = nL) (hown : s.vm.findClass (pm_nm own) = some m.cls) (hts : ∀ w ∈ pm_W, w.before args s = true) (hK : pm_K g s) (hA : ∀ q, s.heap.size ≤ q → fr q) (hH : pm_hold g A H) (hd : ∀ q, A q ≠ none → fr q) (hS : va_S fr s.heap H locs) (hls : ls.size = nL)
    {n idx d' mc' ms' b : Nat} {Q' : Option Value → pm_H → Prop} (hM : pm_Mt l g n d' mc' ms' [.ref b] A Q') (hm : (own, idx, n) ∈ pm_ml) (hk0 : (pm_me n).2.2.2.2.2 = 2) (hna : 0 = (pm_me n).2.2.2.2.1) (hf : d' + 1 ≤ R.frames) (hl : 40 * (d' + 1) ≤ R.locals) (hrc : cells + mc' ≤ R.cells) (hrs : slots + ms' ≤ R.slots) (hrm : (rest.map fun v => v.category).sum ≤ 8) (hdg : decode cc pc = .ok (.invokespecial idx, 3))
    (kk : ∀ (r : Option Value) (A' : pm_H) (H1 : Heap) (locs1 : List Loc), Q' r A' → pm_hold g A' H1 → (∀ q, A' q ≠ none → fr q) → va_S fr s.heap H1 locs1 → W p l e R s m args below meth c H1 locs1 (cells + mc') (slots + ms') Q (F0 m (pc + 3) ls (r.toList ++ rest))) : W p l e R s m args below meth c H locs cells slots Q (F0 m pc ls (.ref b :: rest)) := by
  obtain ⟨h1, h2⟩ := pm_ml_ok _ hm
  obtain ⟨-, -, -, -, -, k4⟩ := pm_mok h2
  obtain ⟨k5, k6, k7⟩ := k4 hk0
  have cb := pm_cb (R := R) (mc' := mc') (ms' := ms') hts hm hf hl
  rw [k7] at cb
  exact pm_w_after (va_runI (As := []) (rest := rest) ⟨hx, hb, hml, hown, hts⟩ (hM H.size) ⟨cb, k6, hts _ k5⟩ ⟨pm_blind, fun U hU hW => ⟨rfl, by rw [hU], by rw [hU]; exact hH, hK.warm hW⟩⟩ rfl hna hls rfl (lv_room hrm) hdg ⟨hrc, hrs⟩) hd hS hA kk
theorem pm_w_callN (hx : p.tables.exec = Jvm.exec) (hb : c.code = cc) (hml : c.maxLocals = nL) (hown : s.vm.findClass (pm_nm own) = some m.cls) (hts : ∀ w ∈ pm_W, w.before args s = true) (hK : pm_K g s) (hA : ∀ q, s.heap.size ≤ q → fr q) (hH : pm_hold g A H) (hd : ∀ q, A q ≠ none → fr q) (hS : va_S fr s.heap H locs) (hls : ls.size = nL)
    {n idx d' mc' ms' b hs : Nat} {Q' : Option Value → pm_H → Prop} (hM : pm_Mt l g n d' mc' ms' [.ref b] A Q') (hm : (own, idx, n, hs) ∈ pm_nl2) (hk0 : (pm_me n).2.2.2.2.2 = 2) (hna : 0 = (pm_me n).2.2.2.2.1) (hf : d' + 1 ≤ R.frames) (hl : 40 * (d' + 1) ≤ R.locals) (hrc : cells + mc' ≤ R.cells) (hrs : slots + ms' ≤ R.slots) (hrm : (rest.map fun v => v.category).sum ≤ 8) (hdg : decode cc pc = .ok (.invokespecial idx, 3))
    (kk : ∀ (r : Option Value) (A' : pm_H) (H1 : Heap) (locs1 : List Loc), Q' r A' → pm_hold g A' H1 → (∀ q, A' q ≠ none → fr q) → va_S fr s.heap H1 locs1 → W p l e R s m args below meth c H1 locs1 (cells + mc') (slots + ms') Q (F0 m (pc + 3) ls (r.toList ++ rest))) : W p l e R s m args below meth c H locs cells slots Q (F0 m pc ls (.ref b :: rest)) := by
  obtain ⟨-, h2⟩ := pm_nl2_ok _ hm
  obtain ⟨k1, k2, k3, -, -, k4⟩ := pm_mok h2
  have k3 : (pm_me n).2.2.1 ≤ 21 := k3
  obtain ⟨k5, k6, k7⟩ := k4 hk0
  have hz := hK.2.2.2 _ hm
  simp only [pm_nlw] at hz
  have cb : va_CN R s args (pm_nm own) idx (pm_me n).1 (pm_nm hs) (pm_me n).2.1 (pm_me n).2.2.1 (pm_me n).2.2.2.1 (pm_ws n) ({ frames := d', cells := mc', slots := ms', locals := 40 * d' }) mc' ms' (pm_me n).2.2.2.2.1 := va_cnB _ hts (pm_good h2) rfl rfl rfl hz (hts _ k1) k2 ⟨hf, by show 8 + (_ + 11) + 40 * d' ≤ _; omega⟩
  rw [k7] at cb
  exact pm_w_after (va_runIN (As := []) (rest := rest) ⟨hx, hb, hml, hown, hts⟩ (hM H.size) ⟨cb, k6, hts _ k5⟩ ⟨pm_blind, fun U hU hW => ⟨rfl, by rw [hU], by rw [hU]; exact hH, hK.warm hW⟩⟩ rfl hna hls rfl (lv_room hrm) hdg ⟨hrc, hrs⟩) hd hS hA kk
end PMC
end
section
/-! a checked block: what it wants is enough for the machine -/
theorem pm_len {ins : Instr} {len n : Nat} (h : pm_isTab ins = true ∨ len = pm_ln ins) (h1 : pm_isTab ins = false) (h2 : pm_ln ins = n) : len = n := by
  rcases h with h | h
  · rw [h1] at h; cases h
  · exact h.trans h2
theorem pm_tlx {ins : Instr} {b : Bool} (h : pm_tm ins = true ∨ b = true) (h1 : pm_tm ins = false) : b = true := by
  rcases h with h | h
  · rw [h1] at h; cases h
  · exact h
theorem pm_lt0 (x : Int32) : x < 0 ↔ x.toInt < 0 := by rw [pm_lt, Int32.toInt_zero]
theorem pm_gt0 (x : Int32) : 0 < x ↔ 0 < x.toInt := by rw [pm_lt, Int32.toInt_zero]
theorem pm_le0 (x : Int32) : x ≤ 0 ↔ x.toInt ≤ 0 := by rw [pm_le, Int32.toInt_zero]
theorem pm_ge0 (x : Int32) : 0 ≤ x ↔ 0 ≤ x.toInt := by rw [pm_le, Int32.toInt_zero]
theorem pm_rme {rest : List Value} (h : pm_rm rest = true) : (rest.map fun v => v.category).sum ≤ 8 := Nat.le_of_ble_eq_true h
set_option maxHeartbeats 4000000 in
set_option maxRecDepth 100000 in
theorem pm_sound {p : Program} {l : Launch} {e : Env} {R : Room} {s : State} {m : MethodId} {args : Array Value} {below : List Frame} {meth : Method} {c : Code} {Q : State → Prop} {g : pm_G} {own nL : Nat} {isI : Bool} {ret : Option FieldType} {cc : ByteArray} {ro : Nat → Option (Nat × (Nat → Int32))} {d mc ms : Nat} {Ret : Option Value → pm_H → Nat → Nat → Prop} {fr : Nat → Prop} (C : pm_Cx p l e R s m args below meth c Q g own nL isI ret cc ro d mc ms Ret fr) (fin : Nat) :
    ∀ (ops : List pm_Op) (pc : Nat) (L : pm_L) (st : List Value) (A : pm_H) (cells slots : Nat), pm_ok own nL isI ret cc fin pc ops = true → pm_wp l g ro d mc ms Ret (pm_Sem p l e R s m args below meth c Q g nL fr) fin ops L st A cells slots → pm_Sem p l e R s m args below meth c Q g nL fr pc L st A cells slots := by
  obtain ⟨hx, hb, hml, hown, hts, hK, hA, hro, hin, ⟨r1, r2, r3, r4⟩, hret⟩ := C
  intro ops
  induction ops with
  | nil =>
    intro pc L st A cells slots hok h
    have h1 : pc = fin := by simpa [pm_ok] using hok
    subst h1
    exact h
  | cons op r ih =>
    obtain ⟨ins, len, i, k, z⟩ := op
    intro pc L st A cells slots hok hw H locs ls hH hd hS hL
    simp only [pm_ok, Bool.and_eq_true, Bool.or_eq_true, decide_eq_true_eq] at hok
    obtain ⟨hdg, hln, hrs, htl⟩ := hok
    cases ins with
    | iconst n =>
      cases pm_len (n := 1) hln rfl rfl
      simp only [pm_rs, decide_eq_true_eq] at hrs
      exact lv_iconst hx hb hdg hrs (ih _ _ _ _ _ _ (pm_tlx htl rfl) hw H locs ls hH hd hS hL)
    | bipush n =>
      cases pm_len (n := 2) hln rfl rfl
      simp only [pm_rs, decide_eq_true_eq] at hrs
      exact lv_bipush hx hb hdg hrs (ih _ _ _ _ _ _ (pm_tlx htl rfl) hw H locs ls hH hd hS hL)
    | sipush n =>
      cases pm_len (n := 3) hln rfl rfl
      simp only [pm_rs, decide_eq_true_eq] at hrs
      exact lv_sipush hx hb hdg hrs (ih _ _ _ _ _ _ (pm_tlx htl rfl) hw H locs ls hH hd hS hL)
    | ldc n =>
      cases pm_len (n := 2) hln rfl rfl
      simp only [pm_rs, decide_eq_true_eq] at hrs
      exact lv_ldc hx hb hown (hts _ (pm_kl_ok _ hrs)) hdg (ih _ _ _ _ _ _ (pm_tlx htl rfl) hw H locs ls hH hd hS hL)
    | ldc_w n =>
      cases pm_len (n := 3) hln rfl rfl
      simp only [pm_rs, decide_eq_true_eq] at hrs
      exact lv_ldcw hx hb hown (hts _ (pm_kl_ok _ hrs)) hdg (ih _ _ _ _ _ _ (pm_tlx htl rfl) hw H locs ls hH hd hS hL)
    | aconst_null =>
      cases pm_len (n := 1) hln rfl rfl
      exact lv_null hx hb hdg (ih _ _ _ _ _ _ (pm_tlx htl rfl) hw H locs ls hH hd hS hL)
    | lconst n =>
      cases pm_len (n := 1) hln rfl rfl
      exact lv_lconst hx hb hdg rfl (ih _ _ _ _ _ _ (pm_tlx htl rfl) hw H locs ls hH hd hS hL)
    | iload n =>
      cases pm_len (n := 2) hln rfl rfl
      simp only [pm_rs, decide_eq_true_eq] at hrs
      obtain ⟨x, hg, h⟩ := pm_li_v hw
      subst hrs
      exact lv_iload hx hb hdg (pm_lv_at hL hg) (ih _ _ _ _ _ _ (pm_tlx htl rfl) h H locs ls hH hd hS hL)
    | iload_n n =>
      cases pm_len (n := 1) hln rfl rfl
      simp only [pm_rs, decide_eq_true_eq] at hrs
      obtain ⟨x, hg, h⟩ := pm_li_v hw
      exact lv_iload_n hx hb hdg hrs (pm_lv_at hL hg) (ih _ _ _ _ _ _ (pm_tlx htl rfl) h H locs ls hH hd hS hL)
    | lload_n n =>
      cases pm_len (n := 1) hln rfl rfl
      simp only [pm_rs, decide_eq_true_eq] at hrs
      obtain ⟨x, hg, h⟩ := pm_ll_v hw
      exact lv_lload_n hx hb hdg hrs (pm_lv_at hL hg) (ih _ _ _ _ _ _ (pm_tlx htl rfl) h H locs ls hH hd hS hL)
    | aload n =>
      cases pm_len (n := 2) hln rfl rfl
      simp only [pm_rs, decide_eq_true_eq] at hrs
      subst hrs
      rcases pm_lr_v hw with ⟨x, hg, h⟩ | ⟨hg, h⟩
      · exact lv_aload hx hb hdg (pm_lv_at hL hg) (ih _ _ _ _ _ _ (pm_tlx htl rfl) h H locs ls hH hd hS hL)
      · exact lv_aloadN hx hb hdg (pm_lv_at hL hg) (ih _ _ _ _ _ _ (pm_tlx htl rfl) h H locs ls hH hd hS hL)
    | aload_n n =>
      cases pm_len (n := 1) hln rfl rfl
      simp only [pm_rs, decide_eq_true_eq] at hrs
      rcases pm_lr_v hw with ⟨x, hg, h⟩ | ⟨hg, h⟩
      · exact lv_aload_n hx hb hdg hrs (pm_lv_at hL hg) (ih _ _ _ _ _ _ (pm_tlx htl rfl) h H locs ls hH hd hS hL)
      · exact lv_aload_nN hx hb hdg hrs (pm_lv_at hL hg) (ih _ _ _ _ _ _ (pm_tlx htl rfl) h H locs ls hH hd hS hL)
    | istore n =>
      cases pm_len (n := 2) hln rfl rfl
      simp only [pm_rs, decide_eq_true_eq] at hrs
      obtain ⟨rfl, h1⟩ := hrs
      obtain ⟨x, st, rfl, h⟩ := pm_si_v hw
      exact lv_istore hx hb hdg hL h1 rfl (fun ls' hl => ih _ _ _ _ _ _ (pm_tlx htl rfl) h H locs ls' hH hd hS (pm_lv_st hl))
    | istore_n n =>
      cases pm_len (n := 1) hln rfl rfl
      simp only [pm_rs, decide_eq_true_eq] at hrs
      obtain ⟨h0, h1⟩ := hrs
      obtain ⟨x, st, rfl, h⟩ := pm_si_v hw
      exact lv_istore_n hx hb hdg h0 hL h1 rfl (fun ls' hl => ih _ _ _ _ _ _ (pm_tlx htl rfl) h H locs ls' hH hd hS (pm_lv_st hl))
    | lstore_n n =>
      cases pm_len (n := 1) hln rfl rfl
      simp only [pm_rs, decide_eq_true_eq] at hrs
      obtain ⟨h0, h1⟩ := hrs
      obtain ⟨x, st, rfl, h⟩ := pm_sl_v hw
      exact lv_lstore_n hx hb hdg h0 hL h1 rfl (fun ls' hl => ih _ _ _ _ _ _ (pm_tlx htl rfl) h H locs ls' hH hd hS (pm_lv_st2 hl))
    | astore n =>
      cases pm_len (n := 2) hln rfl rfl
      simp only [pm_rs, decide_eq_true_eq] at hrs
      obtain ⟨rfl, h1⟩ := hrs
      rcases pm_srn_v hw with ⟨x, st, rfl, h⟩ | ⟨st, rfl, h⟩
      · exact lv_astore hx hb hdg hL h1 rfl (fun ls' hl => ih _ _ _ _ _ _ (pm_tlx htl rfl) h H locs ls' hH hd hS (pm_lv_st hl))
      · exact lv_astoreN hx hb hdg hL h1 rfl (fun ls' hl => ih _ _ _ _ _ _ (pm_tlx htl rfl) h H locs ls' hH hd hS (pm_lv_st hl))
    | astore_n n =>
      cases pm_len (n := 1) hln rfl rfl
      simp only [pm_rs, decide_eq_true_eq] at hrs
      obtain ⟨h0, h1⟩ := hrs
      rcases pm_srn_v hw with ⟨x, st, rfl, h⟩ | ⟨st, rfl, h⟩
      · exact lv_astore_n hx hb hdg h0 hL h1 rfl (fun ls' hl => ih _ _ _ _ _ _ (pm_tlx htl rfl) h H locs ls' hH hd hS (pm_lv_st hl))
      · exact lv_astore_nN hx hb hdg h0 hL h1 rfl (fun ls' hl => ih _ _ _ _ _ _ (pm_tlx htl rfl) h H locs ls' hH hd hS (pm_lv_st hl))
    | iinc j n =>
      cases pm_len (n := 3) hln rfl rfl
      simp only [pm_rs, decide_eq_true_eq] at hrs
      obtain ⟨rfl, h1, h2⟩ := hrs
      obtain ⟨x, hg, h⟩ := pm_li_v hw
      obtain ⟨k9, hk9⟩ := pm_lv_k hg
      exact lv_iinc hx hb hdg hL hk9 (by rw [h2]) h1 rfl (fun ls' hl => ih _ _ _ _ _ _ (pm_tlx htl rfl) (h _ rfl) H locs ls' hH hd hS (pm_lv_st hl))
    | iaload =>
      cases pm_len (n := 1) hln rfl rfl
      obtain ⟨x, a, st, rfl, n, f, hr, hi, h⟩ := pm_sir_v hw
      rcases hr with hr | hr
      · exact pm_w_iald hx hb hK hH hr hi hdg (ih _ _ _ _ _ _ (pm_tlx htl rfl) h H locs ls hH hd hS hL)
      · obtain ⟨h1, h2, h3⟩ := hro _ _ _ hr
        exact va_sld hx hb h3 h1 h2 hS (pm_in_of hi) hdg (ih _ _ _ _ _ _ (pm_tlx htl rfl) h H locs ls hH hd hS hL)
    | iastore =>
      cases pm_len (n := 1) hln rfl rfl
      obtain ⟨v, x, a, st, rfl, n, f, hr, hi, h⟩ := pm_siir_v hw
      have hfa := hd a (by rw [hr]; exact fun q => by cases q)
      exact pm_w_iast hx hb hK hH hr hi hdg (fun H1 j hH1 hz oq => ih _ _ _ _ _ _ (pm_tlx htl rfl) h H1 _ ls hH1 (pm_dom_up hd hfa) (pm_S_put hS hz oq hfa) hL)
    | aaload =>
      cases pm_len (n := 1) hln rfl rfl
      obtain ⟨x, a, st, rfl, n, f, hr, hi, h⟩ := pm_sir_v hw
      exact pm_w_aald hx hb hK hH hr hi hdg (ih _ _ _ _ _ _ (pm_tlx htl rfl) h H locs ls hH hd hS hL)
    | aastore =>
      cases pm_len (n := 1) hln rfl rfl
      obtain ⟨v, x, a, st, rfl, n, f, fs, hr, hv, hi, h⟩ := pm_srir_v hw
      have hfa := hd a (by rw [hr]; exact fun q => by cases q)
      exact pm_w_aast hx hb hK hH hr hv hi hdg (fun H1 j hH1 hz oq => ih _ _ _ _ _ _ (pm_tlx htl rfl) h H1 _ ls hH1 (pm_dom_up hd hfa) (pm_S_put hS hz oq hfa) hL)
    | arraylength =>
      cases pm_len (n := 1) hln rfl rfl
      obtain ⟨a, st, rfl, n, f, hr, h⟩ := pm_sr_v hw
      rcases hr with hr | hr
      · exact pm_w_alen hx hb hK hH hr hdg (ih _ _ _ _ _ _ (pm_tlx htl rfl) h H locs ls hH hd hS hL)
      · obtain ⟨h1, h2, h3⟩ := hro _ _ _ hr
        exact va_slen hx hb h3 h1 h2 hS hdg (ih _ _ _ _ _ _ (pm_tlx htl rfl) h H locs ls hH hd hS hL)
    | pop =>
      cases pm_len (n := 1) hln rfl rfl
      obtain ⟨x, st, rfl, h⟩ := pm_si_v hw
      exact lv_pop hx hb hdg rfl (ih _ _ _ _ _ _ (pm_tlx htl rfl) h H locs ls hH hd hS hL)
    | pop2 =>
      cases pm_len (n := 1) hln rfl rfl
      obtain ⟨x, st, rfl, h⟩ := pm_sl_v hw
      exact lv_pop2_2 hx hb hdg rfl (ih _ _ _ _ _ _ (pm_tlx htl rfl) h H locs ls hH hd hS hL)
    | dup =>
      cases pm_len (n := 1) hln rfl rfl
      rcases pm_sd_v hw with ⟨x, st, rfl, h⟩ | ⟨x, st, rfl, h⟩
      · exact lv_dup hx hb hdg rfl (ih _ _ _ _ _ _ (pm_tlx htl rfl) h H locs ls hH hd hS hL)
      · exact lv_dup hx hb hdg rfl (ih _ _ _ _ _ _ (pm_tlx htl rfl) h H locs ls hH hd hS hL)
    | dup2 =>
      cases pm_len (n := 1) hln rfl rfl
      obtain ⟨x, a, st, rfl, h⟩ := pm_sir_v hw
      exact lv_dup2_11 hx hb hdg rfl rfl (ih _ _ _ _ _ _ (pm_tlx htl rfl) h H locs ls hH hd hS hL)
    | iadd =>
      cases pm_len (n := 1) hln rfl rfl
      obtain ⟨x, y, st, rfl, h⟩ := pm_sii_v hw
      exact lv_iadd hx hb hdg (ih _ _ _ _ _ _ (pm_tlx htl rfl) (h _ rfl) H locs ls hH hd hS hL)
    | isub =>
      cases pm_len (n := 1) hln rfl rfl
      obtain ⟨x, y, st, rfl, h⟩ := pm_sii_v hw
      exact lv_isub hx hb hdg (ih _ _ _ _ _ _ (pm_tlx htl rfl) (h _ rfl) H locs ls hH hd hS hL)
    | imul =>
      cases pm_len (n := 1) hln rfl rfl
      obtain ⟨x, y, st, rfl, h⟩ := pm_sii_v hw
      exact lv_imul hx hb hdg (ih _ _ _ _ _ _ (pm_tlx htl rfl) (h _ rfl) H locs ls hH hd hS hL)
    | ishl =>
      cases pm_len (n := 1) hln rfl rfl
      obtain ⟨x, y, st, rfl, h⟩ := pm_sii_v hw
      exact lv_ishl hx hb hdg (ih _ _ _ _ _ _ (pm_tlx htl rfl) h H locs ls hH hd hS hL)
    | ishr =>
      cases pm_len (n := 1) hln rfl rfl
      obtain ⟨x, y, st, rfl, h⟩ := pm_sii_v hw
      exact lv_ishr hx hb hdg (ih _ _ _ _ _ _ (pm_tlx htl rfl) h H locs ls hH hd hS hL)
    | iand =>
      cases pm_len (n := 1) hln rfl rfl
      obtain ⟨x, y, st, rfl, h⟩ := pm_sii_v hw
      exact lv_iand hx hb hdg (ih _ _ _ _ _ _ (pm_tlx htl rfl) h H locs ls hH hd hS hL)
    | ior =>
      cases pm_len (n := 1) hln rfl rfl
      obtain ⟨x, y, st, rfl, h⟩ := pm_sii_v hw
      exact lv_ior hx hb hdg (ih _ _ _ _ _ _ (pm_tlx htl rfl) h H locs ls hH hd hS hL)
    | ixor =>
      cases pm_len (n := 1) hln rfl rfl
      obtain ⟨x, y, st, rfl, h⟩ := pm_sii_v hw
      exact lv_ixor hx hb hdg (ih _ _ _ _ _ _ (pm_tlx htl rfl) h H locs ls hH hd hS hL)
    | iushr =>
      cases pm_len (n := 1) hln rfl rfl
      obtain ⟨x, y, st, rfl, h⟩ := pm_sii_v hw
      exact lv_iushr hx hb hdg rfl (ih _ _ _ _ _ _ (pm_tlx htl rfl) h H locs ls hH hd hS hL)
    | idiv =>
      cases pm_len (n := 1) hln rfl rfl
      obtain ⟨x, y, st, rfl, h0, h⟩ := pm_sii_v hw
      exact lv_idiv hx hb hdg h0 (ih _ _ _ _ _ _ (pm_tlx htl rfl) (h _ rfl) H locs ls hH hd hS hL)
    | irem =>
      cases pm_len (n := 1) hln rfl rfl
      obtain ⟨x, y, st, rfl, h0, h⟩ := pm_sii_v hw
      exact lv_irem hx hb hdg h0 (ih _ _ _ _ _ _ (pm_tlx htl rfl) (h _ rfl) H locs ls hH hd hS hL)
    | ineg =>
      cases pm_len (n := 1) hln rfl rfl
      obtain ⟨x, st, rfl, h⟩ := pm_si_v hw
      exact lv_ineg hx hb hdg (ih _ _ _ _ _ _ (pm_tlx htl rfl) (h _ rfl) H locs ls hH hd hS hL)
    | i2l =>
      cases pm_len (n := 1) hln rfl rfl
      obtain ⟨x, st, rfl, h⟩ := pm_si_v hw
      exact lv_i2l hx hb hdg rfl (ih _ _ _ _ _ _ (pm_tlx htl rfl) h H locs ls hH hd hS hL)
    | ladd =>
      cases pm_len (n := 1) hln rfl rfl
      obtain ⟨x, y, st, rfl, h⟩ := pm_sll_v hw
      exact lv_ladd hx hb hdg (ih _ _ _ _ _ _ (pm_tlx htl rfl) h H locs ls hH hd hS hL)
    | lmul =>
      cases pm_len (n := 1) hln rfl rfl
      obtain ⟨x, y, st, rfl, h⟩ := pm_sll_v hw
      exact lv_lmul hx hb hdg (ih _ _ _ _ _ _ (pm_tlx htl rfl) h H locs ls hH hd hS hL)
    | lcmp =>
      cases pm_len (n := 1) hln rfl rfl
      obtain ⟨x, y, st, rfl, h⟩ := pm_sll_v hw
      exact W.lcmp hx hb hdg (ih _ _ _ _ _ _ (pm_tlx htl rfl) h H locs ls hH hd hS hL)
    | goto off =>
      cases pm_len (n := 3) hln rfl rfl
      simp only [pm_rs, decide_eq_true_eq] at hrs
      exact lv_goto (tgt := i) hx hb hdg hrs (hw H locs ls hH hd hS hL)
    | if_icmp cd off =>
      cases pm_len (n := 3) hln rfl rfl
      simp only [pm_rs, decide_eq_true_eq] at hrs
      cases cd with
      | eq =>
        obtain ⟨x, y, st, rfl, h⟩ := pm_sii_v hw
        exact lv_icmp_eq (tgt := i) hx hb hdg hrs (fun q => h.1 (q) H locs ls hH hd hS hL) (fun q => ih _ _ _ _ _ _ (pm_tlx htl rfl) (h.2 (q)) H locs ls hH hd hS hL)
      | ne =>
        obtain ⟨x, y, st, rfl, h⟩ := pm_sii_v hw
        exact lv_icmp_ne (tgt := i) hx hb hdg hrs (fun q => h.1 (q) H locs ls hH hd hS hL) (fun q => ih _ _ _ _ _ _ (pm_tlx htl rfl) (h.2 (q)) H locs ls hH hd hS hL)
      | lt =>
        obtain ⟨x, y, st, rfl, h⟩ := pm_sii_v hw
        exact lv_icmp_lt (tgt := i) hx hb hdg hrs (fun q => h.1 ((pm_lt _ _).mp q) H locs ls hH hd hS hL) (fun q => ih _ _ _ _ _ _ (pm_tlx htl rfl) (h.2 (by have := mt (pm_lt _ _).mpr q; omega)) H locs ls hH hd hS hL)
      | ge =>
        obtain ⟨x, y, st, rfl, h⟩ := pm_sii_v hw
        exact lv_icmp_ge (tgt := i) hx hb hdg hrs (fun q => h.1 ((pm_le _ _).mp q) H locs ls hH hd hS hL) (fun q => ih _ _ _ _ _ _ (pm_tlx htl rfl) (h.2 (by have := mt (pm_le _ _).mpr q; omega)) H locs ls hH hd hS hL)
      | gt =>
        obtain ⟨x, y, st, rfl, h⟩ := pm_sii_v hw
        exact lv_icmp_gt (tgt := i) hx hb hdg hrs (fun q => h.1 ((pm_lt _ _).mp q) H locs ls hH hd hS hL) (fun q => ih _ _ _ _ _ _ (pm_tlx htl rfl) (h.2 (by have := mt (pm_lt _ _).mpr q; omega)) H locs ls hH hd hS hL)
      | le =>
        obtain ⟨x, y, st, rfl, h⟩ := pm_sii_v hw
        exact lv_icmp_le (tgt := i) hx hb hdg hrs (fun q => h.1 ((pm_le _ _).mp q) H locs ls hH hd hS hL) (fun q => ih _ _ _ _ _ _ (pm_tlx htl rfl) (h.2 (by have := mt (pm_le _ _).mpr q; omega)) H locs ls hH hd hS hL)
    | ifCond cd off =>
      cases pm_len (n := 3) hln rfl rfl
      simp only [pm_rs, decide_eq_true_eq] at hrs
      cases cd with
      | eq =>
        obtain ⟨x, st, rfl, h⟩ := pm_si_v hw
        exact lv_if_eq (tgt := i) hx hb hdg hrs (fun q => h.1 (q) H locs ls hH hd hS hL) (fun q => ih _ _ _ _ _ _ (pm_tlx htl rfl) (h.2 (q)) H locs ls hH hd hS hL)
      | ne =>
        obtain ⟨x, st, rfl, h⟩ := pm_si_v hw
        exact lv_if_ne (tgt := i) hx hb hdg hrs (fun q => h.1 (q) H locs ls hH hd hS hL) (fun q => ih _ _ _ _ _ _ (pm_tlx htl rfl) (h.2 (q)) H locs ls hH hd hS hL)
      | lt =>
        obtain ⟨x, st, rfl, h⟩ := pm_si_v hw
        exact lv_if_lt (tgt := i) hx hb hdg hrs (fun q => h.1 ((pm_lt0 _).mp q) H locs ls hH hd hS hL) (fun q => ih _ _ _ _ _ _ (pm_tlx htl rfl) (h.2 (by have := mt (pm_lt0 _).mpr q; omega)) H locs ls hH hd hS hL)
      | ge =>
        obtain ⟨x, st, rfl, h⟩ := pm_si_v hw
        exact lv_if_ge (tgt := i) hx hb hdg hrs (fun q => h.1 ((pm_ge0 _).mp q) H locs ls hH hd hS hL) (fun q => ih _ _ _ _ _ _ (pm_tlx htl rfl) (h.2 (by have := mt (pm_ge0 _).mpr q; omega)) H locs ls hH hd hS hL)
      | gt =>
        obtain ⟨x, st, rfl, h⟩ := pm_si_v hw
        exact lv_if_gt (tgt := i) hx hb hdg hrs (fun q => h.1 ((pm_gt0 _).mp q) H locs ls hH hd hS hL) (fun q => ih _ _ _ _ _ _ (pm_tlx htl rfl) (h.2 (by have := mt (pm_gt0 _).mpr q; omega)) H locs ls hH hd hS hL)
      | le =>
        obtain ⟨x, st, rfl, h⟩ := pm_si_v hw
        exact lv_if_le (tgt := i) hx hb hdg hrs (fun q => h.1 ((pm_le0 _).mp q) H locs ls hH hd hS hL) (fun q => ih _ _ _ _ _ _ (pm_tlx htl rfl) (h.2 (by have := mt (pm_le0 _).mpr q; omega)) H locs ls hH hd hS hL)
    | ifnull off =>
      cases pm_len (n := 3) hln rfl rfl
      simp only [pm_rs, decide_eq_true_eq] at hrs
      rcases pm_srn_v hw with ⟨x, st, rfl, h⟩ | ⟨st, rfl, h⟩
      · exact lv_ifnull hx hb hdg (ih _ _ _ _ _ _ (pm_tlx htl rfl) h H locs ls hH hd hS hL)
      · exact lv_ifnullN (tgt := i) hx hb hdg hrs (h H locs ls hH hd hS hL)
    | ifnonnull off =>
      cases pm_len (n := 3) hln rfl rfl
      simp only [pm_rs, decide_eq_true_eq] at hrs
      rcases pm_srn_v hw with ⟨x, st, rfl, h⟩ | ⟨st, rfl, h⟩
      · exact lv_ifnonnull (tgt := i) hx hb hdg hrs (h H locs ls hH hd hS hL)
      · exact lv_ifnonnullN hx hb hdg (ih _ _ _ _ _ _ (pm_tlx htl rfl) h H locs ls hH hd hS hL)
    | tableswitch dflt lo hi offs =>
      simp only [pm_rs, Bool.and_eq_true, decide_eq_true_eq, List.all_eq_true] at hrs
      obtain ⟨⟨rfl, h1, h2⟩, h3⟩ := hrs
      obtain ⟨x, st, rfl, h⟩ := pm_si_v hw
      by_cases q1 : x.toInt < lo ∨ hi < x.toInt
      · exact lv_tableOut (tgt := ((pc : Int) + dflt).toNat) hx hb hdg q1 (by omega) (h _ (Or.inl ⟨q1, rfl⟩) H locs ls hH hd hS hL)
      · have q2 : ¬ x.toInt < lo := fun q => q1 (Or.inl q)
        have q3 : ¬ hi < x.toInt := fun q => q1 (Or.inr q)
        have q4 : (x.toInt - lo).toNat < offs.size := by omega
        have q5 : offs[(x.toInt - lo).toNat]? = some offs[(x.toInt - lo).toNat] := Array.getElem?_eq_getElem q4
        have q6 := h3 offs[(x.toInt - lo).toNat] (by rw [Array.mem_toList_iff]; exact Array.getElem_mem q4)
        exact lv_tableIn (tgt := ((pc : Int) + offs[(x.toInt - lo).toNat]).toNat) hx hb hdg q2 q3 q5 (by omega) (h _ (Or.inr ⟨q2, q3, _, q5, rfl⟩) H locs ls hH hd hS hL)
    | getfield idx =>
      cases pm_len (n := 3) hln rfl rfl
      simp only [pm_rs, decide_eq_true_eq] at hrs
      obtain ⟨a, st, rfl, fs, ha, h⟩ := pm_sr_v hw
      obtain ⟨v, hv, h⟩ := pm_ga_v h
      exact pm_w_get hx hb hown hts hK hH hrs ha hv hdg (ih _ _ _ _ _ _ (pm_tlx htl rfl) h H locs ls hH hd hS hL)
    | putfield idx =>
      cases pm_len (n := 3) hln rfl rfl
      simp only [pm_rs, Bool.and_eq_true, decide_eq_true_eq] at hrs
      obtain ⟨h1, h2, h3⟩ := hrs
      obtain ⟨v, a, st, rfl, fs, ha, hv, h⟩ := pm_svr_v hw
      simp only [Bool.and_eq_true] at hv
      obtain ⟨f1, f2⟩ := pm_fit h3 hv.1
      have hfa := hd a (by rw [ha]; exact fun q => by cases q)
      exact pm_w_put hx hb hown hts hK hH hin h1 h2 f1 f2 ha hv.2 hdg (fun H1 j hH1 hz oq => ih _ _ _ _ _ _ (pm_tlx htl rfl) h H1 _ ls hH1 (pm_dom_up hd hfa) (pm_S_put hS hz oq hfa) hL)
    | invokevirtual idx =>
      cases pm_len (n := 3) hln rfl rfl
      simp only [pm_rs, decide_eq_true_eq] at hrs
      obtain ⟨h1, h2, h3, h4, h5⟩ := hrs
      obtain ⟨as, b, rest, hna, rfl, ⟨fs, hb0⟩, d', mc', ms', Q', hM, hrm, h⟩ := pm_pv_v hw
      simp only [Bool.and_eq_true] at hrm
      obtain ⟨b1, b2, b3, b4⟩ := hrm
      have b1 : d' < d := by simpa using b1
      have b2 := Nat.le_of_ble_eq_true b2
      have b3 := Nat.le_of_ble_eq_true b3
      exact pm_w_callV hx hb hml hown hts hK hA hH hd hS hL.1 hM h1 h2 (hna.trans h3.symm) h5 h4 hb0 (by omega) (by omega) (by omega) (by omega) (pm_rme b4) hdg (fun rv A' H1 locs1 hq hH1 hd1 hS1 => ih _ _ _ _ _ _ (pm_tlx htl rfl) (h rv A' hq) H1 locs1 ls hH1 hd1 hS1 hL)
    | invokestatic idx =>
      cases pm_len (n := 3) hln rfl rfl
      simp only [pm_rs, decide_eq_true_eq] at hrs
      obtain ⟨h1, h2, h3⟩ := hrs
      obtain ⟨as, rest, hna, rfl, d', mc', ms', Q', hM, hrm, h⟩ := pm_ps_v hw
      simp only [Bool.and_eq_true] at hrm
      obtain ⟨b1, b2, b3, b4⟩ := hrm
      have b1 : d' < d := by simpa using b1
      have b2 := Nat.le_of_ble_eq_true b2
      have b3 := Nat.le_of_ble_eq_true b3
      exact pm_w_callS hx hb hml hown hts hK hA hH hd hS hL.1 hM h1 h2 (hna.trans h3.symm) (by omega) (by omega) (by omega) (by omega) (pm_rme b4) hdg (fun rv A' H1 locs1 hq hH1 hd1 hS1 => ih _ _ _ _ _ _ (pm_tlx htl rfl) (h rv A' hq) H1 locs1 ls hH1 hd1 hS1 hL)
    | invokespecial idx =>
      cases pm_len (n := 3) hln rfl rfl
      obtain ⟨b, rest, rfl, h⟩ := pm_sr_v hw
      replace h : pm_z0 z _ _ := h
      simp only [pm_rs] at hrs
      unfold pm_z0 at h
      rcases hz : z.toInt.toNat with _ | n0
      · rw [hz] at hrs h
        simp only [decide_eq_true_eq] at hrs
        obtain ⟨hrm, h⟩ := h
        simp only [Bool.and_eq_true] at hrm
        have b1 := Nat.le_of_ble_eq_true hrm.1
        have b4 := pm_rme hrm.2
        refine W.objInit hx hb hown (hts _ (pm_ol_ok _ hrs)) (hts _ pm_oi) (hts _ pm_oc) rfl (by rw [hml]; exact hL.1) rfl hdg (by omega) (by show 2 * 0 + _ + 12 ≤ _; omega) ?_
        exact ih _ _ _ _ _ _ (pm_tlx htl rfl) h H locs ls hH hd hS hL
      · rw [hz] at hrs h
        obtain ⟨d', mc', ms', Q', hM, hrm, h⟩ := h
        simp only [Bool.and_eq_true] at hrm
        obtain ⟨b1, b2, b3, b4⟩ := hrm
        have b1 : d' < d := by simpa using b1
        have b2 := Nat.le_of_ble_eq_true b2
        have b3 := Nat.le_of_ble_eq_true b3
        rcases n0 with _ | n0
        · simp only [decide_eq_true_eq] at hrs
          obtain ⟨h1, h2, h3⟩ := hrs
          exact pm_w_callI hx hb hml hown hts hK hA hH hd hS hL.1 hM h1 h2 h3.symm (by omega) (by omega) (by omega) (by omega) (pm_rme b4) hdg (fun rv A' H1 locs1 hq hH1 hd1 hS1 => ih _ _ _ _ _ _ (pm_tlx htl rfl) (h rv A' hq) H1 locs1 ls hH1 hd1 hS1 hL)
        · simp only [decide_eq_true_eq] at hrs
          obtain ⟨h1, h2, h3⟩ := hrs
          exact pm_w_callN hx hb hml hown hts hK hA hH hd hS hL.1 hM h1 h2 h3.symm (by omega) (by omega) (by omega) (by omega) (pm_rme b4) hdg (fun rv A' H1 locs1 hq hH1 hd1 hS1 => ih _ _ _ _ _ _ (pm_tlx htl rfl) (h rv A' hq) H1 locs1 ls hH1 hd1 hS1 hL)
    | new idx =>
      cases pm_len (n := 3) hln rfl rfl
      simp only [pm_rs, decide_eq_true_eq] at hrs
      obtain ⟨h1, rfl⟩ := hrs
      obtain ⟨hrm, h⟩ := hw
      simp only [Bool.and_eq_true] at hrm
      have b2 := Nat.le_of_ble_eq_true hrm.1
      have b3 := Nat.le_of_ble_eq_true hrm.2
      have hfz := hA H.size hS.1
      exact pm_w_new hx hb hown hts hK hH h1 (by omega) (by omega) hdg (fun H1 hH1 hz oq => ih _ _ _ _ _ _ (pm_tlx htl rfl) (h H.size (pm_hold_free hH (Nat.le_refl _))) H1 locs ls hH1 (pm_dom_up hd hfz) (pm_S_new hS (by omega) oq) hL)
    | newarray ty =>
      cases ty with
      | int =>
        cases pm_len (n := 2) hln rfl rfl
        simp only [pm_rs, decide_eq_true_eq] at hrs
        obtain ⟨n, st, rfl, rfl, hrm, h⟩ := pm_si_v hw
        simp only [Bool.and_eq_true] at hrm
        have b2 := Nat.le_of_ble_eq_true hrm.1
        have b3 := Nat.le_of_ble_eq_true hrm.2
        have hfz := hA H.size hS.1
        exact pm_w_newa hx hb hts hK hH hrs (by omega) (by omega) hdg (fun H1 hH1 hz oq => ih _ _ _ _ _ _ (pm_tlx htl rfl) (h H.size (pm_hold_free hH (Nat.le_refl _))) H1 locs ls hH1 (pm_dom_up hd hfz) (pm_S_new hS (by omega) oq) hL)
      | _ => exact False.elim hw
    | anewarray idx =>
      cases pm_len (n := 3) hln rfl rfl
      simp only [pm_rs, decide_eq_true_eq] at hrs
      obtain ⟨h1, h2⟩ := hrs
      obtain ⟨n, st, rfl, rfl, hrm, h⟩ := pm_si_v hw
      simp only [Bool.and_eq_true] at hrm
      have b2 := Nat.le_of_ble_eq_true hrm.1
      have b3 := Nat.le_of_ble_eq_true hrm.2
      have hfz := hA H.size hS.1
      exact pm_w_newq hx hb hown hts hK hH h1 h2 (by omega) (by omega) hdg (fun H1 hH1 hz oq => ih _ _ _ _ _ _ (pm_tlx htl rfl) (h H.size (pm_hold_free hH (Nat.le_refl _))) H1 locs ls hH1 (pm_dom_up hd hfz) (pm_S_new hS (by omega) oq) hL)
    | multianewarray idx dm =>
      cases pm_len (n := 4) hln rfl rfl
      simp only [pm_rs, decide_eq_true_eq] at hrs
      obtain ⟨rfl, rfl, rfl, h1, h2⟩ := hrs
      obtain ⟨n, m2, st, rfl, rfl, rfl, hrm, h⟩ := pm_sii_v hw
      simp only [Bool.and_eq_true] at hrm
      have b2 := Nat.le_of_ble_eq_true hrm.1
      have b3 := Nat.le_of_ble_eq_true hrm.2
      have hfz := hA H.size hS.1
      refine pm_w_mna hx hb hown hts hK hH h1 h2 (by omega) (by omega) hdg (fun H1 hH1 hz oq => ih _ _ _ _ _ _ (pm_tlx htl rfl) (h H.size (fun j => H.size + 1 + j) (pm_hold_free hH (Nat.le_refl _)) (fun j _ => pm_hold_free hH (by omega)) (fun j _ => by omega) (fun x y _ _ q => by omega)) H1 locs ls hH1 (fun q hq => ?_) (pm_S_new hS hz oq) hL)
      unfold pm_upm at hq
      by_cases q1 : q = H.size
      · rw [q1]; exact hfz
      · rw [if_neg q1] at hq
        by_cases q2 : ∃ j, j < i ∧ q = H.size + 1 + j
        · obtain ⟨j, -, rfl⟩ := q2
          exact hA _ (by have := hS.1; omega)
        · rw [if_neg q2] at hq
          exact hd q hq
    | ireturn =>
      cases pm_len (n := 1) hln rfl rfl
      simp only [pm_rs, decide_eq_true_eq] at hrs
      obtain ⟨v, st, rfl, rfl, h1, h⟩ := pm_si_v hw
      refine hret (some (.int v)) A cells slots H locs ls pc .ireturn h hH hd hS hdg (Or.inl ⟨rfl, v, rfl, ?_⟩)
      rcases hrs with ⟨-, q⟩ | ⟨q0, q⟩
      · exact Or.inl q
      · exact Or.inr ⟨q, h1 q0⟩
    | lreturn =>
      cases pm_len (n := 1) hln rfl rfl
      simp only [pm_rs, decide_eq_true_eq] at hrs
      obtain ⟨v, st, rfl, rfl, h⟩ := pm_sl_v hw
      exact hret (some (.long v)) A cells slots H locs ls pc .lreturn h hH hd hS hdg (Or.inr (Or.inl ⟨rfl, hrs, v, rfl⟩))
    | areturn =>
      cases pm_len (n := 1) hln rfl rfl
      have hrt : ∃ n, ret = some (.object n) := by
        simp only [pm_rs] at hrs
        split at hrs
        · exact ⟨_, rfl⟩
        · cases hrs
      rcases pm_srn_v hw with ⟨v, st, rfl, rfl, h⟩ | ⟨st, rfl, rfl, h⟩
      · exact hret (some (.ref v)) A cells slots H locs ls pc .areturn h hH hd hS hdg (Or.inr (Or.inr (Or.inl ⟨rfl, hrt, _, rfl, Or.inr ⟨v, rfl⟩⟩)))
      · exact hret (some .null) A cells slots H locs ls pc .areturn h hH hd hS hdg (Or.inr (Or.inr (Or.inl ⟨rfl, hrt, _, rfl, Or.inl rfl⟩)))
    | return_ =>
      cases pm_len (n := 1) hln rfl rfl
      simp only [pm_rs, decide_eq_true_eq] at hrs
      obtain ⟨rfl, h⟩ := hw
      exact hret none A cells slots H locs ls pc .return_ h hH hd hS hdg (Or.inr (Or.inr (Or.inr ⟨rfl, hrs, rfl⟩)))
    | _ => exact False.elim hw
end
section
/-! a method's contract out of a walk of its blocks: the walk speaks of any J that its blocks close -/
noncomputable abbrev pm_B : Type := List (Nat × List pm_Op × Nat)
noncomputable def pm_oks (own : Nat) (isI : Bool) (mx : Nat) (rt : Option FieldType) (cc : ByteArray) (b : pm_B) : Bool := b.all (fun q => pm_ok own mx isI rt cc q.2.2 q.1 q.2.1)
noncomputable def pm_Rq (mc ms : Nat) (Q : Option Value → pm_H → Prop) : Option Value → pm_H → Nat → Nat → Prop := fun v A c s => (Nat.ble c mc && Nat.ble s ms) = true ∧ Q v A
noncomputable def pm_Cl (l : Launch) (g : pm_G) (ro : Nat → Option (Nat × (Nat → Int32))) (d mc ms : Nat) (Ret : Option Value → pm_H → Nat → Nat → Prop) (b : pm_B) (J : pm_J) : Prop := (∀ (k pc : Nat) (ops : List pm_Op) (fin : Nat), b[k]? = some (pc, ops, fin) → ∀ (L : pm_L) (st : List Value) (A : pm_H) (c s : Nat), pm_wp l g ro d mc ms Ret J fin ops L st A c s → J pc L st A c s) ∧ ∀ (bs : List Bool) (pc : Nat) (L : pm_L) (st : List Value) (A : pm_H) (c s : Nat), J pc (pm_mask bs L) st A c s → J pc L st A c s
noncomputable def pm_cat (mx : Nat) (as : List Value) : Bool := as.all (fun v => Nat.beq v.category 1) && Nat.ble as.length mx
theorem pm_sl_len : ∀ (as : List Value), (∀ v ∈ as, v.category = 1) → (lg_sl as).length = as.length
  | [], _ => rfl
  | v :: r, h => by
    have h1 : ¬ v.category = 2 := by rw [h v List.mem_cons_self]; omega
    have h2 := pm_sl_len r (fun x hx => h x (List.mem_cons_of_mem _ hx))
    simp only [lg_sl, List.flatMap_cons, if_neg h1, List.length_append, List.length_cons, List.length_nil] at h2 ⊢
    omega
set_option maxHeartbeats 4000000 in
theorem pm_Mt_of {l : Launch} {g : pm_G} {n d mc ms : Nat} {as : List Value} {A : pm_H} {Q : Option Value → pm_H → Prop} {y : MethodName} {cc : ByteArray} {mx na kd : Nat} {rt : Option FieldType} {isI : Bool} (own : Nat) (b : pm_B) (he : pm_me n = (y, cc, mx, rt, na, kd)) (hp : plainFor y = true) (hcl : pm_nm own = y.cls) (hI : isI = true → y.name = "<init>") (hok : pm_oks own isI mx rt cc b = true) (hca : pm_cat mx as = true)
    (body : ∀ J : pm_J, pm_Cl l g (fun _ => none) d mc ms (pm_Rq mc ms Q) b J → J 0 (pm_l0 mx as) [] A 0 0) : pm_Mt l g n d mc ms as A Q := by
  intro sz
  have hws : pm_ws n = .code y cc mx rt :: pm_W := by unfold pm_ws; rw [he]
  have hme : (pm_me n).1 = y := by rw [he]
  rw [hws, hme]
  simp only [pm_cat, Bool.and_eq_true, List.all_eq_true] at hca
  have hca1 : ∀ v ∈ as, v.category = 1 := fun v hv => Nat.eq_of_beq_eq_true (hca.1 v hv)
  have hca2 : as.length ≤ mx := Nat.le_of_ble_eq_true hca.2
  refine MetFree.of_bodySF (code := cc) (maxLocals := mx) (ret := rt) hp ?_ ?_
  · intro args s m h hn
    obtain ⟨meth, c, h1, h2, h3, h4, h5, h6, -, -⟩ := Cond.code_spec hn (atoms_spec (ws := .code y cc mx rt :: pm_W) h _ List.mem_cons_self)
    exact ⟨meth, c, h1, h2, h3, h4, h5, h6⟩
  · intro p e s m args below meth c s₁ B hml hP _
    obtain ⟨rfl, hsz, hH, hK⟩ := hP
    subst hsz
    have hh0 : s₁.heap = s.heap := by rw [B.state]; rfl
    have hts0 := atoms_spec (ws := .code y cc mx rt :: pm_W) B.pre
    have hts : ∀ w ∈ pm_W, w.before as.toArray s = true := fun w hw => hts0 w (List.mem_cons_of_mem _ hw)
    have hown : s.vm.findClass (pm_nm own) = some m.cls := by rw [hcl]; exact findClass_of_methodNamed B.named
    have hin : isI = true → meth.name = "<init>" := fun h => ((name_of_methodNamed B.named B.method).1).trans (hI h)
    have hr := B.returns
    have hlocks := B.notSynchronized
    have C : pm_Cx p l e ({ frames := d, cells := mc, slots := ms, locals := 40 * d }) s m as.toArray below meth c (MQ below (pm_Qc g A s.heap.size Q) as.toArray s mc ms (pm_fr A s.heap.size)) g own mx isI rt cc (fun _ => none) d mc ms (pm_Rq mc ms Q) (pm_fr A s.heap.size) := by
      refine ⟨B.exec, B.bytes, hml, hown, hts, hK, fun q h => Or.inr h, fun b n f h => (by cases h), hin, ⟨Nat.le_refl _, Nat.le_refl _, Nat.le_refl _, Nat.le_refl _⟩, ?_⟩
      intro v A' cells slots H locs ls pc ins hR hH' hd' hS' hdg hk
      obtain ⟨hcs, hQ⟩ := hR
      simp only [Bool.and_eq_true] at hcs
      refine W.widen (Nat.le_of_ble_eq_true hcs.1) (Nat.le_of_ble_eq_true hcs.2) ?_
      have hq : ∀ t : State, t.heap = H → pm_Qc g A s.heap.size Q as.toArray s (.returned v) t := fun t ht => ⟨v, A', rfl, hQ, by rw [ht]; exact hH', hd', by rw [ht]; exact hS'.1, fun q h1 h2 => by rw [ht]; exact hS'.2.1 q h1 h2⟩
      rcases hk with ⟨rfl, x, rfl, hrt | ⟨hrt, hx01⟩⟩ | ⟨rfl, hrt, x, rfl⟩ | ⟨rfl, ⟨nm, hrt⟩, w, rfl, hw⟩ | ⟨rfl, hrt, rfl⟩
      · subst hrt
        exact W.iret B.exec B.bytes hr (fun t ht _ => hq t ht) hS'.2.2 hdg
      · subst hrt
        exact W.zret B.exec B.bytes hr (by rcases hx01 with rfl | rfl <;> rfl) (fun t ht _ => hq t ht) hS'.2.2 hdg
      · subst hrt
        exact W.lret B.exec B.bytes hr (fun t ht _ => hq t ht) hS'.2.2 hdg
      · subst hrt
        exact W.aret B.exec B.bytes hr (Or.inl ⟨nm, rfl⟩) hw (fun t ht _ => hq t ht) hS'.2.2 hdg
      · subst hrt
        exact W.vret B.exec B.bytes hr (fun t ht _ => hq t ht) hS'.2.2 hdg
    have K := body _ ⟨fun k pc ops fin hk L st A' c' s' h => pm_sound C fin ops pc L st A' c' s' (by
      simp only [pm_oks, List.all_eq_true] at hok
      exact hok _ (List.mem_of_getElem? hk)) h, fun bs pc L st A' c' s' h H locs ls a1 a2 a3 a4 => h H locs ls a1 a2 a3 (pm_lv_mask bs a4)⟩
    have hl := lv_entry as (n := mx) (by rw [pm_sl_len as hca1]; exact hca2)
    have K2 := K s.heap [] _ hH (fun q h => Or.inl h) va_S.rf (pm_lv_l0 hca1 hl)
    rw [← lg_entry_eq] at K2
    obtain ⟨t, a1, o, b1, b2, b3⟩ := K2 s₁ hh0 (Stand.of_body B)
    exact ⟨t, o, a1, b1, b2, b3.1, b3.2⟩
end
section
/-! blocks checked byte by byte: a byte or three of the code tell the instruction -/
noncomputable def f1_ (n : Nat) (bs : List UInt8) : Bool := match bs with
  | b :: _ => b.toNat == n
  | [] => false
noncomputable def f2_ (n : Nat) (g : Nat → Bool) (bs : List UInt8) : Bool := match bs with
  | b :: x :: _ => b.toNat == n && g x.toNat
  | _ => false
noncomputable def f3_ (n : Nat) (g : Nat → Nat → Bool) (bs : List UInt8) : Bool := match bs with
  | b :: x :: y :: _ => b.toNat == n && g x.toNat y.toNat
  | _ => false
theorem rd_b {α β : Type} {r : Decoder α} {f : α → Decoder β} {A : ByteArray} {p p2 : Nat} {a : α} (h : r.runAt A p = .ok (a, p2)) : (r >>= f).runAt A p = (f a).runAt A p2 := by
  have h2 : r A p = .ok (a, p2) := h
  show Except.bind (r A p) _ = _
  rw [h2]
  rfl
theorem rd_m {α β : Type} {r : Decoder α} {f : α → β} {A : ByteArray} {p p2 : Nat} {a : α} (h : r.runAt A p = .ok (a, p2)) : ((f <$> r : Decoder β)).runAt A p = .ok (f a, p2) := by
  have h2 : r A p = .ok (a, p2) := h
  show Except.bind (r A p) _ = _
  rw [h2]
  rfl
theorem rd_1 {A : ByteArray} {p : Nat} {b : UInt8} {t : List UInt8} (h : A.data.toList.drop p = b :: t) : (Reader.u1 : Decoder Nat).runAt A p = .ok (b.toNat, p + 1) := by
  have h1 : p < A.data.toList.length := by
    by_cases q : p < A.data.toList.length
    · exact q
    · rw [List.drop_eq_nil_of_le (by omega)] at h
      exact absurd h (by simp)
  have h2 : p < A.size := by
    have : A.data.toList.length = A.size := rfl
    omega
  have h3 : A[p] = b := by
    have h4 := List.drop_eq_getElem_cons h1
    rw [h] at h4
    have h5 : b = A.data.toList[p] := (List.cons.inj h4).1
    rw [h5]
    rfl
  have e : (Reader.u1 : Decoder Nat) A p = (dite (p < A.size) (fun h => ((do set (p + 1); pure (A[p]'h).toNat) : Decoder Nat)) (fun _ => throw (HasTruncated.truncated p))) A p := rfl
  show (Reader.u1 : Decoder Nat) A p = _
  rw [e, dif_pos h2]
  show Except.ok ((A[p]'h2).toNat, p + 1) = _
  rw [h3]
theorem rd_n {A : ByteArray} {p : Nat} {b : UInt8} {t : List UInt8} (h : A.data.toList.drop p = b :: t) : A.data.toList.drop (p + 1) = t := by
  rw [← List.drop_drop, h]
  rfl
theorem f1_ok {A : ByteArray} {p n : Nat} (h : f1_ n (A.data.toList.drop p) = true) : (Reader.u1 : Decoder Nat).runAt A p = .ok (n, p + 1) := by
  cases e : A.data.toList.drop p with
  | nil => rw [e] at h; exact absurd (show false = true from h) (by decide)
  | cons b t =>
    rw [e] at h
    have h1 : b.toNat = n := eq_of_beq h
    rw [← h1]
    exact rd_1 e
theorem f2_ok {A : ByteArray} {p n : Nat} {g : Nat → Bool} (h : f2_ n g (A.data.toList.drop p) = true) : ∃ x : Nat, (Reader.u1 : Decoder Nat).runAt A p = .ok (n, p + 1) ∧ (Reader.u1 : Decoder Nat).runAt A (p + 1) = .ok (x, p + 2) ∧ g x = true := by
  rcases e : A.data.toList.drop p with _ | ⟨b, _ | ⟨x, t⟩⟩
  · rw [e] at h; exact absurd (show false = true from h) (by decide)
  · rw [e] at h; exact absurd (show false = true from h) (by decide)
  · rw [e] at h
    have h1 := Bool.and_eq_true_iff.mp h
    have h2 : b.toNat = n := eq_of_beq h1.1
    refine ⟨x.toNat, ?_, rd_1 (rd_n e), h1.2⟩
    rw [← h2]
    exact rd_1 e
theorem f3_ok {A : ByteArray} {p n : Nat} {g : Nat → Nat → Bool} (h : f3_ n g (A.data.toList.drop p) = true) : ∃ x y : Nat, (Reader.u1 : Decoder Nat).runAt A p = .ok (n, p + 1) ∧ (Reader.u1 : Decoder Nat).runAt A (p + 1) = .ok (x, p + 2) ∧ (Reader.u1 : Decoder Nat).runAt A (p + 2) = .ok (y, p + 3) ∧ g x y = true := by
  rcases e : A.data.toList.drop p with _ | ⟨b, _ | ⟨x, _ | ⟨y, t⟩⟩⟩
  · rw [e] at h; exact absurd (show false = true from h) (by decide)
  · rw [e] at h; exact absurd (show false = true from h) (by decide)
  · rw [e] at h; exact absurd (show false = true from h) (by decide)
  · rw [e] at h
    have h1 := Bool.and_eq_true_iff.mp h
    have h2 : b.toNat = n := eq_of_beq h1.1
    refine ⟨x.toNat, y.toNat, ?_, rd_1 (rd_n e), rd_1 (rd_n (rd_n e)), h1.2⟩
    rw [← h2]
    exact rd_1 e
theorem rd_u2 {A : ByteArray} {p x y : Nat} (h1 : (Reader.u1 : Decoder Nat).runAt A p = .ok (x, p + 1)) (h2 : (Reader.u1 : Decoder Nat).runAt A (p + 1) = .ok (y, p + 2)) : (Reader.u2 : Decoder Nat).runAt A p = .ok (x * 256 + y, p + 2) := (rd_b h1).trans ((rd_b h2).trans rfl)
theorem rd_s2 {A : ByteArray} {p x y : Nat} (h1 : (Reader.u1 : Decoder Nat).runAt A p = .ok (x, p + 1)) (h2 : (Reader.u1 : Decoder Nat).runAt A (p + 1) = .ok (y, p + 2)) : (Reader.s2 : Decoder Int).runAt A p = .ok (Reader.signed 16 (x * 256 + y), p + 2) := rd_m (rd_u2 h1 h2)
theorem rd_s1 {A : ByteArray} {p x : Nat} (h1 : (Reader.u1 : Decoder Nat).runAt A p = .ok (x, p + 1)) : (Reader.s1 : Decoder Int).runAt A p = .ok (Reader.signed 8 x, p + 1) := rd_m h1
theorem dec_of {A : ByteArray} {pc n : Nat} {ins : Instr} (h : (Decoder.instr pc).runAt A pc = .ok (ins, pc + n)) : decode A pc = .ok (ins, n) := by
  unfold decode
  rw [h]
  show Except.ok (ins, pc + n - pc) = _
  rw [Nat.add_sub_cancel_left]
theorem d1_1 {A : ByteArray} {pc : Nat} (h : f1_ 1 (A.data.toList.drop pc) = true) : decode A pc = .ok (.aconst_null, 1) := dec_of ((rd_b (f1_ok h)).trans rfl)
theorem d1_2 {A : ByteArray} {pc : Nat} (h : f1_ 2 (A.data.toList.drop pc) = true) : decode A pc = .ok (.iconst (-1), 1) := dec_of ((rd_b (f1_ok h)).trans rfl)
theorem d1_3 {A : ByteArray} {pc : Nat} (h : f1_ 3 (A.data.toList.drop pc) = true) : decode A pc = .ok (.iconst (0), 1) := dec_of ((rd_b (f1_ok h)).trans rfl)
theorem d1_4 {A : ByteArray} {pc : Nat} (h : f1_ 4 (A.data.toList.drop pc) = true) : decode A pc = .ok (.iconst (1), 1) := dec_of ((rd_b (f1_ok h)).trans rfl)
theorem d1_5 {A : ByteArray} {pc : Nat} (h : f1_ 5 (A.data.toList.drop pc) = true) : decode A pc = .ok (.iconst (2), 1) := dec_of ((rd_b (f1_ok h)).trans rfl)
theorem d1_6 {A : ByteArray} {pc : Nat} (h : f1_ 6 (A.data.toList.drop pc) = true) : decode A pc = .ok (.iconst (3), 1) := dec_of ((rd_b (f1_ok h)).trans rfl)
theorem d1_7 {A : ByteArray} {pc : Nat} (h : f1_ 7 (A.data.toList.drop pc) = true) : decode A pc = .ok (.iconst (4), 1) := dec_of ((rd_b (f1_ok h)).trans rfl)
theorem d1_8 {A : ByteArray} {pc : Nat} (h : f1_ 8 (A.data.toList.drop pc) = true) : decode A pc = .ok (.iconst (5), 1) := dec_of ((rd_b (f1_ok h)).trans rfl)
theorem d1_26 {A : ByteArray} {pc : Nat} (h : f1_ 26 (A.data.toList.drop pc) = true) : decode A pc = .ok (.iload_n 0, 1) := dec_of ((rd_b (f1_ok h)).trans rfl)
theorem d1_27 {A : ByteArray} {pc : Nat} (h : f1_ 27 (A.data.toList.drop pc) = true) : decode A pc = .ok (.iload_n 1, 1) := dec_of ((rd_b (f1_ok h)).trans rfl)
theorem d1_28 {A : ByteArray} {pc : Nat} (h : f1_ 28 (A.data.toList.drop pc) = true) : decode A pc = .ok (.iload_n 2, 1) := dec_of ((rd_b (f1_ok h)).trans rfl)
theorem d1_29 {A : ByteArray} {pc : Nat} (h : f1_ 29 (A.data.toList.drop pc) = true) : decode A pc = .ok (.iload_n 3, 1) := dec_of ((rd_b (f1_ok h)).trans rfl)
theorem d1_42 {A : ByteArray} {pc : Nat} (h : f1_ 42 (A.data.toList.drop pc) = true) : decode A pc = .ok (.aload_n 0, 1) := dec_of ((rd_b (f1_ok h)).trans rfl)
theorem d1_43 {A : ByteArray} {pc : Nat} (h : f1_ 43 (A.data.toList.drop pc) = true) : decode A pc = .ok (.aload_n 1, 1) := dec_of ((rd_b (f1_ok h)).trans rfl)
theorem d1_44 {A : ByteArray} {pc : Nat} (h : f1_ 44 (A.data.toList.drop pc) = true) : decode A pc = .ok (.aload_n 2, 1) := dec_of ((rd_b (f1_ok h)).trans rfl)
theorem d1_45 {A : ByteArray} {pc : Nat} (h : f1_ 45 (A.data.toList.drop pc) = true) : decode A pc = .ok (.aload_n 3, 1) := dec_of ((rd_b (f1_ok h)).trans rfl)
theorem d1_46 {A : ByteArray} {pc : Nat} (h : f1_ 46 (A.data.toList.drop pc) = true) : decode A pc = .ok (.iaload, 1) := dec_of ((rd_b (f1_ok h)).trans rfl)
theorem d1_50 {A : ByteArray} {pc : Nat} (h : f1_ 50 (A.data.toList.drop pc) = true) : decode A pc = .ok (.aaload, 1) := dec_of ((rd_b (f1_ok h)).trans rfl)
theorem d1_59 {A : ByteArray} {pc : Nat} (h : f1_ 59 (A.data.toList.drop pc) = true) : decode A pc = .ok (.istore_n 0, 1) := dec_of ((rd_b (f1_ok h)).trans rfl)
theorem d1_60 {A : ByteArray} {pc : Nat} (h : f1_ 60 (A.data.toList.drop pc) = true) : decode A pc = .ok (.istore_n 1, 1) := dec_of ((rd_b (f1_ok h)).trans rfl)
theorem d1_61 {A : ByteArray} {pc : Nat} (h : f1_ 61 (A.data.toList.drop pc) = true) : decode A pc = .ok (.istore_n 2, 1) := dec_of ((rd_b (f1_ok h)).trans rfl)
theorem d1_62 {A : ByteArray} {pc : Nat} (h : f1_ 62 (A.data.toList.drop pc) = true) : decode A pc = .ok (.istore_n 3, 1) := dec_of ((rd_b (f1_ok h)).trans rfl)
theorem d1_75 {A : ByteArray} {pc : Nat} (h : f1_ 75 (A.data.toList.drop pc) = true) : decode A pc = .ok (.astore_n 0, 1) := dec_of ((rd_b (f1_ok h)).trans rfl)
theorem d1_76 {A : ByteArray} {pc : Nat} (h : f1_ 76 (A.data.toList.drop pc) = true) : decode A pc = .ok (.astore_n 1, 1) := dec_of ((rd_b (f1_ok h)).trans rfl)
theorem d1_77 {A : ByteArray} {pc : Nat} (h : f1_ 77 (A.data.toList.drop pc) = true) : decode A pc = .ok (.astore_n 2, 1) := dec_of ((rd_b (f1_ok h)).trans rfl)
theorem d1_78 {A : ByteArray} {pc : Nat} (h : f1_ 78 (A.data.toList.drop pc) = true) : decode A pc = .ok (.astore_n 3, 1) := dec_of ((rd_b (f1_ok h)).trans rfl)
theorem d1_79 {A : ByteArray} {pc : Nat} (h : f1_ 79 (A.data.toList.drop pc) = true) : decode A pc = .ok (.iastore, 1) := dec_of ((rd_b (f1_ok h)).trans rfl)
theorem d1_83 {A : ByteArray} {pc : Nat} (h : f1_ 83 (A.data.toList.drop pc) = true) : decode A pc = .ok (.aastore, 1) := dec_of ((rd_b (f1_ok h)).trans rfl)
theorem d1_87 {A : ByteArray} {pc : Nat} (h : f1_ 87 (A.data.toList.drop pc) = true) : decode A pc = .ok (.pop, 1) := dec_of ((rd_b (f1_ok h)).trans rfl)
theorem d1_88 {A : ByteArray} {pc : Nat} (h : f1_ 88 (A.data.toList.drop pc) = true) : decode A pc = .ok (.pop2, 1) := dec_of ((rd_b (f1_ok h)).trans rfl)
theorem d1_89 {A : ByteArray} {pc : Nat} (h : f1_ 89 (A.data.toList.drop pc) = true) : decode A pc = .ok (.dup, 1) := dec_of ((rd_b (f1_ok h)).trans rfl)
theorem d1_92 {A : ByteArray} {pc : Nat} (h : f1_ 92 (A.data.toList.drop pc) = true) : decode A pc = .ok (.dup2, 1) := dec_of ((rd_b (f1_ok h)).trans rfl)
theorem d1_96 {A : ByteArray} {pc : Nat} (h : f1_ 96 (A.data.toList.drop pc) = true) : decode A pc = .ok (.iadd, 1) := dec_of ((rd_b (f1_ok h)).trans rfl)
theorem d1_100 {A : ByteArray} {pc : Nat} (h : f1_ 100 (A.data.toList.drop pc) = true) : decode A pc = .ok (.isub, 1) := dec_of ((rd_b (f1_ok h)).trans rfl)
theorem d1_104 {A : ByteArray} {pc : Nat} (h : f1_ 104 (A.data.toList.drop pc) = true) : decode A pc = .ok (.imul, 1) := dec_of ((rd_b (f1_ok h)).trans rfl)
theorem d1_108 {A : ByteArray} {pc : Nat} (h : f1_ 108 (A.data.toList.drop pc) = true) : decode A pc = .ok (.idiv, 1) := dec_of ((rd_b (f1_ok h)).trans rfl)
theorem d1_112 {A : ByteArray} {pc : Nat} (h : f1_ 112 (A.data.toList.drop pc) = true) : decode A pc = .ok (.irem, 1) := dec_of ((rd_b (f1_ok h)).trans rfl)
theorem d1_116 {A : ByteArray} {pc : Nat} (h : f1_ 116 (A.data.toList.drop pc) = true) : decode A pc = .ok (.ineg, 1) := dec_of ((rd_b (f1_ok h)).trans rfl)
theorem d1_120 {A : ByteArray} {pc : Nat} (h : f1_ 120 (A.data.toList.drop pc) = true) : decode A pc = .ok (.ishl, 1) := dec_of ((rd_b (f1_ok h)).trans rfl)
theorem d1_122 {A : ByteArray} {pc : Nat} (h : f1_ 122 (A.data.toList.drop pc) = true) : decode A pc = .ok (.ishr, 1) := dec_of ((rd_b (f1_ok h)).trans rfl)
theorem d1_124 {A : ByteArray} {pc : Nat} (h : f1_ 124 (A.data.toList.drop pc) = true) : decode A pc = .ok (.iushr, 1) := dec_of ((rd_b (f1_ok h)).trans rfl)
theorem d1_126 {A : ByteArray} {pc : Nat} (h : f1_ 126 (A.data.toList.drop pc) = true) : decode A pc = .ok (.iand, 1) := dec_of ((rd_b (f1_ok h)).trans rfl)
theorem d1_128 {A : ByteArray} {pc : Nat} (h : f1_ 128 (A.data.toList.drop pc) = true) : decode A pc = .ok (.ior, 1) := dec_of ((rd_b (f1_ok h)).trans rfl)
theorem d1_130 {A : ByteArray} {pc : Nat} (h : f1_ 130 (A.data.toList.drop pc) = true) : decode A pc = .ok (.ixor, 1) := dec_of ((rd_b (f1_ok h)).trans rfl)
theorem d1_133 {A : ByteArray} {pc : Nat} (h : f1_ 133 (A.data.toList.drop pc) = true) : decode A pc = .ok (.i2l, 1) := dec_of ((rd_b (f1_ok h)).trans rfl)
theorem d1_148 {A : ByteArray} {pc : Nat} (h : f1_ 148 (A.data.toList.drop pc) = true) : decode A pc = .ok (.lcmp, 1) := dec_of ((rd_b (f1_ok h)).trans rfl)
theorem d1_172 {A : ByteArray} {pc : Nat} (h : f1_ 172 (A.data.toList.drop pc) = true) : decode A pc = .ok (.ireturn, 1) := dec_of ((rd_b (f1_ok h)).trans rfl)
theorem d1_173 {A : ByteArray} {pc : Nat} (h : f1_ 173 (A.data.toList.drop pc) = true) : decode A pc = .ok (.lreturn, 1) := dec_of ((rd_b (f1_ok h)).trans rfl)
theorem d1_176 {A : ByteArray} {pc : Nat} (h : f1_ 176 (A.data.toList.drop pc) = true) : decode A pc = .ok (.areturn, 1) := dec_of ((rd_b (f1_ok h)).trans rfl)
theorem d1_177 {A : ByteArray} {pc : Nat} (h : f1_ 177 (A.data.toList.drop pc) = true) : decode A pc = .ok (.return_, 1) := dec_of ((rd_b (f1_ok h)).trans rfl)
theorem d1_190 {A : ByteArray} {pc : Nat} (h : f1_ 190 (A.data.toList.drop pc) = true) : decode A pc = .ok (.arraylength, 1) := dec_of ((rd_b (f1_ok h)).trans rfl)
theorem d2_21 {A : ByteArray} {pc : Nat} {i : Nat} (h : f2_ 21 (fun x => x == i) (A.data.toList.drop pc) = true) : decode A pc = .ok (.iload i, 2) := by
  obtain ⟨x, h1, h2, h3⟩ := f2_ok h
  have e : x = i := eq_of_beq h3
  subst e
  exact dec_of ((rd_b h1).trans ((rd_b h2).trans rfl))
theorem d2_25 {A : ByteArray} {pc : Nat} {i : Nat} (h : f2_ 25 (fun x => x == i) (A.data.toList.drop pc) = true) : decode A pc = .ok (.aload i, 2) := by
  obtain ⟨x, h1, h2, h3⟩ := f2_ok h
  have e : x = i := eq_of_beq h3
  subst e
  exact dec_of ((rd_b h1).trans ((rd_b h2).trans rfl))
theorem d2_54 {A : ByteArray} {pc : Nat} {i : Nat} (h : f2_ 54 (fun x => x == i) (A.data.toList.drop pc) = true) : decode A pc = .ok (.istore i, 2) := by
  obtain ⟨x, h1, h2, h3⟩ := f2_ok h
  have e : x = i := eq_of_beq h3
  subst e
  exact dec_of ((rd_b h1).trans ((rd_b h2).trans rfl))
theorem d2_58 {A : ByteArray} {pc : Nat} {i : Nat} (h : f2_ 58 (fun x => x == i) (A.data.toList.drop pc) = true) : decode A pc = .ok (.astore i, 2) := by
  obtain ⟨x, h1, h2, h3⟩ := f2_ok h
  have e : x = i := eq_of_beq h3
  subst e
  exact dec_of ((rd_b h1).trans ((rd_b h2).trans rfl))
theorem d2_18 {A : ByteArray} {pc : Nat} {i : Nat} (h : f2_ 18 (fun x => x == i) (A.data.toList.drop pc) = true) : decode A pc = .ok (.ldc i, 2) := by
  obtain ⟨x, h1, h2, h3⟩ := f2_ok h
  have e : x = i := eq_of_beq h3
  subst e
  exact dec_of ((rd_b h1).trans ((rd_b h2).trans rfl))
theorem d2_16 {A : ByteArray} {pc : Nat} {z : Int} (h : f2_ 16 (fun x => decide (Reader.signed 8 x = z)) (A.data.toList.drop pc) = true) : decode A pc = .ok (.bipush z, 2) := by
  obtain ⟨x, h1, h2, h3⟩ := f2_ok h
  have e := of_decide_eq_true h3
  subst e
  exact dec_of ((rd_b h1).trans ((rd_b (rd_s1 h2)).trans rfl))
theorem d3_132 {A : ByteArray} {pc : Nat} {i : Nat} {z : Int} (h : f3_ 132 (fun x y => x == i && decide (Reader.signed 8 y = z)) (A.data.toList.drop pc) = true) : decode A pc = .ok (.iinc i z, 3) := by
  obtain ⟨x, y, h1, h2, h3, h4⟩ := f3_ok h
  have h5 := Bool.and_eq_true_iff.mp h4
  have e : x = i := eq_of_beq h5.1
  have e2 := of_decide_eq_true h5.2
  subst e e2
  exact dec_of ((rd_b h1).trans ((rd_b h2).trans ((rd_b (rd_s1 h3)).trans rfl)))
theorem d3_180 {A : ByteArray} {pc : Nat} {i : Nat} (h : f3_ 180 (fun x y => x * 256 + y == i) (A.data.toList.drop pc) = true) : decode A pc = .ok (.getfield i, 3) := by
  obtain ⟨x, y, h1, h2, h3, h4⟩ := f3_ok h
  have e : x * 256 + y = i := eq_of_beq h4
  subst e
  exact dec_of ((rd_b h1).trans ((rd_b (rd_u2 h2 h3)).trans rfl))
theorem d3_181 {A : ByteArray} {pc : Nat} {i : Nat} (h : f3_ 181 (fun x y => x * 256 + y == i) (A.data.toList.drop pc) = true) : decode A pc = .ok (.putfield i, 3) := by
  obtain ⟨x, y, h1, h2, h3, h4⟩ := f3_ok h
  have e : x * 256 + y = i := eq_of_beq h4
  subst e
  exact dec_of ((rd_b h1).trans ((rd_b (rd_u2 h2 h3)).trans rfl))
theorem d3_182 {A : ByteArray} {pc : Nat} {i : Nat} (h : f3_ 182 (fun x y => x * 256 + y == i) (A.data.toList.drop pc) = true) : decode A pc = .ok (.invokevirtual i, 3) := by
  obtain ⟨x, y, h1, h2, h3, h4⟩ := f3_ok h
  have e : x * 256 + y = i := eq_of_beq h4
  subst e
  exact dec_of ((rd_b h1).trans ((rd_b (rd_u2 h2 h3)).trans rfl))
theorem d3_183 {A : ByteArray} {pc : Nat} {i : Nat} (h : f3_ 183 (fun x y => x * 256 + y == i) (A.data.toList.drop pc) = true) : decode A pc = .ok (.invokespecial i, 3) := by
  obtain ⟨x, y, h1, h2, h3, h4⟩ := f3_ok h
  have e : x * 256 + y = i := eq_of_beq h4
  subst e
  exact dec_of ((rd_b h1).trans ((rd_b (rd_u2 h2 h3)).trans rfl))
theorem d3_184 {A : ByteArray} {pc : Nat} {i : Nat} (h : f3_ 184 (fun x y => x * 256 + y == i) (A.data.toList.drop pc) = true) : decode A pc = .ok (.invokestatic i, 3) := by
  obtain ⟨x, y, h1, h2, h3, h4⟩ := f3_ok h
  have e : x * 256 + y = i := eq_of_beq h4
  subst e
  exact dec_of ((rd_b h1).trans ((rd_b (rd_u2 h2 h3)).trans rfl))
theorem d3_187 {A : ByteArray} {pc : Nat} {i : Nat} (h : f3_ 187 (fun x y => x * 256 + y == i) (A.data.toList.drop pc) = true) : decode A pc = .ok (.new i, 3) := by
  obtain ⟨x, y, h1, h2, h3, h4⟩ := f3_ok h
  have e : x * 256 + y = i := eq_of_beq h4
  subst e
  exact dec_of ((rd_b h1).trans ((rd_b (rd_u2 h2 h3)).trans rfl))
theorem d3_167 {A : ByteArray} {pc : Nat} {z : Int} (h : f3_ 167 (fun x y => decide (Reader.signed 16 (x * 256 + y) = z)) (A.data.toList.drop pc) = true) : decode A pc = .ok (.goto z, 3) := by
  obtain ⟨x, y, h1, h2, h3, h4⟩ := f3_ok h
  have e := of_decide_eq_true h4
  subst e
  exact dec_of ((rd_b h1).trans ((rd_b (rd_s2 h2 h3)).trans rfl))
theorem d3_198 {A : ByteArray} {pc : Nat} {z : Int} (h : f3_ 198 (fun x y => decide (Reader.signed 16 (x * 256 + y) = z)) (A.data.toList.drop pc) = true) : decode A pc = .ok (.ifnull z, 3) := by
  obtain ⟨x, y, h1, h2, h3, h4⟩ := f3_ok h
  have e := of_decide_eq_true h4
  subst e
  exact dec_of ((rd_b h1).trans ((rd_b (rd_s2 h2 h3)).trans rfl))
theorem d3_199 {A : ByteArray} {pc : Nat} {z : Int} (h : f3_ 199 (fun x y => decide (Reader.signed 16 (x * 256 + y) = z)) (A.data.toList.drop pc) = true) : decode A pc = .ok (.ifnonnull z, 3) := by
  obtain ⟨x, y, h1, h2, h3, h4⟩ := f3_ok h
  have e := of_decide_eq_true h4
  subst e
  exact dec_of ((rd_b h1).trans ((rd_b (rd_s2 h2 h3)).trans rfl))
theorem d3_17 {A : ByteArray} {pc : Nat} {z : Int} (h : f3_ 17 (fun x y => decide (Reader.signed 16 (x * 256 + y) = z)) (A.data.toList.drop pc) = true) : decode A pc = .ok (.sipush z, 3) := by
  obtain ⟨x, y, h1, h2, h3, h4⟩ := f3_ok h
  have e := of_decide_eq_true h4
  subst e
  exact dec_of ((rd_b h1).trans ((rd_b (rd_s2 h2 h3)).trans rfl))
theorem d3_153 {A : ByteArray} {pc : Nat} {z : Int} (h : f3_ 153 (fun x y => decide (Reader.signed 16 (x * 256 + y) = z)) (A.data.toList.drop pc) = true) : decode A pc = .ok (.ifCond .eq z, 3) := by
  obtain ⟨x, y, h1, h2, h3, h4⟩ := f3_ok h
  have e := of_decide_eq_true h4
  subst e
  exact dec_of ((rd_b h1).trans ((rd_b (rd_s2 h2 h3)).trans rfl))
theorem d3_154 {A : ByteArray} {pc : Nat} {z : Int} (h : f3_ 154 (fun x y => decide (Reader.signed 16 (x * 256 + y) = z)) (A.data.toList.drop pc) = true) : decode A pc = .ok (.ifCond .ne z, 3) := by
  obtain ⟨x, y, h1, h2, h3, h4⟩ := f3_ok h
  have e := of_decide_eq_true h4
  subst e
  exact dec_of ((rd_b h1).trans ((rd_b (rd_s2 h2 h3)).trans rfl))
theorem d3_155 {A : ByteArray} {pc : Nat} {z : Int} (h : f3_ 155 (fun x y => decide (Reader.signed 16 (x * 256 + y) = z)) (A.data.toList.drop pc) = true) : decode A pc = .ok (.ifCond .lt z, 3) := by
  obtain ⟨x, y, h1, h2, h3, h4⟩ := f3_ok h
  have e := of_decide_eq_true h4
  subst e
  exact dec_of ((rd_b h1).trans ((rd_b (rd_s2 h2 h3)).trans rfl))
theorem d3_156 {A : ByteArray} {pc : Nat} {z : Int} (h : f3_ 156 (fun x y => decide (Reader.signed 16 (x * 256 + y) = z)) (A.data.toList.drop pc) = true) : decode A pc = .ok (.ifCond .ge z, 3) := by
  obtain ⟨x, y, h1, h2, h3, h4⟩ := f3_ok h
  have e := of_decide_eq_true h4
  subst e
  exact dec_of ((rd_b h1).trans ((rd_b (rd_s2 h2 h3)).trans rfl))
theorem d3_157 {A : ByteArray} {pc : Nat} {z : Int} (h : f3_ 157 (fun x y => decide (Reader.signed 16 (x * 256 + y) = z)) (A.data.toList.drop pc) = true) : decode A pc = .ok (.ifCond .gt z, 3) := by
  obtain ⟨x, y, h1, h2, h3, h4⟩ := f3_ok h
  have e := of_decide_eq_true h4
  subst e
  exact dec_of ((rd_b h1).trans ((rd_b (rd_s2 h2 h3)).trans rfl))
theorem d3_158 {A : ByteArray} {pc : Nat} {z : Int} (h : f3_ 158 (fun x y => decide (Reader.signed 16 (x * 256 + y) = z)) (A.data.toList.drop pc) = true) : decode A pc = .ok (.ifCond .le z, 3) := by
  obtain ⟨x, y, h1, h2, h3, h4⟩ := f3_ok h
  have e := of_decide_eq_true h4
  subst e
  exact dec_of ((rd_b h1).trans ((rd_b (rd_s2 h2 h3)).trans rfl))
theorem d3_159 {A : ByteArray} {pc : Nat} {z : Int} (h : f3_ 159 (fun x y => decide (Reader.signed 16 (x * 256 + y) = z)) (A.data.toList.drop pc) = true) : decode A pc = .ok (.if_icmp .eq z, 3) := by
  obtain ⟨x, y, h1, h2, h3, h4⟩ := f3_ok h
  have e := of_decide_eq_true h4
  subst e
  exact dec_of ((rd_b h1).trans ((rd_b (rd_s2 h2 h3)).trans rfl))
theorem d3_160 {A : ByteArray} {pc : Nat} {z : Int} (h : f3_ 160 (fun x y => decide (Reader.signed 16 (x * 256 + y) = z)) (A.data.toList.drop pc) = true) : decode A pc = .ok (.if_icmp .ne z, 3) := by
  obtain ⟨x, y, h1, h2, h3, h4⟩ := f3_ok h
  have e := of_decide_eq_true h4
  subst e
  exact dec_of ((rd_b h1).trans ((rd_b (rd_s2 h2 h3)).trans rfl))
theorem d3_161 {A : ByteArray} {pc : Nat} {z : Int} (h : f3_ 161 (fun x y => decide (Reader.signed 16 (x * 256 + y) = z)) (A.data.toList.drop pc) = true) : decode A pc = .ok (.if_icmp .lt z, 3) := by
  obtain ⟨x, y, h1, h2, h3, h4⟩ := f3_ok h
  have e := of_decide_eq_true h4
  subst e
  exact dec_of ((rd_b h1).trans ((rd_b (rd_s2 h2 h3)).trans rfl))
theorem d3_162 {A : ByteArray} {pc : Nat} {z : Int} (h : f3_ 162 (fun x y => decide (Reader.signed 16 (x * 256 + y) = z)) (A.data.toList.drop pc) = true) : decode A pc = .ok (.if_icmp .ge z, 3) := by
  obtain ⟨x, y, h1, h2, h3, h4⟩ := f3_ok h
  have e := of_decide_eq_true h4
  subst e
  exact dec_of ((rd_b h1).trans ((rd_b (rd_s2 h2 h3)).trans rfl))
theorem d3_163 {A : ByteArray} {pc : Nat} {z : Int} (h : f3_ 163 (fun x y => decide (Reader.signed 16 (x * 256 + y) = z)) (A.data.toList.drop pc) = true) : decode A pc = .ok (.if_icmp .gt z, 3) := by
  obtain ⟨x, y, h1, h2, h3, h4⟩ := f3_ok h
  have e := of_decide_eq_true h4
  subst e
  exact dec_of ((rd_b h1).trans ((rd_b (rd_s2 h2 h3)).trans rfl))
theorem d3_164 {A : ByteArray} {pc : Nat} {z : Int} (h : f3_ 164 (fun x y => decide (Reader.signed 16 (x * 256 + y) = z)) (A.data.toList.drop pc) = true) : decode A pc = .ok (.if_icmp .le z, 3) := by
  obtain ⟨x, y, h1, h2, h3, h4⟩ := f3_ok h
  have e := of_decide_eq_true h4
  subst e
  exact dec_of ((rd_b h1).trans ((rd_b (rd_s2 h2 h3)).trans rfl))
noncomputable def fdq (len : Nat) (bs : List UInt8) (ins : Instr) : Bool := match ins with
  | .iconst k => decide (len = 1) && ((decide (k = (-1)) && f1_ 2 bs) || (decide (k = 0) && f1_ 3 bs) || (decide (k = 1) && f1_ 4 bs) || (decide (k = 2) && f1_ 5 bs) || (decide (k = 3) && f1_ 6 bs) || (decide (k = 4) && f1_ 7 bs) || (decide (k = 5) && f1_ 8 bs))
  | .iload_n k => decide (len = 1) && ((decide (k = 0) && f1_ 26 bs) || (decide (k = 1) && f1_ 27 bs) || (decide (k = 2) && f1_ 28 bs) || (decide (k = 3) && f1_ 29 bs))
  | .aload_n k => decide (len = 1) && ((decide (k = 0) && f1_ 42 bs) || (decide (k = 1) && f1_ 43 bs) || (decide (k = 2) && f1_ 44 bs) || (decide (k = 3) && f1_ 45 bs))
  | .istore_n k => decide (len = 1) && ((decide (k = 0) && f1_ 59 bs) || (decide (k = 1) && f1_ 60 bs) || (decide (k = 2) && f1_ 61 bs) || (decide (k = 3) && f1_ 62 bs))
  | .astore_n k => decide (len = 1) && ((decide (k = 0) && f1_ 75 bs) || (decide (k = 1) && f1_ 76 bs) || (decide (k = 2) && f1_ 77 bs) || (decide (k = 3) && f1_ 78 bs))
  | .aconst_null => decide (len = 1) && (f1_ 1 bs)
  | .iaload => decide (len = 1) && (f1_ 46 bs)
  | .aaload => decide (len = 1) && (f1_ 50 bs)
  | .iastore => decide (len = 1) && (f1_ 79 bs)
  | .aastore => decide (len = 1) && (f1_ 83 bs)
  | .pop => decide (len = 1) && (f1_ 87 bs)
  | .pop2 => decide (len = 1) && (f1_ 88 bs)
  | .dup => decide (len = 1) && (f1_ 89 bs)
  | .dup2 => decide (len = 1) && (f1_ 92 bs)
  | .iadd => decide (len = 1) && (f1_ 96 bs)
  | .isub => decide (len = 1) && (f1_ 100 bs)
  | .imul => decide (len = 1) && (f1_ 104 bs)
  | .idiv => decide (len = 1) && (f1_ 108 bs)
  | .irem => decide (len = 1) && (f1_ 112 bs)
  | .ineg => decide (len = 1) && (f1_ 116 bs)
  | .ishl => decide (len = 1) && (f1_ 120 bs)
  | .ishr => decide (len = 1) && (f1_ 122 bs)
  | .iushr => decide (len = 1) && (f1_ 124 bs)
  | .iand => decide (len = 1) && (f1_ 126 bs)
  | .ior => decide (len = 1) && (f1_ 128 bs)
  | .ixor => decide (len = 1) && (f1_ 130 bs)
  | .i2l => decide (len = 1) && (f1_ 133 bs)
  | .lcmp => decide (len = 1) && (f1_ 148 bs)
  | .ireturn => decide (len = 1) && (f1_ 172 bs)
  | .lreturn => decide (len = 1) && (f1_ 173 bs)
  | .areturn => decide (len = 1) && (f1_ 176 bs)
  | .return_ => decide (len = 1) && (f1_ 177 bs)
  | .arraylength => decide (len = 1) && (f1_ 190 bs)
  | .iload i => decide (len = 2) && (f2_ 21 (fun x => x == i) bs)
  | .aload i => decide (len = 2) && (f2_ 25 (fun x => x == i) bs)
  | .istore i => decide (len = 2) && (f2_ 54 (fun x => x == i) bs)
  | .astore i => decide (len = 2) && (f2_ 58 (fun x => x == i) bs)
  | .ldc i => decide (len = 2) && (f2_ 18 (fun x => x == i) bs)
  | .bipush z => decide (len = 2) && (f2_ 16 (fun x => decide (Reader.signed 8 x = z)) bs)
  | .iinc i z => decide (len = 3) && (f3_ 132 (fun x y => x == i && decide (Reader.signed 8 y = z)) bs)
  | .getfield i => decide (len = 3) && (f3_ 180 (fun x y => x * 256 + y == i) bs)
  | .putfield i => decide (len = 3) && (f3_ 181 (fun x y => x * 256 + y == i) bs)
  | .invokevirtual i => decide (len = 3) && (f3_ 182 (fun x y => x * 256 + y == i) bs)
  | .invokespecial i => decide (len = 3) && (f3_ 183 (fun x y => x * 256 + y == i) bs)
  | .invokestatic i => decide (len = 3) && (f3_ 184 (fun x y => x * 256 + y == i) bs)
  | .new i => decide (len = 3) && (f3_ 187 (fun x y => x * 256 + y == i) bs)
  | .goto z => decide (len = 3) && (f3_ 167 (fun x y => decide (Reader.signed 16 (x * 256 + y) = z)) bs)
  | .ifnull z => decide (len = 3) && (f3_ 198 (fun x y => decide (Reader.signed 16 (x * 256 + y) = z)) bs)
  | .ifnonnull z => decide (len = 3) && (f3_ 199 (fun x y => decide (Reader.signed 16 (x * 256 + y) = z)) bs)
  | .sipush z => decide (len = 3) && (f3_ 17 (fun x y => decide (Reader.signed 16 (x * 256 + y) = z)) bs)
  | .ifCond .eq z => decide (len = 3) && (f3_ 153 (fun x y => decide (Reader.signed 16 (x * 256 + y) = z)) bs)
  | .ifCond .ne z => decide (len = 3) && (f3_ 154 (fun x y => decide (Reader.signed 16 (x * 256 + y) = z)) bs)
  | .ifCond .lt z => decide (len = 3) && (f3_ 155 (fun x y => decide (Reader.signed 16 (x * 256 + y) = z)) bs)
  | .ifCond .ge z => decide (len = 3) && (f3_ 156 (fun x y => decide (Reader.signed 16 (x * 256 + y) = z)) bs)
  | .ifCond .gt z => decide (len = 3) && (f3_ 157 (fun x y => decide (Reader.signed 16 (x * 256 + y) = z)) bs)
  | .ifCond .le z => decide (len = 3) && (f3_ 158 (fun x y => decide (Reader.signed 16 (x * 256 + y) = z)) bs)
  | .if_icmp .eq z => decide (len = 3) && (f3_ 159 (fun x y => decide (Reader.signed 16 (x * 256 + y) = z)) bs)
  | .if_icmp .ne z => decide (len = 3) && (f3_ 160 (fun x y => decide (Reader.signed 16 (x * 256 + y) = z)) bs)
  | .if_icmp .lt z => decide (len = 3) && (f3_ 161 (fun x y => decide (Reader.signed 16 (x * 256 + y) = z)) bs)
  | .if_icmp .ge z => decide (len = 3) && (f3_ 162 (fun x y => decide (Reader.signed 16 (x * 256 + y) = z)) bs)
  | .if_icmp .gt z => decide (len = 3) && (f3_ 163 (fun x y => decide (Reader.signed 16 (x * 256 + y) = z)) bs)
  | .if_icmp .le z => decide (len = 3) && (f3_ 164 (fun x y => decide (Reader.signed 16 (x * 256 + y) = z)) bs)
  | _ => false
theorem fdq_ok {A : ByteArray} {pc len : Nat} {ins : Instr} (h : fdq len (A.data.toList.drop pc) ins = true) : decode A pc = .ok (ins, len) := by
  unfold fdq at h
  split at h
  · skip
    have h1 := Bool.and_eq_true_iff.mp h
    rw [of_decide_eq_true h1.1]
    have h2 := h1.2
    simp only [Bool.or_eq_true, Bool.and_eq_true, decide_eq_true_eq] at h2
    rcases h2 with ((((((⟨e, h3⟩) | ⟨e, h3⟩) | ⟨e, h3⟩) | ⟨e, h3⟩) | ⟨e, h3⟩) | ⟨e, h3⟩) | ⟨e, h3⟩
    · rw [e]; exact d1_2 h3
    · rw [e]; exact d1_3 h3
    · rw [e]; exact d1_4 h3
    · rw [e]; exact d1_5 h3
    · rw [e]; exact d1_6 h3
    · rw [e]; exact d1_7 h3
    · rw [e]; exact d1_8 h3
  · skip
    have h1 := Bool.and_eq_true_iff.mp h
    rw [of_decide_eq_true h1.1]
    have h2 := h1.2
    simp only [Bool.or_eq_true, Bool.and_eq_true, decide_eq_true_eq] at h2
    rcases h2 with (((⟨e, h3⟩) | ⟨e, h3⟩) | ⟨e, h3⟩) | ⟨e, h3⟩
    · rw [e]; exact d1_26 h3
    · rw [e]; exact d1_27 h3
    · rw [e]; exact d1_28 h3
    · rw [e]; exact d1_29 h3
  · skip
    have h1 := Bool.and_eq_true_iff.mp h
    rw [of_decide_eq_true h1.1]
    have h2 := h1.2
    simp only [Bool.or_eq_true, Bool.and_eq_true, decide_eq_true_eq] at h2
    rcases h2 with (((⟨e, h3⟩) | ⟨e, h3⟩) | ⟨e, h3⟩) | ⟨e, h3⟩
    · rw [e]; exact d1_42 h3
    · rw [e]; exact d1_43 h3
    · rw [e]; exact d1_44 h3
    · rw [e]; exact d1_45 h3
  · skip
    have h1 := Bool.and_eq_true_iff.mp h
    rw [of_decide_eq_true h1.1]
    have h2 := h1.2
    simp only [Bool.or_eq_true, Bool.and_eq_true, decide_eq_true_eq] at h2
    rcases h2 with (((⟨e, h3⟩) | ⟨e, h3⟩) | ⟨e, h3⟩) | ⟨e, h3⟩
    · rw [e]; exact d1_59 h3
    · rw [e]; exact d1_60 h3
    · rw [e]; exact d1_61 h3
    · rw [e]; exact d1_62 h3
  · skip
    have h1 := Bool.and_eq_true_iff.mp h
    rw [of_decide_eq_true h1.1]
    have h2 := h1.2
    simp only [Bool.or_eq_true, Bool.and_eq_true, decide_eq_true_eq] at h2
    rcases h2 with (((⟨e, h3⟩) | ⟨e, h3⟩) | ⟨e, h3⟩) | ⟨e, h3⟩
    · rw [e]; exact d1_75 h3
    · rw [e]; exact d1_76 h3
    · rw [e]; exact d1_77 h3
    · rw [e]; exact d1_78 h3
  · skip
    have h1 := Bool.and_eq_true_iff.mp h
    rw [of_decide_eq_true h1.1]
    exact d1_1 h1.2
  · skip
    have h1 := Bool.and_eq_true_iff.mp h
    rw [of_decide_eq_true h1.1]
    exact d1_46 h1.2
  · skip
    have h1 := Bool.and_eq_true_iff.mp h
    rw [of_decide_eq_true h1.1]
    exact d1_50 h1.2
  · skip
    have h1 := Bool.and_eq_true_iff.mp h
    rw [of_decide_eq_true h1.1]
    exact d1_79 h1.2
  · skip
    have h1 := Bool.and_eq_true_iff.mp h
    rw [of_decide_eq_true h1.1]
    exact d1_83 h1.2
  · skip
    have h1 := Bool.and_eq_true_iff.mp h
    rw [of_decide_eq_true h1.1]
    exact d1_87 h1.2
  · skip
    have h1 := Bool.and_eq_true_iff.mp h
    rw [of_decide_eq_true h1.1]
    exact d1_88 h1.2
  · skip
    have h1 := Bool.and_eq_true_iff.mp h
    rw [of_decide_eq_true h1.1]
    exact d1_89 h1.2
  · skip
    have h1 := Bool.and_eq_true_iff.mp h
    rw [of_decide_eq_true h1.1]
    exact d1_92 h1.2
  · skip
    have h1 := Bool.and_eq_true_iff.mp h
    rw [of_decide_eq_true h1.1]
    exact d1_96 h1.2
  · skip
    have h1 := Bool.and_eq_true_iff.mp h
    rw [of_decide_eq_true h1.1]
    exact d1_100 h1.2
  · skip
    have h1 := Bool.and_eq_true_iff.mp h
    rw [of_decide_eq_true h1.1]
    exact d1_104 h1.2
  · skip
    have h1 := Bool.and_eq_true_iff.mp h
    rw [of_decide_eq_true h1.1]
    exact d1_108 h1.2
  · skip
    have h1 := Bool.and_eq_true_iff.mp h
    rw [of_decide_eq_true h1.1]
    exact d1_112 h1.2
  · skip
    have h1 := Bool.and_eq_true_iff.mp h
    rw [of_decide_eq_true h1.1]
    exact d1_116 h1.2
  · skip
    have h1 := Bool.and_eq_true_iff.mp h
    rw [of_decide_eq_true h1.1]
    exact d1_120 h1.2
  · skip
    have h1 := Bool.and_eq_true_iff.mp h
    rw [of_decide_eq_true h1.1]
    exact d1_122 h1.2
  · skip
    have h1 := Bool.and_eq_true_iff.mp h
    rw [of_decide_eq_true h1.1]
    exact d1_124 h1.2
  · skip
    have h1 := Bool.and_eq_true_iff.mp h
    rw [of_decide_eq_true h1.1]
    exact d1_126 h1.2
  · skip
    have h1 := Bool.and_eq_true_iff.mp h
    rw [of_decide_eq_true h1.1]
    exact d1_128 h1.2
  · skip
    have h1 := Bool.and_eq_true_iff.mp h
    rw [of_decide_eq_true h1.1]
    exact d1_130 h1.2
  · skip
    have h1 := Bool.and_eq_true_iff.mp h
    rw [of_decide_eq_true h1.1]
    exact d1_133 h1.2
  · skip
    have h1 := Bool.and_eq_true_iff.mp h
    rw [of_decide_eq_true h1.1]
    exact d1_148 h1.2
  · skip
    have h1 := Bool.and_eq_true_iff.mp h
    rw [of_decide_eq_true h1.1]
    exact d1_172 h1.2
  · skip
    have h1 := Bool.and_eq_true_iff.mp h
    rw [of_decide_eq_true h1.1]
    exact d1_173 h1.2
  · skip
    have h1 := Bool.and_eq_true_iff.mp h
    rw [of_decide_eq_true h1.1]
    exact d1_176 h1.2
  · skip
    have h1 := Bool.and_eq_true_iff.mp h
    rw [of_decide_eq_true h1.1]
    exact d1_177 h1.2
  · skip
    have h1 := Bool.and_eq_true_iff.mp h
    rw [of_decide_eq_true h1.1]
    exact d1_190 h1.2
  · skip
    have h1 := Bool.and_eq_true_iff.mp h
    rw [of_decide_eq_true h1.1]
    exact d2_21 h1.2
  · skip
    have h1 := Bool.and_eq_true_iff.mp h
    rw [of_decide_eq_true h1.1]
    exact d2_25 h1.2
  · skip
    have h1 := Bool.and_eq_true_iff.mp h
    rw [of_decide_eq_true h1.1]
    exact d2_54 h1.2
  · skip
    have h1 := Bool.and_eq_true_iff.mp h
    rw [of_decide_eq_true h1.1]
    exact d2_58 h1.2
  · skip
    have h1 := Bool.and_eq_true_iff.mp h
    rw [of_decide_eq_true h1.1]
    exact d2_18 h1.2
  · skip
    have h1 := Bool.and_eq_true_iff.mp h
    rw [of_decide_eq_true h1.1]
    exact d2_16 h1.2
  · skip
    have h1 := Bool.and_eq_true_iff.mp h
    rw [of_decide_eq_true h1.1]
    exact d3_132 h1.2
  · skip
    have h1 := Bool.and_eq_true_iff.mp h
    rw [of_decide_eq_true h1.1]
    exact d3_180 h1.2
  · skip
    have h1 := Bool.and_eq_true_iff.mp h
    rw [of_decide_eq_true h1.1]
    exact d3_181 h1.2
  · skip
    have h1 := Bool.and_eq_true_iff.mp h
    rw [of_decide_eq_true h1.1]
    exact d3_182 h1.2
  · skip
    have h1 := Bool.and_eq_true_iff.mp h
    rw [of_decide_eq_true h1.1]
    exact d3_183 h1.2
  · skip
    have h1 := Bool.and_eq_true_iff.mp h
    rw [of_decide_eq_true h1.1]
    exact d3_184 h1.2
  · skip
    have h1 := Bool.and_eq_true_iff.mp h
    rw [of_decide_eq_true h1.1]
    exact d3_187 h1.2
  · skip
    have h1 := Bool.and_eq_true_iff.mp h
    rw [of_decide_eq_true h1.1]
    exact d3_167 h1.2
  · skip
    have h1 := Bool.and_eq_true_iff.mp h
    rw [of_decide_eq_true h1.1]
    exact d3_198 h1.2
  · skip
    have h1 := Bool.and_eq_true_iff.mp h
    rw [of_decide_eq_true h1.1]
    exact d3_199 h1.2
  · skip
    have h1 := Bool.and_eq_true_iff.mp h
    rw [of_decide_eq_true h1.1]
    exact d3_17 h1.2
  · skip
    have h1 := Bool.and_eq_true_iff.mp h
    rw [of_decide_eq_true h1.1]
    exact d3_153 h1.2
  · skip
    have h1 := Bool.and_eq_true_iff.mp h
    rw [of_decide_eq_true h1.1]
    exact d3_154 h1.2
  · skip
    have h1 := Bool.and_eq_true_iff.mp h
    rw [of_decide_eq_true h1.1]
    exact d3_155 h1.2
  · skip
    have h1 := Bool.and_eq_true_iff.mp h
    rw [of_decide_eq_true h1.1]
    exact d3_156 h1.2
  · skip
    have h1 := Bool.and_eq_true_iff.mp h
    rw [of_decide_eq_true h1.1]
    exact d3_157 h1.2
  · skip
    have h1 := Bool.and_eq_true_iff.mp h
    rw [of_decide_eq_true h1.1]
    exact d3_158 h1.2
  · skip
    have h1 := Bool.and_eq_true_iff.mp h
    rw [of_decide_eq_true h1.1]
    exact d3_159 h1.2
  · skip
    have h1 := Bool.and_eq_true_iff.mp h
    rw [of_decide_eq_true h1.1]
    exact d3_160 h1.2
  · skip
    have h1 := Bool.and_eq_true_iff.mp h
    rw [of_decide_eq_true h1.1]
    exact d3_161 h1.2
  · skip
    have h1 := Bool.and_eq_true_iff.mp h
    rw [of_decide_eq_true h1.1]
    exact d3_162 h1.2
  · skip
    have h1 := Bool.and_eq_true_iff.mp h
    rw [of_decide_eq_true h1.1]
    exact d3_163 h1.2
  · skip
    have h1 := Bool.and_eq_true_iff.mp h
    rw [of_decide_eq_true h1.1]
    exact d3_164 h1.2
  · exact absurd h (by decide)
end
section
/-! the class, the kind and the arguments of a method by its number, for a check in numbers alone -/
noncomputable def pm_kp : List (Nat × Nat × Nat) → List pm_M → Prop
  | [], [] => True
  | q :: r, e :: s => (pm_nm q.1 = e.1.cls ∧ q.2.1 = e.2.2.2.2.2 ∧ q.2.2 = e.2.2.2.2.1) ∧ pm_kp r s
  | _, _ => False
theorem pm_kp_app : ∀ {a : List (Nat × Nat × Nat)} {s : List pm_M} {b : List (Nat × Nat × Nat)} {t : List pm_M}, pm_kp a s → pm_kp b t → pm_kp (a ++ b) (s ++ t)
  | [], [], _, _, _, h => h
  | _ :: _, _ :: _, _, _, h, k => ⟨h.1, pm_kp_app h.2 k⟩
theorem pm_kp_at : ∀ {a : List (Nat × Nat × Nat)} {s : List pm_M} {d : pm_M} {n : Nat} {q : Nat × Nat × Nat}, pm_kp a s → a[n]? = some q → pm_nm q.1 = (s.getD n d).1.cls ∧ q.2.1 = (s.getD n d).2.2.2.2.2 ∧ q.2.2 = (s.getD n d).2.2.2.2.1
  | [], _, _, _, _, _, h => by cases h
  | _ :: _, [], _, _, _, h, _ => h.elim
  | q :: _, e :: _, d, 0, p, h, k => by
    have h1 := h.1
    rw [List.getElem?_cons_zero] at k
    cases k
    exact h1
  | q :: r, e :: s, d, n + 1, p, h, k => by
    rw [List.getElem?_cons_succ] at k
    rw [List.getD_cons_succ]
    exact pm_kp_at h.2 k
noncomputable def pm_mk0 : List (Nat × Nat × Nat) := [(10, 2, 0), (9, 2, 0), (7, 2, 0), (2, 2, 0), (15, 1, 2), (0, 2, 0), (1, 2, 0), (6, 2, 0), (8, 2, 0), (4, 2, 0), (3, 2, 0), (5, 2, 0), (10, 0, 2), (10, 0, 3), (7, 0, 2), (10, 1, 1), (9, 0, 0), (14, 1, 2), (9, 0, 2), (7, 0, 1), (7, 0, 1), (7, 0, 1), (9, 0, 3), (9, 0, 2), (9, 0, 0), (10, 0, 2), (7, 0, 1), (9, 0, 1), (9, 0, 1), (10, 0, 2), (10, 0, 2), (10, 0, 3), (10, 0, 2), (9, 0, 3), (10, 0, 4), (10, 0, 4), (10, 0, 3), (10, 0, 2), (10, 1, 2), (10, 0, 2), (10, 0, 3), (10, 0, 2), (10, 0, 2), (7, 0, 1), (7, 0, 2), (10, 0, 1), (7, 0, 1), (10, 0, 2), (7, 0, 1), (7, 0, 2), (7, 0, 1), (14, 1, 2), (10, 0, 2), (10, 0, 1), (10, 0, 3), (2, 0, 3), (2, 0, 0), (2, 0, 1), (10, 0, 2), (10, 0, 2)]
set_option maxRecDepth 100000 in
theorem pm_mk0_ok : pm_kp pm_mk0 pm_mt0 := ⟨⟨rfl, rfl, rfl⟩, ⟨rfl, rfl, rfl⟩, ⟨rfl, rfl, rfl⟩, ⟨rfl, rfl, rfl⟩, ⟨rfl, rfl, rfl⟩, ⟨rfl, rfl, rfl⟩, ⟨rfl, rfl, rfl⟩, ⟨rfl, rfl, rfl⟩, ⟨rfl, rfl, rfl⟩, ⟨rfl, rfl, rfl⟩, ⟨rfl, rfl, rfl⟩, ⟨rfl, rfl, rfl⟩, ⟨rfl, rfl, rfl⟩, ⟨rfl, rfl, rfl⟩, ⟨rfl, rfl, rfl⟩, ⟨rfl, rfl, rfl⟩, ⟨rfl, rfl, rfl⟩, ⟨rfl, rfl, rfl⟩, ⟨rfl, rfl, rfl⟩, ⟨rfl, rfl, rfl⟩, ⟨rfl, rfl, rfl⟩, ⟨rfl, rfl, rfl⟩, ⟨rfl, rfl, rfl⟩, ⟨rfl, rfl, rfl⟩, ⟨rfl, rfl, rfl⟩, ⟨rfl, rfl, rfl⟩, ⟨rfl, rfl, rfl⟩, ⟨rfl, rfl, rfl⟩, ⟨rfl, rfl, rfl⟩, ⟨rfl, rfl, rfl⟩, ⟨rfl, rfl, rfl⟩, ⟨rfl, rfl, rfl⟩, ⟨rfl, rfl, rfl⟩, ⟨rfl, rfl, rfl⟩, ⟨rfl, rfl, rfl⟩, ⟨rfl, rfl, rfl⟩, ⟨rfl, rfl, rfl⟩, ⟨rfl, rfl, rfl⟩, ⟨rfl, rfl, rfl⟩, ⟨rfl, rfl, rfl⟩, ⟨rfl, rfl, rfl⟩, ⟨rfl, rfl, rfl⟩, ⟨rfl, rfl, rfl⟩, ⟨rfl, rfl, rfl⟩, ⟨rfl, rfl, rfl⟩, ⟨rfl, rfl, rfl⟩, ⟨rfl, rfl, rfl⟩, ⟨rfl, rfl, rfl⟩, ⟨rfl, rfl, rfl⟩, ⟨rfl, rfl, rfl⟩, ⟨rfl, rfl, rfl⟩, ⟨rfl, rfl, rfl⟩, ⟨rfl, rfl, rfl⟩, ⟨rfl, rfl, rfl⟩, ⟨rfl, rfl, rfl⟩, ⟨rfl, rfl, rfl⟩, ⟨rfl, rfl, rfl⟩, ⟨rfl, rfl, rfl⟩, ⟨rfl, rfl, rfl⟩, ⟨rfl, rfl, rfl⟩, trivial⟩
noncomputable def pm_mk1 : List (Nat × Nat × Nat) := [(10, 0, 2), (10, 0, 2), (10, 0, 3), (10, 0, 3), (2, 0, 1), (10, 0, 4), (0, 0, 4), (10, 0, 4), (0, 0, 6), (0, 0, 4), (14, 1, 1), (0, 0, 2), (0, 0, 2), (10, 0, 3), (10, 0, 5), (13, 1, 1), (10, 0, 3), (2, 0, 1), (10, 0, 2), (2, 0, 1), (10, 0, 3), (1, 0, 3), (1, 0, 0), (1, 0, 2), (1, 0, 1), (10, 0, 2), (1, 0, 3), (14, 1, 2), (10, 0, 2), (1, 0, 4), (10, 0, 3), (2, 0, 1), (2, 0, 1), (10, 0, 3), (10, 0, 2), (2, 0, 0), (10, 0, 2), (1, 0, 4), (10, 0, 3), (1, 0, 3), (10, 0, 2), (6, 0, 4), (10, 0, 2), (6, 0, 4), (10, 0, 2), (6, 0, 4), (10, 0, 2), (6, 0, 2), (6, 0, 0), (6, 0, 2), (6, 0, 1), (10, 0, 2), (6, 0, 3), (2, 0, 1), (6, 0, 2), (10, 0, 1), (6, 0, 1), (10, 0, 2), (6, 0, 3), (10, 0, 1)]
set_option maxRecDepth 100000 in
theorem pm_mk1_ok : pm_kp pm_mk1 pm_mt1 := ⟨⟨rfl, rfl, rfl⟩, ⟨rfl, rfl, rfl⟩, ⟨rfl, rfl, rfl⟩, ⟨rfl, rfl, rfl⟩, ⟨rfl, rfl, rfl⟩, ⟨rfl, rfl, rfl⟩, ⟨rfl, rfl, rfl⟩, ⟨rfl, rfl, rfl⟩, ⟨rfl, rfl, rfl⟩, ⟨rfl, rfl, rfl⟩, ⟨rfl, rfl, rfl⟩, ⟨rfl, rfl, rfl⟩, ⟨rfl, rfl, rfl⟩, ⟨rfl, rfl, rfl⟩, ⟨rfl, rfl, rfl⟩, ⟨rfl, rfl, rfl⟩, ⟨rfl, rfl, rfl⟩, ⟨rfl, rfl, rfl⟩, ⟨rfl, rfl, rfl⟩, ⟨rfl, rfl, rfl⟩, ⟨rfl, rfl, rfl⟩, ⟨rfl, rfl, rfl⟩, ⟨rfl, rfl, rfl⟩, ⟨rfl, rfl, rfl⟩, ⟨rfl, rfl, rfl⟩, ⟨rfl, rfl, rfl⟩, ⟨rfl, rfl, rfl⟩, ⟨rfl, rfl, rfl⟩, ⟨rfl, rfl, rfl⟩, ⟨rfl, rfl, rfl⟩, ⟨rfl, rfl, rfl⟩, ⟨rfl, rfl, rfl⟩, ⟨rfl, rfl, rfl⟩, ⟨rfl, rfl, rfl⟩, ⟨rfl, rfl, rfl⟩, ⟨rfl, rfl, rfl⟩, ⟨rfl, rfl, rfl⟩, ⟨rfl, rfl, rfl⟩, ⟨rfl, rfl, rfl⟩, ⟨rfl, rfl, rfl⟩, ⟨rfl, rfl, rfl⟩, ⟨rfl, rfl, rfl⟩, ⟨rfl, rfl, rfl⟩, ⟨rfl, rfl, rfl⟩, ⟨rfl, rfl, rfl⟩, ⟨rfl, rfl, rfl⟩, ⟨rfl, rfl, rfl⟩, ⟨rfl, rfl, rfl⟩, ⟨rfl, rfl, rfl⟩, ⟨rfl, rfl, rfl⟩, ⟨rfl, rfl, rfl⟩, ⟨rfl, rfl, rfl⟩, ⟨rfl, rfl, rfl⟩, ⟨rfl, rfl, rfl⟩, ⟨rfl, rfl, rfl⟩, ⟨rfl, rfl, rfl⟩, ⟨rfl, rfl, rfl⟩, ⟨rfl, rfl, rfl⟩, ⟨rfl, rfl, rfl⟩, ⟨rfl, rfl, rfl⟩, trivial⟩
noncomputable def pm_mk2 : List (Nat × Nat × Nat) := [(10, 0, 2), (8, 1, 2), (8, 0, 4), (8, 0, 1), (8, 0, 1), (8, 0, 3), (10, 0, 3), (10, 0, 2), (10, 0, 1), (4, 0, 3), (10, 0, 0), (10, 0, 1), (4, 0, 3), (4, 0, 2), (10, 0, 3), (4, 0, 4), (4, 1, 4), (4, 1, 3), (10, 0, 1), (4, 0, 1), (4, 0, 2), (10, 0, 2), (3, 0, 4), (10, 0, 2), (3, 0, 3), (3, 0, 2), (3, 0, 4), (3, 0, 4), (10, 0, 3), (9, 0, 1), (10, 0, 3), (10, 0, 1), (10, 0, 1), (9, 0, 1), (7, 0, 1), (10, 0, 2), (9, 0, 2), (9, 0, 4), (10, 0, 2), (5, 0, 3), (10, 0, 3), (10, 0, 0), (5, 0, 3), (10, 0, 2), (5, 0, 2), (10, 0, 0), (11, 2, 0), (11, 0, 2), (11, 0, 1), (11, 1, 3), (11, 1, 1), (11, 0, 5), (11, 0, 0), (11, 0, 1), (11, 0, 1), (11, 0, 2), (11, 0, 0), (11, 0, 1), (11, 0, 1), (11, 0, 3)]
set_option maxRecDepth 100000 in
theorem pm_mk2_ok : pm_kp pm_mk2 pm_mt2 := ⟨⟨rfl, rfl, rfl⟩, ⟨rfl, rfl, rfl⟩, ⟨rfl, rfl, rfl⟩, ⟨rfl, rfl, rfl⟩, ⟨rfl, rfl, rfl⟩, ⟨rfl, rfl, rfl⟩, ⟨rfl, rfl, rfl⟩, ⟨rfl, rfl, rfl⟩, ⟨rfl, rfl, rfl⟩, ⟨rfl, rfl, rfl⟩, ⟨rfl, rfl, rfl⟩, ⟨rfl, rfl, rfl⟩, ⟨rfl, rfl, rfl⟩, ⟨rfl, rfl, rfl⟩, ⟨rfl, rfl, rfl⟩, ⟨rfl, rfl, rfl⟩, ⟨rfl, rfl, rfl⟩, ⟨rfl, rfl, rfl⟩, ⟨rfl, rfl, rfl⟩, ⟨rfl, rfl, rfl⟩, ⟨rfl, rfl, rfl⟩, ⟨rfl, rfl, rfl⟩, ⟨rfl, rfl, rfl⟩, ⟨rfl, rfl, rfl⟩, ⟨rfl, rfl, rfl⟩, ⟨rfl, rfl, rfl⟩, ⟨rfl, rfl, rfl⟩, ⟨rfl, rfl, rfl⟩, ⟨rfl, rfl, rfl⟩, ⟨rfl, rfl, rfl⟩, ⟨rfl, rfl, rfl⟩, ⟨rfl, rfl, rfl⟩, ⟨rfl, rfl, rfl⟩, ⟨rfl, rfl, rfl⟩, ⟨rfl, rfl, rfl⟩, ⟨rfl, rfl, rfl⟩, ⟨rfl, rfl, rfl⟩, ⟨rfl, rfl, rfl⟩, ⟨rfl, rfl, rfl⟩, ⟨rfl, rfl, rfl⟩, ⟨rfl, rfl, rfl⟩, ⟨rfl, rfl, rfl⟩, ⟨rfl, rfl, rfl⟩, ⟨rfl, rfl, rfl⟩, ⟨rfl, rfl, rfl⟩, ⟨rfl, rfl, rfl⟩, ⟨rfl, rfl, rfl⟩, ⟨rfl, rfl, rfl⟩, ⟨rfl, rfl, rfl⟩, ⟨rfl, rfl, rfl⟩, ⟨rfl, rfl, rfl⟩, ⟨rfl, rfl, rfl⟩, ⟨rfl, rfl, rfl⟩, ⟨rfl, rfl, rfl⟩, ⟨rfl, rfl, rfl⟩, ⟨rfl, rfl, rfl⟩, ⟨rfl, rfl, rfl⟩, ⟨rfl, rfl, rfl⟩, ⟨rfl, rfl, rfl⟩, ⟨rfl, rfl, rfl⟩, trivial⟩
noncomputable def pm_mk3 : List (Nat × Nat × Nat) := [(11, 0, 2), (11, 0, 2), (11, 0, 2), (11, 0, 2), (11, 0, 1), (11, 0, 2), (11, 0, 1), (11, 0, 2), (11, 0, 2), (11, 0, 3), (11, 0, 2), (11, 0, 4), (11, 0, 3), (11, 0, 3), (11, 0, 2), (11, 0, 2), (11, 0, 1), (11, 0, 1), (11, 0, 1), (11, 0, 2), (11, 0, 3), (11, 0, 1), (11, 0, 1), (11, 0, 1), (11, 0, 2), (11, 0, 1), (11, 0, 2), (11, 1, 1), (11, 0, 2), (11, 0, 2), (11, 0, 2), (11, 0, 1), (11, 0, 2), (11, 0, 3), (11, 0, 3), (11, 0, 3), (11, 0, 2), (11, 0, 4), (11, 0, 3), (11, 0, 1), (11, 0, 4), (11, 0, 3), (11, 0, 5), (11, 0, 3), (11, 0, 5), (11, 0, 3), (11, 0, 3), (11, 0, 1), (11, 0, 2), (11, 0, 2), (11, 0, 2), (11, 0, 3), (11, 0, 3), (11, 0, 1), (11, 0, 1), (11, 0, 3), (11, 0, 2), (11, 0, 2), (11, 0, 2), (11, 0, 2)]
set_option maxRecDepth 100000 in
theorem pm_mk3_ok : pm_kp pm_mk3 pm_mt3 := ⟨⟨rfl, rfl, rfl⟩, ⟨rfl, rfl, rfl⟩, ⟨rfl, rfl, rfl⟩, ⟨rfl, rfl, rfl⟩, ⟨rfl, rfl, rfl⟩, ⟨rfl, rfl, rfl⟩, ⟨rfl, rfl, rfl⟩, ⟨rfl, rfl, rfl⟩, ⟨rfl, rfl, rfl⟩, ⟨rfl, rfl, rfl⟩, ⟨rfl, rfl, rfl⟩, ⟨rfl, rfl, rfl⟩, ⟨rfl, rfl, rfl⟩, ⟨rfl, rfl, rfl⟩, ⟨rfl, rfl, rfl⟩, ⟨rfl, rfl, rfl⟩, ⟨rfl, rfl, rfl⟩, ⟨rfl, rfl, rfl⟩, ⟨rfl, rfl, rfl⟩, ⟨rfl, rfl, rfl⟩, ⟨rfl, rfl, rfl⟩, ⟨rfl, rfl, rfl⟩, ⟨rfl, rfl, rfl⟩, ⟨rfl, rfl, rfl⟩, ⟨rfl, rfl, rfl⟩, ⟨rfl, rfl, rfl⟩, ⟨rfl, rfl, rfl⟩, ⟨rfl, rfl, rfl⟩, ⟨rfl, rfl, rfl⟩, ⟨rfl, rfl, rfl⟩, ⟨rfl, rfl, rfl⟩, ⟨rfl, rfl, rfl⟩, ⟨rfl, rfl, rfl⟩, ⟨rfl, rfl, rfl⟩, ⟨rfl, rfl, rfl⟩, ⟨rfl, rfl, rfl⟩, ⟨rfl, rfl, rfl⟩, ⟨rfl, rfl, rfl⟩, ⟨rfl, rfl, rfl⟩, ⟨rfl, rfl, rfl⟩, ⟨rfl, rfl, rfl⟩, ⟨rfl, rfl, rfl⟩, ⟨rfl, rfl, rfl⟩, ⟨rfl, rfl, rfl⟩, ⟨rfl, rfl, rfl⟩, ⟨rfl, rfl, rfl⟩, ⟨rfl, rfl, rfl⟩, ⟨rfl, rfl, rfl⟩, ⟨rfl, rfl, rfl⟩, ⟨rfl, rfl, rfl⟩, ⟨rfl, rfl, rfl⟩, ⟨rfl, rfl, rfl⟩, ⟨rfl, rfl, rfl⟩, ⟨rfl, rfl, rfl⟩, ⟨rfl, rfl, rfl⟩, ⟨rfl, rfl, rfl⟩, ⟨rfl, rfl, rfl⟩, ⟨rfl, rfl, rfl⟩, ⟨rfl, rfl, rfl⟩, ⟨rfl, rfl, rfl⟩, trivial⟩
noncomputable def pm_mk4 : List (Nat × Nat × Nat) := [(11, 0, 2), (11, 0, 4), (11, 0, 3), (11, 0, 3), (11, 0, 2), (11, 0, 2), (11, 0, 3), (11, 0, 2), (11, 0, 2), (11, 0, 2), (11, 0, 2), (11, 0, 2), (11, 0, 2), (11, 0, 2), (11, 0, 1), (11, 0, 2), (11, 0, 1), (11, 0, 2), (11, 1, 2), (11, 0, 3), (11, 0, 2), (11, 0, 2), (11, 0, 3), (11, 0, 2), (11, 0, 1), (11, 0, 0), (11, 0, 1), (11, 0, 3), (11, 0, 0), (11, 0, 3), (11, 0, 1), (11, 0, 2), (11, 0, 2), (11, 0, 1), (11, 0, 3), (11, 0, 2), (11, 0, 3), (11, 0, 3), (11, 0, 0), (11, 0, 2), (11, 0, 3), (11, 0, 2), (11, 0, 0)]
set_option maxRecDepth 100000 in
theorem pm_mk4_ok : pm_kp pm_mk4 pm_mt4 := ⟨⟨rfl, rfl, rfl⟩, ⟨rfl, rfl, rfl⟩, ⟨rfl, rfl, rfl⟩, ⟨rfl, rfl, rfl⟩, ⟨rfl, rfl, rfl⟩, ⟨rfl, rfl, rfl⟩, ⟨rfl, rfl, rfl⟩, ⟨rfl, rfl, rfl⟩, ⟨rfl, rfl, rfl⟩, ⟨rfl, rfl, rfl⟩, ⟨rfl, rfl, rfl⟩, ⟨rfl, rfl, rfl⟩, ⟨rfl, rfl, rfl⟩, ⟨rfl, rfl, rfl⟩, ⟨rfl, rfl, rfl⟩, ⟨rfl, rfl, rfl⟩, ⟨rfl, rfl, rfl⟩, ⟨rfl, rfl, rfl⟩, ⟨rfl, rfl, rfl⟩, ⟨rfl, rfl, rfl⟩, ⟨rfl, rfl, rfl⟩, ⟨rfl, rfl, rfl⟩, ⟨rfl, rfl, rfl⟩, ⟨rfl, rfl, rfl⟩, ⟨rfl, rfl, rfl⟩, ⟨rfl, rfl, rfl⟩, ⟨rfl, rfl, rfl⟩, ⟨rfl, rfl, rfl⟩, ⟨rfl, rfl, rfl⟩, ⟨rfl, rfl, rfl⟩, ⟨rfl, rfl, rfl⟩, ⟨rfl, rfl, rfl⟩, ⟨rfl, rfl, rfl⟩, ⟨rfl, rfl, rfl⟩, ⟨rfl, rfl, rfl⟩, ⟨rfl, rfl, rfl⟩, ⟨rfl, rfl, rfl⟩, ⟨rfl, rfl, rfl⟩, ⟨rfl, rfl, rfl⟩, ⟨rfl, rfl, rfl⟩, ⟨rfl, rfl, rfl⟩, ⟨rfl, rfl, rfl⟩, ⟨rfl, rfl, rfl⟩, trivial⟩
noncomputable def pm_mk : List (Nat × Nat × Nat) := pm_mk0 ++ (pm_mk1 ++ (pm_mk2 ++ (pm_mk3 ++ (pm_mk4))))
noncomputable def pm_mkl : List (List (Nat × Nat × Nat)) := [pm_mk0, pm_mk1, pm_mk2, pm_mk3, pm_mk4]
theorem pm_mkl_f : pm_mkl.flatten = pm_mk := by
  simp only [pm_mkl, pm_mk, List.flatten_cons, List.flatten_nil, List.append_nil]
set_option maxRecDepth 100000 in
theorem pm_mkl_l : pm_mkl.dropLast.all (fun l => Nat.beq l.length 60) = true := by decide +kernel
theorem pm_mkl_ok {n : Nat} {q : Nat × Nat × Nat} (h : (pm_mkl.getD (n / 60) [])[n % 60]? = some q) : pm_mk[n]? = some q := by
  have h1 := pm_c60 pm_mkl n q pm_mkl_l h
  rw [pm_mkl_f] at h1
  exact h1
theorem pm_mk_ok : pm_kp pm_mk pm_mt := (pm_kp_app pm_mk0_ok (pm_kp_app pm_mk1_ok (pm_kp_app pm_mk2_ok (pm_kp_app pm_mk3_ok pm_mk4_ok))))
noncomputable def pm_rf (own i k : Nat) (z : Int32) : Instr → Bool
  | .getfield idx => (pm_flo.getD own []).any (fun q => Nat.beq idx q.2.1 && (Nat.beq own q.1 && (Nat.beq i q.2.2.1 && Nat.beq k q.2.2.2)))
  | .invokevirtual idx => (pm_mlo.getD own []).any (fun q => Nat.beq idx q.2.1 && (Nat.beq own q.1 && Nat.beq i q.2.2)) && (match (pm_mkl.getD (i / 60) [])[i % 60]? with
    | some q => Nat.beq q.2.1 0 && (Nat.beq q.2.2 k && (Nat.beq q.1 z.toInt.toNat && Nat.ble (z.toInt.toNat + 1) 12))
    | none => false)
  | .invokestatic idx => (pm_mlo.getD own []).any (fun q => Nat.beq idx q.2.1 && (Nat.beq own q.1 && Nat.beq i q.2.2)) && (match (pm_mkl.getD (i / 60) [])[i % 60]? with
    | some q => Nat.beq q.2.1 1 && Nat.beq q.2.2 k
    | none => false)
  | _ => false
theorem pm_ml_b {own idx i : Nat} (h : (pm_mlo.getD own []).any (fun q => Nat.beq idx q.2.1 && (Nat.beq own q.1 && Nat.beq i q.2.2)) = true) : (own, idx, i) ∈ pm_ml := by
  obtain ⟨⟨a, b, c⟩, hq, h1⟩ := List.any_eq_true.mp h
  have hq := pm_fo hq
  rw [pm_mlo_f] at hq
  simp only [Bool.and_eq_true] at h1
  rw [Nat.eq_of_beq_eq_true h1.1, Nat.eq_of_beq_eq_true h1.2.1, Nat.eq_of_beq_eq_true h1.2.2]
  exact hq
theorem pm_rf_ok {own nL i k pc : Nat} {isI : Bool} {ret : Option FieldType} {z : Int32} {ins : Instr} (h : pm_rf own i k z ins = true) : pm_rs own nL isI ret pc ins i k z = true := by
  unfold pm_rf at h
  split at h
  · rename_i idx
    obtain ⟨⟨a, b, c, d⟩, hq, h1⟩ := List.any_eq_true.mp h
    have hq := pm_fo hq
    rw [pm_flo_f] at hq
    simp only [Bool.and_eq_true] at h1
    show decide ((own, idx, i, k) ∈ pm_fl) = true
    rw [Nat.eq_of_beq_eq_true h1.1, Nat.eq_of_beq_eq_true h1.2.1, Nat.eq_of_beq_eq_true h1.2.2.1, Nat.eq_of_beq_eq_true h1.2.2.2]
    exact decide_eq_true hq
  · rename_i idx
    have h1 := Bool.and_eq_true_iff.mp h
    have h2 := h1.2
    split at h2
    · rename_i q hq
      have h3 := pm_kp_at (d := (yX0_init, cX0_init, 0, none, 0, 9)) pm_mk_ok (pm_mkl_ok hq)
      simp only [Bool.and_eq_true] at h2
      have a1 := Nat.eq_of_beq_eq_true h2.1
      have a2 := Nat.eq_of_beq_eq_true h2.2.1
      have a3 := Nat.eq_of_beq_eq_true h2.2.2.1
      have a4 := Nat.le_of_ble_eq_true h2.2.2.2
      refine decide_eq_true ⟨pm_ml_b h1.1, ?_, ?_, ?_, by omega⟩
      · exact h3.2.1.symm.trans a1
      · exact h3.2.2.symm.trans a2
      · rw [← a3]; exact h3.1
    · exact absurd h2 (by decide)
  · rename_i idx
    have h1 := Bool.and_eq_true_iff.mp h
    have h2 := h1.2
    split at h2
    · rename_i q hq
      have h3 := pm_kp_at (d := (yX0_init, cX0_init, 0, none, 0, 9)) pm_mk_ok (pm_mkl_ok hq)
      simp only [Bool.and_eq_true] at h2
      have a1 := Nat.eq_of_beq_eq_true h2.1
      have a2 := Nat.eq_of_beq_eq_true h2.2
      refine decide_eq_true ⟨pm_ml_b h1.1, ?_, ?_⟩
      · exact h3.2.1.symm.trans a1
      · exact h3.2.2.symm.trans a2
    · exact absurd h2 (by decide)
  · exact absurd h (by decide)
noncomputable def pm_okG (own nL : Nat) (isI : Bool) (ret : Option FieldType) (cc : ByteArray) (fin : Nat) : List UInt8 → Nat → List pm_Op → Bool
  | _, pc, [] => decide (pc = fin)
  | bs, pc, (ins, len, i, k, z) :: r => (fdq len bs ins || decide (decode cc pc = .ok (ins, len))) && ((pm_isTab ins || Nat.beq len (pm_ln ins)) && ((pm_rf own i k z ins || pm_rs own nL isI ret pc ins i k z) && (pm_tm ins || pm_okG own nL isI ret cc fin (bs.drop len) (pc + len) r)))
theorem okG_ok {own nL : Nat} {isI : Bool} {ret : Option FieldType} {cc : ByteArray} {fin : Nat} : ∀ (pc : Nat) (ops : List pm_Op), pm_okG own nL isI ret cc fin (cc.data.toList.drop pc) pc ops = true → pm_ok own nL isI ret cc fin pc ops = true
  | _, [], h => h
  | pc, (ins, len, i, k, z) :: r, h => by
    have h1 := Bool.and_eq_true_iff.mp h
    have h2 := Bool.and_eq_true_iff.mp h1.2
    have h3 := Bool.and_eq_true_iff.mp h2.2
    have q1 : decode cc pc = .ok (ins, len) := by
      rcases Bool.or_eq_true_iff.mp h1.1 with a | a
      · exact fdq_ok a
      · exact of_decide_eq_true a
    have q3 : (pm_isTab ins || decide (len = pm_ln ins)) = true := by
      rcases Bool.or_eq_true_iff.mp h2.1 with a | a
      · rw [a]; rfl
      · rw [decide_eq_true (Nat.eq_of_beq_eq_true a), Bool.or_true]
    have q4 : pm_rs own nL isI ret pc ins i k z = true := by
      rcases Bool.or_eq_true_iff.mp h3.1 with a | a
      · exact pm_rf_ok a
      · exact a
    have q2 : (pm_tm ins || pm_ok own nL isI ret cc fin (pc + len) r) = true := by
      rcases Bool.or_eq_true_iff.mp h3.2 with a | a
      · rw [a]; rfl
      · rw [List.drop_drop] at a
        rw [okG_ok (pc + len) r a, Bool.or_true]
    show (decide (decode cc pc = .ok (ins, len)) && ((pm_isTab ins || decide (len = pm_ln ins)) && (pm_rs own nL isI ret pc ins i k z && (pm_tm ins || pm_ok own nL isI ret cc fin (pc + len) r)))) = true
    rw [decide_eq_true q1, q3, q4, q2]
    rfl
theorem oksG_ok {own mx : Nat} {isI : Bool} {rt : Option FieldType} {cc : ByteArray} {b : pm_B} (h : b.all (fun q => pm_okG own mx isI rt cc q.2.2 (cc.data.toList.drop q.1) q.1 q.2.1) = true) : pm_oks own isI mx rt cc b = true := List.all_eq_true.mpr (fun q hq => okG_ok q.1 q.2.1 (List.all_eq_true.mp h q hq))
theorem plX0 : plainName RX0 = true := by decide +kernel
theorem plX1 : plainName RX1 = true := by decide +kernel
theorem plX2 : plainName RX2 = true := by decide +kernel
theorem plX3 : plainName RX3 = true := by decide +kernel
theorem plX4 : plainName RX4 = true := by decide +kernel
theorem plX5 : plainName RX5 = true := by decide +kernel
theorem plX6 : plainName RX6 = true := by decide +kernel
theorem plX7 : plainName RX7 = true := by decide +kernel
theorem plX8 : plainName RX8 = true := by decide +kernel
theorem plX9 : plainName RX9 = true := by decide +kernel
theorem plX10 : plainName RX10 = true := by decide +kernel
theorem plX11 : plainName RX11 = true := by decide +kernel
theorem plJ6 : plainName RJ6 = true := by decide +kernel
theorem plJ7 : plainName RJ7 = true := by decide +kernel
end
section
/-! blocks, by a program -/
noncomputable def bk_X10_init : pm_B := [(0, [(.aload_n 0, 1, 0, 0, 0), (.invokespecial 3, 3, 0, 0, 0), (.aload_n 0, 1, 0, 0, 0), (.new 9, 3, 9, 8, 0), (.dup, 1, 0, 0, 0), (.invokespecial 11, 3, 1, 0, 1), (.putfield 12, 3, 10, 0, 1), (.aload_n 0, 1, 0, 0, 0), (.new 16, 3, 2, 6, 0), (.dup, 1, 0, 0, 0), (.invokespecial 18, 3, 3, 0, 1), (.putfield 19, 3, 10, 1, 1), (.aload_n 0, 1, 0, 0, 0), (.new 23, 3, 0, 3, 0), (.dup, 1, 0, 0, 0), (.invokespecial 25, 3, 5, 0, 2), (.putfield 26, 3, 10, 2, 1), (.aload_n 0, 1, 0, 0, 0), (.new 30, 3, 1, 5, 0), (.dup, 1, 0, 0, 0), (.invokespecial 32, 3, 6, 0, 2), (.putfield 33, 3, 10, 3, 1), (.aload_n 0, 1, 0, 0, 0), (.new 37, 3, 6, 5, 0), (.dup, 1, 0, 0, 0), (.invokespecial 39, 3, 7, 0, 2), (.putfield 40, 3, 10, 4, 1), (.aload_n 0, 1, 0, 0, 0), (.new 44, 3, 8, 5, 0), (.dup, 1, 0, 0, 0), (.invokespecial 46, 3, 8, 0, 2), (.putfield 47, 3, 10, 5, 1), (.aload_n 0, 1, 0, 0, 0), (.new 51, 3, 4, 3, 0), (.dup, 1, 0, 0, 0), (.invokespecial 53, 3, 9, 0, 2), (.putfield 54, 3, 10, 6, 1), (.aload_n 0, 1, 0, 0, 0), (.new 58, 3, 3, 1, 0), (.dup, 1, 0, 0, 0), (.invokespecial 60, 3, 10, 0, 2), (.putfield 61, 3, 10, 7, 1), (.aload_n 0, 1, 0, 0, 0), (.new 65, 3, 5, 6, 0), (.dup, 1, 0, 0, 0), (.invokespecial 67, 3, 11, 0, 2), (.putfield 68, 3, 10, 8, 1), (.return_, 1, 0, 0, 0)], 104)]
set_option maxRecDepth 100000 in
theorem ok_X10_init : pm_oks 10 true 1 none cX10_init bk_X10_init = true := oksG_ok (by decide +kernel)
set_option maxRecDepth 100000 in
theorem me_X10_init : pm_me 0 = (yX10_init, cX10_init, 1, none, 0, 2) := pm_mq_ok rfl
theorem mt_X10_init {l : Launch} {g : pm_G} {d mc ms : Nat} {as : List Value} {A : pm_H} {Q : Option Value → pm_H → Prop} (hca : pm_cat 1 as = true) (body : ∀ J : pm_J, pm_Cl l g (fun _ => none) d mc ms (pm_Rq mc ms Q) bk_X10_init J → J 0 (pm_l0 1 as) [] A 0 0) : pm_Mt l g 0 d mc ms as A Q := pm_Mt_of (isI := true) 10 bk_X10_init me_X10_init (plainFor_of_name plX10) rfl (fun _ => by decide +kernel) ok_X10_init hca body
noncomputable def bk_X10_put : pm_B := [(0, [(.aload_n 0, 1, 0, 0, 0), (.iload_n 1, 1, 1, 0, 0), (.iload_n 1, 1, 1, 0, 0), (.iload_n 2, 1, 2, 0, 0), (.invokevirtual 76, 3, 13, 3, 10), (.ireturn, 1, 0, 0, 0)], 8)]
set_option maxRecDepth 100000 in
theorem ok_X10_put : pm_oks 10 false 3 (some .int) cX10_put bk_X10_put = true := oksG_ok (by decide +kernel)
set_option maxRecDepth 100000 in
theorem me_X10_put : pm_me 12 = (yX10_put, cX10_put, 3, (some .int), 2, 0) := pm_mq_ok rfl
theorem mt_X10_put {l : Launch} {g : pm_G} {d mc ms : Nat} {as : List Value} {A : pm_H} {Q : Option Value → pm_H → Prop} (hca : pm_cat 3 as = true) (body : ∀ J : pm_J, pm_Cl l g (fun _ => none) d mc ms (pm_Rq mc ms Q) bk_X10_put J → J 0 (pm_l0 3 as) [] A 0 0) : pm_Mt l g 12 d mc ms as A Q := pm_Mt_of (isI := false) 10 bk_X10_put me_X10_put (plainFor_of_name plX10) rfl (fun h => by cases h) ok_X10_put hca body
noncomputable def bk_X10_paint : pm_B := [(0, [(.aload_n 0, 1, 0, 0, 0), (.getfield 12, 3, 10, 0, 0), (.getfield 80, 3, 9, 4, 0), (.astore 4, 2, 4, 0, 0), (.aload 4, 2, 4, 0, 0), (.iload_n 1, 1, 1, 0, 0), (.iload_n 2, 1, 2, 0, 0), (.invokevirtual 111, 3, 14, 2, 7), (.ifCond .eq 10, 3, 26, 0, 0), (.iload_n 3, 1, 3, 0, 0), (.invokestatic 72, 3, 15, 1, 0), (.ifCond .ne 5, 3, 28, 0, 0)], 26),
  (26, [(.iconst (-1), 1, 0, 0, -1), (.ireturn, 1, 0, 0, 0)], 28),
  (28, [(.aload_n 0, 1, 0, 0, 0), (.getfield 12, 3, 10, 0, 0), (.invokevirtual 92, 3, 16, 0, 9), (.aload_n 0, 1, 0, 0, 0), (.getfield 12, 3, 10, 0, 0), (.iconst 0, 1, 0, 0, 0), (.iload_n 1, 1, 1, 0, 0), (.iconst 1, 1, 0, 0, 1), (.isub, 1, 0, 0, 0), (.invokevirtual 95, 3, 18, 2, 9), (.iload_n 1, 1, 1, 0, 0), (.istore 5, 2, 5, 0, 0)], 49),
  (49, [(.iload 5, 2, 5, 0, 0), (.iload_n 2, 1, 2, 0, 0), (.if_icmp .gt 19, 3, 71, 0, 0), (.aload_n 0, 1, 0, 0, 0), (.getfield 12, 3, 10, 0, 0), (.iload 5, 2, 5, 0, 0), (.iload_n 3, 1, 3, 0, 0), (.invokevirtual 115, 3, 23, 2, 9), (.iinc 5 1, 3, 5, 0, 1), (.goto (-19), 3, 49, 0, 0)], 71),
  (71, [(.aload_n 0, 1, 0, 0, 0), (.getfield 12, 3, 10, 0, 0), (.iload_n 2, 1, 2, 0, 0), (.iconst 1, 1, 0, 0, 1), (.iadd, 1, 0, 0, 0), (.aload 4, 2, 4, 0, 0), (.getfield 103, 3, 7, 3, 0), (.iconst 1, 1, 0, 0, 1), (.isub, 1, 0, 0, 0), (.invokevirtual 95, 3, 18, 2, 9), (.aload_n 0, 1, 0, 0, 0), (.getfield 12, 3, 10, 0, 0), (.invokevirtual 107, 3, 24, 0, 9), (.ireturn, 1, 0, 0, 0)], 96)]
set_option maxRecDepth 100000 in
theorem ok_X10_paint : pm_oks 10 false 6 (some .int) cX10_paint bk_X10_paint = true := oksG_ok (by decide +kernel)
set_option maxRecDepth 100000 in
theorem me_X10_paint : pm_me 13 = (yX10_paint, cX10_paint, 6, (some .int), 3, 0) := pm_mq_ok rfl
theorem mt_X10_paint {l : Launch} {g : pm_G} {d mc ms : Nat} {as : List Value} {A : pm_H} {Q : Option Value → pm_H → Prop} (hca : pm_cat 6 as = true) (body : ∀ J : pm_J, pm_Cl l g (fun _ => none) d mc ms (pm_Rq mc ms Q) bk_X10_paint J → J 0 (pm_l0 6 as) [] A 0 0) : pm_Mt l g 13 d mc ms as A Q := pm_Mt_of (isI := false) 10 bk_X10_paint me_X10_paint (plainFor_of_name plX10) rfl (fun h => by cases h) ok_X10_paint hca body
noncomputable def bk_X10_isColour : pm_B := [(0, [(.iload_n 0, 1, 0, 0, 0), (.ifCond .lt 13, 3, 14, 0, 0), (.iload_n 0, 1, 0, 0, 0), (.bipush 24, 2, 0, 0, 24), (.if_icmp .ge 7, 3, 14, 0, 0), (.iconst 1, 1, 0, 0, 1), (.goto 4, 3, 15, 0, 0)], 14),
  (14, [(.iconst 0, 1, 0, 0, 0)], 15),
  (15, [(.ireturn, 1, 1, 0, 0)], 16)]
set_option maxRecDepth 100000 in
theorem ok_X10_isColour : pm_oks 10 false 1 (some .boolean) cX10_isColour bk_X10_isColour = true := oksG_ok (by decide +kernel)
set_option maxRecDepth 100000 in
theorem me_X10_isColour : pm_me 15 = (yX10_isColour, cX10_isColour, 1, (some .boolean), 1, 1) := pm_mq_ok rfl
theorem mt_X10_isColour {l : Launch} {g : pm_G} {d mc ms : Nat} {as : List Value} {A : pm_H} {Q : Option Value → pm_H → Prop} (hca : pm_cat 1 as = true) (body : ∀ J : pm_J, pm_Cl l g (fun _ => none) d mc ms (pm_Rq mc ms Q) bk_X10_isColour J → J 0 (pm_l0 1 as) [] A 0 0) : pm_Mt l g 15 d mc ms as A Q := pm_Mt_of (isI := false) 10 bk_X10_isColour me_X10_isColour (plainFor_of_name plX10) rfl (fun h => by cases h) ok_X10_isColour hca body
noncomputable def bk_X10_insert : pm_B := [(0, [(.aload_n 0, 1, 0, 0, 0), (.getfield 12, 3, 10, 0, 0), (.getfield 80, 3, 9, 4, 0), (.astore_n 3, 1, 3, 0, 0), (.aload_n 3, 1, 3, 0, 0), (.iload_n 1, 1, 1, 0, 0), (.invokevirtual 84, 3, 26, 1, 7), (.ifCond .eq 21, 3, 34, 0, 0), (.iload_n 2, 1, 2, 0, 0), (.invokestatic 72, 3, 15, 1, 0), (.ifCond .eq 14, 3, 34, 0, 0), (.aload_n 0, 1, 0, 0, 0), (.getfield 12, 3, 10, 0, 0), (.iconst 1, 1, 0, 0, 1), (.invokevirtual 89, 3, 27, 1, 9), (.ifCond .ne 5, 3, 36, 0, 0)], 34),
  (34, [(.iconst (-1), 1, 0, 0, -1), (.ireturn, 1, 0, 0, 0)], 36),
  (36, [(.aload_n 0, 1, 0, 0, 0), (.getfield 12, 3, 10, 0, 0), (.invokevirtual 92, 3, 16, 0, 9), (.aload_n 0, 1, 0, 0, 0), (.getfield 12, 3, 10, 0, 0), (.iconst 0, 1, 0, 0, 0), (.iload_n 1, 1, 1, 0, 0), (.iconst 1, 1, 0, 0, 1), (.isub, 1, 0, 0, 0), (.invokevirtual 95, 3, 18, 2, 9), (.aload_n 0, 1, 0, 0, 0), (.getfield 12, 3, 10, 0, 0), (.iload_n 2, 1, 2, 0, 0), (.invokevirtual 99, 3, 28, 1, 9), (.aload_n 0, 1, 0, 0, 0), (.getfield 12, 3, 10, 0, 0), (.iload_n 1, 1, 1, 0, 0), (.aload_n 3, 1, 3, 0, 0), (.getfield 103, 3, 7, 3, 0), (.iconst 1, 1, 0, 0, 1), (.isub, 1, 0, 0, 0), (.invokevirtual 95, 3, 18, 2, 9), (.aload_n 0, 1, 0, 0, 0), (.getfield 12, 3, 10, 0, 0), (.invokevirtual 107, 3, 24, 0, 9), (.ireturn, 1, 0, 0, 0)], 84)]
set_option maxRecDepth 100000 in
theorem ok_X10_insert : pm_oks 10 false 4 (some .int) cX10_insert bk_X10_insert = true := oksG_ok (by decide +kernel)
set_option maxRecDepth 100000 in
theorem me_X10_insert : pm_me 25 = (yX10_insert, cX10_insert, 4, (some .int), 2, 0) := pm_mq_ok rfl
theorem mt_X10_insert {l : Launch} {g : pm_G} {d mc ms : Nat} {as : List Value} {A : pm_H} {Q : Option Value → pm_H → Prop} (hca : pm_cat 4 as = true) (body : ∀ J : pm_J, pm_Cl l g (fun _ => none) d mc ms (pm_Rq mc ms Q) bk_X10_insert J → J 0 (pm_l0 4 as) [] A 0 0) : pm_Mt l g 25 d mc ms as A Q := pm_Mt_of (isI := false) 10 bk_X10_insert me_X10_insert (plainFor_of_name plX10) rfl (fun h => by cases h) ok_X10_insert hca body
noncomputable def bk_X10_cut : pm_B := [(0, [(.aload_n 0, 1, 0, 0, 0), (.getfield 12, 3, 10, 0, 0), (.getfield 80, 3, 9, 4, 0), (.astore_n 3, 1, 3, 0, 0), (.aload_n 3, 1, 3, 0, 0), (.iload_n 1, 1, 1, 0, 0), (.iload_n 2, 1, 2, 0, 0), (.invokevirtual 111, 3, 14, 2, 7), (.ifCond .ne 5, 3, 19, 0, 0), (.iconst (-1), 1, 0, 0, -1), (.ireturn, 1, 0, 0, 0)], 19),
  (19, [(.aload_n 0, 1, 0, 0, 0), (.getfield 12, 3, 10, 0, 0), (.invokevirtual 92, 3, 16, 0, 9), (.aload_n 0, 1, 0, 0, 0), (.getfield 12, 3, 10, 0, 0), (.iconst 0, 1, 0, 0, 0), (.iload_n 1, 1, 1, 0, 0), (.iconst 1, 1, 0, 0, 1), (.isub, 1, 0, 0, 0), (.invokevirtual 95, 3, 18, 2, 9), (.aload_n 0, 1, 0, 0, 0), (.getfield 12, 3, 10, 0, 0), (.iload_n 2, 1, 2, 0, 0), (.iconst 1, 1, 0, 0, 1), (.iadd, 1, 0, 0, 0), (.aload_n 3, 1, 3, 0, 0), (.getfield 103, 3, 7, 3, 0), (.iconst 1, 1, 0, 0, 1), (.isub, 1, 0, 0, 0), (.invokevirtual 95, 3, 18, 2, 9), (.aload_n 0, 1, 0, 0, 0), (.getfield 12, 3, 10, 0, 0), (.invokevirtual 107, 3, 24, 0, 9), (.ireturn, 1, 0, 0, 0)], 61)]
set_option maxRecDepth 100000 in
theorem ok_X10_cut : pm_oks 10 false 4 (some .int) cX10_cut bk_X10_cut = true := oksG_ok (by decide +kernel)
set_option maxRecDepth 100000 in
theorem me_X10_cut : pm_me 29 = (yX10_cut, cX10_cut, 4, (some .int), 2, 0) := pm_mq_ok rfl
theorem mt_X10_cut {l : Launch} {g : pm_G} {d mc ms : Nat} {as : List Value} {A : pm_H} {Q : Option Value → pm_H → Prop} (hca : pm_cat 4 as = true) (body : ∀ J : pm_J, pm_Cl l g (fun _ => none) d mc ms (pm_Rq mc ms Q) bk_X10_cut J → J 0 (pm_l0 4 as) [] A 0 0) : pm_Mt l g 29 d mc ms as A Q := pm_Mt_of (isI := false) 10 bk_X10_cut me_X10_cut (plainFor_of_name plX10) rfl (fun h => by cases h) ok_X10_cut hca body
noncomputable def bk_X10_turn : pm_B := [(0, [(.aload_n 0, 1, 0, 0, 0), (.getfield 12, 3, 10, 0, 0), (.getfield 80, 3, 9, 4, 0), (.astore_n 3, 1, 3, 0, 0), (.aload_n 3, 1, 3, 0, 0), (.iload_n 1, 1, 1, 0, 0), (.iload_n 2, 1, 2, 0, 0), (.invokevirtual 111, 3, 14, 2, 7), (.ifCond .ne 5, 3, 19, 0, 0), (.iconst (-1), 1, 0, 0, -1), (.ireturn, 1, 0, 0, 0)], 19),
  (19, [(.aload_n 0, 1, 0, 0, 0), (.getfield 12, 3, 10, 0, 0), (.invokevirtual 92, 3, 16, 0, 9), (.aload_n 0, 1, 0, 0, 0), (.getfield 12, 3, 10, 0, 0), (.iconst 0, 1, 0, 0, 0), (.iload_n 1, 1, 1, 0, 0), (.iconst 1, 1, 0, 0, 1), (.isub, 1, 0, 0, 0), (.invokevirtual 95, 3, 18, 2, 9), (.iload_n 2, 1, 2, 0, 0), (.istore 4, 2, 4, 0, 0)], 40),
  (40, [(.iload 4, 2, 4, 0, 0), (.iload_n 1, 1, 1, 0, 0), (.if_icmp .lt 20, 3, 63, 0, 0), (.aload_n 0, 1, 0, 0, 0), (.getfield 12, 3, 10, 0, 0), (.iload 4, 2, 4, 0, 0), (.iload 4, 2, 4, 0, 0), (.invokevirtual 95, 3, 18, 2, 9), (.iinc 4 (-1), 3, 4, 0, -1), (.goto (-20), 3, 40, 0, 0)], 63),
  (63, [(.aload_n 0, 1, 0, 0, 0), (.getfield 12, 3, 10, 0, 0), (.iload_n 2, 1, 2, 0, 0), (.iconst 1, 1, 0, 0, 1), (.iadd, 1, 0, 0, 0), (.aload_n 3, 1, 3, 0, 0), (.getfield 103, 3, 7, 3, 0), (.iconst 1, 1, 0, 0, 1), (.isub, 1, 0, 0, 0), (.invokevirtual 95, 3, 18, 2, 9), (.aload_n 0, 1, 0, 0, 0), (.getfield 12, 3, 10, 0, 0), (.invokevirtual 107, 3, 24, 0, 9), (.ireturn, 1, 0, 0, 0)], 87)]
set_option maxRecDepth 100000 in
theorem ok_X10_turn : pm_oks 10 false 5 (some .int) cX10_turn bk_X10_turn = true := oksG_ok (by decide +kernel)
set_option maxRecDepth 100000 in
theorem me_X10_turn : pm_me 30 = (yX10_turn, cX10_turn, 5, (some .int), 2, 0) := pm_mq_ok rfl
theorem mt_X10_turn {l : Launch} {g : pm_G} {d mc ms : Nat} {as : List Value} {A : pm_H} {Q : Option Value → pm_H → Prop} (hca : pm_cat 5 as = true) (body : ∀ J : pm_J, pm_Cl l g (fun _ => none) d mc ms (pm_Rq mc ms Q) bk_X10_turn J → J 0 (pm_l0 5 as) [] A 0 0) : pm_Mt l g 30 d mc ms as A Q := pm_Mt_of (isI := false) 10 bk_X10_turn me_X10_turn (plainFor_of_name plX10) rfl (fun h => by cases h) ok_X10_turn hca body
noncomputable def bk_X10_shift : pm_B := [(0, [(.aload_n 0, 1, 0, 0, 0), (.getfield 12, 3, 10, 0, 0), (.getfield 80, 3, 9, 4, 0), (.astore 4, 2, 4, 0, 0), (.aload 4, 2, 4, 0, 0), (.iload_n 1, 1, 1, 0, 0), (.iload_n 2, 1, 2, 0, 0), (.invokevirtual 111, 3, 14, 2, 7), (.ifCond .eq 16, 3, 32, 0, 0), (.iload_n 3, 1, 3, 0, 0), (.ifCond .lt 12, 3, 32, 0, 0), (.iload_n 3, 1, 3, 0, 0), (.iload_n 2, 1, 2, 0, 0), (.iload_n 1, 1, 1, 0, 0), (.isub, 1, 0, 0, 0), (.iconst 1, 1, 0, 0, 1), (.iadd, 1, 0, 0, 0), (.if_icmp .le 5, 3, 34, 0, 0)], 32),
  (32, [(.iconst (-1), 1, 0, 0, -1), (.ireturn, 1, 0, 0, 0)], 34),
  (34, [(.aload_n 0, 1, 0, 0, 0), (.getfield 12, 3, 10, 0, 0), (.invokevirtual 92, 3, 16, 0, 9), (.aload_n 0, 1, 0, 0, 0), (.getfield 12, 3, 10, 0, 0), (.iconst 0, 1, 0, 0, 0), (.iload_n 1, 1, 1, 0, 0), (.iconst 1, 1, 0, 0, 1), (.isub, 1, 0, 0, 0), (.invokevirtual 95, 3, 18, 2, 9), (.aload_n 0, 1, 0, 0, 0), (.getfield 12, 3, 10, 0, 0), (.iload_n 1, 1, 1, 0, 0), (.iload_n 3, 1, 3, 0, 0), (.iadd, 1, 0, 0, 0), (.iload_n 2, 1, 2, 0, 0), (.invokevirtual 95, 3, 18, 2, 9), (.aload_n 0, 1, 0, 0, 0), (.getfield 12, 3, 10, 0, 0), (.iload_n 1, 1, 1, 0, 0), (.iload_n 1, 1, 1, 0, 0), (.iload_n 3, 1, 3, 0, 0), (.iadd, 1, 0, 0, 0), (.iconst 1, 1, 0, 0, 1), (.isub, 1, 0, 0, 0), (.invokevirtual 95, 3, 18, 2, 9), (.aload_n 0, 1, 0, 0, 0), (.getfield 12, 3, 10, 0, 0), (.iload_n 2, 1, 2, 0, 0), (.iconst 1, 1, 0, 0, 1), (.iadd, 1, 0, 0, 0), (.aload 4, 2, 4, 0, 0), (.getfield 103, 3, 7, 3, 0), (.iconst 1, 1, 0, 0, 1), (.isub, 1, 0, 0, 0), (.invokevirtual 95, 3, 18, 2, 9), (.aload_n 0, 1, 0, 0, 0), (.getfield 12, 3, 10, 0, 0), (.invokevirtual 107, 3, 24, 0, 9), (.ireturn, 1, 0, 0, 0)], 101)]
set_option maxRecDepth 100000 in
theorem ok_X10_shift : pm_oks 10 false 5 (some .int) cX10_shift bk_X10_shift = true := oksG_ok (by decide +kernel)
set_option maxRecDepth 100000 in
theorem me_X10_shift : pm_me 31 = (yX10_shift, cX10_shift, 5, (some .int), 3, 0) := pm_mq_ok rfl
theorem mt_X10_shift {l : Launch} {g : pm_G} {d mc ms : Nat} {as : List Value} {A : pm_H} {Q : Option Value → pm_H → Prop} (hca : pm_cat 5 as = true) (body : ∀ J : pm_J, pm_Cl l g (fun _ => none) d mc ms (pm_Rq mc ms Q) bk_X10_shift J → J 0 (pm_l0 5 as) [] A 0 0) : pm_Mt l g 31 d mc ms as A Q := pm_Mt_of (isI := false) 10 bk_X10_shift me_X10_shift (plainFor_of_name plX10) rfl (fun h => by cases h) ok_X10_shift hca body
noncomputable def bk_X10_sort : pm_B := [(0, [(.aload_n 0, 1, 0, 0, 0), (.getfield 12, 3, 10, 0, 0), (.getfield 80, 3, 9, 4, 0), (.astore_n 3, 1, 3, 0, 0), (.aload_n 3, 1, 3, 0, 0), (.iload_n 1, 1, 1, 0, 0), (.iload_n 2, 1, 2, 0, 0), (.invokevirtual 111, 3, 14, 2, 7), (.ifCond .ne 5, 3, 19, 0, 0), (.iconst (-1), 1, 0, 0, -1), (.ireturn, 1, 0, 0, 0)], 19),
  (19, [(.aload_n 0, 1, 0, 0, 0), (.getfield 12, 3, 10, 0, 0), (.invokevirtual 92, 3, 16, 0, 9), (.aload_n 0, 1, 0, 0, 0), (.getfield 12, 3, 10, 0, 0), (.iconst 0, 1, 0, 0, 0), (.iload_n 1, 1, 1, 0, 0), (.iconst 1, 1, 0, 0, 1), (.isub, 1, 0, 0, 0), (.invokevirtual 95, 3, 18, 2, 9), (.iconst 0, 1, 0, 0, 0), (.istore 4, 2, 4, 0, 0)], 40),
  (40, [(.iload 4, 2, 4, 0, 0), (.bipush 24, 2, 0, 0, 24), (.if_icmp .ge 20, 3, 64, 0, 0), (.aload_n 0, 1, 0, 0, 0), (.getfield 12, 3, 10, 0, 0), (.iload 4, 2, 4, 0, 0), (.iload_n 1, 1, 1, 0, 0), (.iload_n 2, 1, 2, 0, 0), (.invokevirtual 118, 3, 33, 3, 9), (.iinc 4 1, 3, 4, 0, 1), (.goto (-21), 3, 40, 0, 0)], 64),
  (64, [(.aload_n 0, 1, 0, 0, 0), (.getfield 12, 3, 10, 0, 0), (.iload_n 2, 1, 2, 0, 0), (.iconst 1, 1, 0, 0, 1), (.iadd, 1, 0, 0, 0), (.aload_n 3, 1, 3, 0, 0), (.getfield 103, 3, 7, 3, 0), (.iconst 1, 1, 0, 0, 1), (.isub, 1, 0, 0, 0), (.invokevirtual 95, 3, 18, 2, 9), (.aload_n 0, 1, 0, 0, 0), (.getfield 12, 3, 10, 0, 0), (.invokevirtual 107, 3, 24, 0, 9), (.ireturn, 1, 0, 0, 0)], 88)]
set_option maxRecDepth 100000 in
theorem ok_X10_sort : pm_oks 10 false 5 (some .int) cX10_sort bk_X10_sort = true := oksG_ok (by decide +kernel)
set_option maxRecDepth 100000 in
theorem me_X10_sort : pm_me 32 = (yX10_sort, cX10_sort, 5, (some .int), 2, 0) := pm_mq_ok rfl
theorem mt_X10_sort {l : Launch} {g : pm_G} {d mc ms : Nat} {as : List Value} {A : pm_H} {Q : Option Value → pm_H → Prop} (hca : pm_cat 5 as = true) (body : ∀ J : pm_J, pm_Cl l g (fun _ => none) d mc ms (pm_Rq mc ms Q) bk_X10_sort J → J 0 (pm_l0 5 as) [] A 0 0) : pm_Mt l g 32 d mc ms as A Q := pm_Mt_of (isI := false) 10 bk_X10_sort me_X10_sort (plainFor_of_name plX10) rfl (fun h => by cases h) ok_X10_sort hca body
noncomputable def bk_X10_swap : pm_B := [(0, [(.aload_n 0, 1, 0, 0, 0), (.getfield 12, 3, 10, 0, 0), (.getfield 80, 3, 9, 4, 0), (.astore 5, 2, 5, 0, 0), (.aload 5, 2, 5, 0, 0), (.iload_n 1, 1, 1, 0, 0), (.iload_n 2, 1, 2, 0, 0), (.invokevirtual 111, 3, 14, 2, 7), (.ifCond .eq 14, 3, 30, 0, 0), (.aload 5, 2, 5, 0, 0), (.iload_n 3, 1, 3, 0, 0), (.iload 4, 2, 4, 0, 0), (.invokevirtual 111, 3, 14, 2, 7), (.ifCond .ne 5, 3, 32, 0, 0)], 30),
  (30, [(.iconst (-1), 1, 0, 0, -1), (.ireturn, 1, 0, 0, 0)], 32),
  (32, [(.iload_n 2, 1, 2, 0, 0), (.iload_n 3, 1, 3, 0, 0), (.if_icmp .ge 13, 3, 47, 0, 0), (.aload_n 0, 1, 0, 0, 0), (.iload_n 1, 1, 1, 0, 0), (.iload_n 2, 1, 2, 0, 0), (.iload_n 3, 1, 3, 0, 0), (.iload 4, 2, 4, 0, 0), (.invokevirtual 122, 3, 35, 4, 10), (.ireturn, 1, 0, 0, 0)], 47),
  (47, [(.iload 4, 2, 4, 0, 0), (.iload_n 1, 1, 1, 0, 0), (.if_icmp .ge 15, 3, 65, 0, 0), (.aload_n 0, 1, 0, 0, 0), (.iload_n 3, 1, 3, 0, 0), (.iload 4, 2, 4, 0, 0), (.iload_n 1, 1, 1, 0, 0), (.iload_n 2, 1, 2, 0, 0), (.invokevirtual 122, 3, 35, 4, 10), (.goto 4, 3, 66, 0, 0)], 65),
  (65, [(.iconst (-1), 1, 0, 0, -1)], 66),
  (66, [(.ireturn, 1, 0, 0, 0)], 67)]
set_option maxRecDepth 100000 in
theorem ok_X10_swap : pm_oks 10 false 6 (some .int) cX10_swap bk_X10_swap = true := oksG_ok (by decide +kernel)
set_option maxRecDepth 100000 in
theorem me_X10_swap : pm_me 34 = (yX10_swap, cX10_swap, 6, (some .int), 4, 0) := pm_mq_ok rfl
theorem mt_X10_swap {l : Launch} {g : pm_G} {d mc ms : Nat} {as : List Value} {A : pm_H} {Q : Option Value → pm_H → Prop} (hca : pm_cat 6 as = true) (body : ∀ J : pm_J, pm_Cl l g (fun _ => none) d mc ms (pm_Rq mc ms Q) bk_X10_swap J → J 0 (pm_l0 6 as) [] A 0 0) : pm_Mt l g 34 d mc ms as A Q := pm_Mt_of (isI := false) 10 bk_X10_swap me_X10_swap (plainFor_of_name plX10) rfl (fun h => by cases h) ok_X10_swap hca body
noncomputable def bk_X10_swapInOrder : pm_B := [(0, [(.aload_n 0, 1, 0, 0, 0), (.getfield 12, 3, 10, 0, 0), (.invokevirtual 92, 3, 16, 0, 9), (.aload_n 0, 1, 0, 0, 0), (.getfield 12, 3, 10, 0, 0), (.iconst 0, 1, 0, 0, 0), (.iload_n 1, 1, 1, 0, 0), (.iconst 1, 1, 0, 0, 1), (.isub, 1, 0, 0, 0), (.invokevirtual 95, 3, 18, 2, 9), (.aload_n 0, 1, 0, 0, 0), (.getfield 12, 3, 10, 0, 0), (.iload_n 3, 1, 3, 0, 0), (.iload 4, 2, 4, 0, 0), (.invokevirtual 95, 3, 18, 2, 9), (.aload_n 0, 1, 0, 0, 0), (.getfield 12, 3, 10, 0, 0), (.iload_n 2, 1, 2, 0, 0), (.iconst 1, 1, 0, 0, 1), (.iadd, 1, 0, 0, 0), (.iload_n 3, 1, 3, 0, 0), (.iconst 1, 1, 0, 0, 1), (.isub, 1, 0, 0, 0), (.invokevirtual 95, 3, 18, 2, 9), (.aload_n 0, 1, 0, 0, 0), (.getfield 12, 3, 10, 0, 0), (.iload_n 1, 1, 1, 0, 0), (.iload_n 2, 1, 2, 0, 0), (.invokevirtual 95, 3, 18, 2, 9), (.aload_n 0, 1, 0, 0, 0), (.getfield 12, 3, 10, 0, 0), (.iload 4, 2, 4, 0, 0), (.iconst 1, 1, 0, 0, 1), (.iadd, 1, 0, 0, 0), (.aload_n 0, 1, 0, 0, 0), (.getfield 12, 3, 10, 0, 0), (.getfield 80, 3, 9, 4, 0), (.getfield 103, 3, 7, 3, 0), (.iconst 1, 1, 0, 0, 1), (.isub, 1, 0, 0, 0), (.invokevirtual 95, 3, 18, 2, 9), (.aload_n 0, 1, 0, 0, 0), (.getfield 12, 3, 10, 0, 0), (.invokevirtual 107, 3, 24, 0, 9), (.ireturn, 1, 0, 0, 0)], 81)]
set_option maxRecDepth 100000 in
theorem ok_X10_swapInOrder : pm_oks 10 false 5 (some .int) cX10_swapInOrder bk_X10_swapInOrder = true := oksG_ok (by decide +kernel)
set_option maxRecDepth 100000 in
theorem me_X10_swapInOrder : pm_me 35 = (yX10_swapInOrder, cX10_swapInOrder, 5, (some .int), 4, 0) := pm_mq_ok rfl
theorem mt_X10_swapInOrder {l : Launch} {g : pm_G} {d mc ms : Nat} {as : List Value} {A : pm_H} {Q : Option Value → pm_H → Prop} (hca : pm_cat 5 as = true) (body : ∀ J : pm_J, pm_Cl l g (fun _ => none) d mc ms (pm_Rq mc ms Q) bk_X10_swapInOrder J → J 0 (pm_l0 5 as) [] A 0 0) : pm_Mt l g 35 d mc ms as A Q := pm_Mt_of (isI := false) 10 bk_X10_swapInOrder me_X10_swapInOrder (plainFor_of_name plX10) rfl (fun h => by cases h) ok_X10_swapInOrder hca body
noncomputable def bk_X10_copy : pm_B := [(0, [(.aload_n 0, 1, 0, 0, 0), (.getfield 12, 3, 10, 0, 0), (.getfield 80, 3, 9, 4, 0), (.astore 4, 2, 4, 0, 0), (.aload 4, 2, 4, 0, 0), (.iload_n 1, 1, 1, 0, 0), (.iload_n 2, 1, 2, 0, 0), (.invokevirtual 111, 3, 14, 2, 7), (.ifCond .eq 27, 3, 43, 0, 0), (.aload 4, 2, 4, 0, 0), (.iload_n 3, 1, 3, 0, 0), (.invokevirtual 84, 3, 26, 1, 7), (.ifCond .eq 18, 3, 43, 0, 0), (.aload_n 0, 1, 0, 0, 0), (.getfield 12, 3, 10, 0, 0), (.iload_n 2, 1, 2, 0, 0), (.iload_n 1, 1, 1, 0, 0), (.isub, 1, 0, 0, 0), (.iconst 1, 1, 0, 0, 1), (.iadd, 1, 0, 0, 0), (.invokevirtual 89, 3, 27, 1, 9), (.ifCond .ne 5, 3, 45, 0, 0)], 43),
  (43, [(.iconst (-1), 1, 0, 0, -1), (.ireturn, 1, 0, 0, 0)], 45),
  (45, [(.aload_n 0, 1, 0, 0, 0), (.getfield 12, 3, 10, 0, 0), (.invokevirtual 92, 3, 16, 0, 9), (.aload_n 0, 1, 0, 0, 0), (.getfield 12, 3, 10, 0, 0), (.iconst 0, 1, 0, 0, 0), (.iload_n 3, 1, 3, 0, 0), (.iconst 1, 1, 0, 0, 1), (.isub, 1, 0, 0, 0), (.invokevirtual 95, 3, 18, 2, 9), (.iload_n 1, 1, 1, 0, 0), (.istore 5, 2, 5, 0, 0)], 66),
  (66, [(.iload 5, 2, 5, 0, 0), (.iload_n 2, 1, 2, 0, 0), (.if_icmp .gt 24, 3, 93, 0, 0), (.aload_n 0, 1, 0, 0, 0), (.getfield 12, 3, 10, 0, 0), (.aload 4, 2, 4, 0, 0), (.getfield 126, 3, 7, 0, 0), (.iload 5, 2, 5, 0, 0), (.iaload, 1, 0, 0, 0), (.invokevirtual 99, 3, 28, 1, 9), (.iinc 5 1, 3, 5, 0, 1), (.goto (-24), 3, 66, 0, 0)], 93),
  (93, [(.aload_n 0, 1, 0, 0, 0), (.getfield 12, 3, 10, 0, 0), (.iload_n 3, 1, 3, 0, 0), (.aload 4, 2, 4, 0, 0), (.getfield 103, 3, 7, 3, 0), (.iconst 1, 1, 0, 0, 1), (.isub, 1, 0, 0, 0), (.invokevirtual 95, 3, 18, 2, 9), (.aload_n 0, 1, 0, 0, 0), (.getfield 12, 3, 10, 0, 0), (.invokevirtual 107, 3, 24, 0, 9), (.ireturn, 1, 0, 0, 0)], 116)]
set_option maxRecDepth 100000 in
theorem ok_X10_copy : pm_oks 10 false 6 (some .int) cX10_copy bk_X10_copy = true := oksG_ok (by decide +kernel)
set_option maxRecDepth 100000 in
theorem me_X10_copy : pm_me 36 = (yX10_copy, cX10_copy, 6, (some .int), 3, 0) := pm_mq_ok rfl
theorem mt_X10_copy {l : Launch} {g : pm_G} {d mc ms : Nat} {as : List Value} {A : pm_H} {Q : Option Value → pm_H → Prop} (hca : pm_cat 6 as = true) (body : ∀ J : pm_J, pm_Cl l g (fun _ => none) d mc ms (pm_Rq mc ms Q) bk_X10_copy J → J 0 (pm_l0 6 as) [] A 0 0) : pm_Mt l g 36 d mc ms as A Q := pm_Mt_of (isI := false) 10 bk_X10_copy me_X10_copy (plainFor_of_name plX10) rfl (fun h => by cases h) ok_X10_copy hca body
noncomputable def bk_X10_merge : pm_B := [(0, [(.iload_n 1, 1, 1, 0, 0), (.iload_n 2, 1, 2, 0, 0), (.invokestatic 130, 3, 38, 2, 0), (.ifCond .ne 5, 3, 10, 0, 0), (.iconst (-1), 1, 0, 0, -1), (.ireturn, 1, 0, 0, 0)], 10),
  (10, [(.aload_n 0, 1, 0, 0, 0), (.getfield 12, 3, 10, 0, 0), (.getfield 80, 3, 9, 4, 0), (.astore_n 3, 1, 3, 0, 0), (.aload_n 0, 1, 0, 0, 0), (.getfield 12, 3, 10, 0, 0), (.invokevirtual 92, 3, 16, 0, 9), (.iconst 0, 1, 0, 0, 0), (.istore 4, 2, 4, 0, 0)], 28),
  (28, [(.iload 4, 2, 4, 0, 0), (.aload_n 3, 1, 3, 0, 0), (.getfield 103, 3, 7, 3, 0), (.if_icmp .ge 40, 3, 74, 0, 0), (.aload_n 0, 1, 0, 0, 0), (.getfield 12, 3, 10, 0, 0), (.iload 4, 2, 4, 0, 0), (.aload_n 3, 1, 3, 0, 0), (.getfield 126, 3, 7, 0, 0), (.iload 4, 2, 4, 0, 0), (.iaload, 1, 0, 0, 0), (.iload_n 1, 1, 1, 0, 0), (.if_icmp .ne 7, 3, 58, 0, 0), (.iload_n 2, 1, 2, 0, 0), (.goto 10, 3, 65, 0, 0)], 58),
  (58, [(.aload_n 3, 1, 3, 0, 0), (.getfield 126, 3, 7, 0, 0), (.iload 4, 2, 4, 0, 0), (.iaload, 1, 0, 0, 0)], 65),
  (65, [(.invokevirtual 115, 3, 23, 2, 9), (.iinc 4 1, 3, 4, 0, 1), (.goto (-43), 3, 28, 0, 0)], 74),
  (74, [(.aload_n 0, 1, 0, 0, 0), (.getfield 12, 3, 10, 0, 0), (.invokevirtual 107, 3, 24, 0, 9), (.ireturn, 1, 0, 0, 0)], 82)]
set_option maxRecDepth 100000 in
theorem ok_X10_merge : pm_oks 10 false 5 (some .int) cX10_merge bk_X10_merge = true := oksG_ok (by decide +kernel)
set_option maxRecDepth 100000 in
theorem me_X10_merge : pm_me 37 = (yX10_merge, cX10_merge, 5, (some .int), 2, 0) := pm_mq_ok rfl
theorem mt_X10_merge {l : Launch} {g : pm_G} {d mc ms : Nat} {as : List Value} {A : pm_H} {Q : Option Value → pm_H → Prop} (hca : pm_cat 5 as = true) (body : ∀ J : pm_J, pm_Cl l g (fun _ => none) d mc ms (pm_Rq mc ms Q) bk_X10_merge J → J 0 (pm_l0 5 as) [] A 0 0) : pm_Mt l g 37 d mc ms as A Q := pm_Mt_of (isI := false) 10 bk_X10_merge me_X10_merge (plainFor_of_name plX10) rfl (fun h => by cases h) ok_X10_merge hca body
noncomputable def bk_X10_areUnlikeColours : pm_B := [(0, [(.iload_n 0, 1, 0, 0, 0), (.invokestatic 72, 3, 15, 1, 0), (.ifCond .eq 19, 3, 23, 0, 0), (.iload_n 1, 1, 1, 0, 0), (.invokestatic 72, 3, 15, 1, 0), (.ifCond .eq 12, 3, 23, 0, 0), (.iload_n 0, 1, 0, 0, 0), (.iload_n 1, 1, 1, 0, 0), (.if_icmp .eq 7, 3, 23, 0, 0), (.iconst 1, 1, 0, 0, 1), (.goto 4, 3, 24, 0, 0)], 23),
  (23, [(.iconst 0, 1, 0, 0, 0)], 24),
  (24, [(.ireturn, 1, 1, 0, 0)], 25)]
set_option maxRecDepth 100000 in
theorem ok_X10_areUnlikeColours : pm_oks 10 false 2 (some .boolean) cX10_areUnlikeColours bk_X10_areUnlikeColours = true := oksG_ok (by decide +kernel)
set_option maxRecDepth 100000 in
theorem me_X10_areUnlikeColours : pm_me 38 = (yX10_areUnlikeColours, cX10_areUnlikeColours, 2, (some .boolean), 2, 1) := pm_mq_ok rfl
theorem mt_X10_areUnlikeColours {l : Launch} {g : pm_G} {d mc ms : Nat} {as : List Value} {A : pm_H} {Q : Option Value → pm_H → Prop} (hca : pm_cat 2 as = true) (body : ∀ J : pm_J, pm_Cl l g (fun _ => none) d mc ms (pm_Rq mc ms Q) bk_X10_areUnlikeColours J → J 0 (pm_l0 2 as) [] A 0 0) : pm_Mt l g 38 d mc ms as A Q := pm_Mt_of (isI := false) 10 bk_X10_areUnlikeColours me_X10_areUnlikeColours (plainFor_of_name plX10) rfl (fun h => by cases h) ok_X10_areUnlikeColours hca body
noncomputable def bk_X10_exchange : pm_B := [(0, [(.iload_n 1, 1, 1, 0, 0), (.iload_n 2, 1, 2, 0, 0), (.invokestatic 130, 3, 38, 2, 0), (.ifCond .ne 5, 3, 10, 0, 0), (.iconst (-1), 1, 0, 0, -1), (.ireturn, 1, 0, 0, 0)], 10),
  (10, [(.aload_n 0, 1, 0, 0, 0), (.getfield 12, 3, 10, 0, 0), (.getfield 80, 3, 9, 4, 0), (.astore_n 3, 1, 3, 0, 0), (.aload_n 0, 1, 0, 0, 0), (.getfield 12, 3, 10, 0, 0), (.invokevirtual 92, 3, 16, 0, 9), (.iconst 0, 1, 0, 0, 0), (.istore 4, 2, 4, 0, 0)], 28),
  (28, [(.iload 4, 2, 4, 0, 0), (.aload_n 3, 1, 3, 0, 0), (.getfield 103, 3, 7, 3, 0), (.if_icmp .ge 49, 3, 83, 0, 0), (.aload_n 3, 1, 3, 0, 0), (.getfield 126, 3, 7, 0, 0), (.iload 4, 2, 4, 0, 0), (.iaload, 1, 0, 0, 0), (.istore 5, 2, 5, 0, 0), (.aload_n 0, 1, 0, 0, 0), (.getfield 12, 3, 10, 0, 0), (.iload 4, 2, 4, 0, 0), (.iload 5, 2, 5, 0, 0), (.iload_n 1, 1, 1, 0, 0), (.if_icmp .ne 7, 3, 62, 0, 0), (.iload_n 2, 1, 2, 0, 0), (.goto 15, 3, 74, 0, 0)], 62),
  (62, [(.iload 5, 2, 5, 0, 0), (.iload_n 2, 1, 2, 0, 0), (.if_icmp .ne 7, 3, 72, 0, 0), (.iload_n 1, 1, 1, 0, 0), (.goto 5, 3, 74, 0, 0)], 72),
  (72, [(.iload 5, 2, 5, 0, 0)], 74),
  (74, [(.invokevirtual 115, 3, 23, 2, 9), (.iinc 4 1, 3, 4, 0, 1), (.goto (-52), 3, 28, 0, 0)], 83),
  (83, [(.aload_n 0, 1, 0, 0, 0), (.getfield 12, 3, 10, 0, 0), (.invokevirtual 107, 3, 24, 0, 9), (.ireturn, 1, 0, 0, 0)], 91)]
set_option maxRecDepth 100000 in
theorem ok_X10_exchange : pm_oks 10 false 6 (some .int) cX10_exchange bk_X10_exchange = true := oksG_ok (by decide +kernel)
set_option maxRecDepth 100000 in
theorem me_X10_exchange : pm_me 39 = (yX10_exchange, cX10_exchange, 6, (some .int), 2, 0) := pm_mq_ok rfl
theorem mt_X10_exchange {l : Launch} {g : pm_G} {d mc ms : Nat} {as : List Value} {A : pm_H} {Q : Option Value → pm_H → Prop} (hca : pm_cat 6 as = true) (body : ∀ J : pm_J, pm_Cl l g (fun _ => none) d mc ms (pm_Rq mc ms Q) bk_X10_exchange J → J 0 (pm_l0 6 as) [] A 0 0) : pm_Mt l g 39 d mc ms as A Q := pm_Mt_of (isI := false) 10 bk_X10_exchange me_X10_exchange (plainFor_of_name plX10) rfl (fun h => by cases h) ok_X10_exchange hca body
noncomputable def bk_X10_draw : pm_B := [(0, [(.iload_n 1, 1, 1, 0, 0), (.ifCond .lt 26, 3, 27, 0, 0), (.iload_n 1, 1, 1, 0, 0), (.sipush 9999, 3, 0, 0, 9999), (.if_icmp .gt 19, 3, 27, 0, 0), (.iload_n 2, 1, 2, 0, 0), (.iconst 1, 1, 0, 0, 1), (.if_icmp .lt 14, 3, 27, 0, 0), (.iload_n 2, 1, 2, 0, 0), (.sipush 160, 3, 0, 0, 160), (.if_icmp .gt 7, 3, 27, 0, 0), (.iconst 1, 1, 0, 0, 1), (.goto 4, 3, 28, 0, 0)], 27),
  (27, [(.iconst 0, 1, 0, 0, 0)], 28),
  (28, [(.istore 4, 2, 4, 0, 0), (.iload 4, 2, 4, 0, 0), (.ifCond .eq 25, 3, 57, 0, 0), (.iload_n 3, 1, 3, 0, 0), (.iconst 1, 1, 0, 0, 1), (.if_icmp .lt 20, 3, 57, 0, 0), (.iload_n 3, 1, 3, 0, 0), (.bipush 24, 2, 0, 0, 24), (.if_icmp .gt 14, 3, 57, 0, 0), (.aload_n 0, 1, 0, 0, 0), (.getfield 12, 3, 10, 0, 0), (.iload_n 2, 1, 2, 0, 0), (.invokevirtual 89, 3, 27, 1, 9), (.ifCond .ne 5, 3, 59, 0, 0)], 57),
  (57, [(.iconst (-1), 1, 0, 0, -1), (.ireturn, 1, 0, 0, 0)], 59),
  (59, [(.aload_n 0, 1, 0, 0, 0), (.getfield 12, 3, 10, 0, 0), (.invokevirtual 92, 3, 16, 0, 9), (.aload_n 0, 1, 0, 0, 0), (.getfield 12, 3, 10, 0, 0), (.iconst 0, 1, 0, 0, 0), (.aload_n 0, 1, 0, 0, 0), (.getfield 12, 3, 10, 0, 0), (.getfield 80, 3, 9, 4, 0), (.getfield 103, 3, 7, 3, 0), (.iconst 1, 1, 0, 0, 1), (.isub, 1, 0, 0, 0), (.invokevirtual 95, 3, 18, 2, 9), (.iload_n 1, 1, 1, 0, 0), (.istore 5, 2, 5, 0, 0), (.iconst 0, 1, 0, 0, 0), (.istore 6, 2, 6, 0, 0)], 92),
  (92, [(.iload 6, 2, 6, 0, 0), (.iload_n 2, 1, 2, 0, 0), (.if_icmp .ge 35, 3, 130, 0, 0), (.iload 5, 2, 5, 0, 0), (.sipush 137, 3, 0, 0, 137), (.imul, 1, 0, 0, 0), (.bipush 71, 2, 0, 0, 71), (.iadd, 1, 0, 0, 0), (.sipush 10007, 3, 0, 0, 10007), (.irem, 1, 0, 0, 0), (.istore 5, 2, 5, 0, 0), (.aload_n 0, 1, 0, 0, 0), (.getfield 12, 3, 10, 0, 0), (.iload 5, 2, 5, 0, 0), (.iload_n 3, 1, 3, 0, 0), (.irem, 1, 0, 0, 0), (.invokevirtual 99, 3, 28, 1, 9), (.iinc 6 1, 3, 6, 0, 1), (.goto (-35), 3, 92, 0, 0)], 130),
  (130, [(.aload_n 0, 1, 0, 0, 0), (.getfield 12, 3, 10, 0, 0), (.invokevirtual 107, 3, 24, 0, 9), (.ireturn, 1, 0, 0, 0)], 138)]
set_option maxRecDepth 100000 in
theorem ok_X10_draw : pm_oks 10 false 7 (some .int) cX10_draw bk_X10_draw = true := oksG_ok (by decide +kernel)
set_option maxRecDepth 100000 in
theorem me_X10_draw : pm_me 40 = (yX10_draw, cX10_draw, 7, (some .int), 3, 0) := pm_mq_ok rfl
theorem mt_X10_draw {l : Launch} {g : pm_G} {d mc ms : Nat} {as : List Value} {A : pm_H} {Q : Option Value → pm_H → Prop} (hca : pm_cat 7 as = true) (body : ∀ J : pm_J, pm_Cl l g (fun _ => none) d mc ms (pm_Rq mc ms Q) bk_X10_draw J → J 0 (pm_l0 7 as) [] A 0 0) : pm_Mt l g 40 d mc ms as A Q := pm_Mt_of (isI := false) 10 bk_X10_draw me_X10_draw (plainFor_of_name plX10) rfl (fun h => by cases h) ok_X10_draw hca body
noncomputable def bk_X10_weigh : pm_B := [(0, [(.iload_n 1, 1, 1, 0, 0), (.invokestatic 72, 3, 15, 1, 0), (.ifCond .eq 14, 3, 18, 0, 0), (.iload_n 2, 1, 2, 0, 0), (.ifCond .lt 10, 3, 18, 0, 0), (.iload_n 2, 1, 2, 0, 0), (.sipush 999, 3, 0, 0, 999), (.if_icmp .le 5, 3, 20, 0, 0)], 18),
  (18, [(.iconst (-1), 1, 0, 0, -1), (.ireturn, 1, 0, 0, 0)], 20),
  (20, [(.aload_n 0, 1, 0, 0, 0), (.getfield 19, 3, 10, 1, 0), (.getfield 133, 3, 2, 1, 0), (.iload_n 1, 1, 1, 0, 0), (.iaload, 1, 0, 0, 0), (.istore_n 3, 1, 3, 0, 0), (.aload_n 0, 1, 0, 0, 0), (.getfield 19, 3, 10, 1, 0), (.getfield 133, 3, 2, 1, 0), (.iload_n 1, 1, 1, 0, 0), (.iload_n 2, 1, 2, 0, 0), (.iastore, 1, 0, 0, 0), (.iload_n 3, 1, 3, 0, 0), (.ireturn, 1, 0, 0, 0)], 42)]
set_option maxRecDepth 100000 in
theorem ok_X10_weigh : pm_oks 10 false 4 (some .int) cX10_weigh bk_X10_weigh = true := oksG_ok (by decide +kernel)
set_option maxRecDepth 100000 in
theorem me_X10_weigh : pm_me 41 = (yX10_weigh, cX10_weigh, 4, (some .int), 2, 0) := pm_mq_ok rfl
theorem mt_X10_weigh {l : Launch} {g : pm_G} {d mc ms : Nat} {as : List Value} {A : pm_H} {Q : Option Value → pm_H → Prop} (hca : pm_cat 4 as = true) (body : ∀ J : pm_J, pm_Cl l g (fun _ => none) d mc ms (pm_Rq mc ms Q) bk_X10_weigh J → J 0 (pm_l0 4 as) [] A 0 0) : pm_Mt l g 41 d mc ms as A Q := pm_Mt_of (isI := false) 10 bk_X10_weigh me_X10_weigh (plainFor_of_name plX10) rfl (fun h => by cases h) ok_X10_weigh hca body
noncomputable def bk_X10_at : pm_B := [(0, [(.aload_n 0, 1, 0, 0, 0), (.getfield 12, 3, 10, 0, 0), (.getfield 80, 3, 9, 4, 0), (.astore_n 3, 1, 3, 0, 0), (.iload_n 2, 1, 2, 0, 0), (.iconst 3, 1, 0, 0, 3), (.if_icmp .ne 15, 3, 25, 0, 0), (.aload_n 3, 1, 3, 0, 0), (.aload_n 3, 1, 3, 0, 0), (.iload_n 1, 1, 1, 0, 0), (.invokevirtual 136, 3, 43, 1, 7), (.invokevirtual 140, 3, 21, 1, 7), (.goto 9, 3, 31, 0, 0)], 25),
  (25, [(.aload_n 3, 1, 3, 0, 0), (.iload_n 1, 1, 1, 0, 0), (.iload_n 2, 1, 2, 0, 0), (.invokevirtual 143, 3, 44, 2, 7)], 31),
  (31, [(.ireturn, 1, 0, 0, 0)], 32)]
set_option maxRecDepth 100000 in
theorem ok_X10_at : pm_oks 10 false 4 (some .int) cX10_at bk_X10_at = true := oksG_ok (by decide +kernel)
set_option maxRecDepth 100000 in
theorem me_X10_at : pm_me 42 = (yX10_at, cX10_at, 4, (some .int), 2, 0) := pm_mq_ok rfl
theorem mt_X10_at {l : Launch} {g : pm_G} {d mc ms : Nat} {as : List Value} {A : pm_H} {Q : Option Value → pm_H → Prop} (hca : pm_cat 4 as = true) (body : ∀ J : pm_J, pm_Cl l g (fun _ => none) d mc ms (pm_Rq mc ms Q) bk_X10_at J → J 0 (pm_l0 4 as) [] A 0 0) : pm_Mt l g 42 d mc ms as A Q := pm_Mt_of (isI := false) 10 bk_X10_at me_X10_at (plainFor_of_name plX10) rfl (fun h => by cases h) ok_X10_at hca body
noncomputable def bk_X10_place : pm_B := [(0, [(.aload_n 0, 1, 0, 0, 0), (.getfield 12, 3, 10, 0, 0), (.getfield 80, 3, 9, 4, 0), (.iload_n 1, 1, 1, 0, 0), (.invokevirtual 147, 3, 46, 1, 7), (.ireturn, 1, 0, 0, 0)], 12)]
set_option maxRecDepth 100000 in
theorem ok_X10_place : pm_oks 10 false 2 (some .int) cX10_place bk_X10_place = true := oksG_ok (by decide +kernel)
set_option maxRecDepth 100000 in
theorem me_X10_place : pm_me 45 = (yX10_place, cX10_place, 2, (some .int), 1, 0) := pm_mq_ok rfl
theorem mt_X10_place {l : Launch} {g : pm_G} {d mc ms : Nat} {as : List Value} {A : pm_H} {Q : Option Value → pm_H → Prop} (hca : pm_cat 2 as = true) (body : ∀ J : pm_J, pm_Cl l g (fun _ => none) d mc ms (pm_Rq mc ms Q) bk_X10_place J → J 0 (pm_l0 2 as) [] A 0 0) : pm_Mt l g 45 d mc ms as A Q := pm_Mt_of (isI := false) 10 bk_X10_place me_X10_place (plainFor_of_name plX10) rfl (fun h => by cases h) ok_X10_place hca body
noncomputable def bk_X10_colour : pm_B := [(0, [(.iload_n 1, 1, 1, 0, 0), (.invokestatic 72, 3, 15, 1, 0), (.ifCond .ne 5, 3, 9, 0, 0), (.iconst (-1), 1, 0, 0, -1), (.ireturn, 1, 0, 0, 0)], 9),
  (9, [(.aload_n 0, 1, 0, 0, 0), (.getfield 12, 3, 10, 0, 0), (.getfield 80, 3, 9, 4, 0), (.astore_n 3, 1, 3, 0, 0), (.iload_n 2, 1, 2, 0, 0), (.tableswitch 76 0 4 #[34, 40, 50, 57, 70], 34, 18, 0, 0)], 52),
  (52, [(.aload_n 3, 1, 3, 0, 0), (.iload_n 1, 1, 1, 0, 0), (.invokevirtual 150, 3, 48, 1, 7), (.ireturn, 1, 0, 0, 0)], 58),
  (58, [(.aload_n 0, 1, 0, 0, 0), (.getfield 19, 3, 10, 1, 0), (.getfield 133, 3, 2, 1, 0), (.iload_n 1, 1, 1, 0, 0), (.iaload, 1, 0, 0, 0), (.ireturn, 1, 0, 0, 0)], 68),
  (68, [(.aload_n 3, 1, 3, 0, 0), (.iload_n 1, 1, 1, 0, 0), (.iconst 0, 1, 0, 0, 0), (.invokevirtual 153, 3, 49, 2, 7), (.ireturn, 1, 0, 0, 0)], 75),
  (75, [(.aload_n 3, 1, 3, 0, 0), (.iload_n 1, 1, 1, 0, 0), (.aload_n 3, 1, 3, 0, 0), (.iload_n 1, 1, 1, 0, 0), (.invokevirtual 150, 3, 48, 1, 7), (.iconst 1, 1, 0, 0, 1), (.isub, 1, 0, 0, 0), (.invokevirtual 153, 3, 49, 2, 7), (.ireturn, 1, 0, 0, 0)], 88),
  (88, [(.aload_n 3, 1, 3, 0, 0), (.iload_n 1, 1, 1, 0, 0), (.invokevirtual 156, 3, 50, 1, 7), (.ireturn, 1, 0, 0, 0)], 94),
  (94, [(.iconst (-1), 1, 0, 0, -1), (.ireturn, 1, 0, 0, 0)], 96)]
set_option maxRecDepth 100000 in
theorem ok_X10_colour : pm_oks 10 false 4 (some .int) cX10_colour bk_X10_colour = true := oksG_ok (by decide +kernel)
set_option maxRecDepth 100000 in
theorem me_X10_colour : pm_me 47 = (yX10_colour, cX10_colour, 4, (some .int), 2, 0) := pm_mq_ok rfl
theorem mt_X10_colour {l : Launch} {g : pm_G} {d mc ms : Nat} {as : List Value} {A : pm_H} {Q : Option Value → pm_H → Prop} (hca : pm_cat 4 as = true) (body : ∀ J : pm_J, pm_Cl l g (fun _ => none) d mc ms (pm_Rq mc ms Q) bk_X10_colour J → J 0 (pm_l0 4 as) [] A 0 0) : pm_Mt l g 47 d mc ms as A Q := pm_Mt_of (isI := false) 10 bk_X10_colour me_X10_colour (plainFor_of_name plX10) rfl (fun h => by cases h) ok_X10_colour hca body
noncomputable def bk_X10_nth : pm_B := [(0, [(.aload_n 0, 1, 0, 0, 0), (.getfield 12, 3, 10, 0, 0), (.getfield 80, 3, 9, 4, 0), (.iload_n 1, 1, 1, 0, 0), (.iload_n 2, 1, 2, 0, 0), (.invokevirtual 153, 3, 49, 2, 7), (.ireturn, 1, 0, 0, 0)], 13)]
set_option maxRecDepth 100000 in
theorem ok_X10_nth : pm_oks 10 false 3 (some .int) cX10_nth bk_X10_nth = true := oksG_ok (by decide +kernel)
set_option maxRecDepth 100000 in
theorem me_X10_nth : pm_me 52 = (yX10_nth, cX10_nth, 3, (some .int), 2, 0) := pm_mq_ok rfl
theorem mt_X10_nth {l : Launch} {g : pm_G} {d mc ms : Nat} {as : List Value} {A : pm_H} {Q : Option Value → pm_H → Prop} (hca : pm_cat 3 as = true) (body : ∀ J : pm_J, pm_Cl l g (fun _ => none) d mc ms (pm_Rq mc ms Q) bk_X10_nth J → J 0 (pm_l0 3 as) [] A 0 0) : pm_Mt l g 52 d mc ms as A Q := pm_Mt_of (isI := false) 10 bk_X10_nth me_X10_nth (plainFor_of_name plX10) rfl (fun h => by cases h) ok_X10_nth hca body
noncomputable def bk_X10_about : pm_B := [(0, [(.iload_n 1, 1, 1, 0, 0), (.tableswitch 107 0 5 #[39, 50, 75, 83, 91, 99], 39, 1, 0, 0)], 40),
  (40, [(.aload_n 0, 1, 0, 0, 0), (.getfield 12, 3, 10, 0, 0), (.getfield 80, 3, 9, 4, 0), (.getfield 103, 3, 7, 3, 0), (.ireturn, 1, 0, 0, 0)], 51),
  (51, [(.aload_n 0, 1, 0, 0, 0), (.aload_n 0, 1, 0, 0, 0), (.getfield 12, 3, 10, 0, 0), (.getfield 80, 3, 9, 4, 0), (.iconst 0, 1, 0, 0, 0), (.aload_n 0, 1, 0, 0, 0), (.getfield 12, 3, 10, 0, 0), (.getfield 80, 3, 9, 4, 0), (.getfield 103, 3, 7, 3, 0), (.iconst 1, 1, 0, 0, 1), (.isub, 1, 0, 0, 0), (.invokevirtual 159, 3, 54, 3, 10), (.ireturn, 1, 0, 0, 0)], 76),
  (76, [(.aload_n 0, 1, 0, 0, 0), (.getfield 12, 3, 10, 0, 0), (.getfield 163, 3, 9, 6, 0), (.ireturn, 1, 0, 0, 0)], 84),
  (84, [(.aload_n 0, 1, 0, 0, 0), (.getfield 12, 3, 10, 0, 0), (.getfield 166, 3, 9, 5, 0), (.ireturn, 1, 0, 0, 0)], 92),
  (92, [(.aload_n 0, 1, 0, 0, 0), (.getfield 12, 3, 10, 0, 0), (.getfield 169, 3, 9, 7, 0), (.ireturn, 1, 0, 0, 0)], 100),
  (100, [(.aload_n 0, 1, 0, 0, 0), (.getfield 68, 3, 10, 8, 0), (.getfield 172, 3, 5, 5, 0), (.ireturn, 1, 0, 0, 0)], 108),
  (108, [(.iconst (-1), 1, 0, 0, -1), (.ireturn, 1, 0, 0, 0)], 110)]
set_option maxRecDepth 100000 in
theorem ok_X10_about : pm_oks 10 false 2 (some .int) cX10_about bk_X10_about = true := oksG_ok (by decide +kernel)
set_option maxRecDepth 100000 in
theorem me_X10_about : pm_me 53 = (yX10_about, cX10_about, 2, (some .int), 1, 0) := pm_mq_ok rfl
theorem mt_X10_about {l : Launch} {g : pm_G} {d mc ms : Nat} {as : List Value} {A : pm_H} {Q : Option Value → pm_H → Prop} (hca : pm_cat 2 as = true) (body : ∀ J : pm_J, pm_Cl l g (fun _ => none) d mc ms (pm_Rq mc ms Q) bk_X10_about J → J 0 (pm_l0 2 as) [] A 0 0) : pm_Mt l g 53 d mc ms as A Q := pm_Mt_of (isI := false) 10 bk_X10_about me_X10_about (plainFor_of_name plX10) rfl (fun h => by cases h) ok_X10_about hca body
noncomputable def bk_X10_colourNumber : pm_B := [(0, [(.aload_n 0, 1, 0, 0, 0), (.getfield 19, 3, 10, 1, 0), (.aload_n 1, 1, 1, 0, 0), (.iload_n 2, 1, 2, 0, 0), (.iload_n 3, 1, 3, 0, 0), (.invokevirtual 175, 3, 55, 3, 2), (.aload_n 0, 1, 0, 0, 0), (.getfield 19, 3, 10, 1, 0), (.getfield 179, 3, 2, 3, 0), (.ireturn, 1, 0, 0, 0)], 18)]
set_option maxRecDepth 100000 in
theorem ok_X10_colourNumber : pm_oks 10 false 4 (some .int) cX10_colourNumber bk_X10_colourNumber = true := oksG_ok (by decide +kernel)
set_option maxRecDepth 100000 in
theorem me_X10_colourNumber : pm_me 54 = (yX10_colourNumber, cX10_colourNumber, 4, (some .int), 3, 0) := pm_mq_ok rfl
theorem mt_X10_colourNumber {l : Launch} {g : pm_G} {d mc ms : Nat} {as : List Value} {A : pm_H} {Q : Option Value → pm_H → Prop} (hca : pm_cat 4 as = true) (body : ∀ J : pm_J, pm_Cl l g (fun _ => none) d mc ms (pm_Rq mc ms Q) bk_X10_colourNumber J → J 0 (pm_l0 4 as) [] A 0 0) : pm_Mt l g 54 d mc ms as A Q := pm_Mt_of (isI := false) 10 bk_X10_colourNumber me_X10_colourNumber (plainFor_of_name plX10) rfl (fun h => by cases h) ok_X10_colourNumber hca body
noncomputable def bk_X10_count : pm_B := [(0, [(.aload_n 0, 1, 0, 0, 0), (.iload_n 1, 1, 1, 0, 0), (.iload_n 2, 1, 2, 0, 0), (.invokevirtual 182, 3, 59, 2, 10), (.ifCond .eq 13, 3, 19, 0, 0), (.aload_n 0, 1, 0, 0, 0), (.getfield 19, 3, 10, 1, 0), (.getfield 179, 3, 2, 3, 0), (.goto 4, 3, 20, 0, 0)], 19),
  (19, [(.iconst (-1), 1, 0, 0, -1)], 20),
  (20, [(.ireturn, 1, 0, 0, 0)], 21)]
set_option maxRecDepth 100000 in
theorem ok_X10_count : pm_oks 10 false 3 (some .int) cX10_count bk_X10_count = true := oksG_ok (by decide +kernel)
set_option maxRecDepth 100000 in
theorem me_X10_count : pm_me 58 = (yX10_count, cX10_count, 3, (some .int), 2, 0) := pm_mq_ok rfl
theorem mt_X10_count {l : Launch} {g : pm_G} {d mc ms : Nat} {as : List Value} {A : pm_H} {Q : Option Value → pm_H → Prop} (hca : pm_cat 3 as = true) (body : ∀ J : pm_J, pm_Cl l g (fun _ => none) d mc ms (pm_Rq mc ms Q) bk_X10_count J → J 0 (pm_l0 3 as) [] A 0 0) : pm_Mt l g 58 d mc ms as A Q := pm_Mt_of (isI := false) 10 bk_X10_count me_X10_count (plainFor_of_name plX10) rfl (fun h => by cases h) ok_X10_count hca body
noncomputable def bk_X10_readSpan : pm_B := [(0, [(.aload_n 0, 1, 0, 0, 0), (.getfield 12, 3, 10, 0, 0), (.getfield 80, 3, 9, 4, 0), (.iload_n 1, 1, 1, 0, 0), (.iload_n 2, 1, 2, 0, 0), (.invokevirtual 111, 3, 14, 2, 7), (.ifCond .ne 5, 3, 17, 0, 0), (.iconst 0, 1, 0, 0, 0), (.ireturn, 1, 1, 0, 0)], 17),
  (17, [(.aload_n 0, 1, 0, 0, 0), (.getfield 19, 3, 10, 1, 0), (.aload_n 0, 1, 0, 0, 0), (.getfield 12, 3, 10, 0, 0), (.getfield 80, 3, 9, 4, 0), (.iload_n 1, 1, 1, 0, 0), (.iload_n 2, 1, 2, 0, 0), (.invokevirtual 175, 3, 55, 3, 2), (.iconst 1, 1, 0, 0, 1), (.ireturn, 1, 1, 0, 0)], 35)]
set_option maxRecDepth 100000 in
theorem ok_X10_readSpan : pm_oks 10 false 3 (some .boolean) cX10_readSpan bk_X10_readSpan = true := oksG_ok (by decide +kernel)
set_option maxRecDepth 100000 in
theorem me_X10_readSpan : pm_me 59 = (yX10_readSpan, cX10_readSpan, 3, (some .boolean), 2, 0) := pm_mq_ok rfl
theorem mt_X10_readSpan {l : Launch} {g : pm_G} {d mc ms : Nat} {as : List Value} {A : pm_H} {Q : Option Value → pm_H → Prop} (hca : pm_cat 3 as = true) (body : ∀ J : pm_J, pm_Cl l g (fun _ => none) d mc ms (pm_Rq mc ms Q) bk_X10_readSpan J → J 0 (pm_l0 3 as) [] A 0 0) : pm_Mt l g 59 d mc ms as A Q := pm_Mt_of (isI := false) 10 bk_X10_readSpan me_X10_readSpan (plainFor_of_name plX10) rfl (fun h => by cases h) ok_X10_readSpan hca body
noncomputable def bk_X10_weight : pm_B := [(0, [(.aload_n 0, 1, 0, 0, 0), (.iload_n 1, 1, 1, 0, 0), (.iload_n 2, 1, 2, 0, 0), (.invokevirtual 182, 3, 59, 2, 10), (.ifCond .eq 13, 3, 19, 0, 0), (.aload_n 0, 1, 0, 0, 0), (.getfield 19, 3, 10, 1, 0), (.getfield 185, 3, 2, 5, 0), (.goto 4, 3, 20, 0, 0)], 19),
  (19, [(.iconst (-1), 1, 0, 0, -1)], 20),
  (20, [(.ireturn, 1, 0, 0, 0)], 21)]
set_option maxRecDepth 100000 in
theorem ok_X10_weight : pm_oks 10 false 3 (some .int) cX10_weight bk_X10_weight = true := oksG_ok (by decide +kernel)
set_option maxRecDepth 100000 in
theorem me_X10_weight : pm_me 60 = (yX10_weight, cX10_weight, 3, (some .int), 2, 0) := pm_mq_ok rfl
theorem mt_X10_weight {l : Launch} {g : pm_G} {d mc ms : Nat} {as : List Value} {A : pm_H} {Q : Option Value → pm_H → Prop} (hca : pm_cat 3 as = true) (body : ∀ J : pm_J, pm_Cl l g (fun _ => none) d mc ms (pm_Rq mc ms Q) bk_X10_weight J → J 0 (pm_l0 3 as) [] A 0 0) : pm_Mt l g 60 d mc ms as A Q := pm_Mt_of (isI := false) 10 bk_X10_weight me_X10_weight (plainFor_of_name plX10) rfl (fun h => by cases h) ok_X10_weight hca body
noncomputable def bk_X10_set : pm_B := [(0, [(.aload_n 0, 1, 0, 0, 0), (.iload_n 1, 1, 1, 0, 0), (.iload_n 2, 1, 2, 0, 0), (.invokevirtual 182, 3, 59, 2, 10), (.ifCond .eq 13, 3, 19, 0, 0), (.aload_n 0, 1, 0, 0, 0), (.getfield 19, 3, 10, 1, 0), (.getfield 188, 3, 2, 4, 0), (.goto 4, 3, 20, 0, 0)], 19),
  (19, [(.iconst (-1), 1, 0, 0, -1)], 20),
  (20, [(.ireturn, 1, 0, 0, 0)], 21)]
set_option maxRecDepth 100000 in
theorem ok_X10_set : pm_oks 10 false 3 (some .int) cX10_set bk_X10_set = true := oksG_ok (by decide +kernel)
set_option maxRecDepth 100000 in
theorem me_X10_set : pm_me 61 = (yX10_set, cX10_set, 3, (some .int), 2, 0) := pm_mq_ok rfl
theorem mt_X10_set {l : Launch} {g : pm_G} {d mc ms : Nat} {as : List Value} {A : pm_H} {Q : Option Value → pm_H → Prop} (hca : pm_cat 3 as = true) (body : ∀ J : pm_J, pm_Cl l g (fun _ => none) d mc ms (pm_Rq mc ms Q) bk_X10_set J → J 0 (pm_l0 3 as) [] A 0 0) : pm_Mt l g 61 d mc ms as A Q := pm_Mt_of (isI := false) 10 bk_X10_set me_X10_set (plainFor_of_name plX10) rfl (fun h => by cases h) ok_X10_set hca body
noncomputable def bk_X10_times : pm_B := [(0, [(.iload_n 3, 1, 3, 0, 0), (.invokestatic 72, 3, 15, 1, 0), (.ifCond .eq 24, 3, 28, 0, 0), (.aload_n 0, 1, 0, 0, 0), (.iload_n 1, 1, 1, 0, 0), (.iload_n 2, 1, 2, 0, 0), (.invokevirtual 182, 3, 59, 2, 10), (.ifCond .eq 15, 3, 28, 0, 0), (.aload_n 0, 1, 0, 0, 0), (.getfield 19, 3, 10, 1, 0), (.getfield 191, 3, 2, 0, 0), (.iload_n 3, 1, 3, 0, 0), (.iaload, 1, 0, 0, 0), (.goto 4, 3, 29, 0, 0)], 28),
  (28, [(.iconst (-1), 1, 0, 0, -1)], 29),
  (29, [(.ireturn, 1, 0, 0, 0)], 30)]
set_option maxRecDepth 100000 in
theorem ok_X10_times : pm_oks 10 false 4 (some .int) cX10_times bk_X10_times = true := oksG_ok (by decide +kernel)
set_option maxRecDepth 100000 in
theorem me_X10_times : pm_me 62 = (yX10_times, cX10_times, 4, (some .int), 3, 0) := pm_mq_ok rfl
theorem mt_X10_times {l : Launch} {g : pm_G} {d mc ms : Nat} {as : List Value} {A : pm_H} {Q : Option Value → pm_H → Prop} (hca : pm_cat 4 as = true) (body : ∀ J : pm_J, pm_Cl l g (fun _ => none) d mc ms (pm_Rq mc ms Q) bk_X10_times J → J 0 (pm_l0 4 as) [] A 0 0) : pm_Mt l g 62 d mc ms as A Q := pm_Mt_of (isI := false) 10 bk_X10_times me_X10_times (plainFor_of_name plX10) rfl (fun h => by cases h) ok_X10_times hca body
noncomputable def bk_X10_often : pm_B := [(0, [(.iload_n 3, 1, 3, 0, 0), (.iconst 1, 1, 0, 0, 1), (.if_icmp .lt 23, 3, 25, 0, 0), (.aload_n 0, 1, 0, 0, 0), (.iload_n 1, 1, 1, 0, 0), (.iload_n 2, 1, 2, 0, 0), (.invokevirtual 182, 3, 59, 2, 10), (.ifCond .eq 14, 3, 25, 0, 0), (.aload_n 0, 1, 0, 0, 0), (.getfield 19, 3, 10, 1, 0), (.iload_n 3, 1, 3, 0, 0), (.invokevirtual 194, 3, 64, 1, 2), (.goto 4, 3, 26, 0, 0)], 25),
  (25, [(.iconst (-1), 1, 0, 0, -1)], 26),
  (26, [(.ireturn, 1, 0, 0, 0)], 27)]
set_option maxRecDepth 100000 in
theorem ok_X10_often : pm_oks 10 false 4 (some .int) cX10_often bk_X10_often = true := oksG_ok (by decide +kernel)
set_option maxRecDepth 100000 in
theorem me_X10_often : pm_me 63 = (yX10_often, cX10_often, 4, (some .int), 3, 0) := pm_mq_ok rfl
theorem mt_X10_often {l : Launch} {g : pm_G} {d mc ms : Nat} {as : List Value} {A : pm_H} {Q : Option Value → pm_H → Prop} (hca : pm_cat 4 as = true) (body : ∀ J : pm_J, pm_Cl l g (fun _ => none) d mc ms (pm_Rq mc ms Q) bk_X10_often J → J 0 (pm_l0 4 as) [] A 0 0) : pm_Mt l g 63 d mc ms as A Q := pm_Mt_of (isI := false) 10 bk_X10_often me_X10_often (plainFor_of_name plX10) rfl (fun h => by cases h) ok_X10_often hca body
end
section
/-! blocks, by a program -/
noncomputable def bk_X10_report : pm_B := [(0, [(.aload_n 0, 1, 0, 0, 0), (.getfield 12, 3, 10, 0, 0), (.getfield 80, 3, 9, 4, 0), (.astore 5, 2, 5, 0, 0), (.aload 5, 2, 5, 0, 0), (.iload_n 1, 1, 1, 0, 0), (.iload_n 2, 1, 2, 0, 0), (.invokevirtual 111, 3, 14, 2, 7), (.ifCond .ne 5, 3, 21, 0, 0), (.iconst (-1), 1, 0, 0, -1), (.ireturn, 1, 0, 0, 0)], 21),
  (21, [(.aload_n 0, 1, 0, 0, 0), (.getfield 26, 3, 10, 2, 0), (.aload 5, 2, 5, 0, 0), (.iload_n 1, 1, 1, 0, 0), (.iload_n 2, 1, 2, 0, 0), (.iload_n 3, 1, 3, 0, 0), (.invokevirtual 197, 3, 66, 4, 0), (.istore 6, 2, 6, 0, 0), (.iload 4, 2, 4, 0, 0), (.tableswitch 48 0 2 #[27, 30, 39], 27, 37, 0, 0)], 64),
  (64, [(.iload 6, 2, 6, 0, 0), (.ireturn, 1, 0, 0, 0)], 67),
  (67, [(.aload 5, 2, 5, 0, 0), (.iload 6, 2, 6, 0, 0), (.iconst 0, 1, 0, 0, 0), (.invokevirtual 143, 3, 44, 2, 7), (.ireturn, 1, 0, 0, 0)], 76),
  (76, [(.aload 5, 2, 5, 0, 0), (.iload 6, 2, 6, 0, 0), (.iconst 2, 1, 0, 0, 2), (.invokevirtual 143, 3, 44, 2, 7), (.ireturn, 1, 0, 0, 0)], 85),
  (85, [(.iconst (-1), 1, 0, 0, -1), (.ireturn, 1, 0, 0, 0)], 87)]
set_option maxRecDepth 100000 in
theorem ok_X10_report : pm_oks 10 false 7 (some .int) cX10_report bk_X10_report = true := oksG_ok (by decide +kernel)
set_option maxRecDepth 100000 in
theorem me_X10_report : pm_me 65 = (yX10_report, cX10_report, 7, (some .int), 4, 0) := pm_mq_ok rfl
theorem mt_X10_report {l : Launch} {g : pm_G} {d mc ms : Nat} {as : List Value} {A : pm_H} {Q : Option Value → pm_H → Prop} (hca : pm_cat 7 as = true) (body : ∀ J : pm_J, pm_Cl l g (fun _ => none) d mc ms (pm_Rq mc ms Q) bk_X10_report J → J 0 (pm_l0 7 as) [] A 0 0) : pm_Mt l g 65 d mc ms as A Q := pm_Mt_of (isI := false) 10 bk_X10_report me_X10_report (plainFor_of_name plX10) rfl (fun h => by cases h) ok_X10_report hca body
noncomputable def bk_X10_kth : pm_B := [(0, [(.aload_n 0, 1, 0, 0, 0), (.iload_n 1, 1, 1, 0, 0), (.iload_n 2, 1, 2, 0, 0), (.invokevirtual 182, 3, 59, 2, 10), (.ifCond .eq 29, 3, 35, 0, 0), (.aload_n 0, 1, 0, 0, 0), (.getfield 26, 3, 10, 2, 0), (.aload_n 0, 1, 0, 0, 0), (.getfield 12, 3, 10, 0, 0), (.getfield 80, 3, 9, 4, 0), (.aload_n 0, 1, 0, 0, 0), (.getfield 19, 3, 10, 1, 0), (.iload_n 1, 1, 1, 0, 0), (.iload_n 2, 1, 2, 0, 0), (.iload_n 3, 1, 3, 0, 0), (.iload 4, 2, 4, 0, 0), (.invokevirtual 201, 3, 68, 6, 0), (.goto 4, 3, 36, 0, 0)], 35),
  (35, [(.iconst (-1), 1, 0, 0, -1)], 36),
  (36, [(.ireturn, 1, 0, 0, 0)], 37)]
set_option maxRecDepth 100000 in
theorem ok_X10_kth : pm_oks 10 false 5 (some .int) cX10_kth bk_X10_kth = true := oksG_ok (by decide +kernel)
set_option maxRecDepth 100000 in
theorem me_X10_kth : pm_me 67 = (yX10_kth, cX10_kth, 5, (some .int), 4, 0) := pm_mq_ok rfl
theorem mt_X10_kth {l : Launch} {g : pm_G} {d mc ms : Nat} {as : List Value} {A : pm_H} {Q : Option Value → pm_H → Prop} (hca : pm_cat 5 as = true) (body : ∀ J : pm_J, pm_Cl l g (fun _ => none) d mc ms (pm_Rq mc ms Q) bk_X10_kth J → J 0 (pm_l0 5 as) [] A 0 0) : pm_Mt l g 67 d mc ms as A Q := pm_Mt_of (isI := false) 10 bk_X10_kth me_X10_kth (plainFor_of_name plX10) rfl (fun h => by cases h) ok_X10_kth hca body
noncomputable def bk_X10_absent : pm_B := [(0, [(.aload_n 0, 1, 0, 0, 0), (.iload_n 1, 1, 1, 0, 0), (.iload_n 2, 1, 2, 0, 0), (.invokevirtual 182, 3, 59, 2, 10), (.ifCond .eq 26, 3, 32, 0, 0), (.aload_n 0, 1, 0, 0, 0), (.getfield 26, 3, 10, 2, 0), (.ldc 205, 2, 0, 0, 16777215), (.aload_n 0, 1, 0, 0, 0), (.getfield 19, 3, 10, 1, 0), (.getfield 188, 3, 2, 4, 0), (.iconst (-1), 1, 0, 0, -1), (.ixor, 1, 0, 0, 0), (.iand, 1, 0, 0, 0), (.iload_n 3, 1, 3, 0, 0), (.invokevirtual 206, 3, 71, 2, 0), (.goto 4, 3, 33, 0, 0)], 32),
  (32, [(.iconst (-1), 1, 0, 0, -1)], 33),
  (33, [(.ireturn, 1, 0, 0, 0)], 34)]
set_option maxRecDepth 100000 in
theorem ok_X10_absent : pm_oks 10 false 4 (some .int) cX10_absent bk_X10_absent = true := oksG_ok (by decide +kernel)
set_option maxRecDepth 100000 in
theorem me_X10_absent : pm_me 73 = (yX10_absent, cX10_absent, 4, (some .int), 3, 0) := pm_mq_ok rfl
theorem mt_X10_absent {l : Launch} {g : pm_G} {d mc ms : Nat} {as : List Value} {A : pm_H} {Q : Option Value → pm_H → Prop} (hca : pm_cat 4 as = true) (body : ∀ J : pm_J, pm_Cl l g (fun _ => none) d mc ms (pm_Rq mc ms Q) bk_X10_absent J → J 0 (pm_l0 4 as) [] A 0 0) : pm_Mt l g 73 d mc ms as A Q := pm_Mt_of (isI := false) 10 bk_X10_absent me_X10_absent (plainFor_of_name plX10) rfl (fun h => by cases h) ok_X10_absent hca body
noncomputable def bk_X10_both : pm_B := [(0, [(.aload_n 0, 1, 0, 0, 0), (.iload_n 1, 1, 1, 0, 0), (.iload_n 2, 1, 2, 0, 0), (.invokevirtual 182, 3, 59, 2, 10), (.ifCond .ne 5, 3, 11, 0, 0), (.iconst (-1), 1, 0, 0, -1), (.ireturn, 1, 0, 0, 0)], 11),
  (11, [(.aload_n 0, 1, 0, 0, 0), (.getfield 19, 3, 10, 1, 0), (.getfield 188, 3, 2, 4, 0), (.istore 6, 2, 6, 0, 0), (.aload_n 0, 1, 0, 0, 0), (.iload_n 3, 1, 3, 0, 0), (.iload 4, 2, 4, 0, 0), (.invokevirtual 182, 3, 59, 2, 10), (.ifCond .ne 5, 3, 32, 0, 0), (.iconst (-1), 1, 0, 0, -1), (.ireturn, 1, 0, 0, 0)], 32),
  (32, [(.aload_n 0, 1, 0, 0, 0), (.getfield 19, 3, 10, 1, 0), (.getfield 188, 3, 2, 4, 0), (.istore 7, 2, 7, 0, 0), (.iload 5, 2, 5, 0, 0), (.tableswitch 54 0 2 #[25, 34, 45], 25, 43, 0, 0)], 68),
  (68, [(.iload 6, 2, 6, 0, 0), (.iload 7, 2, 7, 0, 0), (.iand, 1, 0, 0, 0), (.invokestatic 209, 3, 75, 1, 0), (.ireturn, 1, 0, 0, 0)], 77),
  (77, [(.iload 6, 2, 6, 0, 0), (.iload 7, 2, 7, 0, 0), (.iconst (-1), 1, 0, 0, -1), (.ixor, 1, 0, 0, 0), (.iand, 1, 0, 0, 0), (.invokestatic 209, 3, 75, 1, 0), (.ireturn, 1, 0, 0, 0)], 88),
  (88, [(.iload 6, 2, 6, 0, 0), (.iload 7, 2, 7, 0, 0), (.ior, 1, 0, 0, 0), (.invokestatic 209, 3, 75, 1, 0), (.ireturn, 1, 0, 0, 0)], 97),
  (97, [(.iconst (-1), 1, 0, 0, -1), (.ireturn, 1, 0, 0, 0)], 99)]
set_option maxRecDepth 100000 in
theorem ok_X10_both : pm_oks 10 false 8 (some .int) cX10_both bk_X10_both = true := oksG_ok (by decide +kernel)
set_option maxRecDepth 100000 in
theorem me_X10_both : pm_me 74 = (yX10_both, cX10_both, 8, (some .int), 5, 0) := pm_mq_ok rfl
theorem mt_X10_both {l : Launch} {g : pm_G} {d mc ms : Nat} {as : List Value} {A : pm_H} {Q : Option Value → pm_H → Prop} (hca : pm_cat 8 as = true) (body : ∀ J : pm_J, pm_Cl l g (fun _ => none) d mc ms (pm_Rq mc ms Q) bk_X10_both J → J 0 (pm_l0 8 as) [] A 0 0) : pm_Mt l g 74 d mc ms as A Q := pm_Mt_of (isI := false) 10 bk_X10_both me_X10_both (plainFor_of_name plX10) rfl (fun h => by cases h) ok_X10_both hca body
noncomputable def bk_X10_tally : pm_B := [(0, [(.iload_n 3, 1, 3, 0, 0), (.iconst 1, 1, 0, 0, 1), (.if_icmp .lt 23, 3, 25, 0, 0), (.aload_n 0, 1, 0, 0, 0), (.iload_n 1, 1, 1, 0, 0), (.iload_n 2, 1, 2, 0, 0), (.invokevirtual 182, 3, 59, 2, 10), (.ifCond .eq 14, 3, 25, 0, 0), (.aload_n 0, 1, 0, 0, 0), (.getfield 19, 3, 10, 1, 0), (.iload_n 3, 1, 3, 0, 0), (.invokevirtual 214, 3, 77, 1, 2), (.goto 4, 3, 26, 0, 0)], 25),
  (25, [(.iconst (-1), 1, 0, 0, -1)], 26),
  (26, [(.ireturn, 1, 0, 0, 0)], 27)]
set_option maxRecDepth 100000 in
theorem ok_X10_tally : pm_oks 10 false 4 (some .int) cX10_tally bk_X10_tally = true := oksG_ok (by decide +kernel)
set_option maxRecDepth 100000 in
theorem me_X10_tally : pm_me 76 = (yX10_tally, cX10_tally, 4, (some .int), 3, 0) := pm_mq_ok rfl
theorem mt_X10_tally {l : Launch} {g : pm_G} {d mc ms : Nat} {as : List Value} {A : pm_H} {Q : Option Value → pm_H → Prop} (hca : pm_cat 4 as = true) (body : ∀ J : pm_J, pm_Cl l g (fun _ => none) d mc ms (pm_Rq mc ms Q) bk_X10_tally J → J 0 (pm_l0 4 as) [] A 0 0) : pm_Mt l g 76 d mc ms as A Q := pm_Mt_of (isI := false) 10 bk_X10_tally me_X10_tally (plainFor_of_name plX10) rfl (fun h => by cases h) ok_X10_tally hca body
noncomputable def bk_X10_major : pm_B := [(0, [(.aload_n 0, 1, 0, 0, 0), (.iload_n 1, 1, 1, 0, 0), (.iload_n 2, 1, 2, 0, 0), (.invokevirtual 182, 3, 59, 2, 10), (.ifCond .eq 22, 3, 28, 0, 0), (.aload_n 0, 1, 0, 0, 0), (.getfield 26, 3, 10, 2, 0), (.aload_n 0, 1, 0, 0, 0), (.getfield 19, 3, 10, 1, 0), (.iconst 2, 1, 0, 0, 2), (.invokevirtual 217, 3, 79, 1, 2), (.iconst 0, 1, 0, 0, 0), (.invokevirtual 206, 3, 71, 2, 0), (.goto 4, 3, 29, 0, 0)], 28),
  (28, [(.iconst (-1), 1, 0, 0, -1)], 29),
  (29, [(.ireturn, 1, 0, 0, 0)], 30)]
set_option maxRecDepth 100000 in
theorem ok_X10_major : pm_oks 10 false 3 (some .int) cX10_major bk_X10_major = true := oksG_ok (by decide +kernel)
set_option maxRecDepth 100000 in
theorem me_X10_major : pm_me 78 = (yX10_major, cX10_major, 3, (some .int), 2, 0) := pm_mq_ok rfl
theorem mt_X10_major {l : Launch} {g : pm_G} {d mc ms : Nat} {as : List Value} {A : pm_H} {Q : Option Value → pm_H → Prop} (hca : pm_cat 3 as = true) (body : ∀ J : pm_J, pm_Cl l g (fun _ => none) d mc ms (pm_Rq mc ms Q) bk_X10_major J → J 0 (pm_l0 3 as) [] A 0 0) : pm_Mt l g 78 d mc ms as A Q := pm_Mt_of (isI := false) 10 bk_X10_major me_X10_major (plainFor_of_name plX10) rfl (fun h => by cases h) ok_X10_major hca body
noncomputable def bk_X10_close : pm_B := [(0, [(.aload_n 0, 1, 0, 0, 0), (.getfield 12, 3, 10, 0, 0), (.getfield 80, 3, 9, 4, 0), (.astore 4, 2, 4, 0, 0), (.aload 4, 2, 4, 0, 0), (.iload_n 1, 1, 1, 0, 0), (.iload_n 2, 1, 2, 0, 0), (.invokevirtual 111, 3, 14, 2, 7), (.ifCond .ne 5, 3, 21, 0, 0), (.iconst (-1), 1, 0, 0, -1), (.ireturn, 1, 0, 0, 0)], 21),
  (21, [(.aload_n 0, 1, 0, 0, 0), (.getfield 33, 3, 10, 3, 0), (.aload 4, 2, 4, 0, 0), (.iload_n 1, 1, 1, 0, 0), (.iload_n 2, 1, 2, 0, 0), (.invokevirtual 220, 3, 81, 3, 1), (.aload_n 0, 1, 0, 0, 0), (.getfield 33, 3, 10, 3, 0), (.iload_n 3, 1, 3, 0, 0), (.invokevirtual 223, 3, 84, 1, 1), (.ireturn, 1, 0, 0, 0)], 41)]
set_option maxRecDepth 100000 in
theorem ok_X10_close : pm_oks 10 false 5 (some .int) cX10_close bk_X10_close = true := oksG_ok (by decide +kernel)
set_option maxRecDepth 100000 in
theorem me_X10_close : pm_me 80 = (yX10_close, cX10_close, 5, (some .int), 3, 0) := pm_mq_ok rfl
theorem mt_X10_close {l : Launch} {g : pm_G} {d mc ms : Nat} {as : List Value} {A : pm_H} {Q : Option Value → pm_H → Prop} (hca : pm_cat 5 as = true) (body : ∀ J : pm_J, pm_Cl l g (fun _ => none) d mc ms (pm_Rq mc ms Q) bk_X10_close J → J 0 (pm_l0 5 as) [] A 0 0) : pm_Mt l g 80 d mc ms as A Q := pm_Mt_of (isI := false) 10 bk_X10_close me_X10_close (plainFor_of_name plX10) rfl (fun h => by cases h) ok_X10_close hca body
noncomputable def bk_X10_sides : pm_B := [(0, [(.aload_n 0, 1, 0, 0, 0), (.getfield 12, 3, 10, 0, 0), (.getfield 80, 3, 9, 4, 0), (.astore_n 3, 1, 3, 0, 0), (.aload_n 3, 1, 3, 0, 0), (.iload_n 1, 1, 1, 0, 0), (.iload_n 2, 1, 2, 0, 0), (.invokevirtual 111, 3, 14, 2, 7), (.ifCond .eq 16, 3, 30, 0, 0), (.aload_n 0, 1, 0, 0, 0), (.getfield 33, 3, 10, 3, 0), (.aload_n 3, 1, 3, 0, 0), (.iload_n 1, 1, 1, 0, 0), (.iload_n 2, 1, 2, 0, 0), (.invokevirtual 226, 3, 86, 3, 1), (.goto 4, 3, 31, 0, 0)], 30),
  (30, [(.iconst (-1), 1, 0, 0, -1)], 31),
  (31, [(.ireturn, 1, 0, 0, 0)], 32)]
set_option maxRecDepth 100000 in
theorem ok_X10_sides : pm_oks 10 false 4 (some .int) cX10_sides bk_X10_sides = true := oksG_ok (by decide +kernel)
set_option maxRecDepth 100000 in
theorem me_X10_sides : pm_me 85 = (yX10_sides, cX10_sides, 4, (some .int), 2, 0) := pm_mq_ok rfl
theorem mt_X10_sides {l : Launch} {g : pm_G} {d mc ms : Nat} {as : List Value} {A : pm_H} {Q : Option Value → pm_H → Prop} (hca : pm_cat 4 as = true) (body : ∀ J : pm_J, pm_Cl l g (fun _ => none) d mc ms (pm_Rq mc ms Q) bk_X10_sides J → J 0 (pm_l0 4 as) [] A 0 0) : pm_Mt l g 85 d mc ms as A Q := pm_Mt_of (isI := false) 10 bk_X10_sides me_X10_sides (plainFor_of_name plX10) rfl (fun h => by cases h) ok_X10_sides hca body
noncomputable def bk_X10_cover : pm_B := [(0, [(.aload_n 0, 1, 0, 0, 0), (.getfield 12, 3, 10, 0, 0), (.getfield 80, 3, 9, 4, 0), (.astore_n 3, 1, 3, 0, 0), (.aload_n 3, 1, 3, 0, 0), (.iload_n 1, 1, 1, 0, 0), (.iload_n 2, 1, 2, 0, 0), (.invokevirtual 111, 3, 14, 2, 7), (.ifCond .eq 20, 3, 34, 0, 0), (.aload_n 0, 1, 0, 0, 0), (.getfield 33, 3, 10, 3, 0), (.aload_n 3, 1, 3, 0, 0), (.aload_n 0, 1, 0, 0, 0), (.getfield 19, 3, 10, 1, 0), (.iload_n 1, 1, 1, 0, 0), (.iload_n 2, 1, 2, 0, 0), (.invokevirtual 229, 3, 89, 4, 1), (.goto 4, 3, 35, 0, 0)], 34),
  (34, [(.iconst (-1), 1, 0, 0, -1)], 35),
  (35, [(.ireturn, 1, 0, 0, 0)], 36)]
set_option maxRecDepth 100000 in
theorem ok_X10_cover : pm_oks 10 false 4 (some .int) cX10_cover bk_X10_cover = true := oksG_ok (by decide +kernel)
set_option maxRecDepth 100000 in
theorem me_X10_cover : pm_me 88 = (yX10_cover, cX10_cover, 4, (some .int), 2, 0) := pm_mq_ok rfl
theorem mt_X10_cover {l : Launch} {g : pm_G} {d mc ms : Nat} {as : List Value} {A : pm_H} {Q : Option Value → pm_H → Prop} (hca : pm_cat 4 as = true) (body : ∀ J : pm_J, pm_Cl l g (fun _ => none) d mc ms (pm_Rq mc ms Q) bk_X10_cover J → J 0 (pm_l0 4 as) [] A 0 0) : pm_Mt l g 88 d mc ms as A Q := pm_Mt_of (isI := false) 10 bk_X10_cover me_X10_cover (plainFor_of_name plX10) rfl (fun h => by cases h) ok_X10_cover hca body
noncomputable def bk_X10_least : pm_B := [(0, [(.iload_n 3, 1, 3, 0, 0), (.iconst 1, 1, 0, 0, 1), (.if_icmp .lt 31, 3, 33, 0, 0), (.aload_n 0, 1, 0, 0, 0), (.iload_n 1, 1, 1, 0, 0), (.iload_n 2, 1, 2, 0, 0), (.invokevirtual 182, 3, 59, 2, 10), (.ifCond .eq 22, 3, 33, 0, 0), (.aload_n 0, 1, 0, 0, 0), (.getfield 19, 3, 10, 1, 0), (.getfield 233, 3, 2, 2, 0), (.aload_n 0, 1, 0, 0, 0), (.getfield 19, 3, 10, 1, 0), (.iload_n 3, 1, 3, 0, 0), (.invokevirtual 236, 3, 91, 1, 2), (.isub, 1, 0, 0, 0), (.goto 4, 3, 34, 0, 0)], 33),
  (33, [(.iconst (-1), 1, 0, 0, -1)], 34),
  (34, [(.ireturn, 1, 0, 0, 0)], 35)]
set_option maxRecDepth 100000 in
theorem ok_X10_least : pm_oks 10 false 4 (some .int) cX10_least bk_X10_least = true := oksG_ok (by decide +kernel)
set_option maxRecDepth 100000 in
theorem me_X10_least : pm_me 90 = (yX10_least, cX10_least, 4, (some .int), 3, 0) := pm_mq_ok rfl
theorem mt_X10_least {l : Launch} {g : pm_G} {d mc ms : Nat} {as : List Value} {A : pm_H} {Q : Option Value → pm_H → Prop} (hca : pm_cat 4 as = true) (body : ∀ J : pm_J, pm_Cl l g (fun _ => none) d mc ms (pm_Rq mc ms Q) bk_X10_least J → J 0 (pm_l0 4 as) [] A 0 0) : pm_Mt l g 90 d mc ms as A Q := pm_Mt_of (isI := false) 10 bk_X10_least me_X10_least (plainFor_of_name plX10) rfl (fun h => by cases h) ok_X10_least hca body
noncomputable def bk_X10_fair : pm_B := [(0, [(.iload_n 3, 1, 3, 0, 0), (.iconst 1, 1, 0, 0, 1), (.if_icmp .lt 23, 3, 25, 0, 0), (.aload_n 0, 1, 0, 0, 0), (.iload_n 1, 1, 1, 0, 0), (.iload_n 2, 1, 2, 0, 0), (.invokevirtual 182, 3, 59, 2, 10), (.ifCond .eq 14, 3, 25, 0, 0), (.aload_n 0, 1, 0, 0, 0), (.getfield 19, 3, 10, 1, 0), (.iload_n 3, 1, 3, 0, 0), (.invokevirtual 217, 3, 79, 1, 2), (.goto 4, 3, 26, 0, 0)], 25),
  (25, [(.iconst (-1), 1, 0, 0, -1)], 26),
  (26, [(.ireturn, 1, 0, 0, 0)], 27)]
set_option maxRecDepth 100000 in
theorem ok_X10_fair : pm_oks 10 false 4 (some .int) cX10_fair bk_X10_fair = true := oksG_ok (by decide +kernel)
set_option maxRecDepth 100000 in
theorem me_X10_fair : pm_me 93 = (yX10_fair, cX10_fair, 4, (some .int), 3, 0) := pm_mq_ok rfl
theorem mt_X10_fair {l : Launch} {g : pm_G} {d mc ms : Nat} {as : List Value} {A : pm_H} {Q : Option Value → pm_H → Prop} (hca : pm_cat 4 as = true) (body : ∀ J : pm_J, pm_Cl l g (fun _ => none) d mc ms (pm_Rq mc ms Q) bk_X10_fair J → J 0 (pm_l0 4 as) [] A 0 0) : pm_Mt l g 93 d mc ms as A Q := pm_Mt_of (isI := false) 10 bk_X10_fair me_X10_fair (plainFor_of_name plX10) rfl (fun h => by cases h) ok_X10_fair hca body
noncomputable def bk_X10_alike : pm_B := [(0, [(.aload_n 0, 1, 0, 0, 0), (.iload_n 1, 1, 1, 0, 0), (.iload_n 2, 1, 2, 0, 0), (.invokevirtual 182, 3, 59, 2, 10), (.ifCond .eq 13, 3, 19, 0, 0), (.aload_n 0, 1, 0, 0, 0), (.getfield 19, 3, 10, 1, 0), (.invokevirtual 239, 3, 95, 0, 2), (.goto 4, 3, 20, 0, 0)], 19),
  (19, [(.iconst (-1), 1, 0, 0, -1)], 20),
  (20, [(.ireturn, 1, 0, 0, 0)], 21)]
set_option maxRecDepth 100000 in
theorem ok_X10_alike : pm_oks 10 false 3 (some .int) cX10_alike bk_X10_alike = true := oksG_ok (by decide +kernel)
set_option maxRecDepth 100000 in
theorem me_X10_alike : pm_me 94 = (yX10_alike, cX10_alike, 3, (some .int), 2, 0) := pm_mq_ok rfl
theorem mt_X10_alike {l : Launch} {g : pm_G} {d mc ms : Nat} {as : List Value} {A : pm_H} {Q : Option Value → pm_H → Prop} (hca : pm_cat 3 as = true) (body : ∀ J : pm_J, pm_Cl l g (fun _ => none) d mc ms (pm_Rq mc ms Q) bk_X10_alike J → J 0 (pm_l0 3 as) [] A 0 0) : pm_Mt l g 94 d mc ms as A Q := pm_Mt_of (isI := false) 10 bk_X10_alike me_X10_alike (plainFor_of_name plX10) rfl (fun h => by cases h) ok_X10_alike hca body
noncomputable def bk_X10_even : pm_B := [(0, [(.aload_n 0, 1, 0, 0, 0), (.getfield 12, 3, 10, 0, 0), (.getfield 80, 3, 9, 4, 0), (.astore_n 3, 1, 3, 0, 0), (.aload_n 3, 1, 3, 0, 0), (.iload_n 1, 1, 1, 0, 0), (.iload_n 2, 1, 2, 0, 0), (.invokevirtual 111, 3, 14, 2, 7), (.ifCond .eq 20, 3, 34, 0, 0), (.aload_n 0, 1, 0, 0, 0), (.getfield 33, 3, 10, 3, 0), (.aload_n 3, 1, 3, 0, 0), (.aload_n 0, 1, 0, 0, 0), (.getfield 19, 3, 10, 1, 0), (.iload_n 1, 1, 1, 0, 0), (.iload_n 2, 1, 2, 0, 0), (.invokevirtual 242, 3, 97, 4, 1), (.goto 4, 3, 35, 0, 0)], 34),
  (34, [(.iconst (-1), 1, 0, 0, -1)], 35),
  (35, [(.ireturn, 1, 0, 0, 0)], 36)]
set_option maxRecDepth 100000 in
theorem ok_X10_even : pm_oks 10 false 4 (some .int) cX10_even bk_X10_even = true := oksG_ok (by decide +kernel)
set_option maxRecDepth 100000 in
theorem me_X10_even : pm_me 96 = (yX10_even, cX10_even, 4, (some .int), 2, 0) := pm_mq_ok rfl
theorem mt_X10_even {l : Launch} {g : pm_G} {d mc ms : Nat} {as : List Value} {A : pm_H} {Q : Option Value → pm_H → Prop} (hca : pm_cat 4 as = true) (body : ∀ J : pm_J, pm_Cl l g (fun _ => none) d mc ms (pm_Rq mc ms Q) bk_X10_even J → J 0 (pm_l0 4 as) [] A 0 0) : pm_Mt l g 96 d mc ms as A Q := pm_Mt_of (isI := false) 10 bk_X10_even me_X10_even (plainFor_of_name plX10) rfl (fun h => by cases h) ok_X10_even hca body
noncomputable def bk_X10_apart : pm_B := [(0, [(.iload_n 1, 1, 1, 0, 0), (.iload_n 2, 1, 2, 0, 0), (.invokestatic 130, 3, 38, 2, 0), (.ifCond .ne 5, 3, 10, 0, 0), (.iconst (-1), 1, 0, 0, -1), (.ireturn, 1, 0, 0, 0)], 10),
  (10, [(.aload_n 0, 1, 0, 0, 0), (.getfield 33, 3, 10, 3, 0), (.aload_n 0, 1, 0, 0, 0), (.getfield 12, 3, 10, 0, 0), (.getfield 80, 3, 9, 4, 0), (.iload_n 1, 1, 1, 0, 0), (.iload_n 2, 1, 2, 0, 0), (.invokevirtual 245, 3, 99, 3, 1), (.aload_n 0, 1, 0, 0, 0), (.getfield 33, 3, 10, 3, 0), (.iload_n 3, 1, 3, 0, 0), (.invokevirtual 223, 3, 84, 1, 1), (.ireturn, 1, 0, 0, 0)], 35)]
set_option maxRecDepth 100000 in
theorem ok_X10_apart : pm_oks 10 false 4 (some .int) cX10_apart bk_X10_apart = true := oksG_ok (by decide +kernel)
set_option maxRecDepth 100000 in
theorem me_X10_apart : pm_me 98 = (yX10_apart, cX10_apart, 4, (some .int), 3, 0) := pm_mq_ok rfl
theorem mt_X10_apart {l : Launch} {g : pm_G} {d mc ms : Nat} {as : List Value} {A : pm_H} {Q : Option Value → pm_H → Prop} (hca : pm_cat 4 as = true) (body : ∀ J : pm_J, pm_Cl l g (fun _ => none) d mc ms (pm_Rq mc ms Q) bk_X10_apart J → J 0 (pm_l0 4 as) [] A 0 0) : pm_Mt l g 98 d mc ms as A Q := pm_Mt_of (isI := false) 10 bk_X10_apart me_X10_apart (plainFor_of_name plX10) rfl (fun h => by cases h) ok_X10_apart hca body
noncomputable def bk_X10_reach : pm_B := [(0, [(.aload_n 0, 1, 0, 0, 0), (.getfield 12, 3, 10, 0, 0), (.getfield 80, 3, 9, 4, 0), (.astore_n 3, 1, 3, 0, 0), (.iload_n 2, 1, 2, 0, 0), (.iconst 1, 1, 0, 0, 1), (.if_icmp .lt 28, 3, 38, 0, 0), (.aload_n 3, 1, 3, 0, 0), (.iload_n 1, 1, 1, 0, 0), (.invokevirtual 248, 3, 19, 1, 7), (.ifCond .eq 20, 3, 38, 0, 0), (.aload_n 0, 1, 0, 0, 0), (.getfield 40, 3, 10, 4, 0), (.aload_n 3, 1, 3, 0, 0), (.aload_n 0, 1, 0, 0, 0), (.getfield 19, 3, 10, 1, 0), (.iload_n 1, 1, 1, 0, 0), (.iload_n 2, 1, 2, 0, 0), (.invokevirtual 251, 3, 101, 4, 6), (.goto 4, 3, 39, 0, 0)], 38),
  (38, [(.iconst (-1), 1, 0, 0, -1)], 39),
  (39, [(.ireturn, 1, 0, 0, 0)], 40)]
set_option maxRecDepth 100000 in
theorem ok_X10_reach : pm_oks 10 false 4 (some .int) cX10_reach bk_X10_reach = true := oksG_ok (by decide +kernel)
set_option maxRecDepth 100000 in
theorem me_X10_reach : pm_me 100 = (yX10_reach, cX10_reach, 4, (some .int), 2, 0) := pm_mq_ok rfl
theorem mt_X10_reach {l : Launch} {g : pm_G} {d mc ms : Nat} {as : List Value} {A : pm_H} {Q : Option Value → pm_H → Prop} (hca : pm_cat 4 as = true) (body : ∀ J : pm_J, pm_Cl l g (fun _ => none) d mc ms (pm_Rq mc ms Q) bk_X10_reach J → J 0 (pm_l0 4 as) [] A 0 0) : pm_Mt l g 100 d mc ms as A Q := pm_Mt_of (isI := false) 10 bk_X10_reach me_X10_reach (plainFor_of_name plX10) rfl (fun h => by cases h) ok_X10_reach hca body
noncomputable def bk_X10_reachBack : pm_B := [(0, [(.aload_n 0, 1, 0, 0, 0), (.getfield 12, 3, 10, 0, 0), (.getfield 80, 3, 9, 4, 0), (.astore_n 3, 1, 3, 0, 0), (.iload_n 2, 1, 2, 0, 0), (.iconst 1, 1, 0, 0, 1), (.if_icmp .lt 28, 3, 38, 0, 0), (.aload_n 3, 1, 3, 0, 0), (.iload_n 1, 1, 1, 0, 0), (.invokevirtual 248, 3, 19, 1, 7), (.ifCond .eq 20, 3, 38, 0, 0), (.aload_n 0, 1, 0, 0, 0), (.getfield 40, 3, 10, 4, 0), (.aload_n 3, 1, 3, 0, 0), (.aload_n 0, 1, 0, 0, 0), (.getfield 19, 3, 10, 1, 0), (.iload_n 1, 1, 1, 0, 0), (.iload_n 2, 1, 2, 0, 0), (.invokevirtual 254, 3, 103, 4, 6), (.goto 4, 3, 39, 0, 0)], 38),
  (38, [(.iconst (-1), 1, 0, 0, -1)], 39),
  (39, [(.ireturn, 1, 0, 0, 0)], 40)]
set_option maxRecDepth 100000 in
theorem ok_X10_reachBack : pm_oks 10 false 4 (some .int) cX10_reachBack bk_X10_reachBack = true := oksG_ok (by decide +kernel)
set_option maxRecDepth 100000 in
theorem me_X10_reachBack : pm_me 102 = (yX10_reachBack, cX10_reachBack, 4, (some .int), 2, 0) := pm_mq_ok rfl
theorem mt_X10_reachBack {l : Launch} {g : pm_G} {d mc ms : Nat} {as : List Value} {A : pm_H} {Q : Option Value → pm_H → Prop} (hca : pm_cat 4 as = true) (body : ∀ J : pm_J, pm_Cl l g (fun _ => none) d mc ms (pm_Rq mc ms Q) bk_X10_reachBack J → J 0 (pm_l0 4 as) [] A 0 0) : pm_Mt l g 102 d mc ms as A Q := pm_Mt_of (isI := false) 10 bk_X10_reachBack me_X10_reachBack (plainFor_of_name plX10) rfl (fun h => by cases h) ok_X10_reachBack hca body
noncomputable def bk_X10_load : pm_B := [(0, [(.aload_n 0, 1, 0, 0, 0), (.getfield 12, 3, 10, 0, 0), (.getfield 80, 3, 9, 4, 0), (.astore_n 3, 1, 3, 0, 0), (.iload_n 2, 1, 2, 0, 0), (.iconst 1, 1, 0, 0, 1), (.if_icmp .lt 28, 3, 38, 0, 0), (.aload_n 3, 1, 3, 0, 0), (.iload_n 1, 1, 1, 0, 0), (.invokevirtual 248, 3, 19, 1, 7), (.ifCond .eq 20, 3, 38, 0, 0), (.aload_n 0, 1, 0, 0, 0), (.getfield 40, 3, 10, 4, 0), (.aload_n 3, 1, 3, 0, 0), (.aload_n 0, 1, 0, 0, 0), (.getfield 19, 3, 10, 1, 0), (.iload_n 1, 1, 1, 0, 0), (.iload_n 2, 1, 2, 0, 0), (.invokevirtual 257, 3, 105, 4, 6), (.goto 4, 3, 39, 0, 0)], 38),
  (38, [(.iconst (-1), 1, 0, 0, -1)], 39),
  (39, [(.ireturn, 1, 0, 0, 0)], 40)]
set_option maxRecDepth 100000 in
theorem ok_X10_load : pm_oks 10 false 4 (some .int) cX10_load bk_X10_load = true := oksG_ok (by decide +kernel)
set_option maxRecDepth 100000 in
theorem me_X10_load : pm_me 104 = (yX10_load, cX10_load, 4, (some .int), 2, 0) := pm_mq_ok rfl
theorem mt_X10_load {l : Launch} {g : pm_G} {d mc ms : Nat} {as : List Value} {A : pm_H} {Q : Option Value → pm_H → Prop} (hca : pm_cat 4 as = true) (body : ∀ J : pm_J, pm_Cl l g (fun _ => none) d mc ms (pm_Rq mc ms Q) bk_X10_load J → J 0 (pm_l0 4 as) [] A 0 0) : pm_Mt l g 104 d mc ms as A Q := pm_Mt_of (isI := false) 10 bk_X10_load me_X10_load (plainFor_of_name plX10) rfl (fun h => by cases h) ok_X10_load hca body
noncomputable def bk_X10_window : pm_B := [(0, [(.iload_n 1, 1, 1, 0, 0), (.ldc 205, 2, 0, 0, 16777215), (.iand, 1, 0, 0, 0), (.istore_n 3, 1, 3, 0, 0), (.iload_n 3, 1, 3, 0, 0), (.ifCond .ne 5, 3, 11, 0, 0), (.iconst (-1), 1, 0, 0, -1), (.ireturn, 1, 0, 0, 0)], 11),
  (11, [(.aload_n 0, 1, 0, 0, 0), (.getfield 40, 3, 10, 4, 0), (.aload_n 0, 1, 0, 0, 0), (.getfield 12, 3, 10, 0, 0), (.getfield 80, 3, 9, 4, 0), (.iload_n 3, 1, 3, 0, 0), (.invokevirtual 260, 3, 107, 2, 6), (.iload_n 2, 1, 2, 0, 0), (.iconst 2, 1, 0, 0, 2), (.if_icmp .ne 13, 3, 41, 0, 0), (.aload_n 0, 1, 0, 0, 0), (.getfield 40, 3, 10, 4, 0), (.getfield 264, 3, 6, 4, 0), (.goto 11, 3, 49, 0, 0)], 41),
  (41, [(.aload_n 0, 1, 0, 0, 0), (.getfield 40, 3, 10, 4, 0), (.iload_n 2, 1, 2, 0, 0), (.invokevirtual 267, 3, 110, 1, 6)], 49),
  (49, [(.ireturn, 1, 0, 0, 0)], 50)]
set_option maxRecDepth 100000 in
theorem ok_X10_window : pm_oks 10 false 4 (some .int) cX10_window bk_X10_window = true := oksG_ok (by decide +kernel)
set_option maxRecDepth 100000 in
theorem me_X10_window : pm_me 106 = (yX10_window, cX10_window, 4, (some .int), 2, 0) := pm_mq_ok rfl
theorem mt_X10_window {l : Launch} {g : pm_G} {d mc ms : Nat} {as : List Value} {A : pm_H} {Q : Option Value → pm_H → Prop} (hca : pm_cat 4 as = true) (body : ∀ J : pm_J, pm_Cl l g (fun _ => none) d mc ms (pm_Rq mc ms Q) bk_X10_window J → J 0 (pm_l0 4 as) [] A 0 0) : pm_Mt l g 106 d mc ms as A Q := pm_Mt_of (isI := false) 10 bk_X10_window me_X10_window (plainFor_of_name plX10) rfl (fun h => by cases h) ok_X10_window hca body
noncomputable def bk_X10_longest : pm_B := [(0, [(.iload_n 1, 1, 1, 0, 0), (.iconst 1, 1, 0, 0, 1), (.if_icmp .ge 5, 3, 7, 0, 0), (.iconst (-1), 1, 0, 0, -1), (.ireturn, 1, 0, 0, 0)], 7),
  (7, [(.aload_n 0, 1, 0, 0, 0), (.getfield 40, 3, 10, 4, 0), (.aload_n 0, 1, 0, 0, 0), (.getfield 12, 3, 10, 0, 0), (.getfield 80, 3, 9, 4, 0), (.aload_n 0, 1, 0, 0, 0), (.getfield 19, 3, 10, 1, 0), (.iload_n 1, 1, 1, 0, 0), (.invokevirtual 270, 3, 112, 3, 6), (.aload_n 0, 1, 0, 0, 0), (.getfield 40, 3, 10, 4, 0), (.iload_n 2, 1, 2, 0, 0), (.invokevirtual 267, 3, 110, 1, 6), (.ireturn, 1, 0, 0, 0)], 35)]
set_option maxRecDepth 100000 in
theorem ok_X10_longest : pm_oks 10 false 3 (some .int) cX10_longest bk_X10_longest = true := oksG_ok (by decide +kernel)
set_option maxRecDepth 100000 in
theorem me_X10_longest : pm_me 111 = (yX10_longest, cX10_longest, 3, (some .int), 2, 0) := pm_mq_ok rfl
theorem mt_X10_longest {l : Launch} {g : pm_G} {d mc ms : Nat} {as : List Value} {A : pm_H} {Q : Option Value → pm_H → Prop} (hca : pm_cat 3 as = true) (body : ∀ J : pm_J, pm_Cl l g (fun _ => none) d mc ms (pm_Rq mc ms Q) bk_X10_longest J → J 0 (pm_l0 3 as) [] A 0 0) : pm_Mt l g 111 d mc ms as A Q := pm_Mt_of (isI := false) 10 bk_X10_longest me_X10_longest (plainFor_of_name plX10) rfl (fun h => by cases h) ok_X10_longest hca body
noncomputable def bk_X10_unlike : pm_B := [(0, [(.aload_n 0, 1, 0, 0, 0), (.getfield 40, 3, 10, 4, 0), (.aload_n 0, 1, 0, 0, 0), (.getfield 12, 3, 10, 0, 0), (.getfield 80, 3, 9, 4, 0), (.invokevirtual 274, 3, 116, 1, 6), (.aload_n 0, 1, 0, 0, 0), (.getfield 40, 3, 10, 4, 0), (.iload_n 1, 1, 1, 0, 0), (.invokevirtual 267, 3, 110, 1, 6), (.ireturn, 1, 0, 0, 0)], 23)]
set_option maxRecDepth 100000 in
theorem ok_X10_unlike : pm_oks 10 false 2 (some .int) cX10_unlike bk_X10_unlike = true := oksG_ok (by decide +kernel)
set_option maxRecDepth 100000 in
theorem me_X10_unlike : pm_me 115 = (yX10_unlike, cX10_unlike, 2, (some .int), 1, 0) := pm_mq_ok rfl
theorem mt_X10_unlike {l : Launch} {g : pm_G} {d mc ms : Nat} {as : List Value} {A : pm_H} {Q : Option Value → pm_H → Prop} (hca : pm_cat 2 as = true) (body : ∀ J : pm_J, pm_Cl l g (fun _ => none) d mc ms (pm_Rq mc ms Q) bk_X10_unlike J → J 0 (pm_l0 2 as) [] A 0 0) : pm_Mt l g 115 d mc ms as A Q := pm_Mt_of (isI := false) 10 bk_X10_unlike me_X10_unlike (plainFor_of_name plX10) rfl (fun h => by cases h) ok_X10_unlike hca body
noncomputable def bk_X10_heaviest : pm_B := [(0, [(.iload_n 1, 1, 1, 0, 0), (.iconst 1, 1, 0, 0, 1), (.if_icmp .lt 17, 3, 19, 0, 0), (.iload_n 1, 1, 1, 0, 0), (.aload_n 0, 1, 0, 0, 0), (.getfield 12, 3, 10, 0, 0), (.getfield 80, 3, 9, 4, 0), (.getfield 103, 3, 7, 3, 0), (.if_icmp .le 5, 3, 21, 0, 0)], 19),
  (19, [(.iconst (-1), 1, 0, 0, -1), (.ireturn, 1, 0, 0, 0)], 21),
  (21, [(.aload_n 0, 1, 0, 0, 0), (.getfield 40, 3, 10, 4, 0), (.aload_n 0, 1, 0, 0, 0), (.getfield 12, 3, 10, 0, 0), (.getfield 80, 3, 9, 4, 0), (.aload_n 0, 1, 0, 0, 0), (.getfield 19, 3, 10, 1, 0), (.iload_n 1, 1, 1, 0, 0), (.invokevirtual 278, 3, 118, 3, 6), (.iload_n 2, 1, 2, 0, 0), (.ifCond .ne 13, 3, 54, 0, 0), (.aload_n 0, 1, 0, 0, 0), (.getfield 40, 3, 10, 4, 0), (.getfield 281, 3, 6, 1, 0), (.goto 19, 3, 70, 0, 0)], 54),
  (54, [(.iload_n 2, 1, 2, 0, 0), (.iconst 1, 1, 0, 0, 1), (.if_icmp .ne 13, 3, 69, 0, 0), (.aload_n 0, 1, 0, 0, 0), (.getfield 40, 3, 10, 4, 0), (.getfield 284, 3, 6, 3, 0), (.goto 4, 3, 70, 0, 0)], 69),
  (69, [(.iconst (-1), 1, 0, 0, -1)], 70),
  (70, [(.ireturn, 1, 0, 0, 0)], 71)]
set_option maxRecDepth 100000 in
theorem ok_X10_heaviest : pm_oks 10 false 3 (some .int) cX10_heaviest bk_X10_heaviest = true := oksG_ok (by decide +kernel)
set_option maxRecDepth 100000 in
theorem me_X10_heaviest : pm_me 117 = (yX10_heaviest, cX10_heaviest, 3, (some .int), 2, 0) := pm_mq_ok rfl
theorem mt_X10_heaviest {l : Launch} {g : pm_G} {d mc ms : Nat} {as : List Value} {A : pm_H} {Q : Option Value → pm_H → Prop} (hca : pm_cat 3 as = true) (body : ∀ J : pm_J, pm_Cl l g (fun _ => none) d mc ms (pm_Rq mc ms Q) bk_X10_heaviest J → J 0 (pm_l0 3 as) [] A 0 0) : pm_Mt l g 117 d mc ms as A Q := pm_Mt_of (isI := false) 10 bk_X10_heaviest me_X10_heaviest (plainFor_of_name plX10) rfl (fun h => by cases h) ok_X10_heaviest hca body
noncomputable def bk_X10_distance : pm_B := [(0, [(.aload_n 0, 1, 0, 0, 0), (.getfield 12, 3, 10, 0, 0), (.getfield 80, 3, 9, 4, 0), (.astore_n 2, 1, 2, 0, 0), (.aload_n 2, 1, 2, 0, 0), (.iload_n 1, 1, 1, 0, 0), (.invokevirtual 248, 3, 19, 1, 7), (.ifCond .eq 13, 3, 26, 0, 0), (.aload_n 2, 1, 2, 0, 0), (.getfield 287, 3, 7, 2, 0), (.iload_n 1, 1, 1, 0, 0), (.iaload, 1, 0, 0, 0), (.iconst (-1), 1, 0, 0, -1), (.if_icmp .ne 5, 3, 28, 0, 0)], 26),
  (26, [(.iconst (-1), 1, 0, 0, -1), (.ireturn, 1, 0, 0, 0)], 28),
  (28, [(.aload_n 0, 1, 0, 0, 0), (.aload_n 2, 1, 2, 0, 0), (.aload_n 2, 1, 2, 0, 0), (.getfield 287, 3, 7, 2, 0), (.iload_n 1, 1, 1, 0, 0), (.iaload, 1, 0, 0, 0), (.iconst 1, 1, 0, 0, 1), (.iadd, 1, 0, 0, 0), (.iload_n 1, 1, 1, 0, 0), (.iconst 1, 1, 0, 0, 1), (.isub, 1, 0, 0, 0), (.invokevirtual 159, 3, 54, 3, 10), (.ireturn, 1, 0, 0, 0)], 45)]
set_option maxRecDepth 100000 in
theorem ok_X10_distance : pm_oks 10 false 3 (some .int) cX10_distance bk_X10_distance = true := oksG_ok (by decide +kernel)
set_option maxRecDepth 100000 in
theorem me_X10_distance : pm_me 119 = (yX10_distance, cX10_distance, 3, (some .int), 1, 0) := pm_mq_ok rfl
theorem mt_X10_distance {l : Launch} {g : pm_G} {d mc ms : Nat} {as : List Value} {A : pm_H} {Q : Option Value → pm_H → Prop} (hca : pm_cat 3 as = true) (body : ∀ J : pm_J, pm_Cl l g (fun _ => none) d mc ms (pm_Rq mc ms Q) bk_X10_distance J → J 0 (pm_l0 3 as) [] A 0 0) : pm_Mt l g 119 d mc ms as A Q := pm_Mt_of (isI := false) 10 bk_X10_distance me_X10_distance (plainFor_of_name plX10) rfl (fun h => by cases h) ok_X10_distance hca body
noncomputable def bk_X10_misses : pm_B := [(0, [(.iload_n 1, 1, 1, 0, 0), (.iload_n 2, 1, 2, 0, 0), (.invokestatic 290, 3, 121, 2, 0), (.ifCond .ne 5, 3, 10, 0, 0), (.iconst (-1), 1, 0, 0, -1), (.ireturn, 1, 0, 0, 0)], 10),
  (10, [(.aload_n 0, 1, 0, 0, 0), (.getfield 47, 3, 10, 5, 0), (.aload_n 0, 1, 0, 0, 0), (.getfield 12, 3, 10, 0, 0), (.getfield 80, 3, 9, 4, 0), (.aload_n 0, 1, 0, 0, 0), (.getfield 12, 3, 10, 0, 0), (.getfield 80, 3, 9, 4, 0), (.getfield 103, 3, 7, 3, 0), (.iconst 1, 1, 0, 0, 1), (.isub, 1, 0, 0, 0), (.iload_n 1, 1, 1, 0, 0), (.iload_n 2, 1, 2, 0, 0), (.invokevirtual 293, 3, 122, 4, 8), (.aload_n 0, 1, 0, 0, 0), (.getfield 47, 3, 10, 5, 0), (.getfield 297, 3, 8, 3, 0), (.ireturn, 1, 0, 0, 0)], 46)]
set_option maxRecDepth 100000 in
theorem ok_X10_misses : pm_oks 10 false 3 (some .int) cX10_misses bk_X10_misses = true := oksG_ok (by decide +kernel)
set_option maxRecDepth 100000 in
theorem me_X10_misses : pm_me 120 = (yX10_misses, cX10_misses, 3, (some .int), 2, 0) := pm_mq_ok rfl
theorem mt_X10_misses {l : Launch} {g : pm_G} {d mc ms : Nat} {as : List Value} {A : pm_H} {Q : Option Value → pm_H → Prop} (hca : pm_cat 3 as = true) (body : ∀ J : pm_J, pm_Cl l g (fun _ => none) d mc ms (pm_Rq mc ms Q) bk_X10_misses J → J 0 (pm_l0 3 as) [] A 0 0) : pm_Mt l g 120 d mc ms as A Q := pm_Mt_of (isI := false) 10 bk_X10_misses me_X10_misses (plainFor_of_name plX10) rfl (fun h => by cases h) ok_X10_misses hca body
noncomputable def bk_X10_shelf : pm_B := [(0, [(.aload_n 0, 1, 0, 0, 0), (.getfield 12, 3, 10, 0, 0), (.getfield 80, 3, 9, 4, 0), (.iload_n 1, 1, 1, 0, 0), (.invokevirtual 248, 3, 19, 1, 7), (.ifCond .eq 11, 3, 22, 0, 0), (.iload_n 2, 1, 2, 0, 0), (.iload_n 3, 1, 3, 0, 0), (.invokestatic 290, 3, 121, 2, 0), (.ifCond .ne 5, 3, 24, 0, 0)], 22),
  (22, [(.iconst (-1), 1, 0, 0, -1), (.ireturn, 1, 0, 0, 0)], 24),
  (24, [(.aload_n 0, 1, 0, 0, 0), (.getfield 47, 3, 10, 5, 0), (.aload_n 0, 1, 0, 0, 0), (.getfield 12, 3, 10, 0, 0), (.getfield 80, 3, 9, 4, 0), (.iload_n 1, 1, 1, 0, 0), (.iload_n 2, 1, 2, 0, 0), (.iload_n 3, 1, 3, 0, 0), (.invokevirtual 293, 3, 122, 4, 8), (.aload_n 0, 1, 0, 0, 0), (.getfield 47, 3, 10, 5, 0), (.getfield 300, 3, 8, 4, 0), (.ireturn, 1, 0, 0, 0)], 49)]
set_option maxRecDepth 100000 in
theorem ok_X10_shelf : pm_oks 10 false 4 (some .int) cX10_shelf bk_X10_shelf = true := oksG_ok (by decide +kernel)
set_option maxRecDepth 100000 in
theorem me_X10_shelf : pm_me 126 = (yX10_shelf, cX10_shelf, 4, (some .int), 3, 0) := pm_mq_ok rfl
theorem mt_X10_shelf {l : Launch} {g : pm_G} {d mc ms : Nat} {as : List Value} {A : pm_H} {Q : Option Value → pm_H → Prop} (hca : pm_cat 4 as = true) (body : ∀ J : pm_J, pm_Cl l g (fun _ => none) d mc ms (pm_Rq mc ms Q) bk_X10_shelf J → J 0 (pm_l0 4 as) [] A 0 0) : pm_Mt l g 126 d mc ms as A Q := pm_Mt_of (isI := false) 10 bk_X10_shelf me_X10_shelf (plainFor_of_name plX10) rfl (fun h => by cases h) ok_X10_shelf hca body
noncomputable def bk_X10_suffices : pm_B := [(0, [(.iload_n 1, 1, 1, 0, 0), (.ifCond .ge 5, 3, 6, 0, 0), (.iconst (-1), 1, 0, 0, -1), (.ireturn, 1, 0, 0, 0)], 6),
  (6, [(.iconst 1, 1, 0, 0, 1), (.istore_n 3, 1, 3, 0, 0)], 8),
  (8, [(.iload_n 3, 1, 3, 0, 0), (.bipush 24, 2, 0, 0, 24), (.if_icmp .gt 58, 3, 69, 0, 0), (.iload_n 3, 1, 3, 0, 0), (.iload_n 2, 1, 2, 0, 0), (.invokestatic 290, 3, 121, 2, 0), (.ifCond .eq 50, 3, 69, 0, 0), (.aload_n 0, 1, 0, 0, 0), (.getfield 47, 3, 10, 5, 0), (.aload_n 0, 1, 0, 0, 0), (.getfield 12, 3, 10, 0, 0), (.getfield 80, 3, 9, 4, 0), (.aload_n 0, 1, 0, 0, 0), (.getfield 12, 3, 10, 0, 0), (.getfield 80, 3, 9, 4, 0), (.getfield 103, 3, 7, 3, 0), (.iconst 1, 1, 0, 0, 1), (.isub, 1, 0, 0, 0), (.iload_n 3, 1, 3, 0, 0), (.iload_n 2, 1, 2, 0, 0), (.invokevirtual 293, 3, 122, 4, 8), (.aload_n 0, 1, 0, 0, 0), (.getfield 47, 3, 10, 5, 0), (.getfield 297, 3, 8, 3, 0), (.iload_n 1, 1, 1, 0, 0), (.if_icmp .gt 5, 3, 63, 0, 0), (.iload_n 3, 1, 3, 0, 0), (.ireturn, 1, 0, 0, 0)], 63),
  (63, [(.iinc 3 1, 3, 3, 0, 1), (.goto (-58), 3, 8, 0, 0)], 69),
  (69, [(.iconst (-1), 1, 0, 0, -1), (.ireturn, 1, 0, 0, 0)], 71)]
set_option maxRecDepth 100000 in
theorem ok_X10_suffices : pm_oks 10 false 4 (some .int) cX10_suffices bk_X10_suffices = true := oksG_ok (by decide +kernel)
set_option maxRecDepth 100000 in
theorem me_X10_suffices : pm_me 127 = (yX10_suffices, cX10_suffices, 4, (some .int), 2, 0) := pm_mq_ok rfl
theorem mt_X10_suffices {l : Launch} {g : pm_G} {d mc ms : Nat} {as : List Value} {A : pm_H} {Q : Option Value → pm_H → Prop} (hca : pm_cat 4 as = true) (body : ∀ J : pm_J, pm_Cl l g (fun _ => none) d mc ms (pm_Rq mc ms Q) bk_X10_suffices J → J 0 (pm_l0 4 as) [] A 0 0) : pm_Mt l g 127 d mc ms as A Q := pm_Mt_of (isI := false) 10 bk_X10_suffices me_X10_suffices (plainFor_of_name plX10) rfl (fun h => by cases h) ok_X10_suffices hca body
noncomputable def bk_X10_just : pm_B := [(0, [(.iload_n 1, 1, 1, 0, 0), (.iconst 1, 1, 0, 0, 1), (.if_icmp .ge 5, 3, 7, 0, 0), (.iconst 0, 1, 0, 0, 0), (.ireturn, 1, 0, 0, 0)], 7),
  (7, [(.aload_n 0, 1, 0, 0, 0), (.getfield 12, 3, 10, 0, 0), (.getfield 80, 3, 9, 4, 0), (.astore_n 2, 1, 2, 0, 0), (.aload_n 0, 1, 0, 0, 0), (.getfield 54, 3, 10, 6, 0), (.aload_n 2, 1, 2, 0, 0), (.aload_n 0, 1, 0, 0, 0), (.getfield 19, 3, 10, 1, 0), (.iload_n 1, 1, 1, 0, 0), (.invokevirtual 301, 3, 129, 3, 4), (.aload_n 0, 1, 0, 0, 0), (.getfield 54, 3, 10, 6, 0), (.aload_n 2, 1, 2, 0, 0), (.aload_n 0, 1, 0, 0, 0), (.getfield 19, 3, 10, 1, 0), (.iload_n 1, 1, 1, 0, 0), (.iconst 1, 1, 0, 0, 1), (.isub, 1, 0, 0, 0), (.invokevirtual 301, 3, 129, 3, 4), (.isub, 1, 0, 0, 0), (.ireturn, 1, 0, 0, 0)], 45)]
set_option maxRecDepth 100000 in
theorem ok_X10_just : pm_oks 10 false 3 (some .int) cX10_just bk_X10_just = true := oksG_ok (by decide +kernel)
set_option maxRecDepth 100000 in
theorem me_X10_just : pm_me 128 = (yX10_just, cX10_just, 3, (some .int), 1, 0) := pm_mq_ok rfl
theorem mt_X10_just {l : Launch} {g : pm_G} {d mc ms : Nat} {as : List Value} {A : pm_H} {Q : Option Value → pm_H → Prop} (hca : pm_cat 3 as = true) (body : ∀ J : pm_J, pm_Cl l g (fun _ => none) d mc ms (pm_Rq mc ms Q) bk_X10_just J → J 0 (pm_l0 3 as) [] A 0 0) : pm_Mt l g 128 d mc ms as A Q := pm_Mt_of (isI := false) 10 bk_X10_just me_X10_just (plainFor_of_name plX10) rfl (fun h => by cases h) ok_X10_just hca body
noncomputable def bk_X10_all : pm_B := [(0, [(.aload_n 0, 1, 0, 0, 0), (.getfield 12, 3, 10, 0, 0), (.getfield 80, 3, 9, 4, 0), (.astore_n 1, 1, 1, 0, 0), (.lconst 0, 1, 0, 0, 0), (.lstore_n 2, 1, 2, 0, 0), (.iconst 0, 1, 0, 0, 0), (.istore 4, 2, 4, 0, 0)], 13),
  (13, [(.iload 4, 2, 4, 0, 0), (.aload_n 1, 1, 1, 0, 0), (.getfield 103, 3, 7, 3, 0), (.if_icmp .ge 32, 3, 51, 0, 0), (.lload_n 2, 1, 2, 0, 0), (.iload 4, 2, 4, 0, 0), (.aload_n 1, 1, 1, 0, 0), (.getfield 287, 3, 7, 2, 0), (.iload 4, 2, 4, 0, 0), (.iaload, 1, 0, 0, 0), (.isub, 1, 0, 0, 0), (.i2l, 1, 0, 0, 0), (.aload_n 1, 1, 1, 0, 0), (.getfield 103, 3, 7, 3, 0), (.iload 4, 2, 4, 0, 0), (.isub, 1, 0, 0, 0), (.i2l, 1, 0, 0, 0), (.lmul, 1, 0, 0, 0), (.ladd, 1, 0, 0, 0), (.lstore_n 2, 1, 2, 0, 0), (.iinc 4 1, 3, 4, 0, 1), (.goto (-35), 3, 13, 0, 0)], 51),
  (51, [(.lload_n 2, 1, 2, 0, 0), (.lreturn, 1, 0, 0, 0)], 53)]
set_option maxRecDepth 100000 in
theorem ok_X10_all : pm_oks 10 false 5 (some .long) cX10_all bk_X10_all = true := oksG_ok (by decide +kernel)
set_option maxRecDepth 100000 in
theorem me_X10_all : pm_me 130 = (yX10_all, cX10_all, 5, (some .long), 0, 0) := pm_mq_ok rfl
theorem mt_X10_all {l : Launch} {g : pm_G} {d mc ms : Nat} {as : List Value} {A : pm_H} {Q : Option Value → pm_H → Prop} (hca : pm_cat 5 as = true) (body : ∀ J : pm_J, pm_Cl l g (fun _ => none) d mc ms (pm_Rq mc ms Q) bk_X10_all J → J 0 (pm_l0 5 as) [] A 0 0) : pm_Mt l g 130 d mc ms as A Q := pm_Mt_of (isI := false) 10 bk_X10_all me_X10_all (plainFor_of_name plX10) rfl (fun h => by cases h) ok_X10_all hca body
noncomputable def bk_X10_sets : pm_B := [(0, [(.iload_n 1, 1, 1, 0, 0), (.iconst 1, 1, 0, 0, 1), (.if_icmp .lt 39, 3, 41, 0, 0), (.iload_n 1, 1, 1, 0, 0), (.aload_n 0, 1, 0, 0, 0), (.getfield 12, 3, 10, 0, 0), (.getfield 80, 3, 9, 4, 0), (.getfield 103, 3, 7, 3, 0), (.if_icmp .gt 25, 3, 41, 0, 0), (.aload_n 0, 1, 0, 0, 0), (.getfield 54, 3, 10, 6, 0), (.aload_n 0, 1, 0, 0, 0), (.getfield 12, 3, 10, 0, 0), (.getfield 80, 3, 9, 4, 0), (.aload_n 0, 1, 0, 0, 0), (.getfield 19, 3, 10, 1, 0), (.iload_n 1, 1, 1, 0, 0), (.invokevirtual 305, 3, 132, 3, 4), (.goto 4, 3, 42, 0, 0)], 41),
  (41, [(.iconst 0, 1, 0, 0, 0)], 42),
  (42, [(.ireturn, 1, 0, 0, 0)], 43)]
set_option maxRecDepth 100000 in
theorem ok_X10_sets : pm_oks 10 false 2 (some .int) cX10_sets bk_X10_sets = true := oksG_ok (by decide +kernel)
set_option maxRecDepth 100000 in
theorem me_X10_sets : pm_me 131 = (yX10_sets, cX10_sets, 2, (some .int), 1, 0) := pm_mq_ok rfl
theorem mt_X10_sets {l : Launch} {g : pm_G} {d mc ms : Nat} {as : List Value} {A : pm_H} {Q : Option Value → pm_H → Prop} (hca : pm_cat 2 as = true) (body : ∀ J : pm_J, pm_Cl l g (fun _ => none) d mc ms (pm_Rq mc ms Q) bk_X10_sets J → J 0 (pm_l0 2 as) [] A 0 0) : pm_Mt l g 131 d mc ms as A Q := pm_Mt_of (isI := false) 10 bk_X10_sets me_X10_sets (plainFor_of_name plX10) rfl (fun h => by cases h) ok_X10_sets hca body
noncomputable def bk_X10_match : pm_B := [(0, [(.aload_n 0, 1, 0, 0, 0), (.getfield 12, 3, 10, 0, 0), (.getfield 80, 3, 9, 4, 0), (.iload_n 1, 1, 1, 0, 0), (.iload_n 2, 1, 2, 0, 0), (.invokevirtual 111, 3, 14, 2, 7), (.ifCond .eq 8, 3, 20, 0, 0), (.iload_n 3, 1, 3, 0, 0), (.iconst (-1), 1, 0, 0, -1), (.if_icmp .ge 5, 3, 22, 0, 0)], 20),
  (20, [(.iconst (-1), 1, 0, 0, -1), (.ireturn, 1, 0, 0, 0)], 22),
  (22, [(.aload_n 0, 1, 0, 0, 0), (.getfield 54, 3, 10, 6, 0), (.aload_n 0, 1, 0, 0, 0), (.getfield 12, 3, 10, 0, 0), (.getfield 80, 3, 9, 4, 0), (.iload_n 1, 1, 1, 0, 0), (.iload_n 2, 1, 2, 0, 0), (.iload_n 3, 1, 3, 0, 0), (.invokevirtual 308, 3, 135, 4, 4), (.ireturn, 1, 0, 0, 0)], 40)]
set_option maxRecDepth 100000 in
theorem ok_X10_match : pm_oks 10 false 4 (some .int) cX10_match bk_X10_match = true := oksG_ok (by decide +kernel)
set_option maxRecDepth 100000 in
theorem me_X10_match : pm_me 134 = (yX10_match, cX10_match, 4, (some .int), 3, 0) := pm_mq_ok rfl
theorem mt_X10_match {l : Launch} {g : pm_G} {d mc ms : Nat} {as : List Value} {A : pm_H} {Q : Option Value → pm_H → Prop} (hca : pm_cat 4 as = true) (body : ∀ J : pm_J, pm_Cl l g (fun _ => none) d mc ms (pm_Rq mc ms Q) bk_X10_match J → J 0 (pm_l0 4 as) [] A 0 0) : pm_Mt l g 134 d mc ms as A Q := pm_Mt_of (isI := false) 10 bk_X10_match me_X10_match (plainFor_of_name plX10) rfl (fun h => by cases h) ok_X10_match hca body
noncomputable def bk_X10_twin : pm_B := [(0, [(.aload_n 0, 1, 0, 0, 0), (.getfield 54, 3, 10, 6, 0), (.aload_n 0, 1, 0, 0, 0), (.getfield 12, 3, 10, 0, 0), (.getfield 80, 3, 9, 4, 0), (.invokevirtual 311, 3, 139, 1, 4), (.aload_n 0, 1, 0, 0, 0), (.getfield 54, 3, 10, 6, 0), (.getfield 314, 3, 4, 2, 0), (.ifCond .ne 5, 3, 26, 0, 0), (.iconst (-1), 1, 0, 0, -1), (.ireturn, 1, 0, 0, 0)], 26),
  (26, [(.iload_n 1, 1, 1, 0, 0), (.ifCond .ne 13, 3, 40, 0, 0), (.aload_n 0, 1, 0, 0, 0), (.getfield 54, 3, 10, 6, 0), (.getfield 317, 3, 4, 1, 0), (.goto 19, 3, 56, 0, 0)], 40),
  (40, [(.iload_n 1, 1, 1, 0, 0), (.iconst 1, 1, 0, 0, 1), (.if_icmp .ne 13, 3, 55, 0, 0), (.aload_n 0, 1, 0, 0, 0), (.getfield 54, 3, 10, 6, 0), (.getfield 314, 3, 4, 2, 0), (.goto 4, 3, 56, 0, 0)], 55),
  (55, [(.iconst (-1), 1, 0, 0, -1)], 56),
  (56, [(.ireturn, 1, 0, 0, 0)], 57)]
set_option maxRecDepth 100000 in
theorem ok_X10_twin : pm_oks 10 false 2 (some .int) cX10_twin bk_X10_twin = true := oksG_ok (by decide +kernel)
set_option maxRecDepth 100000 in
theorem me_X10_twin : pm_me 138 = (yX10_twin, cX10_twin, 2, (some .int), 1, 0) := pm_mq_ok rfl
theorem mt_X10_twin {l : Launch} {g : pm_G} {d mc ms : Nat} {as : List Value} {A : pm_H} {Q : Option Value → pm_H → Prop} (hca : pm_cat 2 as = true) (body : ∀ J : pm_J, pm_Cl l g (fun _ => none) d mc ms (pm_Rq mc ms Q) bk_X10_twin J → J 0 (pm_l0 2 as) [] A 0 0) : pm_Mt l g 138 d mc ms as A Q := pm_Mt_of (isI := false) 10 bk_X10_twin me_X10_twin (plainFor_of_name plX10) rfl (fun h => by cases h) ok_X10_twin hca body
noncomputable def bk_X10_parts : pm_B := [(0, [(.iload_n 1, 1, 1, 0, 0), (.iconst 1, 1, 0, 0, 1), (.if_icmp .lt 31, 3, 33, 0, 0), (.iload_n 2, 1, 2, 0, 0), (.iconst (-1), 1, 0, 0, -1), (.if_icmp .lt 26, 3, 33, 0, 0), (.aload_n 0, 1, 0, 0, 0), (.getfield 61, 3, 10, 7, 0), (.aload_n 0, 1, 0, 0, 0), (.getfield 12, 3, 10, 0, 0), (.getfield 80, 3, 9, 4, 0), (.aload_n 0, 1, 0, 0, 0), (.getfield 19, 3, 10, 1, 0), (.iload_n 1, 1, 1, 0, 0), (.iload_n 2, 1, 2, 0, 0), (.invokevirtual 320, 3, 142, 4, 3), (.goto 4, 3, 34, 0, 0)], 33),
  (33, [(.iconst (-1), 1, 0, 0, -1)], 34),
  (34, [(.ireturn, 1, 0, 0, 0)], 35)]
set_option maxRecDepth 100000 in
theorem ok_X10_parts : pm_oks 10 false 3 (some .int) cX10_parts bk_X10_parts = true := oksG_ok (by decide +kernel)
set_option maxRecDepth 100000 in
theorem me_X10_parts : pm_me 141 = (yX10_parts, cX10_parts, 3, (some .int), 2, 0) := pm_mq_ok rfl
theorem mt_X10_parts {l : Launch} {g : pm_G} {d mc ms : Nat} {as : List Value} {A : pm_H} {Q : Option Value → pm_H → Prop} (hca : pm_cat 3 as = true) (body : ∀ J : pm_J, pm_Cl l g (fun _ => none) d mc ms (pm_Rq mc ms Q) bk_X10_parts J → J 0 (pm_l0 3 as) [] A 0 0) : pm_Mt l g 141 d mc ms as A Q := pm_Mt_of (isI := false) 10 bk_X10_parts me_X10_parts (plainFor_of_name plX10) rfl (fun h => by cases h) ok_X10_parts hca body
noncomputable def bk_X10_best : pm_B := [(0, [(.iload_n 1, 1, 1, 0, 0), (.iconst 1, 1, 0, 0, 1), (.if_icmp .lt 33, 3, 35, 0, 0), (.iload_n 1, 1, 1, 0, 0), (.bipush 8, 2, 0, 0, 8), (.if_icmp .gt 27, 3, 35, 0, 0), (.iload_n 1, 1, 1, 0, 0), (.aload_n 0, 1, 0, 0, 0), (.getfield 12, 3, 10, 0, 0), (.getfield 80, 3, 9, 4, 0), (.getfield 103, 3, 7, 3, 0), (.if_icmp .gt 13, 3, 35, 0, 0), (.iload_n 2, 1, 2, 0, 0), (.iconst (-1), 1, 0, 0, -1), (.if_icmp .lt 8, 3, 35, 0, 0), (.iload_n 2, 1, 2, 0, 0), (.iload_n 1, 1, 1, 0, 0), (.if_icmp .lt 5, 3, 37, 0, 0)], 35),
  (35, [(.iconst (-1), 1, 0, 0, -1), (.ireturn, 1, 0, 0, 0)], 37),
  (37, [(.aload_n 0, 1, 0, 0, 0), (.getfield 61, 3, 10, 7, 0), (.aload_n 0, 1, 0, 0, 0), (.getfield 12, 3, 10, 0, 0), (.getfield 80, 3, 9, 4, 0), (.aload_n 0, 1, 0, 0, 0), (.getfield 19, 3, 10, 1, 0), (.iload_n 1, 1, 1, 0, 0), (.invokevirtual 323, 3, 144, 3, 3), (.iload_n 2, 1, 2, 0, 0), (.iconst (-1), 1, 0, 0, -1), (.if_icmp .ne 15, 3, 73, 0, 0), (.aload_n 0, 1, 0, 0, 0), (.getfield 61, 3, 10, 7, 0), (.iload_n 1, 1, 1, 0, 0), (.iconst 0, 1, 0, 0, 0), (.invokevirtual 326, 3, 145, 2, 3), (.goto 23, 3, 93, 0, 0)], 73),
  (73, [(.aload_n 0, 1, 0, 0, 0), (.getfield 61, 3, 10, 7, 0), (.aload_n 0, 1, 0, 0, 0), (.getfield 12, 3, 10, 0, 0), (.getfield 80, 3, 9, 4, 0), (.aload_n 0, 1, 0, 0, 0), (.getfield 19, 3, 10, 1, 0), (.iload_n 1, 1, 1, 0, 0), (.iload_n 2, 1, 2, 0, 0), (.invokevirtual 329, 3, 146, 4, 3)], 93),
  (93, [(.ireturn, 1, 0, 0, 0)], 94)]
set_option maxRecDepth 100000 in
theorem ok_X10_best : pm_oks 10 false 3 (some .int) cX10_best bk_X10_best = true := oksG_ok (by decide +kernel)
set_option maxRecDepth 100000 in
theorem me_X10_best : pm_me 143 = (yX10_best, cX10_best, 3, (some .int), 2, 0) := pm_mq_ok rfl
theorem mt_X10_best {l : Launch} {g : pm_G} {d mc ms : Nat} {as : List Value} {A : pm_H} {Q : Option Value → pm_H → Prop} (hca : pm_cat 3 as = true) (body : ∀ J : pm_J, pm_Cl l g (fun _ => none) d mc ms (pm_Rq mc ms Q) bk_X10_best J → J 0 (pm_l0 3 as) [] A 0 0) : pm_Mt l g 143 d mc ms as A Q := pm_Mt_of (isI := false) 10 bk_X10_best me_X10_best (plainFor_of_name plX10) rfl (fun h => by cases h) ok_X10_best hca body
noncomputable def bk_X10_was : pm_B := [(0, [(.aload_n 0, 1, 0, 0, 0), (.getfield 12, 3, 10, 0, 0), (.iload_n 1, 1, 1, 0, 0), (.invokevirtual 332, 3, 149, 1, 9), (.astore 4, 2, 4, 0, 0), (.aload 4, 2, 4, 0, 0), (.ifnonnull 5, 3, 17, 0, 0), (.iconst (-1), 1, 0, 0, -1), (.ireturn, 1, 0, 0, 0)], 17),
  (17, [(.iload_n 2, 1, 2, 0, 0), (.iconst (-1), 1, 0, 0, -1), (.if_icmp .ne 11, 3, 30, 0, 0), (.aload 4, 2, 4, 0, 0), (.getfield 103, 3, 7, 3, 0), (.goto 10, 3, 37, 0, 0)], 30),
  (30, [(.aload 4, 2, 4, 0, 0), (.iload_n 2, 1, 2, 0, 0), (.iload_n 3, 1, 3, 0, 0), (.invokevirtual 143, 3, 44, 2, 7)], 37),
  (37, [(.ireturn, 1, 0, 0, 0)], 38)]
set_option maxRecDepth 100000 in
theorem ok_X10_was : pm_oks 10 false 5 (some .int) cX10_was bk_X10_was = true := oksG_ok (by decide +kernel)
set_option maxRecDepth 100000 in
theorem me_X10_was : pm_me 148 = (yX10_was, cX10_was, 5, (some .int), 3, 0) := pm_mq_ok rfl
theorem mt_X10_was {l : Launch} {g : pm_G} {d mc ms : Nat} {as : List Value} {A : pm_H} {Q : Option Value → pm_H → Prop} (hca : pm_cat 5 as = true) (body : ∀ J : pm_J, pm_Cl l g (fun _ => none) d mc ms (pm_Rq mc ms Q) bk_X10_was J → J 0 (pm_l0 5 as) [] A 0 0) : pm_Mt l g 148 d mc ms as A Q := pm_Mt_of (isI := false) 10 bk_X10_was me_X10_was (plainFor_of_name plX10) rfl (fun h => by cases h) ok_X10_was hca body
noncomputable def bk_X10_counted : pm_B := [(0, [(.aload_n 0, 1, 0, 0, 0), (.getfield 12, 3, 10, 0, 0), (.iload_n 1, 1, 1, 0, 0), (.invokevirtual 332, 3, 149, 1, 9), (.astore 4, 2, 4, 0, 0), (.aload 4, 2, 4, 0, 0), (.ifnull 24, 3, 36, 0, 0), (.aload 4, 2, 4, 0, 0), (.iload_n 2, 1, 2, 0, 0), (.iload_n 3, 1, 3, 0, 0), (.invokevirtual 111, 3, 14, 2, 7), (.ifCond .eq 14, 3, 36, 0, 0), (.aload_n 0, 1, 0, 0, 0), (.aload 4, 2, 4, 0, 0), (.iload_n 2, 1, 2, 0, 0), (.iload_n 3, 1, 3, 0, 0), (.invokevirtual 159, 3, 54, 3, 10), (.goto 4, 3, 37, 0, 0)], 36),
  (36, [(.iconst (-1), 1, 0, 0, -1)], 37),
  (37, [(.ireturn, 1, 0, 0, 0)], 38)]
set_option maxRecDepth 100000 in
theorem ok_X10_counted : pm_oks 10 false 5 (some .int) cX10_counted bk_X10_counted = true := oksG_ok (by decide +kernel)
set_option maxRecDepth 100000 in
theorem me_X10_counted : pm_me 150 = (yX10_counted, cX10_counted, 5, (some .int), 3, 0) := pm_mq_ok rfl
theorem mt_X10_counted {l : Launch} {g : pm_G} {d mc ms : Nat} {as : List Value} {A : pm_H} {Q : Option Value → pm_H → Prop} (hca : pm_cat 5 as = true) (body : ∀ J : pm_J, pm_Cl l g (fun _ => none) d mc ms (pm_Rq mc ms Q) bk_X10_counted J → J 0 (pm_l0 5 as) [] A 0 0) : pm_Mt l g 150 d mc ms as A Q := pm_Mt_of (isI := false) 10 bk_X10_counted me_X10_counted (plainFor_of_name plX10) rfl (fun h => by cases h) ok_X10_counted hca body
noncomputable def bk_X10_touched : pm_B := [(0, [(.aload_n 0, 1, 0, 0, 0), (.getfield 12, 3, 10, 0, 0), (.iload_n 1, 1, 1, 0, 0), (.invokevirtual 332, 3, 149, 1, 9), (.astore_n 2, 1, 2, 0, 0), (.aload_n 2, 1, 2, 0, 0), (.ifnull 15, 3, 25, 0, 0), (.iload_n 1, 1, 1, 0, 0), (.iconst 1, 1, 0, 0, 1), (.if_icmp .lt 10, 3, 25, 0, 0), (.aload_n 2, 1, 2, 0, 0), (.getfield 336, 3, 7, 4, 0), (.goto 4, 3, 26, 0, 0)], 25),
  (25, [(.iconst (-1), 1, 0, 0, -1)], 26),
  (26, [(.ireturn, 1, 0, 0, 0)], 27)]
set_option maxRecDepth 100000 in
theorem ok_X10_touched : pm_oks 10 false 3 (some .int) cX10_touched bk_X10_touched = true := oksG_ok (by decide +kernel)
set_option maxRecDepth 100000 in
theorem me_X10_touched : pm_me 151 = (yX10_touched, cX10_touched, 3, (some .int), 1, 0) := pm_mq_ok rfl
theorem mt_X10_touched {l : Launch} {g : pm_G} {d mc ms : Nat} {as : List Value} {A : pm_H} {Q : Option Value → pm_H → Prop} (hca : pm_cat 3 as = true) (body : ∀ J : pm_J, pm_Cl l g (fun _ => none) d mc ms (pm_Rq mc ms Q) bk_X10_touched J → J 0 (pm_l0 3 as) [] A 0 0) : pm_Mt l g 151 d mc ms as A Q := pm_Mt_of (isI := false) 10 bk_X10_touched me_X10_touched (plainFor_of_name plX10) rfl (fun h => by cases h) ok_X10_touched hca body
noncomputable def bk_X10_since : pm_B := [(0, [(.aload_n 0, 1, 0, 0, 0), (.getfield 12, 3, 10, 0, 0), (.iload_n 1, 1, 1, 0, 0), (.invokevirtual 339, 3, 153, 1, 9), (.ireturn, 1, 0, 0, 0)], 9)]
set_option maxRecDepth 100000 in
theorem ok_X10_since : pm_oks 10 false 2 (some .int) cX10_since bk_X10_since = true := oksG_ok (by decide +kernel)
set_option maxRecDepth 100000 in
theorem me_X10_since : pm_me 152 = (yX10_since, cX10_since, 2, (some .int), 1, 0) := pm_mq_ok rfl
theorem mt_X10_since {l : Launch} {g : pm_G} {d mc ms : Nat} {as : List Value} {A : pm_H} {Q : Option Value → pm_H → Prop} (hca : pm_cat 2 as = true) (body : ∀ J : pm_J, pm_Cl l g (fun _ => none) d mc ms (pm_Rq mc ms Q) bk_X10_since J → J 0 (pm_l0 2 as) [] A 0 0) : pm_Mt l g 152 d mc ms as A Q := pm_Mt_of (isI := false) 10 bk_X10_since me_X10_since (plainFor_of_name plX10) rfl (fun h => by cases h) ok_X10_since hca body
noncomputable def bk_X10_changed : pm_B := [(0, [(.aload_n 0, 1, 0, 0, 0), (.getfield 12, 3, 10, 0, 0), (.iload_n 1, 1, 1, 0, 0), (.invokevirtual 332, 3, 149, 1, 9), (.astore_n 3, 1, 3, 0, 0), (.aload_n 3, 1, 3, 0, 0), (.ifnull 24, 3, 34, 0, 0), (.iload_n 2, 1, 2, 0, 0), (.ifCond .lt 20, 3, 34, 0, 0), (.iload_n 2, 1, 2, 0, 0), (.iconst 3, 1, 0, 0, 3), (.if_icmp .gt 15, 3, 34, 0, 0), (.aload_n 0, 1, 0, 0, 0), (.getfield 12, 3, 10, 0, 0), (.aload_n 3, 1, 3, 0, 0), (.iload_n 2, 1, 2, 0, 0), (.invokevirtual 342, 3, 156, 2, 9), (.goto 4, 3, 35, 0, 0)], 34),
  (34, [(.iconst (-1), 1, 0, 0, -1)], 35),
  (35, [(.ireturn, 1, 0, 0, 0)], 36)]
set_option maxRecDepth 100000 in
theorem ok_X10_changed : pm_oks 10 false 4 (some .int) cX10_changed bk_X10_changed = true := oksG_ok (by decide +kernel)
set_option maxRecDepth 100000 in
theorem me_X10_changed : pm_me 155 = (yX10_changed, cX10_changed, 4, (some .int), 2, 0) := pm_mq_ok rfl
theorem mt_X10_changed {l : Launch} {g : pm_G} {d mc ms : Nat} {as : List Value} {A : pm_H} {Q : Option Value → pm_H → Prop} (hca : pm_cat 4 as = true) (body : ∀ J : pm_J, pm_Cl l g (fun _ => none) d mc ms (pm_Rq mc ms Q) bk_X10_changed J → J 0 (pm_l0 4 as) [] A 0 0) : pm_Mt l g 155 d mc ms as A Q := pm_Mt_of (isI := false) 10 bk_X10_changed me_X10_changed (plainFor_of_name plX10) rfl (fun h => by cases h) ok_X10_changed hca body
noncomputable def bk_X10_ask : pm_B := [(0, [(.aload_n 0, 1, 0, 0, 0), (.getfield 12, 3, 10, 0, 0), (.getfield 80, 3, 9, 4, 0), (.astore_n 3, 1, 3, 0, 0), (.aload_n 3, 1, 3, 0, 0), (.iload_n 1, 1, 1, 0, 0), (.invokevirtual 346, 3, 154, 1, 7), (.ifCond .eq 24, 3, 37, 0, 0), (.aload_n 3, 1, 3, 0, 0), (.iload_n 2, 1, 2, 0, 0), (.invokevirtual 346, 3, 154, 1, 7), (.ifCond .eq 16, 3, 37, 0, 0), (.aload_n 0, 1, 0, 0, 0), (.getfield 68, 3, 10, 8, 0), (.iconst (-1), 1, 0, 0, -1), (.iload_n 1, 1, 1, 0, 0), (.iload_n 2, 1, 2, 0, 0), (.invokevirtual 349, 3, 159, 3, 5), (.goto 4, 3, 38, 0, 0)], 37),
  (37, [(.iconst (-1), 1, 0, 0, -1)], 38),
  (38, [(.ireturn, 1, 0, 0, 0)], 39)]
set_option maxRecDepth 100000 in
theorem ok_X10_ask : pm_oks 10 false 4 (some .int) cX10_ask bk_X10_ask = true := oksG_ok (by decide +kernel)
set_option maxRecDepth 100000 in
theorem me_X10_ask : pm_me 158 = (yX10_ask, cX10_ask, 4, (some .int), 2, 0) := pm_mq_ok rfl
theorem mt_X10_ask {l : Launch} {g : pm_G} {d mc ms : Nat} {as : List Value} {A : pm_H} {Q : Option Value → pm_H → Prop} (hca : pm_cat 4 as = true) (body : ∀ J : pm_J, pm_Cl l g (fun _ => none) d mc ms (pm_Rq mc ms Q) bk_X10_ask J → J 0 (pm_l0 4 as) [] A 0 0) : pm_Mt l g 158 d mc ms as A Q := pm_Mt_of (isI := false) 10 bk_X10_ask me_X10_ask (plainFor_of_name plX10) rfl (fun h => by cases h) ok_X10_ask hca body
noncomputable def bk_X10_askOf : pm_B := [(0, [(.aload_n 0, 1, 0, 0, 0), (.getfield 12, 3, 10, 0, 0), (.iload_n 1, 1, 1, 0, 0), (.invokevirtual 332, 3, 149, 1, 9), (.astore 4, 2, 4, 0, 0), (.aload 4, 2, 4, 0, 0), (.ifnull 21, 3, 33, 0, 0), (.aload 4, 2, 4, 0, 0), (.iload_n 2, 1, 2, 0, 0), (.invokevirtual 346, 3, 154, 1, 7), (.ifCond .eq 12, 3, 33, 0, 0), (.aload 4, 2, 4, 0, 0), (.iload_n 3, 1, 3, 0, 0), (.invokevirtual 346, 3, 154, 1, 7), (.ifCond .ne 5, 3, 35, 0, 0)], 33),
  (33, [(.iconst (-1), 1, 0, 0, -1), (.ireturn, 1, 0, 0, 0)], 35),
  (35, [(.aload_n 0, 1, 0, 0, 0), (.getfield 68, 3, 10, 8, 0), (.iload_n 1, 1, 1, 0, 0), (.iload_n 2, 1, 2, 0, 0), (.iload_n 3, 1, 3, 0, 0), (.invokevirtual 349, 3, 159, 3, 5), (.ireturn, 1, 0, 0, 0)], 46)]
set_option maxRecDepth 100000 in
theorem ok_X10_askOf : pm_oks 10 false 5 (some .int) cX10_askOf bk_X10_askOf = true := oksG_ok (by decide +kernel)
set_option maxRecDepth 100000 in
theorem me_X10_askOf : pm_me 160 = (yX10_askOf, cX10_askOf, 5, (some .int), 3, 0) := pm_mq_ok rfl
theorem mt_X10_askOf {l : Launch} {g : pm_G} {d mc ms : Nat} {as : List Value} {A : pm_H} {Q : Option Value → pm_H → Prop} (hca : pm_cat 5 as = true) (body : ∀ J : pm_J, pm_Cl l g (fun _ => none) d mc ms (pm_Rq mc ms Q) bk_X10_askOf J → J 0 (pm_l0 5 as) [] A 0 0) : pm_Mt l g 160 d mc ms as A Q := pm_Mt_of (isI := false) 10 bk_X10_askOf me_X10_askOf (plainFor_of_name plX10) rfl (fun h => by cases h) ok_X10_askOf hca body
end
