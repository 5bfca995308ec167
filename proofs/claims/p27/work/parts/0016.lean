
def pm_wp (l : Launch) (g : pm_G) (ro : Nat → Option (Nat × (Nat → Int32))) (d mc ms : Nat) (Ret : Option Value → pm_H → Nat → Nat → Prop) (J : pm_J) (fin : Nat) : List pm_Op → pm_L → List Value → pm_H → Nat → Nat → Prop
  | [], L, st, A, c, s => J fin L st A c s
  | (ins, _, i, k, z) :: r, L, st, A, c, s =>
    match ins with
    | .iconst _ => pm_wp l g ro d mc ms Ret J fin r L (.int z :: st) A c s
    | .bipush _ => pm_wp l g ro d mc ms Ret J fin r L (.int z :: st) A c s
    | .sipush _ => pm_wp l g ro d mc ms Ret J fin r L (.int z :: st) A c s
    | .ldc _ => pm_wp l g ro d mc ms Ret J fin r L (.int z :: st) A c s
    | .ldc_w _ => pm_wp l g ro d mc ms Ret J fin r L (.int z :: st) A c s
    | .aconst_null => pm_wp l g ro d mc ms Ret J fin r L (.null :: st) A c s
    | .lconst n => pm_wp l g ro d mc ms Ret J fin r L (.long (Int64.ofNat n) :: st) A c s
    | .iload _ => pm_li L i (fun x => pm_wp l g ro d mc ms Ret J fin r L (.int x :: st) A c s)
    | .iload_n _ => pm_li L i (fun x => pm_wp l g ro d mc ms Ret J fin r L (.int x :: st) A c s)
    | .lload_n _ => pm_ll L i (fun x => pm_wp l g ro d mc ms Ret J fin r L (.long x :: st) A c s)
    | .aload _ => pm_lr L i (fun x => pm_wp l g ro d mc ms Ret J fin r L (.ref x :: st) A c s) (pm_wp l g ro d mc ms Ret J fin r L (.null :: st) A c s)
    | .aload_n _ => pm_lr L i (fun x => pm_wp l g ro d mc ms Ret J fin r L (.ref x :: st) A c s) (pm_wp l g ro d mc ms Ret J fin r L (.null :: st) A c s)
    | .istore _ => pm_si (fun x st => pm_wp l g ro d mc ms Ret J fin r (pm_st L i (.int x)) st A c s) st
    | .istore_n _ => pm_si (fun x st => pm_wp l g ro d mc ms Ret J fin r (pm_st L i (.int x)) st A c s) st
    | .lstore_n _ => pm_sl (fun x st => pm_wp l g ro d mc ms Ret J fin r (pm_un (pm_st L i (.long x)) (i + 1)) st A c s) st
    | .astore _ => pm_srn (fun x st => pm_wp l g ro d mc ms Ret J fin r (pm_st L i (.ref x)) st A c s) (fun st => pm_wp l g ro d mc ms Ret J fin r (pm_st L i .null) st A c s) st
    | .astore_n _ => pm_srn (fun x st => pm_wp l g ro d mc ms Ret J fin r (pm_st L i (.ref x)) st A c s) (fun st => pm_wp l g ro d mc ms Ret J fin r (pm_st L i .null) st A c s) st
    | .iinc _ _ => pm_li L i (fun x => ∀ m : Int32, m = x + z → pm_wp l g ro d mc ms Ret J fin r (pm_st L i (.int m)) st A c s)
    | .iaload => pm_sir (fun x a st => ∃ (n : Nat) (f : Nat → Int32), pm_rd g ro A a n f ∧ (0 ≤ x.toInt ∧ x.toInt < n) ∧ pm_wp l g ro d mc ms Ret J fin r L (.int (f x.toInt.toNat) :: st) A c s) st
    | .iastore => pm_siir (fun v x a st => ∃ (n : Nat) (f : Nat → Int32), A a = some (pm_ia g n f) ∧ (0 ≤ x.toInt ∧ x.toInt < n) ∧ pm_wp l g ro d mc ms Ret J fin r L st (pm_up A a (pm_ia g n (upd f x.toInt.toNat v))) c s) st
    | .aaload => pm_sir (fun x a st => ∃ (n : Nat) (f : Nat → Option Nat), (A a = some (pm_ra g n f) ∨ A a = some (pm_ma g n f)) ∧ (0 ≤ x.toInt ∧ x.toInt < n) ∧ pm_wp l g ro d mc ms Ret J fin r L (va_rf (f x.toInt.toNat) :: st) A c s) st
    | .aastore => pm_srir (fun v x a st => ∃ (n : Nat) (f : Nat → Option Nat) (fs : List Value), A a = some (pm_ra g n f) ∧ A v = some (pm_ob 7 fs) ∧ (0 ≤ x.toInt ∧ x.toInt < n) ∧ pm_wp l g ro d mc ms Ret J fin r L st (pm_up A a (pm_ra g n (va_up f x.toInt.toNat (some v)))) c s) st
    | .arraylength => pm_sr (fun a st => ∃ (n : Nat) (f : Nat → Int32), pm_rd g ro A a n f ∧ pm_wp l g ro d mc ms Ret J fin r L (.int (nI n) :: st) A c s) st
    | .pop => pm_si (fun _ st => pm_wp l g ro d mc ms Ret J fin r L st A c s) st
    | .pop2 => pm_sl (fun _ st => pm_wp l g ro d mc ms Ret J fin r L st A c s) st
    | .dup => pm_sd (fun x st => pm_wp l g ro d mc ms Ret J fin r L (.int x :: .int x :: st) A c s) (fun x st => pm_wp l g ro d mc ms Ret J fin r L (.ref x :: .ref x :: st) A c s) st
    | .dup2 => pm_sir (fun x a st => pm_wp l g ro d mc ms Ret J fin r L (.int x :: .ref a :: .int x :: .ref a :: st) A c s) st
    | .iadd => pm_sii (fun x y st => ∀ m : Int32, m = x + y → pm_wp l g ro d mc ms Ret J fin r L (.int m :: st) A c s) st
    | .isub => pm_sii (fun x y st => ∀ m : Int32, m = x - y → pm_wp l g ro d mc ms Ret J fin r L (.int m :: st) A c s) st
    | .imul => pm_sii (fun x y st => ∀ m : Int32, m = x * y → pm_wp l g ro d mc ms Ret J fin r L (.int m :: st) A c s) st
    | .idiv => pm_sii (fun x y st => ¬ y = 0 ∧ ∀ m : Int32, m = x / y → pm_wp l g ro d mc ms Ret J fin r L (.int m :: st) A c s) st
    | .irem => pm_sii (fun x y st => ¬ y = 0 ∧ ∀ m : Int32, m = x - x / y * y → pm_wp l g ro d mc ms Ret J fin r L (.int m :: st) A c s) st
    | .ineg => pm_si (fun x st => ∀ m : Int32, m = -x → pm_wp l g ro d mc ms Ret J fin r L (.int m :: st) A c s) st
    | .ishl => pm_sii (fun x y st => pm_wp l g ro d mc ms Ret J fin r L (.int (x <<< (y &&& 31)) :: st) A c s) st
    | .ishr => pm_sii (fun x y st => pm_wp l g ro d mc ms Ret J fin r L (.int (x >>> (y &&& 31)) :: st) A c s) st
    | .iushr => pm_sii (fun x y st => pm_wp l g ro d mc ms Ret J fin r L (.int (x.toUInt32 >>> (y.toUInt32 &&& Int32.toUInt32 31)).toInt32 :: st) A c s) st
    | .iand => pm_sii (fun x y st => pm_wp l g ro d mc ms Ret J fin r L (.int (x &&& y) :: st) A c s) st
    | .ior => pm_sii (fun x y st => pm_wp l g ro d mc ms Ret J fin r L (.int (x ||| y) :: st) A c s) st
    | .ixor => pm_sii (fun x y st => pm_wp l g ro d mc ms Ret J fin r L (.int (x ^^^ y) :: st) A c s) st
    | .i2l => pm_si (fun x st => pm_wp l g ro d mc ms Ret J fin r L (.long x.toInt64 :: st) A c s) st
    | .ladd => pm_sll (fun x y st => pm_wp l g ro d mc ms Ret J fin r L (.long (x + y) :: st) A c s) st
    | .lmul => pm_sll (fun x y st => pm_wp l g ro d mc ms Ret J fin r L (.long (x * y) :: st) A c s) st
    | .lcmp => pm_sll (fun x y st => pm_wp l g ro d mc ms Ret J fin r L (.int (lg_cmp x y) :: st) A c s) st
    | .goto _ => J i L st A c s
    | .if_icmp .eq _ => pm_sii (fun x y st => (x = y → J i L st A c s) ∧ (¬ x = y → pm_wp l g ro d mc ms Ret J fin r L st A c s)) st
    | .if_icmp .ne _ => pm_sii (fun x y st => (¬ x = y → J i L st A c s) ∧ (x = y → pm_wp l g ro d mc ms Ret J fin r L st A c s)) st
    | .if_icmp .lt _ => pm_sii (fun x y st => (x.toInt < y.toInt → J i L st A c s) ∧ (y.toInt ≤ x.toInt → pm_wp l g ro d mc ms Ret J fin r L st A c s)) st
    | .if_icmp .ge _ => pm_sii (fun x y st => (y.toInt ≤ x.toInt → J i L st A c s) ∧ (x.toInt < y.toInt → pm_wp l g ro d mc ms Ret J fin r L st A c s)) st
    | .if_icmp .gt _ => pm_sii (fun x y st => (y.toInt < x.toInt → J i L st A c s) ∧ (x.toInt ≤ y.toInt → pm_wp l g ro d mc ms Ret J fin r L st A c s)) st
    | .if_icmp .le _ => pm_sii (fun x y st => (x.toInt ≤ y.toInt → J i L st A c s) ∧ (y.toInt < x.toInt → pm_wp l g ro d mc ms Ret J fin r L st A c s)) st
    | .ifCond .eq _ => pm_si (fun x st => (x = 0 → J i L st A c s) ∧ (¬ x = 0 → pm_wp l g ro d mc ms Ret J fin r L st A c s)) st
    | .ifCond .ne _ => pm_si (fun x st => (¬ x = 0 → J i L st A c s) ∧ (x = 0 → pm_wp l g ro d mc ms Ret J fin r L st A c s)) st
    | .ifCond .lt _ => pm_si (fun x st => (x.toInt < 0 → J i L st A c s) ∧ (0 ≤ x.toInt → pm_wp l g ro d mc ms Ret J fin r L st A c s)) st
    | .ifCond .ge _ => pm_si (fun x st => (0 ≤ x.toInt → J i L st A c s) ∧ (x.toInt < 0 → pm_wp l g ro d mc ms Ret J fin r L st A c s)) st
    | .ifCond .gt _ => pm_si (fun x st => (0 < x.toInt → J i L st A c s) ∧ (x.toInt ≤ 0 → pm_wp l g ro d mc ms Ret J fin r L st A c s)) st
    | .ifCond .le _ => pm_si (fun x st => (x.toInt ≤ 0 → J i L st A c s) ∧ (0 < x.toInt → pm_wp l g ro d mc ms Ret J fin r L st A c s)) st
    | .ifnull _ => pm_srn (fun _ st => pm_wp l g ro d mc ms Ret J fin r L st A c s) (fun st => J i L st A c s) st
    | .ifnonnull _ => pm_srn (fun _ st => J i L st A c s) (fun st => pm_wp l g ro d mc ms Ret J fin r L st A c s) st
    | .tableswitch dflt lo hi offs => pm_si (fun x st => ∀ t : Nat, pm_sw i dflt lo hi offs x t → J t L st A c s) st
    | .getfield _ => pm_sr (fun a st => ∃ fs : List Value, A a = some (pm_ob i fs) ∧ pm_ga fs k (fun v => pm_wp l g ro d mc ms Ret J fin r L (v :: st) A c s)) st
    | .putfield _ => pm_svr (fun v a st => ∃ fs : List Value, A a = some (pm_ob i fs) ∧ (pm_vk z.toInt.toNat v && (pm_at fs k).isSome) = true ∧ pm_wp l g ro d mc ms Ret J fin r L st (pm_up A a (pm_ob i (fs.set k v))) c s) st
    | .invokevirtual _ => pm_pv k st (fun as b rest => (∃ fs : List Value, A b = some (pm_ob z.toInt.toNat fs)) ∧ pm_call l g d mc ms i (.ref b :: as) rest A c s (fun st A c s => pm_wp l g ro d mc ms Ret J fin r L st A c s))
    | .invokestatic _ => pm_ps k st (fun as rest => pm_call l g d mc ms i as rest A c s (fun st A c s => pm_wp l g ro d mc ms Ret J fin r L st A c s))
    | .invokespecial _ => pm_sr (fun b rest => pm_z0 z ((Nat.ble 1 d && pm_rm rest) = true ∧ pm_wp l g ro d mc ms Ret J fin r L rest A c s) (pm_call l g d mc ms i [.ref b] rest A c s (fun st A c s => pm_wp l g ro d mc ms Ret J fin r L st A c s))) st
    | .new _ => (Nat.ble (c + 1) mc && Nat.ble (s + k) ms) = true ∧ ∀ a : Nat, A a = none → pm_wp l g ro d mc ms Ret J fin r L (.ref a :: st) (pm_up A a (pm_ob i (pm_df i))) (c + 1) (s + k)
    | .newarray .int => pm_si (fun n st => n = nI i ∧ (Nat.ble (c + 1) mc && Nat.ble (s + i) ms) = true ∧ ∀ a : Nat, A a = none → pm_wp l g ro d mc ms Ret J fin r L (.ref a :: st) (pm_up A a (pm_ia g i (fun _ => 0))) (c + 1) (s + i)) st
    | .anewarray _ => pm_si (fun n st => n = nI i ∧ (Nat.ble (c + 1) mc && Nat.ble (s + i) ms) = true ∧ ∀ a : Nat, A a = none → pm_wp l g ro d mc ms Ret J fin r L (.ref a :: st) (pm_up A a (pm_ra g i (fun _ => none))) (c + 1) (s + i)) st
    | .multianewarray _ _ => pm_sii (fun n m st => n = nI i ∧ m = nI k ∧ (Nat.ble (c + (1 + i)) mc && Nat.ble (s + (i + i * k)) ms) = true ∧ ∀ (a : Nat) (rw : Nat → Nat), A a = none → (∀ j, j < i → A (rw j) = none) → (∀ j, j < i → rw j ≠ a) → (∀ x y, x < i → y < i → rw x = rw y → x = y) → pm_wp l g ro d mc ms Ret J fin r L (.ref a :: st) (pm_upm g A a rw i k) (c + 1 + i) (s + i + i * k)) st
    | .ireturn => pm_si (fun v st => st = [] ∧ (i = 1 → v = 0 ∨ v = 1) ∧ Ret (some (.int v)) A c s) st
    | .lreturn => pm_sl (fun v st => st = [] ∧ Ret (some (.long v)) A c s) st
    | .areturn => pm_srn (fun v st => st = [] ∧ Ret (some (.ref v)) A c s) (fun st => st = [] ∧ Ret (some .null) A c s) st
    | .return_ => st = [] ∧ Ret none A c s
    | _ => False

