
abbrev pm_B : Type := List (Nat × List pm_Op × Nat)
def pm_oks (own : Nat) (isI : Bool) (mx : Nat) (rt : Option FieldType) (cc : ByteArray) (b : pm_B) : Bool := b.all (fun q => pm_ok own mx isI rt cc q.2.2 q.1 q.2.1)
def pm_Rq (mc ms : Nat) (Q : Option Value → pm_H → Prop) : Option Value → pm_H → Nat → Nat → Prop := fun v A c s => (Nat.ble c mc && Nat.ble s ms) = true ∧ Q v A
def pm_Cl (l : Launch) (g : pm_G) (ro : Nat → Option (Nat × (Nat → Int32))) (d mc ms : Nat) (Ret : Option Value → pm_H → Nat → Nat → Prop) (b : pm_B) (J : pm_J) : Prop := (∀ (k pc : Nat) (ops : List pm_Op) (fin : Nat), b[k]? = some (pc, ops, fin) → ∀ (L : pm_L) (st : List Value) (A : pm_H) (c s : Nat), pm_wp l g ro d mc ms Ret J fin ops L st A c s → J pc L st A c s) ∧ ∀ (bs : List Bool) (pc : Nat) (L : pm_L) (st : List Value) (A : pm_H) (c s : Nat), J pc (pm_mask bs L) st A c s → J pc L st A c s
def pm_cat (mx : Nat) (as : List Value) : Bool := as.all (fun v => Nat.beq v.category 1) && Nat.ble as.length mx
theorem pm_sl_len : ∀ (as : List Value), (∀ v ∈ as, v.category = 1) → (lg_sl as).length = as.length
  | [], _ => rfl
  | v :: r, h => by
    have h1 : ¬ v.category = 2 := by rw [h v List.mem_cons_self]; omega
    have h2 := pm_sl_len r (fun x hx => h x (List.mem_cons_of_mem _ hx))
    simp only [lg_sl, List.flatMap_cons, if_neg h1, List.length_append, List.length_cons, List.length_nil] at h2 ⊢
    omega
