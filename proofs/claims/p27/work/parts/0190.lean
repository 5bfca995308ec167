section
variable {l : Launch} {g : pm_G}
set_option maxRecDepth 100000 in
theorem c_fill {A : pm_H} {a n : Nat} {f0 : Nat → Int32} (hA : A a = some (pm_ia g n f0)) (hn : n < 1000) (x : Int32) : pm_Mt l g 4 0 0 0 [.ref a, .int x] A (fun r A' => r = none ∧ A' = pm_up A a (pm_ia g n (fun j => if j < n then x else f0 j))) := by
  refine mt_J7_fill_53178 rfl (fun J hC => ?_)
  have hN := nI_toInt (n := n) (by omega)
  have k1 : (1 : Int32).toInt = 1 := rfl
  have lp : ∀ (m : Nat) (i : Int32) (A1 : pm_H), 0 ≤ i.toInt ∧ i.toInt ≤ n → A1 = pm_up A a (pm_ia g n (fun j => if (j : Int) < i.toInt then x else f0 j)) → (n : Int) - i.toInt < m → J 5 [some (.ref a), some (.int x), some (.int i), some (.int (nI n))] [] A1 0 0 := by
    intro m
    induction m with
    | zero => intro i A1 h1 h2 h3; omega
    | succ m ih =>
      intro i A1 h1 h2 h3
      refine hC.1 1 5 _ _ rfl _ _ _ _ _ ?_
      refine And.intro (fun c => ?_) (fun c => ?_)
      · refine hC.1 2 20 _ _ rfl _ _ _ _ _ ?_
        refine ⟨rfl, rfl, rfl, ?_⟩
        rw [h2]
        have e : (fun j : Nat => if (j : Int) < i.toInt then x else f0 j) = fun j => if j < n then x else f0 j := by
          funext j
          by_cases hj : j < n
          · rw [if_pos hj, if_pos (by omega)]
          · rw [if_neg hj, if_neg (by omega)]
        rw [e]
      · refine Exists.intro n (Exists.intro _ (And.intro (by rw [h2, pm_up_s]) (And.intro (by omega) ?_)))
        intro i2 em
        have e2 : i2.toInt = i.toInt + 1 := by rw [em]; exact pm_addc _ _ 1 rfl (by omega) (by omega)
        refine ih i2 _ (by omega) ?_ (by omega)
        rw [h2, pm_up_up]
        have e : (upd (fun j : Nat => if (j : Int) < i.toInt then x else f0 j) i.toInt.toNat x) = fun j : Nat => if (j : Int) < i2.toInt then x else f0 j := by
          funext j
          by_cases hj : j = i.toInt.toNat
          · subst hj; rw [pk_us, if_pos (by omega)]
          · rw [pk_un hj]
            by_cases hj2 : (j : Int) < i.toInt
            · rw [if_pos hj2, if_pos (by omega)]
            · rw [if_neg hj2, if_neg (by omega)]
        rw [e]
  refine hC.1 0 0 _ _ rfl _ _ _ _ _ ?_
  refine Exists.intro n (Exists.intro f0 (And.intro (Or.inl hA) ?_))
  have k0 : (0 : Int32).toInt = 0 := rfl
  refine lp (n + 1) 0 A (by omega) ?_ (by omega)
  have e : (fun j : Nat => if (j : Int) < (0 : Int32).toInt then x else f0 j) = f0 := by
    funext j
    rw [if_neg (by omega)]
  rw [e, pm_up_id hA]
end
