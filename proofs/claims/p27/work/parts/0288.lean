section
variable {l : Launch} {g : pm_G}
set_option maxRecDepth 100000 in
theorem c_X7_init {A : pm_H} {a : Nat} (hA : A a = some (pm_ob 7 (pm_df 7))) : pm_Mt l g 2 1 3 480 [.ref a] A (fun r A' => r = none ∧ ∃ b1 b2 b3 : Nat, (A b1 = none ∧ A b2 = none ∧ A b3 = none) ∧ (b1 ≠ b2 ∧ b1 ≠ b3 ∧ b2 ≠ b3 ∧ b1 ≠ a ∧ b2 ≠ a ∧ b3 ≠ a) ∧ A' a = some (pm_ob 7 [.ref b1, .ref b2, .ref b3, .int 0, .int 0]) ∧ (A' b1 = some (pm_ia g 160 (fun _ => 0)) ∧ A' b2 = some (pm_ia g 160 (fun _ => 0)) ∧ A' b3 = some (pm_ia g 160 (fun _ => 0))) ∧ ∀ x, x ≠ a → x ≠ b1 → x ≠ b2 → x ≠ b3 → A' x = A x) := by
  refine mt_X7_init rfl (fun J hC => ?_)
  have hd : pm_df 7 = [.null, .null, .null, .int 0, .int 0] := rfl
  rw [hd] at hA
  refine hC.1 0 0 _ _ rfl _ _ _ _ _ ?_
  refine And.intro rfl ?_
  refine And.intro rfl (And.intro rfl (fun b1 h1 => ?_))
  have n1 : b1 ≠ a := fun e => by rw [e, hA] at h1; cases h1
  refine Exists.intro _ (And.intro ((pm_up_n n1.symm).trans hA) (And.intro rfl ?_))
  refine And.intro rfl (And.intro rfl (fun b2 h2 => ?_))
  have n2 : b2 ≠ a := fun e => by rw [e, pm_up_s] at h2; cases h2
  rw [pm_up_n n2] at h2
  have n3 : b2 ≠ b1 := fun e => by rw [e, pm_up_s] at h2; cases h2
  rw [pm_up_n n3] at h2
  refine Exists.intro _ (And.intro ((pm_up_n n2.symm).trans pm_up_s) (And.intro rfl ?_))
  refine And.intro rfl (And.intro rfl (fun b3 h3 => ?_))
  have n4 : b3 ≠ a := fun e => by rw [e, pm_up_s] at h3; cases h3
  rw [pm_up_n n4] at h3
  have n5 : b3 ≠ b2 := fun e => by rw [e, pm_up_s] at h3; cases h3
  rw [pm_up_n n5, pm_up_n n4] at h3
  have n6 : b3 ≠ b1 := fun e => by rw [e, pm_up_s] at h3; cases h3
  rw [pm_up_n n6] at h3
  refine Exists.intro _ (And.intro ((pm_up_n n4.symm).trans pm_up_s) (And.intro rfl ?_))
  refine ⟨rfl, rfl, rfl, b1, b2, b3, ⟨h1, h2, h3⟩, ⟨n3.symm, n6.symm, n5.symm, n1, n2, n4⟩, pm_up_s, ⟨?_, ?_, ?_⟩, ?_⟩
  · rw [pm_up_n n1, pm_up_n n6.symm, pm_up_n n1, pm_up_n n3.symm, pm_up_n n1, pm_up_s]
  · rw [pm_up_n n2, pm_up_n n5.symm, pm_up_n n2, pm_up_s]
  · rw [pm_up_n n4, pm_up_s]
  · intro x e0 e1 e2 e3
    rw [pm_up_n e0, pm_up_n e3, pm_up_n e0, pm_up_n e2, pm_up_n e0, pm_up_n e1]
end
