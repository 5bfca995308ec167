section
variable {l : Launch} {g : pm_G} {A0 : pm_H} {h : Nat} {q : Nat → Nat}
set_option maxRecDepth 100000 in
set_option maxHeartbeats 2000000 in
theorem F_X11_weightOf (D : md_D h q) (v : Nat → Int32) (f : Nat → Nat → Int32) (hv : md_V v) (hf : md_F f) (x1 : Int32)  : pm_Mt l g 211 0 0 0 [.ref h, .int x1] (md A0 g h q v f) (md_Qp (md A0 g h q v f) (fun r => r = msB (f 2) x1 24)) := by
  refine mt_X11_weightOf rfl (fun J hC => ?_)
  have hv9 := hv
  unfold md_V at hv9
  have rg_x1 := pm_rng x1
  show J 0 [some (.ref h), some (.int x1), none, none] [] (md A0 g h q v f) 0 0
  refine hC.1 0 0 _ _ rfl _ _ _ _ _ ?_
  have k0 : (0 : Int32).toInt = 0 := rfl
  refine pq_iconst (pq_istore_n [some (.ref h), some (.int x1), some (.int (0 : Int32)), none] rfl (pq_iconst (pq_istore_n [some (.ref h), some (.int x1), some (.int (0 : Int32)), some (.int (0 : Int32))] rfl (pq_nil ?_))))
  have lp1 : ∀ (n : Nat) (z2_4 : Int32) (z3_4 : Int32), (0 ≤ z3_4.toInt ∧ z3_4.toInt ≤ 24) → (z2_4 = msB (f 2) x1 z3_4.toInt.toNat) → 200 - z3_4.toInt < (n : Int) → J 4 [some (.ref h), some (.int x1), some (.int z2_4), some (.int z3_4)] [] (md A0 g h q v f) 0 0 := by
    intro n
    induction n with
    | zero =>
      intro z2_4 z3_4 j0_4 j1_4 j2_4
      omega
    | succ n ih2 =>
      intro z2_4 z3_4 j0_4 j1_4 j2_4
      refine hC.1 1 4 _ _ rfl _ _ _ _ _ ?_
      refine pq_iload_n3 ?_
      have k24 : (24 : Int32).toInt = 24 := rfl
      refine pq_bipush (pq_icmp_ge ?_)
      refine And.intro (fun c3 => ?_) (fun c3 => ?_)
      · skip
        refine hC.1 4 38 _ _ rfl _ _ _ _ _ ?_
        refine pq_iload_n2 (pq_iret ?_)
        exact ⟨rfl, fun e9 => absurd e9 (by decide), rfl, z2_4, rfl, rfl, by rw [j1_4, show z3_4.toInt.toNat = 24 by omega]⟩
      · skip
        refine pq_iload_n2 (pq_iload_n1 (pq_iload_n3 (pq_ishr ?_)))
        have k1 : (1 : Int32).toInt = 1 := rfl
        refine pq_iconst (pq_iand (pq_iconst (pq_icmp_ne ?_)))
        refine And.intro (fun c4 => ?_) (fun c4 => ?_)
        · skip
          have dc4 := pm_neI c4
          refine hC.1 2 29 _ _ rfl _ _ _ _ _ ?_
          refine pq_iconst (pq_nil ?_)
          refine hC.1 3 30 _ _ rfl _ _ _ _ _ ?_
          refine pq_iadd ?_
          intro m5 em_30
          refine pq_istore_n [some (.ref h), some (.int x1), some (.int m5), some (.int z3_4)] rfl (pq_iinc (fun zm_9 => [some (.ref h), some (.int x1), some (.int m5), some (.int zm_9)]) rfl (fun _ => rfl) ?_)
          intro m6 em_32
          try have e6 : m6.toInt = (z3_4).toInt + (1) := by rw [em_32]; exact pm_addc _ _ (1) rfl (by omega) (by omega)
          refine pq_goto ?_
          exact ih2 m5 m6 (by omega) (by rw [show m6.toInt.toNat = z3_4.toInt.toNat + 1 by omega, msB]; first | (rw [b_n (x := x1) (c := z3_4) (by omega) (by assumption), if_neg (by decide), em_30, j1_4]) | (rw [b_y1 (x := x1) (c := z3_4) (by omega) (by assumption), if_pos rfl, em_30, j1_4])) (by omega)
        · skip
          have dc4 : (((x1 >>> (z3_4 &&& 31)) &&& (1 : Int32))).toInt = ((1 : Int32) : Int32).toInt := congrArg Int32.toInt c4
          refine pq_aload_n0 (qgm_weights (pq_iload_n3 (qlm_weights D (by omega) (pq_goto ?_))))
          refine hC.1 3 30 _ _ rfl _ _ _ _ _ ?_
          refine pq_iadd ?_
          intro m7 em_30
          refine pq_istore_n [some (.ref h), some (.int x1), some (.int m7), some (.int z3_4)] rfl (pq_iinc (fun zm_9 => [some (.ref h), some (.int x1), some (.int m7), some (.int zm_9)]) rfl (fun _ => rfl) ?_)
          intro m8 em_32
          try have e8 : m8.toInt = (z3_4).toInt + (1) := by rw [em_32]; exact pm_addc _ _ (1) rfl (by omega) (by omega)
          refine pq_goto ?_
          exact ih2 m7 m8 (by omega) (by rw [show m8.toInt.toNat = z3_4.toInt.toNat + 1 by omega, msB]; first | (rw [b_n (x := x1) (c := z3_4) (by omega) (by assumption), if_neg (by decide), em_30, j1_4]) | (rw [b_y1 (x := x1) (c := z3_4) (by omega) (by assumption), if_pos rfl, em_30, j1_4])) (by omega)
  exact lp1 (200 - (0 : Int32).toInt).toNat.succ (0 : Int32) (0 : Int32) (by omega) (by rfl) (by omega)

end

