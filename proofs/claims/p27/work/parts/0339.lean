section
variable {l : Launch} {g : pm_G} {A0 : pm_H} {h : Nat} {q : Nat → Nat}
set_option maxRecDepth 100000 in
set_option maxHeartbeats 2000000 in
theorem F_X11_swap (D : md_D h q) (v : Nat → Int32) (f : Nat → Nat → Int32) (hv : md_V v) (hf : md_F f) (x1 : Int32) (x2 : Int32) (x3 : Int32) (x4 : Int32) (p0 : (v 4).toInt < 100000) : pm_Mt l g 191 4 0 0 [.ref h, .int x1, .int x2, .int x3, .int x4] (md A0 g h q v f) (md_Qw A0 g h q f (fun r v2 f2 => ((v2 6).toInt = (v 6).toInt ∧ (v2 4).toInt ≤ (v 4).toInt + 1 ∧ (v 4).toInt ≤ (v2 4).toInt) ∧ (∀ L, rp (v 0) (f 0) (f 1) L → rp (v2 0) (f2 0) (f2 1) ((ed_swap L x1 x2 x3 x4).getD L) ∧ (v2 4).toInt = (v 4).toInt + edn (ed_swap L x1 x2 x3 x4) ∧ (v2 3).toInt = (v 3).toInt + edn (ed_swap L x1 x2 x3 x4) * (0)))) := by
  refine mt_X11_swap rfl (fun J hC => ?_)
  have hv9 := hv
  unfold md_V at hv9
  have rg_x1 := pm_rng x1
  have rg_x2 := pm_rng x2
  have rg_x3 := pm_rng x3
  have rg_x4 := pm_rng x4
  show J 0 [some (.ref h), some (.int x1), some (.int x2), some (.int x3), some (.int x4), none, none, none, none, none] [] (md A0 g h q v f) 0 0
  refine hC.1 0 0 _ _ rfl _ _ _ _ _ ?_
  refine pq_aload_n0 (pq_iload_n1 (pq_iload_n2 (pq_iv2_11 ?_)))
  have hp_3 : ∀ L, rp (v 0) (f 0) (f 1) L → rp (v 0) (f 0) (f 1) L := fun L h => rp_fr h (by omega) rfl rfl
  refine And.intro (Exists.intro _ md_o) (Exists.intro _ (Exists.intro _ (Exists.intro _ (Exists.intro _ (And.intro (c_X11_isSpan D v f hv hf x1 x2 ) (And.intro rfl (fun r9 A9 h9 => ?_)))))))
  rcases h9 with ⟨y1, rfl, rfl, ⟨rfl, by1⟩ | ⟨rfl, by1⟩⟩
  · skip
    have k1 : (1 : Int32).toInt = 1 := rfl
    refine pq_id1 (pq_icond_eq ?_)
    refine And.intro (fun c9 => absurd c9 (by decide)) (fun _ => ?_)
    refine pq_aload_n0 (pq_iload_n3 (pq_iload4 (pq_iv2_11 ?_)))
    have hp_13 : ∀ L, rp (v 0) (f 0) (f 1) L → rp (v 0) (f 0) (f 1) L := fun L h => rp_fr h (by omega) rfl rfl
    refine And.intro (Exists.intro _ md_o) (Exists.intro _ (Exists.intro _ (Exists.intro _ (Exists.intro _ (And.intro (c_X11_isSpan D v f hv hf x3 x4 ) (And.intro rfl (fun r9 A9 h9 => ?_)))))))
    rcases h9 with ⟨y2, rfl, rfl, ⟨rfl, by2⟩ | ⟨rfl, by2⟩⟩
    · skip
      refine pq_id1 (pq_icond_eq ?_)
      refine And.intro (fun c9 => absurd c9 (by decide)) (fun _ => ?_)
      refine pq_iload_n1 (pq_iload4 (pq_icmp_gt ?_))
      refine And.intro (fun c3 => ?_) (fun c3 => ?_)
      · skip
        refine hC.1 2 32 _ _ rfl _ _ _ _ _ ?_
        refine pq_iload_n1 (pq_iload_n3 (pq_icmp_ge ?_))
        refine And.intro (fun c4 => ?_) (fun c4 => ?_)
        · skip
          refine hC.1 3 41 _ _ rfl _ _ _ _ _ ?_
          have k0 : (0 : Int32).toInt = 0 := rfl
          refine pq_iconst (pq_nil ?_)
          refine hC.1 4 42 _ _ rfl _ _ _ _ _ ?_
          refine pq_istore [some (.ref h), some (.int x1), some (.int x2), some (.int x3), some (.int x4), some (.int (0 : Int32)), none, none, none, none] rfl (pq_iload5 (pq_icond_eq ?_))
          refine And.intro (fun _ => ?_) (fun c9 => absurd c9 (by decide))
          refine hC.1 5 53 _ _ rfl _ _ _ _ _ ?_
          refine pq_iload_n3 (pq_nil ?_)
          refine hC.1 6 54 _ _ rfl _ _ _ _ _ ?_
          refine pq_istore [some (.ref h), some (.int x1), some (.int x2), some (.int x3), some (.int x4), some (.int (0 : Int32)), some (.int x3), none, none, none] rfl (pq_iload5 (pq_icond_eq ?_))
          refine And.intro (fun _ => ?_) (fun c9 => absurd c9 (by decide))
          refine hC.1 7 65 _ _ rfl _ _ _ _ _ ?_
          refine pq_iload4 (pq_nil ?_)
          refine hC.1 8 67 _ _ rfl _ _ _ _ _ ?_
          refine pq_istore [some (.ref h), some (.int x1), some (.int x2), some (.int x3), some (.int x4), some (.int (0 : Int32)), some (.int x3), some (.int x4), none, none] rfl (pq_iload5 (pq_icond_eq ?_))
          refine And.intro (fun _ => ?_) (fun c9 => absurd c9 (by decide))
          refine hC.1 9 78 _ _ rfl _ _ _ _ _ ?_
          refine pq_iload_n1 (pq_nil ?_)
          refine hC.1 10 79 _ _ rfl _ _ _ _ _ ?_
          refine pq_istore [some (.ref h), some (.int x1), some (.int x2), some (.int x3), some (.int x4), some (.int (0 : Int32)), some (.int x3), some (.int x4), some (.int x1), none] rfl (pq_iload5 (pq_icond_eq ?_))
          refine And.intro (fun _ => ?_) (fun c9 => absurd c9 (by decide))
          refine hC.1 11 91 _ _ rfl _ _ _ _ _ ?_
          refine pq_iload_n2 (pq_nil ?_)
          refine hC.1 12 92 _ _ rfl _ _ _ _ _ ?_
          refine pq_istore [some (.ref h), some (.int x1), some (.int x2), some (.int x3), some (.int x4), some (.int (0 : Int32)), some (.int x3), some (.int x4), some (.int x1), some (.int x2)] rfl (pq_aload_n0 (pq_iv0_11 ?_))
          have hp_95 : ∀ L, rp (v 0) (f 0) (f 1) L → rp (v 0) (f 0) (f 1) L := fun L h => rp_fr h (by omega) rfl rfl
          refine And.intro (Exists.intro _ md_o) (Exists.intro _ (Exists.intro _ (Exists.intro _ (Exists.intro _ (And.intro (F_X11_begins D v f hv hf  ) (And.intro rfl (fun r9 A9 h9 => ?_)))))))
          obtain ⟨v6, f6, rfl, rfl, hv6, hf6, hx6, hg6_0, hg6_1, by5⟩ := h9
          refine pq_id0 ?_
          have hw6 : f6 2 = f 2 := hx6.trans rfl
          have hr6_0 : f6 0 = f 0 := hg6_0.trans rfl
          have hr6_1 : f6 1 = f 1 := hg6_1.trans rfl
          have hu7 := hv6
          unfold md_V at hu7
          have sq6 : (v6 0).toInt = (v 0).toInt ∧ (v6 3).toInt = (v 3).toInt ∧ (v6 4).toInt = (v 4).toInt ∧ (v6 6).toInt = (v 6).toInt := by omega
          have sp6 := by5.2.2.2.2
          clear by5
          refine pq_aload_n0 (pq_iconst (pq_iload6 (pq_iv2_11 ?_)))
          have hp_102 : ∀ L, rp (v 0) (f 0) (f 1) L → rp (v6 0) (f6 0) (f6 1) L := fun L h => rp_fr h (by omega) hr6_0 hr6_1
          refine And.intro (Exists.intro _ md_o) (Exists.intro _ (Exists.intro _ (Exists.intro _ (Exists.intro _ (And.intro (F_X11_laysFrom D v6 f6 hv6 hf6 (0 : Int32) x3 (by omega) (by omega) (by omega) (by omega)) (And.intro rfl (fun r9 A9 h9 => ?_)))))))
          obtain ⟨v9, f9, rfl, rfl, hv9, hf9, hx9, hg9_0, hg9_1, by8⟩ := h9
          refine pq_id0 ?_
          have hw9 : f9 2 = f 2 := hx9.trans hw6
          have hr9_0 : f9 0 = f 0 := hg9_0.trans hr6_0
          have hr9_1 : f9 1 = f 1 := hg9_1.trans hr6_1
          have hu10 := hv9
          unfold md_V at hu10
          clear hu7
          have hb_102 := by8.2
          have sq9 : (v9 0).toInt = (v 0).toInt ∧ (v9 1).toInt = (v6 1).toInt ∧ (v9 3).toInt = (v 3).toInt ∧ (v9 4).toInt = (v 4).toInt ∧ (v9 6).toInt = (v 6).toInt := by omega
          have sp9 := by8.1.2.2.2.2.2
          clear by8
          refine pq_aload_n0 (pq_iload8 (pq_iload9 (pq_iconst (pq_iadd ?_))))
          intro m11 em_111
          try have e11 : m11.toInt = (x2).toInt + (1) := by rw [em_111]; exact pm_addc _ _ (1) rfl (by omega) (by omega)
          refine pq_iv2_11 ?_
          have hp_112 : ∀ L, rp (v 0) (f 0) (f 1) L → rp (v9 0) (f9 0) (f9 1) L := fun L h => rp_fr h (by omega) hr9_0 hr9_1
          refine And.intro (Exists.intro _ md_o) (Exists.intro _ (Exists.intro _ (Exists.intro _ (Exists.intro _ (And.intro (F_X11_laysFrom D v9 f9 hv9 hf9 x1 m11 (by omega) (by omega) (by omega) (by omega)) (And.intro rfl (fun r9 A9 h9 => ?_)))))))
          obtain ⟨v13, f13, rfl, rfl, hv13, hf13, hx13, hg13_0, hg13_1, by12⟩ := h9
          refine pq_id0 ?_
          have hw13 : f13 2 = f 2 := hx13.trans hw9
          have hr13_0 : f13 0 = f 0 := hg13_0.trans hr9_0
          have hr13_1 : f13 1 = f 1 := hg13_1.trans hr9_1
          have hu14 := hv13
          unfold md_V at hu14
          clear hu10
          have hb_112 := by12.2
          have sq13 : (v13 0).toInt = (v 0).toInt ∧ (v13 1).toInt = (v6 1).toInt ∧ (v13 3).toInt = (v 3).toInt ∧ (v13 4).toInt = (v 4).toInt ∧ (v13 6).toInt = (v 6).toInt := by omega
          have sp13 := by12.1.2.2.2.2.2
          clear by12
          refine pq_aload_n0 (pq_iload7 (pq_iconst (pq_iadd ?_)))
          intro m15 em_119
          try have e15 : m15.toInt = (x4).toInt + (1) := by rw [em_119]; exact pm_addc _ _ (1) rfl (by omega) (by omega)
          refine pq_iload8 (pq_iv2_11 ?_)
          have hp_122 : ∀ L, rp (v 0) (f 0) (f 1) L → rp (v13 0) (f13 0) (f13 1) L := fun L h => rp_fr h (by omega) hr13_0 hr13_1
          refine And.intro (Exists.intro _ md_o) (Exists.intro _ (Exists.intro _ (Exists.intro _ (Exists.intro _ (And.intro (F_X11_laysFrom D v13 f13 hv13 hf13 m15 x1 (by omega) (by omega) (by omega) (by omega)) (And.intro rfl (fun r9 A9 h9 => ?_)))))))
          obtain ⟨v17, f17, rfl, rfl, hv17, hf17, hx17, hg17_0, hg17_1, by16⟩ := h9
          refine pq_id0 ?_
          have hw17 : f17 2 = f 2 := hx17.trans hw13
          have hr17_0 : f17 0 = f 0 := hg17_0.trans hr13_0
          have hr17_1 : f17 1 = f 1 := hg17_1.trans hr13_1
          have hu18 := hv17
          unfold md_V at hu18
          clear hu14
          have hb_122 := by16.2
          have sq17 : (v17 0).toInt = (v 0).toInt ∧ (v17 1).toInt = (v6 1).toInt ∧ (v17 3).toInt = (v 3).toInt ∧ (v17 4).toInt = (v 4).toInt ∧ (v17 6).toInt = (v 6).toInt := by omega
          have sp17 := by16.1.2.2.2.2.2
          clear by16
          refine pq_aload_n0 (pq_iload6 (pq_iload7 (pq_iconst (pq_iadd ?_))))
          intro m19 em_131
          try have e19 : m19.toInt = (x4).toInt + (1) := by rw [em_131]; exact pm_addc _ _ (1) rfl (by omega) (by omega)
          refine pq_iv2_11 ?_
          have hp_132 : ∀ L, rp (v 0) (f 0) (f 1) L → rp (v17 0) (f17 0) (f17 1) L := fun L h => rp_fr h (by omega) hr17_0 hr17_1
          refine And.intro (Exists.intro _ md_o) (Exists.intro _ (Exists.intro _ (Exists.intro _ (Exists.intro _ (And.intro (F_X11_laysFrom D v17 f17 hv17 hf17 x3 m19 (by omega) (by omega) (by omega) (by omega)) (And.intro rfl (fun r9 A9 h9 => ?_)))))))
          obtain ⟨v21, f21, rfl, rfl, hv21, hf21, hx21, hg21_0, hg21_1, by20⟩ := h9
          refine pq_id0 ?_
          have hw21 : f21 2 = f 2 := hx21.trans hw17
          have hr21_0 : f21 0 = f 0 := hg21_0.trans hr17_0
          have hr21_1 : f21 1 = f 1 := hg21_1.trans hr17_1
          have hu22 := hv21
          unfold md_V at hu22
          clear hu18
          have hb_132 := by20.2
          have sq21 : (v21 0).toInt = (v 0).toInt ∧ (v21 1).toInt = (v6 1).toInt ∧ (v21 3).toInt = (v 3).toInt ∧ (v21 4).toInt = (v 4).toInt ∧ (v21 6).toInt = (v 6).toInt := by omega
          have sp21 := by20.1.2.2.2.2.2
          clear by20
          refine pq_aload_n0 (pq_iload9 (pq_iconst (pq_iadd ?_)))
          intro m23 em_139
          try have e23 : m23.toInt = (x2).toInt + (1) := by rw [em_139]; exact pm_addc _ _ (1) rfl (by omega) (by omega)
          refine pq_aload_n0 (qgm_many (pq_iv2_11 ?_))
          have hp_144 : ∀ L, rp (v 0) (f 0) (f 1) L → rp (v21 0) (f21 0) (f21 1) L := fun L h => rp_fr h (by omega) hr21_0 hr21_1
          refine And.intro (Exists.intro _ md_o) (Exists.intro _ (Exists.intro _ (Exists.intro _ (Exists.intro _ (And.intro (F_X11_laysFrom D v21 f21 hv21 hf21 m23 (v21 0) (by omega) (by omega) (by omega) (by omega)) (And.intro rfl (fun r9 A9 h9 => ?_)))))))
          obtain ⟨v25, f25, rfl, rfl, hv25, hf25, hx25, hg25_0, hg25_1, by24⟩ := h9
          refine pq_id0 ?_
          have hw25 : f25 2 = f 2 := hx25.trans hw21
          have hr25_0 : f25 0 = f 0 := hg25_0.trans hr21_0
          have hr25_1 : f25 1 = f 1 := hg25_1.trans hr21_1
          have hu26 := hv25
          unfold md_V at hu26
          clear hu22
          have hb_144 := by24.2
          have sq25 : (v25 0).toInt = (v 0).toInt ∧ (v25 1).toInt = (v6 1).toInt ∧ (v25 3).toInt = (v 3).toInt ∧ (v25 4).toInt = (v 4).toInt ∧ (v25 6).toInt = (v 6).toInt := by omega
          have sp25 := by24.1.2.2.2.2.2
          clear by24
          refine pq_aload_n0 (pq_iv0_11 ?_)
          have hp_148 : ∀ L, rp (v 0) (f 0) (f 1) L → rp (v25 0) (f25 0) (f25 1) L := fun L h => rp_fr h (by omega) hr25_0 hr25_1
          refine And.intro (Exists.intro _ md_o) (Exists.intro _ (Exists.intro _ (Exists.intro _ (Exists.intro _ (And.intro (F_X11_ends D v25 f25 hv25 hf25  (by omega)) (And.intro rfl (fun r9 A9 h9 => ?_)))))))
          obtain ⟨y27, v28, f28, rfl, rfl, hv28, hf28, hx28, by27⟩ := h9
          refine pq_id1 ?_
          have hw28 : f28 2 = f 2 := hx28.trans hw25
          have hu29 := hv28
          unfold md_V at hu29
          clear hu26
          have hb_148 := by27.2
          have sq28 : (v28 1).toInt = (v6 1).toInt ∧ (v28 2).toInt = (v25 2).toInt ∧ (v28 3).toInt = (v 3).toInt ∧ (v28 6).toInt = (v 6).toInt := by omega
          have sp28 := by27.1.2.2.2.2
          clear by27
          refine pq_iret ?_
          exact ⟨rfl, fun e9 => absurd e9 (by decide), rfl, y27, v28, f28, rfl, rfl, hv28, hf28, hw28, by first | omega | (dsimp only; omega) | trivial, by first | (intro L hL; have hl := hL.1; rw [ed_swap, if_pos (by omega), if_pos (by omega)]; have t1 := hb_102 L [] 0 x1.toInt (hp_102 L hL) rfl rfl (by omega) (by omega) (rp_0 (by omega)); have t2 := hb_112 L _ x3.toInt (x4.toInt + 1) (hp_112 L hL) (by omega) (by omega) (by omega) (by omega) t1; have t3 := hb_122 L _ (x2.toInt + 1) x3.toInt (hp_122 L hL) (by omega) (by omega) (by omega) (by omega) t2; have t4 := hb_132 L _ x1.toInt (x2.toInt + 1) (hp_132 L hL) (by omega) (by omega) (by omega) (by omega) t3; have t5 := hb_144 L _ (x4.toInt + 1) L.length (hp_144 L hL) (by omega) (by omega) (by omega) (by omega) t4; rw [List.nil_append] at t5; exact ⟨hb_148 _ t5, by show _ = _ + (1 : Int); omega, by show _ = _ + (1 : Int) * _; omega⟩) | (intro L hL; have hl := hL.1; rw [ed_swap, if_pos (by omega), if_neg (by omega)]; have t1 := hb_102 L [] 0 x3.toInt (hp_102 L hL) rfl rfl (by omega) (by omega) (rp_0 (by omega)); have t2 := hb_112 L _ x1.toInt (x2.toInt + 1) (hp_112 L hL) (by omega) (by omega) (by omega) (by omega) t1; have t3 := hb_122 L _ (x4.toInt + 1) x1.toInt (hp_122 L hL) (by omega) (by omega) (by omega) (by omega) t2; have t4 := hb_132 L _ x3.toInt (x4.toInt + 1) (hp_132 L hL) (by omega) (by omega) (by omega) (by omega) t3; have t5 := hb_144 L _ (x2.toInt + 1) L.length (hp_144 L hL) (by omega) (by omega) (by omega) (by omega) t4; rw [List.nil_append] at t5; exact ⟨hb_148 _ t5, by show _ = _ + (1 : Int); omega, by show _ = _ + (1 : Int) * _; omega⟩)⟩
        · skip
          refine pq_iconst (pq_goto ?_)
          refine hC.1 4 42 _ _ rfl _ _ _ _ _ ?_
          refine pq_istore [some (.ref h), some (.int x1), some (.int x2), some (.int x3), some (.int x4), some (.int (1 : Int32)), none, none, none, none] rfl (pq_iload5 (pq_icond_eq ?_))
          refine And.intro (fun c9 => absurd c9 (by decide)) (fun _ => ?_)
          refine pq_iload_n1 (pq_goto ?_)
          refine hC.1 6 54 _ _ rfl _ _ _ _ _ ?_
          refine pq_istore [some (.ref h), some (.int x1), some (.int x2), some (.int x3), some (.int x4), some (.int (1 : Int32)), some (.int x1), none, none, none] rfl (pq_iload5 (pq_icond_eq ?_))
          refine And.intro (fun c9 => absurd c9 (by decide)) (fun _ => ?_)
          refine pq_iload_n2 (pq_goto ?_)
          refine hC.1 8 67 _ _ rfl _ _ _ _ _ ?_
          refine pq_istore [some (.ref h), some (.int x1), some (.int x2), some (.int x3), some (.int x4), some (.int (1 : Int32)), some (.int x1), some (.int x2), none, none] rfl (pq_iload5 (pq_icond_eq ?_))
          refine And.intro (fun c9 => absurd c9 (by decide)) (fun _ => ?_)
          refine pq_iload_n3 (pq_goto ?_)
          refine hC.1 10 79 _ _ rfl _ _ _ _ _ ?_
          refine pq_istore [some (.ref h), some (.int x1), some (.int x2), some (.int x3), some (.int x4), some (.int (1 : Int32)), some (.int x1), some (.int x2), some (.int x3), none] rfl (pq_iload5 (pq_icond_eq ?_))
          refine And.intro (fun c9 => absurd c9 (by decide)) (fun _ => ?_)
          refine pq_iload4 (pq_goto ?_)
          refine hC.1 12 92 _ _ rfl _ _ _ _ _ ?_
          refine pq_istore [some (.ref h), some (.int x1), some (.int x2), some (.int x3), some (.int x4), some (.int (1 : Int32)), some (.int x1), some (.int x2), some (.int x3), some (.int x4)] rfl (pq_aload_n0 (pq_iv0_11 ?_))
          have hp_95 : ∀ L, rp (v 0) (f 0) (f 1) L → rp (v 0) (f 0) (f 1) L := fun L h => rp_fr h (by omega) rfl rfl
          refine And.intro (Exists.intro _ md_o) (Exists.intro _ (Exists.intro _ (Exists.intro _ (Exists.intro _ (And.intro (F_X11_begins D v f hv hf  ) (And.intro rfl (fun r9 A9 h9 => ?_)))))))
          obtain ⟨v31, f31, rfl, rfl, hv31, hf31, hx31, hg31_0, hg31_1, by30⟩ := h9
          refine pq_id0 ?_
          have hw31 : f31 2 = f 2 := hx31.trans rfl
          have hr31_0 : f31 0 = f 0 := hg31_0.trans rfl
          have hr31_1 : f31 1 = f 1 := hg31_1.trans rfl
          have hu32 := hv31
          unfold md_V at hu32
          have sq31 : (v31 0).toInt = (v 0).toInt ∧ (v31 3).toInt = (v 3).toInt ∧ (v31 4).toInt = (v 4).toInt ∧ (v31 6).toInt = (v 6).toInt := by omega
          have sp31 := by30.2.2.2.2
          clear by30
          refine pq_aload_n0 ?_
          have k0 : (0 : Int32).toInt = 0 := rfl
          refine pq_iconst (pq_iload6 (pq_iv2_11 ?_))
          have hp_102 : ∀ L, rp (v 0) (f 0) (f 1) L → rp (v31 0) (f31 0) (f31 1) L := fun L h => rp_fr h (by omega) hr31_0 hr31_1
          refine And.intro (Exists.intro _ md_o) (Exists.intro _ (Exists.intro _ (Exists.intro _ (Exists.intro _ (And.intro (F_X11_laysFrom D v31 f31 hv31 hf31 (0 : Int32) x1 (by omega) (by omega) (by omega) (by omega)) (And.intro rfl (fun r9 A9 h9 => ?_)))))))
          obtain ⟨v34, f34, rfl, rfl, hv34, hf34, hx34, hg34_0, hg34_1, by33⟩ := h9
          refine pq_id0 ?_
          have hw34 : f34 2 = f 2 := hx34.trans hw31
          have hr34_0 : f34 0 = f 0 := hg34_0.trans hr31_0
          have hr34_1 : f34 1 = f 1 := hg34_1.trans hr31_1
          have hu35 := hv34
          unfold md_V at hu35
          clear hu32
          have hb_102 := by33.2
          have sq34 : (v34 0).toInt = (v 0).toInt ∧ (v34 1).toInt = (v31 1).toInt ∧ (v34 3).toInt = (v 3).toInt ∧ (v34 4).toInt = (v 4).toInt ∧ (v34 6).toInt = (v 6).toInt := by omega
          have sp34 := by33.1.2.2.2.2.2
          clear by33
          refine pq_aload_n0 (pq_iload8 (pq_iload9 (pq_iconst (pq_iadd ?_))))
          intro m36 em_111
          try have e36 : m36.toInt = (x4).toInt + (1) := by rw [em_111]; exact pm_addc _ _ (1) rfl (by omega) (by omega)
          refine pq_iv2_11 ?_
          have hp_112 : ∀ L, rp (v 0) (f 0) (f 1) L → rp (v34 0) (f34 0) (f34 1) L := fun L h => rp_fr h (by omega) hr34_0 hr34_1
          refine And.intro (Exists.intro _ md_o) (Exists.intro _ (Exists.intro _ (Exists.intro _ (Exists.intro _ (And.intro (F_X11_laysFrom D v34 f34 hv34 hf34 x3 m36 (by omega) (by omega) (by omega) (by omega)) (And.intro rfl (fun r9 A9 h9 => ?_)))))))
          obtain ⟨v38, f38, rfl, rfl, hv38, hf38, hx38, hg38_0, hg38_1, by37⟩ := h9
          refine pq_id0 ?_
          have hw38 : f38 2 = f 2 := hx38.trans hw34
          have hr38_0 : f38 0 = f 0 := hg38_0.trans hr34_0
          have hr38_1 : f38 1 = f 1 := hg38_1.trans hr34_1
          have hu39 := hv38
          unfold md_V at hu39
          clear hu35
          have hb_112 := by37.2
          have sq38 : (v38 0).toInt = (v 0).toInt ∧ (v38 1).toInt = (v31 1).toInt ∧ (v38 3).toInt = (v 3).toInt ∧ (v38 4).toInt = (v 4).toInt ∧ (v38 6).toInt = (v 6).toInt := by omega
          have sp38 := by37.1.2.2.2.2.2
          clear by37
          refine pq_aload_n0 (pq_iload7 (pq_iconst (pq_iadd ?_)))
          intro m40 em_119
          try have e40 : m40.toInt = (x2).toInt + (1) := by rw [em_119]; exact pm_addc _ _ (1) rfl (by omega) (by omega)
          refine pq_iload8 (pq_iv2_11 ?_)
          have hp_122 : ∀ L, rp (v 0) (f 0) (f 1) L → rp (v38 0) (f38 0) (f38 1) L := fun L h => rp_fr h (by omega) hr38_0 hr38_1
          refine And.intro (Exists.intro _ md_o) (Exists.intro _ (Exists.intro _ (Exists.intro _ (Exists.intro _ (And.intro (F_X11_laysFrom D v38 f38 hv38 hf38 m40 x3 (by omega) (by omega) (by omega) (by omega)) (And.intro rfl (fun r9 A9 h9 => ?_)))))))
          obtain ⟨v42, f42, rfl, rfl, hv42, hf42, hx42, hg42_0, hg42_1, by41⟩ := h9
          refine pq_id0 ?_
          have hw42 : f42 2 = f 2 := hx42.trans hw38
          have hr42_0 : f42 0 = f 0 := hg42_0.trans hr38_0
          have hr42_1 : f42 1 = f 1 := hg42_1.trans hr38_1
          have hu43 := hv42
          unfold md_V at hu43
          clear hu39
          have hb_122 := by41.2
          have sq42 : (v42 0).toInt = (v 0).toInt ∧ (v42 1).toInt = (v31 1).toInt ∧ (v42 3).toInt = (v 3).toInt ∧ (v42 4).toInt = (v 4).toInt ∧ (v42 6).toInt = (v 6).toInt := by omega
          have sp42 := by41.1.2.2.2.2.2
          clear by41
          refine pq_aload_n0 (pq_iload6 (pq_iload7 (pq_iconst (pq_iadd ?_))))
          intro m44 em_131
          try have e44 : m44.toInt = (x2).toInt + (1) := by rw [em_131]; exact pm_addc _ _ (1) rfl (by omega) (by omega)
          refine pq_iv2_11 ?_
          have hp_132 : ∀ L, rp (v 0) (f 0) (f 1) L → rp (v42 0) (f42 0) (f42 1) L := fun L h => rp_fr h (by omega) hr42_0 hr42_1
          refine And.intro (Exists.intro _ md_o) (Exists.intro _ (Exists.intro _ (Exists.intro _ (Exists.intro _ (And.intro (F_X11_laysFrom D v42 f42 hv42 hf42 x1 m44 (by omega) (by omega) (by omega) (by omega)) (And.intro rfl (fun r9 A9 h9 => ?_)))))))
          obtain ⟨v46, f46, rfl, rfl, hv46, hf46, hx46, hg46_0, hg46_1, by45⟩ := h9
          refine pq_id0 ?_
          have hw46 : f46 2 = f 2 := hx46.trans hw42
          have hr46_0 : f46 0 = f 0 := hg46_0.trans hr42_0
          have hr46_1 : f46 1 = f 1 := hg46_1.trans hr42_1
          have hu47 := hv46
          unfold md_V at hu47
          clear hu43
          have hb_132 := by45.2
          have sq46 : (v46 0).toInt = (v 0).toInt ∧ (v46 1).toInt = (v31 1).toInt ∧ (v46 3).toInt = (v 3).toInt ∧ (v46 4).toInt = (v 4).toInt ∧ (v46 6).toInt = (v 6).toInt := by omega
          have sp46 := by45.1.2.2.2.2.2
          clear by45
          refine pq_aload_n0 (pq_iload9 (pq_iconst (pq_iadd ?_)))
          intro m48 em_139
          try have e48 : m48.toInt = (x4).toInt + (1) := by rw [em_139]; exact pm_addc _ _ (1) rfl (by omega) (by omega)
          refine pq_aload_n0 (qgm_many (pq_iv2_11 ?_))
          have hp_144 : ∀ L, rp (v 0) (f 0) (f 1) L → rp (v46 0) (f46 0) (f46 1) L := fun L h => rp_fr h (by omega) hr46_0 hr46_1
          refine And.intro (Exists.intro _ md_o) (Exists.intro _ (Exists.intro _ (Exists.intro _ (Exists.intro _ (And.intro (F_X11_laysFrom D v46 f46 hv46 hf46 m48 (v46 0) (by omega) (by omega) (by omega) (by omega)) (And.intro rfl (fun r9 A9 h9 => ?_)))))))
          obtain ⟨v50, f50, rfl, rfl, hv50, hf50, hx50, hg50_0, hg50_1, by49⟩ := h9
          refine pq_id0 ?_
          have hw50 : f50 2 = f 2 := hx50.trans hw46
          have hr50_0 : f50 0 = f 0 := hg50_0.trans hr46_0
          have hr50_1 : f50 1 = f 1 := hg50_1.trans hr46_1
          have hu51 := hv50
          unfold md_V at hu51
          clear hu47
          have hb_144 := by49.2
          have sq50 : (v50 0).toInt = (v 0).toInt ∧ (v50 1).toInt = (v31 1).toInt ∧ (v50 3).toInt = (v 3).toInt ∧ (v50 4).toInt = (v 4).toInt ∧ (v50 6).toInt = (v 6).toInt := by omega
          have sp50 := by49.1.2.2.2.2.2
          clear by49
          refine pq_aload_n0 (pq_iv0_11 ?_)
          have hp_148 : ∀ L, rp (v 0) (f 0) (f 1) L → rp (v50 0) (f50 0) (f50 1) L := fun L h => rp_fr h (by omega) hr50_0 hr50_1
          refine And.intro (Exists.intro _ md_o) (Exists.intro _ (Exists.intro _ (Exists.intro _ (Exists.intro _ (And.intro (F_X11_ends D v50 f50 hv50 hf50  (by omega)) (And.intro rfl (fun r9 A9 h9 => ?_)))))))
          obtain ⟨y52, v53, f53, rfl, rfl, hv53, hf53, hx53, by52⟩ := h9
          refine pq_id1 ?_
          have hw53 : f53 2 = f 2 := hx53.trans hw50
          have hu54 := hv53
          unfold md_V at hu54
          clear hu51
          have hb_148 := by52.2
          have sq53 : (v53 1).toInt = (v31 1).toInt ∧ (v53 2).toInt = (v50 2).toInt ∧ (v53 3).toInt = (v 3).toInt ∧ (v53 6).toInt = (v 6).toInt := by omega
          have sp53 := by52.1.2.2.2.2
          clear by52
          refine pq_iret ?_
          exact ⟨rfl, fun e9 => absurd e9 (by decide), rfl, y52, v53, f53, rfl, rfl, hv53, hf53, hw53, by first | omega | (dsimp only; omega) | trivial, by first | (intro L hL; have hl := hL.1; rw [ed_swap, if_pos (by omega), if_pos (by omega)]; have t1 := hb_102 L [] 0 x1.toInt (hp_102 L hL) rfl rfl (by omega) (by omega) (rp_0 (by omega)); have t2 := hb_112 L _ x3.toInt (x4.toInt + 1) (hp_112 L hL) (by omega) (by omega) (by omega) (by omega) t1; have t3 := hb_122 L _ (x2.toInt + 1) x3.toInt (hp_122 L hL) (by omega) (by omega) (by omega) (by omega) t2; have t4 := hb_132 L _ x1.toInt (x2.toInt + 1) (hp_132 L hL) (by omega) (by omega) (by omega) (by omega) t3; have t5 := hb_144 L _ (x4.toInt + 1) L.length (hp_144 L hL) (by omega) (by omega) (by omega) (by omega) t4; rw [List.nil_append] at t5; exact ⟨hb_148 _ t5, by show _ = _ + (1 : Int); omega, by show _ = _ + (1 : Int) * _; omega⟩) | (intro L hL; have hl := hL.1; rw [ed_swap, if_pos (by omega), if_neg (by omega)]; have t1 := hb_102 L [] 0 x3.toInt (hp_102 L hL) rfl rfl (by omega) (by omega) (rp_0 (by omega)); have t2 := hb_112 L _ x1.toInt (x2.toInt + 1) (hp_112 L hL) (by omega) (by omega) (by omega) (by omega) t1; have t3 := hb_122 L _ (x4.toInt + 1) x1.toInt (hp_122 L hL) (by omega) (by omega) (by omega) (by omega) t2; have t4 := hb_132 L _ x3.toInt (x4.toInt + 1) (hp_132 L hL) (by omega) (by omega) (by omega) (by omega) t3; have t5 := hb_144 L _ (x2.toInt + 1) L.length (hp_144 L hL) (by omega) (by omega) (by omega) (by omega) t4; rw [List.nil_append] at t5; exact ⟨hb_148 _ t5, by show _ = _ + (1 : Int); omega, by show _ = _ + (1 : Int) * _; omega⟩)⟩
      · skip
        refine pq_iload_n3 (pq_iload_n2 (pq_icmp_gt ?_))
        refine And.intro (fun c55 => ?_) (fun c55 => ?_)
        · skip
          refine hC.1 2 32 _ _ rfl _ _ _ _ _ ?_
          refine pq_iload_n1 (pq_iload_n3 (pq_icmp_ge ?_))
          refine And.intro (fun c56 => ?_) (fun c56 => ?_)
          · skip
            refine hC.1 3 41 _ _ rfl _ _ _ _ _ ?_
            have k0 : (0 : Int32).toInt = 0 := rfl
            refine pq_iconst (pq_nil ?_)
            refine hC.1 4 42 _ _ rfl _ _ _ _ _ ?_
            refine pq_istore [some (.ref h), some (.int x1), some (.int x2), some (.int x3), some (.int x4), some (.int (0 : Int32)), none, none, none, none] rfl (pq_iload5 (pq_icond_eq ?_))
            refine And.intro (fun _ => ?_) (fun c9 => absurd c9 (by decide))
            refine hC.1 5 53 _ _ rfl _ _ _ _ _ ?_
            refine pq_iload_n3 (pq_nil ?_)
            refine hC.1 6 54 _ _ rfl _ _ _ _ _ ?_
            refine pq_istore [some (.ref h), some (.int x1), some (.int x2), some (.int x3), some (.int x4), some (.int (0 : Int32)), some (.int x3), none, none, none] rfl (pq_iload5 (pq_icond_eq ?_))
            refine And.intro (fun _ => ?_) (fun c9 => absurd c9 (by decide))
            refine hC.1 7 65 _ _ rfl _ _ _ _ _ ?_
            refine pq_iload4 (pq_nil ?_)
            refine hC.1 8 67 _ _ rfl _ _ _ _ _ ?_
            refine pq_istore [some (.ref h), some (.int x1), some (.int x2), some (.int x3), some (.int x4), some (.int (0 : Int32)), some (.int x3), some (.int x4), none, none] rfl (pq_iload5 (pq_icond_eq ?_))
            refine And.intro (fun _ => ?_) (fun c9 => absurd c9 (by decide))
            refine hC.1 9 78 _ _ rfl _ _ _ _ _ ?_
            refine pq_iload_n1 (pq_nil ?_)
            refine hC.1 10 79 _ _ rfl _ _ _ _ _ ?_
            refine pq_istore [some (.ref h), some (.int x1), some (.int x2), some (.int x3), some (.int x4), some (.int (0 : Int32)), some (.int x3), some (.int x4), some (.int x1), none] rfl (pq_iload5 (pq_icond_eq ?_))
            refine And.intro (fun _ => ?_) (fun c9 => absurd c9 (by decide))
            refine hC.1 11 91 _ _ rfl _ _ _ _ _ ?_
            refine pq_iload_n2 (pq_nil ?_)
            refine hC.1 12 92 _ _ rfl _ _ _ _ _ ?_
            refine pq_istore [some (.ref h), some (.int x1), some (.int x2), some (.int x3), some (.int x4), some (.int (0 : Int32)), some (.int x3), some (.int x4), some (.int x1), some (.int x2)] rfl (pq_aload_n0 (pq_iv0_11 ?_))
            have hp_95 : ∀ L, rp (v 0) (f 0) (f 1) L → rp (v 0) (f 0) (f 1) L := fun L h => rp_fr h (by omega) rfl rfl
            refine And.intro (Exists.intro _ md_o) (Exists.intro _ (Exists.intro _ (Exists.intro _ (Exists.intro _ (And.intro (F_X11_begins D v f hv hf  ) (And.intro rfl (fun r9 A9 h9 => ?_)))))))
            obtain ⟨v58, f58, rfl, rfl, hv58, hf58, hx58, hg58_0, hg58_1, by57⟩ := h9
            refine pq_id0 ?_
            have hw58 : f58 2 = f 2 := hx58.trans rfl
            have hr58_0 : f58 0 = f 0 := hg58_0.trans rfl
            have hr58_1 : f58 1 = f 1 := hg58_1.trans rfl
            have hu59 := hv58
            unfold md_V at hu59
            have sq58 : (v58 0).toInt = (v 0).toInt ∧ (v58 3).toInt = (v 3).toInt ∧ (v58 4).toInt = (v 4).toInt ∧ (v58 6).toInt = (v 6).toInt := by omega
            have sp58 := by57.2.2.2.2
            clear by57
            refine pq_aload_n0 (pq_iconst (pq_iload6 (pq_iv2_11 ?_)))
            have hp_102 : ∀ L, rp (v 0) (f 0) (f 1) L → rp (v58 0) (f58 0) (f58 1) L := fun L h => rp_fr h (by omega) hr58_0 hr58_1
            refine And.intro (Exists.intro _ md_o) (Exists.intro _ (Exists.intro _ (Exists.intro _ (Exists.intro _ (And.intro (F_X11_laysFrom D v58 f58 hv58 hf58 (0 : Int32) x3 (by omega) (by omega) (by omega) (by omega)) (And.intro rfl (fun r9 A9 h9 => ?_)))))))
            obtain ⟨v61, f61, rfl, rfl, hv61, hf61, hx61, hg61_0, hg61_1, by60⟩ := h9
            refine pq_id0 ?_
            have hw61 : f61 2 = f 2 := hx61.trans hw58
            have hr61_0 : f61 0 = f 0 := hg61_0.trans hr58_0
            have hr61_1 : f61 1 = f 1 := hg61_1.trans hr58_1
            have hu62 := hv61
            unfold md_V at hu62
            clear hu59
            have hb_102 := by60.2
            have sq61 : (v61 0).toInt = (v 0).toInt ∧ (v61 1).toInt = (v58 1).toInt ∧ (v61 3).toInt = (v 3).toInt ∧ (v61 4).toInt = (v 4).toInt ∧ (v61 6).toInt = (v 6).toInt := by omega
            have sp61 := by60.1.2.2.2.2.2
            clear by60
            refine pq_aload_n0 (pq_iload8 (pq_iload9 (pq_iconst (pq_iadd ?_))))
            intro m63 em_111
            try have e63 : m63.toInt = (x2).toInt + (1) := by rw [em_111]; exact pm_addc _ _ (1) rfl (by omega) (by omega)
            refine pq_iv2_11 ?_
            have hp_112 : ∀ L, rp (v 0) (f 0) (f 1) L → rp (v61 0) (f61 0) (f61 1) L := fun L h => rp_fr h (by omega) hr61_0 hr61_1
            refine And.intro (Exists.intro _ md_o) (Exists.intro _ (Exists.intro _ (Exists.intro _ (Exists.intro _ (And.intro (F_X11_laysFrom D v61 f61 hv61 hf61 x1 m63 (by omega) (by omega) (by omega) (by omega)) (And.intro rfl (fun r9 A9 h9 => ?_)))))))
            obtain ⟨v65, f65, rfl, rfl, hv65, hf65, hx65, hg65_0, hg65_1, by64⟩ := h9
            refine pq_id0 ?_
            have hw65 : f65 2 = f 2 := hx65.trans hw61
            have hr65_0 : f65 0 = f 0 := hg65_0.trans hr61_0
            have hr65_1 : f65 1 = f 1 := hg65_1.trans hr61_1
            have hu66 := hv65
            unfold md_V at hu66
            clear hu62
            have hb_112 := by64.2
            have sq65 : (v65 0).toInt = (v 0).toInt ∧ (v65 1).toInt = (v58 1).toInt ∧ (v65 3).toInt = (v 3).toInt ∧ (v65 4).toInt = (v 4).toInt ∧ (v65 6).toInt = (v 6).toInt := by omega
            have sp65 := by64.1.2.2.2.2.2
            clear by64
            refine pq_aload_n0 (pq_iload7 (pq_iconst (pq_iadd ?_)))
            intro m67 em_119
            try have e67 : m67.toInt = (x4).toInt + (1) := by rw [em_119]; exact pm_addc _ _ (1) rfl (by omega) (by omega)
            refine pq_iload8 (pq_iv2_11 ?_)
            have hp_122 : ∀ L, rp (v 0) (f 0) (f 1) L → rp (v65 0) (f65 0) (f65 1) L := fun L h => rp_fr h (by omega) hr65_0 hr65_1
            refine And.intro (Exists.intro _ md_o) (Exists.intro _ (Exists.intro _ (Exists.intro _ (Exists.intro _ (And.intro (F_X11_laysFrom D v65 f65 hv65 hf65 m67 x1 (by omega) (by omega) (by omega) (by omega)) (And.intro rfl (fun r9 A9 h9 => ?_)))))))
            obtain ⟨v69, f69, rfl, rfl, hv69, hf69, hx69, hg69_0, hg69_1, by68⟩ := h9
            refine pq_id0 ?_
            have hw69 : f69 2 = f 2 := hx69.trans hw65
            have hr69_0 : f69 0 = f 0 := hg69_0.trans hr65_0
            have hr69_1 : f69 1 = f 1 := hg69_1.trans hr65_1
            have hu70 := hv69
            unfold md_V at hu70
            clear hu66
            have hb_122 := by68.2
            have sq69 : (v69 0).toInt = (v 0).toInt ∧ (v69 1).toInt = (v58 1).toInt ∧ (v69 3).toInt = (v 3).toInt ∧ (v69 4).toInt = (v 4).toInt ∧ (v69 6).toInt = (v 6).toInt := by omega
            have sp69 := by68.1.2.2.2.2.2
            clear by68
            refine pq_aload_n0 (pq_iload6 (pq_iload7 (pq_iconst (pq_iadd ?_))))
            intro m71 em_131
            try have e71 : m71.toInt = (x4).toInt + (1) := by rw [em_131]; exact pm_addc _ _ (1) rfl (by omega) (by omega)
            refine pq_iv2_11 ?_
            have hp_132 : ∀ L, rp (v 0) (f 0) (f 1) L → rp (v69 0) (f69 0) (f69 1) L := fun L h => rp_fr h (by omega) hr69_0 hr69_1
            refine And.intro (Exists.intro _ md_o) (Exists.intro _ (Exists.intro _ (Exists.intro _ (Exists.intro _ (And.intro (F_X11_laysFrom D v69 f69 hv69 hf69 x3 m71 (by omega) (by omega) (by omega) (by omega)) (And.intro rfl (fun r9 A9 h9 => ?_)))))))
            obtain ⟨v73, f73, rfl, rfl, hv73, hf73, hx73, hg73_0, hg73_1, by72⟩ := h9
            refine pq_id0 ?_
            have hw73 : f73 2 = f 2 := hx73.trans hw69
            have hr73_0 : f73 0 = f 0 := hg73_0.trans hr69_0
            have hr73_1 : f73 1 = f 1 := hg73_1.trans hr69_1
            have hu74 := hv73
            unfold md_V at hu74
            clear hu70
            have hb_132 := by72.2
            have sq73 : (v73 0).toInt = (v 0).toInt ∧ (v73 1).toInt = (v58 1).toInt ∧ (v73 3).toInt = (v 3).toInt ∧ (v73 4).toInt = (v 4).toInt ∧ (v73 6).toInt = (v 6).toInt := by omega
            have sp73 := by72.1.2.2.2.2.2
            clear by72
            refine pq_aload_n0 (pq_iload9 (pq_iconst (pq_iadd ?_)))
            intro m75 em_139
            try have e75 : m75.toInt = (x2).toInt + (1) := by rw [em_139]; exact pm_addc _ _ (1) rfl (by omega) (by omega)
            refine pq_aload_n0 (qgm_many (pq_iv2_11 ?_))
            have hp_144 : ∀ L, rp (v 0) (f 0) (f 1) L → rp (v73 0) (f73 0) (f73 1) L := fun L h => rp_fr h (by omega) hr73_0 hr73_1
            refine And.intro (Exists.intro _ md_o) (Exists.intro _ (Exists.intro _ (Exists.intro _ (Exists.intro _ (And.intro (F_X11_laysFrom D v73 f73 hv73 hf73 m75 (v73 0) (by omega) (by omega) (by omega) (by omega)) (And.intro rfl (fun r9 A9 h9 => ?_)))))))
            obtain ⟨v77, f77, rfl, rfl, hv77, hf77, hx77, hg77_0, hg77_1, by76⟩ := h9
            refine pq_id0 ?_
            have hw77 : f77 2 = f 2 := hx77.trans hw73
            have hr77_0 : f77 0 = f 0 := hg77_0.trans hr73_0
            have hr77_1 : f77 1 = f 1 := hg77_1.trans hr73_1
            have hu78 := hv77
            unfold md_V at hu78
            clear hu74
            have hb_144 := by76.2
            have sq77 : (v77 0).toInt = (v 0).toInt ∧ (v77 1).toInt = (v58 1).toInt ∧ (v77 3).toInt = (v 3).toInt ∧ (v77 4).toInt = (v 4).toInt ∧ (v77 6).toInt = (v 6).toInt := by omega
            have sp77 := by76.1.2.2.2.2.2
            clear by76
            refine pq_aload_n0 (pq_iv0_11 ?_)
            have hp_148 : ∀ L, rp (v 0) (f 0) (f 1) L → rp (v77 0) (f77 0) (f77 1) L := fun L h => rp_fr h (by omega) hr77_0 hr77_1
            refine And.intro (Exists.intro _ md_o) (Exists.intro _ (Exists.intro _ (Exists.intro _ (Exists.intro _ (And.intro (F_X11_ends D v77 f77 hv77 hf77  (by omega)) (And.intro rfl (fun r9 A9 h9 => ?_)))))))
            obtain ⟨y79, v80, f80, rfl, rfl, hv80, hf80, hx80, by79⟩ := h9
            refine pq_id1 ?_
            have hw80 : f80 2 = f 2 := hx80.trans hw77
            have hu81 := hv80
            unfold md_V at hu81
            clear hu78
            have hb_148 := by79.2
            have sq80 : (v80 1).toInt = (v58 1).toInt ∧ (v80 2).toInt = (v77 2).toInt ∧ (v80 3).toInt = (v 3).toInt ∧ (v80 6).toInt = (v 6).toInt := by omega
            have sp80 := by79.1.2.2.2.2
            clear by79
            refine pq_iret ?_
            exact ⟨rfl, fun e9 => absurd e9 (by decide), rfl, y79, v80, f80, rfl, rfl, hv80, hf80, hw80, by first | omega | (dsimp only; omega) | trivial, by first | (intro L hL; have hl := hL.1; rw [ed_swap, if_pos (by omega), if_pos (by omega)]; have t1 := hb_102 L [] 0 x1.toInt (hp_102 L hL) rfl rfl (by omega) (by omega) (rp_0 (by omega)); have t2 := hb_112 L _ x3.toInt (x4.toInt + 1) (hp_112 L hL) (by omega) (by omega) (by omega) (by omega) t1; have t3 := hb_122 L _ (x2.toInt + 1) x3.toInt (hp_122 L hL) (by omega) (by omega) (by omega) (by omega) t2; have t4 := hb_132 L _ x1.toInt (x2.toInt + 1) (hp_132 L hL) (by omega) (by omega) (by omega) (by omega) t3; have t5 := hb_144 L _ (x4.toInt + 1) L.length (hp_144 L hL) (by omega) (by omega) (by omega) (by omega) t4; rw [List.nil_append] at t5; exact ⟨hb_148 _ t5, by show _ = _ + (1 : Int); omega, by show _ = _ + (1 : Int) * _; omega⟩) | (intro L hL; have hl := hL.1; rw [ed_swap, if_pos (by omega), if_neg (by omega)]; have t1 := hb_102 L [] 0 x3.toInt (hp_102 L hL) rfl rfl (by omega) (by omega) (rp_0 (by omega)); have t2 := hb_112 L _ x1.toInt (x2.toInt + 1) (hp_112 L hL) (by omega) (by omega) (by omega) (by omega) t1; have t3 := hb_122 L _ (x4.toInt + 1) x1.toInt (hp_122 L hL) (by omega) (by omega) (by omega) (by omega) t2; have t4 := hb_132 L _ x3.toInt (x4.toInt + 1) (hp_132 L hL) (by omega) (by omega) (by omega) (by omega) t3; have t5 := hb_144 L _ (x2.toInt + 1) L.length (hp_144 L hL) (by omega) (by omega) (by omega) (by omega) t4; rw [List.nil_append] at t5; exact ⟨hb_148 _ t5, by show _ = _ + (1 : Int); omega, by show _ = _ + (1 : Int) * _; omega⟩)⟩
          · skip
            refine pq_iconst (pq_goto ?_)
            refine hC.1 4 42 _ _ rfl _ _ _ _ _ ?_
            refine pq_istore [some (.ref h), some (.int x1), some (.int x2), some (.int x3), some (.int x4), some (.int (1 : Int32)), none, none, none, none] rfl (pq_iload5 (pq_icond_eq ?_))
            refine And.intro (fun c9 => absurd c9 (by decide)) (fun _ => ?_)
            refine pq_iload_n1 (pq_goto ?_)
            refine hC.1 6 54 _ _ rfl _ _ _ _ _ ?_
            refine pq_istore [some (.ref h), some (.int x1), some (.int x2), some (.int x3), some (.int x4), some (.int (1 : Int32)), some (.int x1), none, none, none] rfl (pq_iload5 (pq_icond_eq ?_))
            refine And.intro (fun c9 => absurd c9 (by decide)) (fun _ => ?_)
            refine pq_iload_n2 (pq_goto ?_)
            refine hC.1 8 67 _ _ rfl _ _ _ _ _ ?_
            refine pq_istore [some (.ref h), some (.int x1), some (.int x2), some (.int x3), some (.int x4), some (.int (1 : Int32)), some (.int x1), some (.int x2), none, none] rfl (pq_iload5 (pq_icond_eq ?_))
            refine And.intro (fun c9 => absurd c9 (by decide)) (fun _ => ?_)
            refine pq_iload_n3 (pq_goto ?_)
            refine hC.1 10 79 _ _ rfl _ _ _ _ _ ?_
            refine pq_istore [some (.ref h), some (.int x1), some (.int x2), some (.int x3), some (.int x4), some (.int (1 : Int32)), some (.int x1), some (.int x2), some (.int x3), none] rfl (pq_iload5 (pq_icond_eq ?_))
            refine And.intro (fun c9 => absurd c9 (by decide)) (fun _ => ?_)
            refine pq_iload4 (pq_goto ?_)
            refine hC.1 12 92 _ _ rfl _ _ _ _ _ ?_
            refine pq_istore [some (.ref h), some (.int x1), some (.int x2), some (.int x3), some (.int x4), some (.int (1 : Int32)), some (.int x1), some (.int x2), some (.int x3), some (.int x4)] rfl (pq_aload_n0 (pq_iv0_11 ?_))
            have hp_95 : ∀ L, rp (v 0) (f 0) (f 1) L → rp (v 0) (f 0) (f 1) L := fun L h => rp_fr h (by omega) rfl rfl
            refine And.intro (Exists.intro _ md_o) (Exists.intro _ (Exists.intro _ (Exists.intro _ (Exists.intro _ (And.intro (F_X11_begins D v f hv hf  ) (And.intro rfl (fun r9 A9 h9 => ?_)))))))
            obtain ⟨v83, f83, rfl, rfl, hv83, hf83, hx83, hg83_0, hg83_1, by82⟩ := h9
            refine pq_id0 ?_
            have hw83 : f83 2 = f 2 := hx83.trans rfl
            have hr83_0 : f83 0 = f 0 := hg83_0.trans rfl
            have hr83_1 : f83 1 = f 1 := hg83_1.trans rfl
            have hu84 := hv83
            unfold md_V at hu84
            have sq83 : (v83 0).toInt = (v 0).toInt ∧ (v83 3).toInt = (v 3).toInt ∧ (v83 4).toInt = (v 4).toInt ∧ (v83 6).toInt = (v 6).toInt := by omega
            have sp83 := by82.2.2.2.2
            clear by82
            refine pq_aload_n0 ?_
            have k0 : (0 : Int32).toInt = 0 := rfl
            refine pq_iconst (pq_iload6 (pq_iv2_11 ?_))
            have hp_102 : ∀ L, rp (v 0) (f 0) (f 1) L → rp (v83 0) (f83 0) (f83 1) L := fun L h => rp_fr h (by omega) hr83_0 hr83_1
            refine And.intro (Exists.intro _ md_o) (Exists.intro _ (Exists.intro _ (Exists.intro _ (Exists.intro _ (And.intro (F_X11_laysFrom D v83 f83 hv83 hf83 (0 : Int32) x1 (by omega) (by omega) (by omega) (by omega)) (And.intro rfl (fun r9 A9 h9 => ?_)))))))
            obtain ⟨v86, f86, rfl, rfl, hv86, hf86, hx86, hg86_0, hg86_1, by85⟩ := h9
            refine pq_id0 ?_
            have hw86 : f86 2 = f 2 := hx86.trans hw83
            have hr86_0 : f86 0 = f 0 := hg86_0.trans hr83_0
            have hr86_1 : f86 1 = f 1 := hg86_1.trans hr83_1
            have hu87 := hv86
            unfold md_V at hu87
            clear hu84
            have hb_102 := by85.2
            have sq86 : (v86 0).toInt = (v 0).toInt ∧ (v86 1).toInt = (v83 1).toInt ∧ (v86 3).toInt = (v 3).toInt ∧ (v86 4).toInt = (v 4).toInt ∧ (v86 6).toInt = (v 6).toInt := by omega
            have sp86 := by85.1.2.2.2.2.2
            clear by85
            refine pq_aload_n0 (pq_iload8 (pq_iload9 (pq_iconst (pq_iadd ?_))))
            intro m88 em_111
            try have e88 : m88.toInt = (x4).toInt + (1) := by rw [em_111]; exact pm_addc _ _ (1) rfl (by omega) (by omega)
            refine pq_iv2_11 ?_
            have hp_112 : ∀ L, rp (v 0) (f 0) (f 1) L → rp (v86 0) (f86 0) (f86 1) L := fun L h => rp_fr h (by omega) hr86_0 hr86_1
            refine And.intro (Exists.intro _ md_o) (Exists.intro _ (Exists.intro _ (Exists.intro _ (Exists.intro _ (And.intro (F_X11_laysFrom D v86 f86 hv86 hf86 x3 m88 (by omega) (by omega) (by omega) (by omega)) (And.intro rfl (fun r9 A9 h9 => ?_)))))))
            obtain ⟨v90, f90, rfl, rfl, hv90, hf90, hx90, hg90_0, hg90_1, by89⟩ := h9
            refine pq_id0 ?_
            have hw90 : f90 2 = f 2 := hx90.trans hw86
            have hr90_0 : f90 0 = f 0 := hg90_0.trans hr86_0
            have hr90_1 : f90 1 = f 1 := hg90_1.trans hr86_1
            have hu91 := hv90
            unfold md_V at hu91
            clear hu87
            have hb_112 := by89.2
            have sq90 : (v90 0).toInt = (v 0).toInt ∧ (v90 1).toInt = (v83 1).toInt ∧ (v90 3).toInt = (v 3).toInt ∧ (v90 4).toInt = (v 4).toInt ∧ (v90 6).toInt = (v 6).toInt := by omega
            have sp90 := by89.1.2.2.2.2.2
            clear by89
            refine pq_aload_n0 (pq_iload7 (pq_iconst (pq_iadd ?_)))
            intro m92 em_119
            try have e92 : m92.toInt = (x2).toInt + (1) := by rw [em_119]; exact pm_addc _ _ (1) rfl (by omega) (by omega)
            refine pq_iload8 (pq_iv2_11 ?_)
            have hp_122 : ∀ L, rp (v 0) (f 0) (f 1) L → rp (v90 0) (f90 0) (f90 1) L := fun L h => rp_fr h (by omega) hr90_0 hr90_1
            refine And.intro (Exists.intro _ md_o) (Exists.intro _ (Exists.intro _ (Exists.intro _ (Exists.intro _ (And.intro (F_X11_laysFrom D v90 f90 hv90 hf90 m92 x3 (by omega) (by omega) (by omega) (by omega)) (And.intro rfl (fun r9 A9 h9 => ?_)))))))
            obtain ⟨v94, f94, rfl, rfl, hv94, hf94, hx94, hg94_0, hg94_1, by93⟩ := h9
            refine pq_id0 ?_
            have hw94 : f94 2 = f 2 := hx94.trans hw90
            have hr94_0 : f94 0 = f 0 := hg94_0.trans hr90_0
            have hr94_1 : f94 1 = f 1 := hg94_1.trans hr90_1
            have hu95 := hv94
            unfold md_V at hu95
            clear hu91
            have hb_122 := by93.2
            have sq94 : (v94 0).toInt = (v 0).toInt ∧ (v94 1).toInt = (v83 1).toInt ∧ (v94 3).toInt = (v 3).toInt ∧ (v94 4).toInt = (v 4).toInt ∧ (v94 6).toInt = (v 6).toInt := by omega
            have sp94 := by93.1.2.2.2.2.2
            clear by93
            refine pq_aload_n0 (pq_iload6 (pq_iload7 (pq_iconst (pq_iadd ?_))))
            intro m96 em_131
            try have e96 : m96.toInt = (x2).toInt + (1) := by rw [em_131]; exact pm_addc _ _ (1) rfl (by omega) (by omega)
            refine pq_iv2_11 ?_
            have hp_132 : ∀ L, rp (v 0) (f 0) (f 1) L → rp (v94 0) (f94 0) (f94 1) L := fun L h => rp_fr h (by omega) hr94_0 hr94_1
            refine And.intro (Exists.intro _ md_o) (Exists.intro _ (Exists.intro _ (Exists.intro _ (Exists.intro _ (And.intro (F_X11_laysFrom D v94 f94 hv94 hf94 x1 m96 (by omega) (by omega) (by omega) (by omega)) (And.intro rfl (fun r9 A9 h9 => ?_)))))))
            obtain ⟨v98, f98, rfl, rfl, hv98, hf98, hx98, hg98_0, hg98_1, by97⟩ := h9
            refine pq_id0 ?_
            have hw98 : f98 2 = f 2 := hx98.trans hw94
            have hr98_0 : f98 0 = f 0 := hg98_0.trans hr94_0
            have hr98_1 : f98 1 = f 1 := hg98_1.trans hr94_1
            have hu99 := hv98
            unfold md_V at hu99
            clear hu95
            have hb_132 := by97.2
            have sq98 : (v98 0).toInt = (v 0).toInt ∧ (v98 1).toInt = (v83 1).toInt ∧ (v98 3).toInt = (v 3).toInt ∧ (v98 4).toInt = (v 4).toInt ∧ (v98 6).toInt = (v 6).toInt := by omega
            have sp98 := by97.1.2.2.2.2.2
            clear by97
            refine pq_aload_n0 (pq_iload9 (pq_iconst (pq_iadd ?_)))
            intro m100 em_139
            try have e100 : m100.toInt = (x4).toInt + (1) := by rw [em_139]; exact pm_addc _ _ (1) rfl (by omega) (by omega)
            refine pq_aload_n0 (qgm_many (pq_iv2_11 ?_))
            have hp_144 : ∀ L, rp (v 0) (f 0) (f 1) L → rp (v98 0) (f98 0) (f98 1) L := fun L h => rp_fr h (by omega) hr98_0 hr98_1
            refine And.intro (Exists.intro _ md_o) (Exists.intro _ (Exists.intro _ (Exists.intro _ (Exists.intro _ (And.intro (F_X11_laysFrom D v98 f98 hv98 hf98 m100 (v98 0) (by omega) (by omega) (by omega) (by omega)) (And.intro rfl (fun r9 A9 h9 => ?_)))))))
            obtain ⟨v102, f102, rfl, rfl, hv102, hf102, hx102, hg102_0, hg102_1, by101⟩ := h9
            refine pq_id0 ?_
            have hw102 : f102 2 = f 2 := hx102.trans hw98
            have hr102_0 : f102 0 = f 0 := hg102_0.trans hr98_0
            have hr102_1 : f102 1 = f 1 := hg102_1.trans hr98_1
            have hu103 := hv102
            unfold md_V at hu103
            clear hu99
            have hb_144 := by101.2
            have sq102 : (v102 0).toInt = (v 0).toInt ∧ (v102 1).toInt = (v83 1).toInt ∧ (v102 3).toInt = (v 3).toInt ∧ (v102 4).toInt = (v 4).toInt ∧ (v102 6).toInt = (v 6).toInt := by omega
            have sp102 := by101.1.2.2.2.2.2
            clear by101
            refine pq_aload_n0 (pq_iv0_11 ?_)
            have hp_148 : ∀ L, rp (v 0) (f 0) (f 1) L → rp (v102 0) (f102 0) (f102 1) L := fun L h => rp_fr h (by omega) hr102_0 hr102_1
            refine And.intro (Exists.intro _ md_o) (Exists.intro _ (Exists.intro _ (Exists.intro _ (Exists.intro _ (And.intro (F_X11_ends D v102 f102 hv102 hf102  (by omega)) (And.intro rfl (fun r9 A9 h9 => ?_)))))))
            obtain ⟨y104, v105, f105, rfl, rfl, hv105, hf105, hx105, by104⟩ := h9
            refine pq_id1 ?_
            have hw105 : f105 2 = f 2 := hx105.trans hw102
            have hu106 := hv105
            unfold md_V at hu106
            clear hu103
            have hb_148 := by104.2
            have sq105 : (v105 1).toInt = (v83 1).toInt ∧ (v105 2).toInt = (v102 2).toInt ∧ (v105 3).toInt = (v 3).toInt ∧ (v105 6).toInt = (v 6).toInt := by omega
            have sp105 := by104.1.2.2.2.2
            clear by104
            refine pq_iret ?_
            exact ⟨rfl, fun e9 => absurd e9 (by decide), rfl, y104, v105, f105, rfl, rfl, hv105, hf105, hw105, by first | omega | (dsimp only; omega) | trivial, by first | (intro L hL; have hl := hL.1; rw [ed_swap, if_pos (by omega), if_pos (by omega)]; have t1 := hb_102 L [] 0 x1.toInt (hp_102 L hL) rfl rfl (by omega) (by omega) (rp_0 (by omega)); have t2 := hb_112 L _ x3.toInt (x4.toInt + 1) (hp_112 L hL) (by omega) (by omega) (by omega) (by omega) t1; have t3 := hb_122 L _ (x2.toInt + 1) x3.toInt (hp_122 L hL) (by omega) (by omega) (by omega) (by omega) t2; have t4 := hb_132 L _ x1.toInt (x2.toInt + 1) (hp_132 L hL) (by omega) (by omega) (by omega) (by omega) t3; have t5 := hb_144 L _ (x4.toInt + 1) L.length (hp_144 L hL) (by omega) (by omega) (by omega) (by omega) t4; rw [List.nil_append] at t5; exact ⟨hb_148 _ t5, by show _ = _ + (1 : Int); omega, by show _ = _ + (1 : Int) * _; omega⟩) | (intro L hL; have hl := hL.1; rw [ed_swap, if_pos (by omega), if_neg (by omega)]; have t1 := hb_102 L [] 0 x3.toInt (hp_102 L hL) rfl rfl (by omega) (by omega) (rp_0 (by omega)); have t2 := hb_112 L _ x1.toInt (x2.toInt + 1) (hp_112 L hL) (by omega) (by omega) (by omega) (by omega) t1; have t3 := hb_122 L _ (x4.toInt + 1) x1.toInt (hp_122 L hL) (by omega) (by omega) (by omega) (by omega) t2; have t4 := hb_132 L _ x3.toInt (x4.toInt + 1) (hp_132 L hL) (by omega) (by omega) (by omega) (by omega) t3; have t5 := hb_144 L _ (x2.toInt + 1) L.length (hp_144 L hL) (by omega) (by omega) (by omega) (by omega) t4; rw [List.nil_append] at t5; exact ⟨hb_148 _ t5, by show _ = _ + (1 : Int); omega, by show _ = _ + (1 : Int) * _; omega⟩)⟩
        · skip
          refine pq_nil ?_
          refine hC.1 1 30 _ _ rfl _ _ _ _ _ ?_
          have km1 : (-1 : Int32).toInt = -1 := rfl
          refine pq_iconst (pq_iret ?_)
          exact ⟨rfl, fun e9 => absurd e9 (by decide), rfl, (-1 : Int32), v, f, rfl, rfl, hv, hf, rfl, by first | omega | (dsimp only; omega) | trivial, by intro L hL; have hl := hL.1; rw [ed_swap, if_neg (by omega)]; exact ⟨hL, by show _ = _ + (0 : Int); omega, by show _ = _ + (0 : Int) * _; omega⟩⟩
    · skip
      have k0 : (0 : Int32).toInt = 0 := rfl
      refine pq_id1 (pq_icond_eq ?_)
      refine And.intro (fun _ => ?_) (fun c9 => absurd c9 (by decide))
      refine hC.1 1 30 _ _ rfl _ _ _ _ _ ?_
      have km1 : (-1 : Int32).toInt = -1 := rfl
      refine pq_iconst (pq_iret ?_)
      exact ⟨rfl, fun e9 => absurd e9 (by decide), rfl, (-1 : Int32), v, f, rfl, rfl, hv, hf, rfl, by first | omega | (dsimp only; omega) | trivial, by intro L hL; have hl := hL.1; rw [ed_swap, if_neg (by omega)]; exact ⟨hL, by show _ = _ + (0 : Int); omega, by show _ = _ + (0 : Int) * _; omega⟩⟩
  · skip
    have k0 : (0 : Int32).toInt = 0 := rfl
    refine pq_id1 (pq_icond_eq ?_)
    refine And.intro (fun _ => ?_) (fun c9 => absurd c9 (by decide))
    refine hC.1 1 30 _ _ rfl _ _ _ _ _ ?_
    have km1 : (-1 : Int32).toInt = -1 := rfl
    refine pq_iconst (pq_iret ?_)
    exact ⟨rfl, fun e9 => absurd e9 (by decide), rfl, (-1 : Int32), v, f, rfl, rfl, hv, hf, rfl, by first | omega | (dsimp only; omega) | trivial, by intro L hL; have hl := hL.1; rw [ed_swap, if_neg (by omega)]; exact ⟨hL, by show _ = _ + (0 : Int); omega, by show _ = _ + (0 : Int) * _; omega⟩⟩

end
