section
variable {l : Launch} {g : pm_G} {A0 : pm_H} {h : Nat} {q : Nat → Nat}
set_option maxRecDepth 100000 in
set_option maxHeartbeats 2000000 in
theorem F_X11_swap (D : md_D h q) (v : Nat → Int32) (f : Nat → Nat → Int32) (hv : md_V v) (hf : md_F f) (x1 : Int32) (x2 : Int32) (x3 : Int32) (x4 : Int32) (p0 : (v 4).toInt < 100000) : pm_Mt l g 191 4 0 0 [.ref h, .int x1, .int x2, .int x3, .int x4] (md A0 g h q v f) (md_Qw A0 g h q f (fun r v2 f2 => ((v2 6).toInt = (v 6).toInt ∧ (v2 4).toInt ≤ (v 4).toInt + 1 ∧ (v 4).toInt ≤ (v2 4).toInt) ∧ (∀ L, rp (v 0) (f 0) (f 1) L → rp (v2 0) (f2 0) (f2 1) ((ed_swap L x1 x2 x3 x4).getD L) ∧ (v2 4).toInt = (v 4).toInt + edn (ed_swap L x1 x2 x3 x4) ∧ (v2 3).toInt = (v 3).toInt + edn (ed_swap L x1 x2 x3 x4) * (0)))) := by
  refine mt_X11_swap rfl (fun J hC => ?_)
  have hv9 := hv
  unfold md_V at hv9
  have rg_x1 := pm_rng x1
  have rg_x2 := pm_rng x2
  have rg_x3 := pm_rng x3
  have rg_x4 := pm_rng x4
  show J 0 [some (.ref h), some (.int x1), some (.int x2), some (.int x3), some (.int x4), none, none, none, none, none] [] (md A0 g h q v f) 0 0
  refine hC.1 0 0 _ _ rfl _ _ _ _ _ ?_
  refine pq_aload_n0 (pq_iload_n1 (pq_iload_n2 (pq_iv2_11 ?_)))
  refine And.intro (Exists.intro _ md_o) (Exists.intro _ (Exists.intro _ (Exists.intro _ (Exists.intro _ (And.intro (c_X11_isSpan D v f hv hf x1 x2 ) (And.intro rfl (fun r9 A9 h9 => ?_)))))))
  rcases h9 with ⟨y1, rfl, rfl, ⟨rfl, by1⟩ | ⟨rfl, by1⟩⟩
  · skip
    have k1 : (1 : Int32).toInt = 1 := rfl
    refine pq_id1 (pq_icond_eq ?_)
    refine And.intro (fun c9 => absurd c9 (by decide)) (fun _ => ?_)
    refine pq_aload_n0 (pq_iload_n3 (pq_iload4 (pq_iv2_11 ?_)))
    refine And.intro (Exists.intro _ md_o) (Exists.intro _ (Exists.intro _ (Exists.intro _ (Exists.intro _ (And.intro (c_X11_isSpan D v f hv hf x3 x4 ) (And.intro rfl (fun r9 A9 h9 => ?_)))))))
    rcases h9 with ⟨y2, rfl, rfl, ⟨rfl, by2⟩ | ⟨rfl, by2⟩⟩
    · skip
      refine pq_id1 (pq_icond_eq ?_)
      refine And.intro (fun c9 => absurd c9 (by decide)) (fun _ => ?_)
      refine pq_iload_n1 (pq_iload4 (pq_icmp_gt ?_))
      refine And.intro (fun c3 => ?_) (fun c3 => ?_)
      · skip
        refine hC.1 2 32 _ _ rfl _ _ _ _ _ ?_
        refine pq_iload_n1 (pq_iload_n3 (pq_icmp_ge ?_))
        refine And.intro (fun c4 => ?_) (fun c4 => ?_)
        · skip
          refine hC.1 3 41 _ _ rfl _ _ _ _ _ ?_
          have k0 : (0 : Int32).toInt = 0 := rfl
          refine pq_iconst (pq_nil ?_)
          refine hC.1 4 42 _ _ rfl _ _ _ _ _ ?_
          refine pq_istore [some (.ref h), some (.int x1), some (.int x2), some (.int x3), some (.int x4), some (.int (0 : Int32)), none, none, none, none] rfl (pq_iload5 (pq_icond_eq ?_))
          refine And.intro (fun _ => ?_) (fun c9 => absurd c9 (by decide))
          refine hC.1 5 53 _ _ rfl _ _ _ _ _ ?_
          refine pq_iload_n3 (pq_nil ?_)
          refine hC.1 6 54 _ _ rfl _ _ _ _ _ ?_
          refine pq_istore [some (.ref h), some (.int x1), some (.int x2), some (.int x3), some (.int x4), some (.int (0 : Int32)), some (.int x3), none, none, none] rfl (pq_iload5 (pq_icond_eq ?_))
          refine And.intro (fun _ => ?_) (fun c9 => absurd c9 (by decide))
          refine hC.1 7 65 _ _ rfl _ _ _ _ _ ?_
          refine pq_iload4 (pq_nil ?_)
          refine hC.1 8 67 _ _ rfl _ _ _ _ _ ?_
          refine pq_istore [some (.ref h), some (.int x1), some (.int x2), some (.int x3), some (.int x4), some (.int (0 : Int32)), some (.int x3), some (.int x4), none, none] rfl (pq_iload5 (pq_icond_eq ?_))
          refine And.intro (fun _ => ?_) (fun c9 => absurd c9 (by decide))
          refine hC.1 9 78 _ _ rfl _ _ _ _ _ ?_
          refine pq_iload_n1 (pq_nil ?_)
          refine hC.1 10 79 _ _ rfl _ _ _ _ _ ?_
          refine pq_istore [some (.ref h), some (.int x1), some (.int x2), some (.int x3), some (.int x4), some (.int (0 : Int32)), some (.int x3), some (.int x4), some (.int x1), none] rfl (pq_iload5 (pq_icond_eq ?_))
          refine And.intro (fun _ => ?_) (fun c9 => absurd c9 (by decide))
          refine hC.1 11 91 _ _ rfl _ _ _ _ _ ?_
          refine pq_iload_n2 (pq_nil ?_)
          refine hC.1 12 92 _ _ rfl _ _ _ _ _ ?_
          refine pq_istore [some (.ref h), some (.int x1), some (.int x2), some (.int x3), some (.int x4), some (.int (0 : Int32)), some (.int x3), some (.int x4), some (.int x1), some (.int x2)] rfl (pq_aload_n0 (pq_iv0_11 ?_))
          refine And.intro (Exists.intro _ md_o) (Exists.intro _ (Exists.intro _ (Exists.intro _ (Exists.intro _ (And.intro (F_X11_begins D v f hv hf  ) (And.intro rfl (fun r9 A9 h9 => ?_)))))))
          obtain ⟨v6, f6, rfl, rfl, hv6, hf6, hx6, hg6_0, hg6_1, by5⟩ := h9
          refine pq_id0 ?_
          have hw6 : f6 2 = f 2 := hx6.trans rfl
          have hr6_0 : f6 0 = f 0 := hg6_0.trans rfl
          have hr6_1 : f6 1 = f 1 := hg6_1.trans rfl
          have hu7 := hv6
          unfold md_V at hu7
          have sq6 : (v6 0).toInt = (v 0).toInt ∧ (v6 3).toInt = (v 3).toInt ∧ (v6 4).toInt = (v 4).toInt ∧ (v6 6).toInt = (v 6).toInt := by omega
          have sp6 := by5.2.2.2.2
          clear by5
          refine pq_aload_n0 (pq_iconst (pq_iload6 (pq_iv2_11 ?_)))
          have hp_102 : ∀ L, rp (v 0) (f 0) (f 1) L → rp (v6 0) (f6 0) (f6 1) L := fun L h => rp_fr h (by omega) hr6_0 hr6_1
          refine And.intro (Exists.intro _ md_o) (Exists.intro _ (Exists.intro _ (Exists.intro _ (Exists.intro _ (And.intro (F_X11_laysFrom D v6 f6 hv6 hf6 (0 : Int32) x3 (by omega) (by omega) (by omega) (by omega)) (And.intro rfl (fun r9 A9 h9 => ?_)))))))
          obtain ⟨v9, f9, rfl, rfl, hv9, hf9, hx9, hg9_0, hg9_1, by8⟩ := h9
          refine pq_id0 ?_
          have hw9 : f9 2 = f 2 := hx9.trans hw6
          have hr9_0 : f9 0 = f 0 := hg9_0.trans hr6_0
          have hr9_1 : f9 1 = f 1 := hg9_1.trans hr6_1
          have hu10 := hv9
          unfold md_V at hu10
          clear hu7
          have hb_102 := by8.2
          have sq9 : (v9 0).toInt = (v 0).toInt ∧ (v9 1).toInt = (v6 1).toInt ∧ (v9 3).toInt = (v 3).toInt ∧ (v9 4).toInt = (v 4).toInt ∧ (v9 6).toInt = (v 6).toInt := by omega
          have sp9 := by8.1.2.2.2.2.2
          clear by8
          refine pq_aload_n0 (pq_iload8 (pq_iload9 (pq_iconst (pq_iadd ?_))))
          intro m11 em_111
          try have e11 : m11.toInt = (x2).toInt + (1) := by rw [em_111]; exact pm_addc _ _ (1) rfl (by omega) (by omega)
          refine pq_iv2_11 ?_
          have hp_112 : ∀ L, rp (v 0) (f 0) (f 1) L → rp (v9 0) (f9 0) (f9 1) L := fun L h => rp_fr h (by omega) hr9_0 hr9_1
          refine And.intro (Exists.intro _ md_o) (Exists.intro _ (Exists.intro _ (Exists.intro _ (Exists.intro _ (And.intro (F_X11_laysFrom D v9 f9 hv9 hf9 x1 m11 (by omega) (by omega) (by omega) (by omega)) (And.intro rfl (fun r9 A9 h9 => ?_)))))))
          obtain ⟨v13, f13, rfl, rfl, hv13, hf13, hx13, hg13_0, hg13_1, by12⟩ := h9
          refine pq_id0 ?_
          have hw13 : f13 2 = f 2 := hx13.trans hw9
          have hr13_0 : f13 0 = f 0 := hg13_0.trans hr9_0
          have hr13_1 : f13 1 = f 1 := hg13_1.trans hr9_1
          have hu14 := hv13
          unfold md_V at hu14
          clear hu10
          have hb_112 := by12.2
          have sq13 : (v13 0).toInt = (v 0).toInt ∧ (v13 1).toInt = (v6 1).toInt ∧ (v13 3).toInt = (v 3).toInt ∧ (v13 4).toInt = (v 4).toInt ∧ (v13 6).toInt = (v 6).toInt := by omega
          have sp13 := by12.1.2.2.2.2.2
          clear by12
          refine pq_aload_n0 (pq_iload7 (pq_iconst (pq_iadd ?_)))
          intro m15 em_119
          try have e15 : m15.toInt = (x4).toInt + (1) := by rw [em_119]; exact pm_addc _ _ (1) rfl (by omega) (by omega)
          refine pq_iload8 (pq_iv2_11 ?_)
          have hp_122 : ∀ L, rp (v 0) (f 0) (f 1) L → rp (v13 0) (f13 0) (f13 1) L := fun L h => rp_fr h (by omega) hr13_0 hr13_1
          refine And.intro (Exists.intro _ md_o) (Exists.intro _ (Exists.intro _ (Exists.intro _ (Exists.intro _ (And.intro (F_X11_laysFrom D v13 f13 hv13 hf13 m15 x1 (by omega) (by omega) (by omega) (by omega)) (And.intro rfl (fun r9 A9 h9 => ?_)))))))
          obtain ⟨v17, f17, rfl, rfl, hv17, hf17, hx17, hg17_0, hg17_1, by16⟩ := h9
          refine pq_id0 ?_
          have hw17 : f17 2 = f 2 := hx17.trans hw13
          have hr17_0 : f17 0 = f 0 := hg17_0.trans hr13_0
          have hr17_1 : f17 1 = f 1 := hg17_1.trans hr13_1
          have hu18 := hv17
          unfold md_V at hu18
          clear hu14
          have hb_122 := by16.2
          have sq17 : (v17 0).toInt = (v 0).toInt ∧ (v17 1).toInt = (v6 1).toInt ∧ (v17 3).toInt = (v 3).toInt ∧ (v17 4).toInt = (v 4).toInt ∧ (v17 6).toInt = (v 6).toInt := by omega
          have sp17 := by16.1.2.2.2.2.2
          clear by16
          refine pq_aload_n0 (pq_iload6 (pq_iload7 (pq_iconst (pq_iadd ?_))))
          intro m19 em_131
          try have e19 : m19.toInt = (x4).toInt + (1) := by rw [em_131]; exact pm_addc _ _ (1) rfl (by omega) (by omega)
          refine pq_iv2_11 ?_
          have hp_132 : ∀ L, rp (v 0) (f 0) (f 1) L → rp (v17 0) (f17 0) (f17 1) L := fun L h => rp_fr h (by omega) hr17_0 hr17_1
          refine And.intro (Exists.intro _ md_o) (Exists.intro _ (Exists.intro _ (Exists.intro _ (Exists.intro _ (And.intro (F_X11_laysFrom D v17 f17 hv17 hf17 x3 m19 (by omega) (by omega) (by omega) (by omega)) (And.intro rfl (fun r9 A9 h9 => ?_)))))))
          obtain ⟨v21, f21, rfl, rfl, hv21, hf21, hx21, hg21_0, hg21_1, by20⟩ := h9
          refine pq_id0 ?_
          have hw21 : f21 2 = f 2 := hx21.trans hw17
          have hr21_0 : f21 0 = f 0 := hg21_0.trans hr17_0
          have hr21_1 : f21 1 = f 1 := hg21_1.trans hr17_1
          have hu22 := hv21
          unfold md_V at hu22
          clear hu18
          have hb_132 := by20.2
          have sq21 : (v21 0).toInt = (v 0).toInt ∧ (v21 1).toInt = (v6 1).toInt ∧ (v21 3).toInt = (v 3).toInt ∧ (v21 4).toInt = (v 4).toInt ∧ (v21 6).toInt = (v 6).toInt := by omega
          have sp21 := by20.1.2.2.2.2.2
          clear by20
          refine pq_aload_n0 (pq_iload9 (pq_iconst (pq_iadd ?_)))
          intro m23 em_139
          try have e23 : m23.toInt = (x2).toInt + (1) := by rw [em_139]; exact pm_addc _ _ (1) rfl (by omega) (by omega)
          refine pq_aload_n0 (qgm_many (pq_iv2_11 ?_))
          have hp_144 : ∀ L, rp (v 0) (f 0) (f 1) L → rp (v21 0) (f21 0) (f21 1) L := fun L h => rp_fr h (by omega) hr21_0 hr21_1
          refine And.intro (Exists.intro _ md_o) (Exists.intro _ (Exists.intro _ (Exists.intro _ (Exists.intro _ (And.intro (F_X11_laysFrom D v21 f21 hv21 hf21 m23 (v21 0) (by omega) (by omega) (by omega) (by omega)) (And.intro rfl (fun r9 A9 h9 => ?_)))))))
          obtain ⟨v25, f25, rfl, rfl, hv25, hf25, hx25, hg25_0, hg25_1, by24⟩ := h9
          refine pq_id0 ?_
          have hw25 : f25 2 = f 2 := hx25.trans hw21
          have hr25_0 : f25 0 = f 0 := hg25_0.trans hr21_0
          have hr25_1 : f25 1 = f 1 := hg25_1.trans hr21_1
          have hu26 := hv25
          unfold md_V at hu26
          clear hu22
          have hb_144 := by24.2
          have sq25 : (v25 0).toInt = (v 0).toInt ∧ (v25 1).toInt = (v6 1).toInt ∧ (v25 3).toInt = (v 3).toInt ∧ (v25 4).toInt = (v 4).toInt ∧ (v25 6).toInt = (v 6).toInt := by omega
          have sp25 := by24.1.2.2.2.2.2
          clear by24
          refine pq_aload_n0 (pq_iv0_11 ?_)
          refine And.intro (Exists.intro _ md_o) (Exists.intro _ (Exists.intro _ (Exists.intro _ (Exists.intro _ (And.intro (F_X11_ends D v25 f25 hv25 hf25  (by omega)) (And.intro rfl (fun r9 A9 h9 => ?_)))))))
          obtain ⟨y27, v28, f28, rfl, rfl, hv28, hf28, hx28, by27⟩ := h9
          refine pq_id1 ?_
          have hw28 : f28 2 = f 2 := hx28.trans hw25
          have hu29 := hv28
          unfold md_V at hu29
          clear hu26
          have hb_148 := by27.2
          have sq28 : (v28 1).toInt = (v6 1).toInt ∧ (v28 2).toInt = (v25 2).toInt ∧ (v28 3).toInt = (v 3).toInt ∧ (v28 6).toInt = (v 6).toInt := by omega
          have sp28 := by27.1.2.2.2.2
          clear by27
          refine pq_iret ?_
          exact ⟨rfl, fun e9 => absurd e9 (by decide), rfl, y27, v28, f28, rfl, rfl, hv28, hf28, hw28, by first | omega | (dsimp only; omega) | trivial, by first | (intro L hL; have hl := hL.1; rw [ed_swap, if_pos (by omega), if_pos (by omega)]; have t1 := hb_102 L [] 0 x1.toInt (hp_102 L hL) rfl rfl (by omega) (by omega) (rp_0 (by omega)); have t2 := hb_112 L _ x3.toInt (x4.toInt + 1) (hp_112 L hL) (by omega) (by omega) (by omega) (by omega) t1; have t3 := hb_122 L _ (x2.toInt + 1) x3.toInt (hp_122 L hL) (by omega) (by omega) (by omega) (by omega) t2; have t4 := hb_132 L _ x1.toInt (x2.toInt + 1) (hp_132 L hL) (by omega) (by omega) (by omega) (by omega) t3; have t5 := hb_144 L _ (x4.toInt + 1) L.length (hp_144 L hL) (by omega) (by omega) (by omega) (by omega) t4; rw [List.nil_append] at t5; exact ⟨hb_148 _ t5, by show _ = _ + (1 : Int); omega, by show _ = _ + (1 : Int) * _; omega⟩) | (intro L hL; have hl := hL.1; rw [ed_swap, if_pos (by omega), if_neg (by omega)]; have t1 := hb_102 L [] 0 x3.toInt (hp_102 L hL) rfl rfl (by omega) (by omega) (rp_0 (by omega)); have t2 := hb_112 L _ x1.toInt (x2.toInt + 1) (hp_112 L hL) (by omega) (by omega) (by omega) (by omega) t1; have t3 := hb_122 L _ (x4.toInt + 1) x1.toInt (hp_122 L hL) (by omega) (by omega) (by omega) (by omega) t2; have t4 := hb_132 L _ x3.toInt (x4.toInt + 1) (hp_132 L hL) (by omega) (by omega) (by omega) (by omega) t3; have t5 := hb_144 L _ (x2.toInt + 1) L.length (hp_144 L hL) (by omega) (by omega) (by omega) (by omega) t4; rw [List.nil_append] at t5; exact ⟨hb_148 _ t5, by show _ = _ + (1 : Int); omega, by show _ = _ + (1 : Int) * _; omega⟩)⟩
        · skip
          exfalso
          omega
      · skip
        refine pq_iload_n3 (pq_iload_n2 (pq_icmp_gt ?_))
        refine And.intro (fun c30 => ?_) (fun c30 => ?_)
        · skip
          refine hC.1 2 32 _ _ rfl _ _ _ _ _ ?_
          refine pq_iload_n1 (pq_iload_n3 (pq_icmp_ge ?_))
          refine And.intro (fun c31 => ?_) (fun c31 => ?_)
          · skip
            exfalso
            omega
          · skip
            refine pq_iconst (pq_goto ?_)
            refine hC.1 4 42 _ _ rfl _ _ _ _ _ ?_
            refine pq_istore [some (.ref h), some (.int x1), some (.int x2), some (.int x3), some (.int x4), some (.int (1 : Int32)), none, none, none, none] rfl (pq_iload5 (pq_icond_eq ?_))
            refine And.intro (fun c9 => absurd c9 (by decide)) (fun _ => ?_)
            refine pq_iload_n1 (pq_goto ?_)
            refine hC.1 6 54 _ _ rfl _ _ _ _ _ ?_
            refine pq_istore [some (.ref h), some (.int x1), some (.int x2), some (.int x3), some (.int x4), some (.int (1 : Int32)), some (.int x1), none, none, none] rfl (pq_iload5 (pq_icond_eq ?_))
            refine And.intro (fun c9 => absurd c9 (by decide)) (fun _ => ?_)
            refine pq_iload_n2 (pq_goto ?_)
            refine hC.1 8 67 _ _ rfl _ _ _ _ _ ?_
            refine pq_istore [some (.ref h), some (.int x1), some (.int x2), some (.int x3), some (.int x4), some (.int (1 : Int32)), some (.int x1), some (.int x2), none, none] rfl (pq_iload5 (pq_icond_eq ?_))
            refine And.intro (fun c9 => absurd c9 (by decide)) (fun _ => ?_)
            refine pq_iload_n3 (pq_goto ?_)
            refine hC.1 10 79 _ _ rfl _ _ _ _ _ ?_
            refine pq_istore [some (.ref h), some (.int x1), some (.int x2), some (.int x3), some (.int x4), some (.int (1 : Int32)), some (.int x1), some (.int x2), some (.int x3), none] rfl (pq_iload5 (pq_icond_eq ?_))
            refine And.intro (fun c9 => absurd c9 (by decide)) (fun _ => ?_)
            refine pq_iload4 (pq_goto ?_)
            refine hC.1 12 92 _ _ rfl _ _ _ _ _ ?_
            refine pq_istore [some (.ref h), some (.int x1), some (.int x2), some (.int x3), some (.int x4), some (.int (1 : Int32)), some (.int x1), some (.int x2), some (.int x3), some (.int x4)] rfl (pq_aload_n0 (pq_iv0_11 ?_))
            refine And.intro (Exists.intro _ md_o) (Exists.intro _ (Exists.intro _ (Exists.intro _ (Exists.intro _ (And.intro (F_X11_begins D v f hv hf  ) (And.intro rfl (fun r9 A9 h9 => ?_)))))))
            obtain ⟨v33, f33, rfl, rfl, hv33, hf33, hx33, hg33_0, hg33_1, by32⟩ := h9
            refine pq_id0 ?_
            have hw33 : f33 2 = f 2 := hx33.trans rfl
            have hr33_0 : f33 0 = f 0 := hg33_0.trans rfl
            have hr33_1 : f33 1 = f 1 := hg33_1.trans rfl
            have hu34 := hv33
            unfold md_V at hu34
            have sq33 : (v33 0).toInt = (v 0).toInt ∧ (v33 3).toInt = (v 3).toInt ∧ (v33 4).toInt = (v 4).toInt ∧ (v33 6).toInt = (v 6).toInt := by omega
            have sp33 := by32.2.2.2.2
            clear by32
            refine pq_aload_n0 ?_
            have k0 : (0 : Int32).toInt = 0 := rfl
            refine pq_iconst (pq_iload6 (pq_iv2_11 ?_))
            have hp_102 : ∀ L, rp (v 0) (f 0) (f 1) L → rp (v33 0) (f33 0) (f33 1) L := fun L h => rp_fr h (by omega) hr33_0 hr33_1
            refine And.intro (Exists.intro _ md_o) (Exists.intro _ (Exists.intro _ (Exists.intro _ (Exists.intro _ (And.intro (F_X11_laysFrom D v33 f33 hv33 hf33 (0 : Int32) x1 (by omega) (by omega) (by omega) (by omega)) (And.intro rfl (fun r9 A9 h9 => ?_)))))))
            obtain ⟨v36, f36, rfl, rfl, hv36, hf36, hx36, hg36_0, hg36_1, by35⟩ := h9
            refine pq_id0 ?_
            have hw36 : f36 2 = f 2 := hx36.trans hw33
            have hr36_0 : f36 0 = f 0 := hg36_0.trans hr33_0
            have hr36_1 : f36 1 = f 1 := hg36_1.trans hr33_1
            have hu37 := hv36
            unfold md_V at hu37
            clear hu34
            have hb_102 := by35.2
            have sq36 : (v36 0).toInt = (v 0).toInt ∧ (v36 1).toInt = (v33 1).toInt ∧ (v36 3).toInt = (v 3).toInt ∧ (v36 4).toInt = (v 4).toInt ∧ (v36 6).toInt = (v 6).toInt := by omega
            have sp36 := by35.1.2.2.2.2.2
            clear by35
            refine pq_aload_n0 (pq_iload8 (pq_iload9 (pq_iconst (pq_iadd ?_))))
            intro m38 em_111
            try have e38 : m38.toInt = (x4).toInt + (1) := by rw [em_111]; exact pm_addc _ _ (1) rfl (by omega) (by omega)
            refine pq_iv2_11 ?_
            have hp_112 : ∀ L, rp (v 0) (f 0) (f 1) L → rp (v36 0) (f36 0) (f36 1) L := fun L h => rp_fr h (by omega) hr36_0 hr36_1
            refine And.intro (Exists.intro _ md_o) (Exists.intro _ (Exists.intro _ (Exists.intro _ (Exists.intro _ (And.intro (F_X11_laysFrom D v36 f36 hv36 hf36 x3 m38 (by omega) (by omega) (by omega) (by omega)) (And.intro rfl (fun r9 A9 h9 => ?_)))))))
            obtain ⟨v40, f40, rfl, rfl, hv40, hf40, hx40, hg40_0, hg40_1, by39⟩ := h9
            refine pq_id0 ?_
            have hw40 : f40 2 = f 2 := hx40.trans hw36
            have hr40_0 : f40 0 = f 0 := hg40_0.trans hr36_0
            have hr40_1 : f40 1 = f 1 := hg40_1.trans hr36_1
            have hu41 := hv40
            unfold md_V at hu41
            clear hu37
            have hb_112 := by39.2
            have sq40 : (v40 0).toInt = (v 0).toInt ∧ (v40 1).toInt = (v33 1).toInt ∧ (v40 3).toInt = (v 3).toInt ∧ (v40 4).toInt = (v 4).toInt ∧ (v40 6).toInt = (v 6).toInt := by omega
            have sp40 := by39.1.2.2.2.2.2
            clear by39
            refine pq_aload_n0 (pq_iload7 (pq_iconst (pq_iadd ?_)))
            intro m42 em_119
            try have e42 : m42.toInt = (x2).toInt + (1) := by rw [em_119]; exact pm_addc _ _ (1) rfl (by omega) (by omega)
            refine pq_iload8 (pq_iv2_11 ?_)
            have hp_122 : ∀ L, rp (v 0) (f 0) (f 1) L → rp (v40 0) (f40 0) (f40 1) L := fun L h => rp_fr h (by omega) hr40_0 hr40_1
            refine And.intro (Exists.intro _ md_o) (Exists.intro _ (Exists.intro _ (Exists.intro _ (Exists.intro _ (And.intro (F_X11_laysFrom D v40 f40 hv40 hf40 m42 x3 (by omega) (by omega) (by omega) (by omega)) (And.intro rfl (fun r9 A9 h9 => ?_)))))))
            obtain ⟨v44, f44, rfl, rfl, hv44, hf44, hx44, hg44_0, hg44_1, by43⟩ := h9
            refine pq_id0 ?_
            have hw44 : f44 2 = f 2 := hx44.trans hw40
            have hr44_0 : f44 0 = f 0 := hg44_0.trans hr40_0
            have hr44_1 : f44 1 = f 1 := hg44_1.trans hr40_1
            have hu45 := hv44
            unfold md_V at hu45
            clear hu41
            have hb_122 := by43.2
            have sq44 : (v44 0).toInt = (v 0).toInt ∧ (v44 1).toInt = (v33 1).toInt ∧ (v44 3).toInt = (v 3).toInt ∧ (v44 4).toInt = (v 4).toInt ∧ (v44 6).toInt = (v 6).toInt := by omega
            have sp44 := by43.1.2.2.2.2.2
            clear by43
            refine pq_aload_n0 (pq_iload6 (pq_iload7 (pq_iconst (pq_iadd ?_))))
            intro m46 em_131
            try have e46 : m46.toInt = (x2).toInt + (1) := by rw [em_131]; exact pm_addc _ _ (1) rfl (by omega) (by omega)
            refine pq_iv2_11 ?_
            have hp_132 : ∀ L, rp (v 0) (f 0) (f 1) L → rp (v44 0) (f44 0) (f44 1) L := fun L h => rp_fr h (by omega) hr44_0 hr44_1
            refine And.intro (Exists.intro _ md_o) (Exists.intro _ (Exists.intro _ (Exists.intro _ (Exists.intro _ (And.intro (F_X11_laysFrom D v44 f44 hv44 hf44 x1 m46 (by omega) (by omega) (by omega) (by omega)) (And.intro rfl (fun r9 A9 h9 => ?_)))))))
            obtain ⟨v48, f48, rfl, rfl, hv48, hf48, hx48, hg48_0, hg48_1, by47⟩ := h9
            refine pq_id0 ?_
            have hw48 : f48 2 = f 2 := hx48.trans hw44
            have hr48_0 : f48 0 = f 0 := hg48_0.trans hr44_0
            have hr48_1 : f48 1 = f 1 := hg48_1.trans hr44_1
            have hu49 := hv48
            unfold md_V at hu49
            clear hu45
            have hb_132 := by47.2
            have sq48 : (v48 0).toInt = (v 0).toInt ∧ (v48 1).toInt = (v33 1).toInt ∧ (v48 3).toInt = (v 3).toInt ∧ (v48 4).toInt = (v 4).toInt ∧ (v48 6).toInt = (v 6).toInt := by omega
            have sp48 := by47.1.2.2.2.2.2
            clear by47
            refine pq_aload_n0 (pq_iload9 (pq_iconst (pq_iadd ?_)))
            intro m50 em_139
            try have e50 : m50.toInt = (x4).toInt + (1) := by rw [em_139]; exact pm_addc _ _ (1) rfl (by omega) (by omega)
            refine pq_aload_n0 (qgm_many (pq_iv2_11 ?_))
            have hp_144 : ∀ L, rp (v 0) (f 0) (f 1) L → rp (v48 0) (f48 0) (f48 1) L := fun L h => rp_fr h (by omega) hr48_0 hr48_1
            refine And.intro (Exists.intro _ md_o) (Exists.intro _ (Exists.intro _ (Exists.intro _ (Exists.intro _ (And.intro (F_X11_laysFrom D v48 f48 hv48 hf48 m50 (v48 0) (by omega) (by omega) (by omega) (by omega)) (And.intro rfl (fun r9 A9 h9 => ?_)))))))
            obtain ⟨v52, f52, rfl, rfl, hv52, hf52, hx52, hg52_0, hg52_1, by51⟩ := h9
            refine pq_id0 ?_
            have hw52 : f52 2 = f 2 := hx52.trans hw48
            have hr52_0 : f52 0 = f 0 := hg52_0.trans hr48_0
            have hr52_1 : f52 1 = f 1 := hg52_1.trans hr48_1
            have hu53 := hv52
            unfold md_V at hu53
            clear hu49
            have hb_144 := by51.2
            have sq52 : (v52 0).toInt = (v 0).toInt ∧ (v52 1).toInt = (v33 1).toInt ∧ (v52 3).toInt = (v 3).toInt ∧ (v52 4).toInt = (v 4).toInt ∧ (v52 6).toInt = (v 6).toInt := by omega
            have sp52 := by51.1.2.2.2.2.2
            clear by51
            refine pq_aload_n0 (pq_iv0_11 ?_)
            refine And.intro (Exists.intro _ md_o) (Exists.intro _ (Exists.intro _ (Exists.intro _ (Exists.intro _ (And.intro (F_X11_ends D v52 f52 hv52 hf52  (by omega)) (And.intro rfl (fun r9 A9 h9 => ?_)))))))
            obtain ⟨y54, v55, f55, rfl, rfl, hv55, hf55, hx55, by54⟩ := h9
            refine pq_id1 ?_
            have hw55 : f55 2 = f 2 := hx55.trans hw52
            have hu56 := hv55
            unfold md_V at hu56
            clear hu53
            have hb_148 := by54.2
            have sq55 : (v55 1).toInt = (v33 1).toInt ∧ (v55 2).toInt = (v52 2).toInt ∧ (v55 3).toInt = (v 3).toInt ∧ (v55 6).toInt = (v 6).toInt := by omega
            have sp55 := by54.1.2.2.2.2
            clear by54
            refine pq_iret ?_
            exact ⟨rfl, fun e9 => absurd e9 (by decide), rfl, y54, v55, f55, rfl, rfl, hv55, hf55, hw55, by first | omega | (dsimp only; omega) | trivial, by first | (intro L hL; have hl := hL.1; rw [ed_swap, if_pos (by omega), if_pos (by omega)]; have t1 := hb_102 L [] 0 x1.toInt (hp_102 L hL) rfl rfl (by omega) (by omega) (rp_0 (by omega)); have t2 := hb_112 L _ x3.toInt (x4.toInt + 1) (hp_112 L hL) (by omega) (by omega) (by omega) (by omega) t1; have t3 := hb_122 L _ (x2.toInt + 1) x3.toInt (hp_122 L hL) (by omega) (by omega) (by omega) (by omega) t2; have t4 := hb_132 L _ x1.toInt (x2.toInt + 1) (hp_132 L hL) (by omega) (by omega) (by omega) (by omega) t3; have t5 := hb_144 L _ (x4.toInt + 1) L.length (hp_144 L hL) (by omega) (by omega) (by omega) (by omega) t4; rw [List.nil_append] at t5; exact ⟨hb_148 _ t5, by show _ = _ + (1 : Int); omega, by show _ = _ + (1 : Int) * _; omega⟩) | (intro L hL; have hl := hL.1; rw [ed_swap, if_pos (by omega), if_neg (by omega)]; have t1 := hb_102 L [] 0 x3.toInt (hp_102 L hL) rfl rfl (by omega) (by omega) (rp_0 (by omega)); have t2 := hb_112 L _ x1.toInt (x2.toInt + 1) (hp_112 L hL) (by omega) (by omega) (by omega) (by omega) t1; have t3 := hb_122 L _ (x4.toInt + 1) x1.toInt (hp_122 L hL) (by omega) (by omega) (by omega) (by omega) t2; have t4 := hb_132 L _ x3.toInt (x4.toInt + 1) (hp_132 L hL) (by omega) (by omega) (by omega) (by omega) t3; have t5 := hb_144 L _ (x2.toInt + 1) L.length (hp_144 L hL) (by omega) (by omega) (by omega) (by omega) t4; rw [List.nil_append] at t5; exact ⟨hb_148 _ t5, by show _ = _ + (1 : Int); omega, by show _ = _ + (1 : Int) * _; omega⟩)⟩
        · skip
          refine pq_nil ?_
          refine hC.1 1 30 _ _ rfl _ _ _ _ _ ?_
          have km1 : (-1 : Int32).toInt = -1 := rfl
          refine pq_iconst (pq_iret ?_)
          exact ⟨rfl, fun e9 => absurd e9 (by decide), rfl, (-1 : Int32), v, f, rfl, rfl, hv, hf, rfl, by first | omega | (dsimp only; omega) | trivial, by intro L hL; have hl := hL.1; rw [ed_swap, if_neg (by omega)]; exact ⟨hL, by show _ = _ + (0 : Int); omega, by show _ = _ + (0 : Int) * _; omega⟩⟩
    · skip
      have k0 : (0 : Int32).toInt = 0 := rfl
      refine pq_id1 (pq_icond_eq ?_)
      refine And.intro (fun _ => ?_) (fun c9 => absurd c9 (by decide))
      refine hC.1 1 30 _ _ rfl _ _ _ _ _ ?_
      have km1 : (-1 : Int32).toInt = -1 := rfl
      refine pq_iconst (pq_iret ?_)
      exact ⟨rfl, fun e9 => absurd e9 (by decide), rfl, (-1 : Int32), v, f, rfl, rfl, hv, hf, rfl, by first | omega | (dsimp only; omega) | trivial, by intro L hL; have hl := hL.1; rw [ed_swap, if_neg (by omega)]; exact ⟨hL, by show _ = _ + (0 : Int); omega, by show _ = _ + (0 : Int) * _; omega⟩⟩
  · skip
    have k0 : (0 : Int32).toInt = 0 := rfl
    refine pq_id1 (pq_icond_eq ?_)
    refine And.intro (fun _ => ?_) (fun c9 => absurd c9 (by decide))
    refine hC.1 1 30 _ _ rfl _ _ _ _ _ ?_
    have km1 : (-1 : Int32).toInt = -1 := rfl
    refine pq_iconst (pq_iret ?_)
    exact ⟨rfl, fun e9 => absurd e9 (by decide), rfl, (-1 : Int32), v, f, rfl, rfl, hv, hf, rfl, by first | omega | (dsimp only; omega) | trivial, by intro L hL; have hl := hL.1; rw [ed_swap, if_neg (by omega)]; exact ⟨hL, by show _ = _ + (0 : Int); omega, by show _ = _ + (0 : Int) * _; omega⟩⟩

end
