section
section
variable {l : Launch} {g : pm_G} {A0 : pm_H} {h : Nat} {q : Nat → Nat}
set_option maxRecDepth 100000 in
set_option maxHeartbeats 2000000 in
theorem F_X11_swap (D : md_D h q) (v : Nat → Int32) (f : Nat → Nat → Int32) (hv : md_V v) (hf : md_F f) (x1 : Int32) (x2 : Int32) (x3 : Int32) (x4 : Int32) (p0 : (v 4).toInt < 100000) : pm_Mt l g 191 4 0 0 [.ref h, .int x1, .int x2, .int x3, .int x4] (md A0 g h q v f) (md_Qw A0 g h q f (fun r v2 f2 => ((v2 6).toInt = (v 6).toInt ∧ (v2 4).toInt ≤ (v 4).toInt + 1 ∧ (v 4).toInt ≤ (v2 4).toInt) ∧ (∀ L, rp (v 0) (f 0) (f 1) L → rp (v2 0) (f2 0) (f2 1) ((ed_swap L x1 x2 x3 x4).getD L) ∧ (v2 4).toInt = (v 4).toInt + edn (ed_swap L x1 x2 x3 x4) ∧ (v2 3).toInt = (v 3).toInt + edn (ed_swap L x1 x2 x3 x4) * (0)))) := by
  refine mt_X11_swap rfl (fun J hC => ?_)
  have hv9 := hv
  unfold md_V at hv9
  have rg_x1 := pm_rng x1
  have rg_x2 := pm_rng x2
  have rg_x3 := pm_rng x3
  have rg_x4 := pm_rng x4
  show J 0 [some (.ref h), some (.int x1), some (.int x2), some (.int x3), some (.int x4), none, none, none, none, none] [] (md A0 g h q v f) 0 0
  refine hC.1 0 0 _ _ rfl _ _ _ _ _ ?_
  refine pq_aload_n0 (pq_iload_n1 (pq_iload_n2 (pq_iv2_11 ?_)))
  refine And.intro (Exists.intro _ md_o) (Exists.intro _ (Exists.intro _ (Exists.intro _ (Exists.intro _ (And.intro (c_X11_isSpan D v f hv hf x1 x2 ) (And.intro rfl (fun r9 A9 h9 => ?_)))))))
  rcases h9 with ⟨y1, rfl, rfl, ⟨rfl, by1⟩ | ⟨rfl, by1⟩⟩
  · skip
    have k1 : (1 : Int32).toInt = 1 := rfl
    refine pq_id1 (pq_icond_eq ?_)
    refine And.intro (fun c9 => absurd c9 (by decide)) (fun _ => ?_)
    refine pq_aload_n0 (pq_iload_n3 (pq_iload4 (pq_iv2_11 ?_)))
    refine And.intro (Exists.intro _ md_o) (Exists.intro _ (Exists.intro _ (Exists.intro _ (Exists.intro _ (And.intro (c_X11_isSpan D v f hv hf x3 x4 ) (And.intro rfl (fun r9 A9 h9 => ?_)))))))
    rcases h9 with ⟨y2, rfl, rfl, ⟨rfl, by2⟩ | ⟨rfl, by2⟩⟩
    · skip
      refine pq_id1 (pq_icond_eq ?_)
      refine And.intro (fun c9 => absurd c9 (by decide)) (fun _ => ?_)
      refine pq_iload_n1 (pq_iload4 (pq_icmp_gt ?_))
      refine And.intro (fun c3 => ?_) (fun c3 => ?_)
      · skip
        refine hC.1 2 32 _ _ rfl _ _ _ _ _ ?_
        refine pq_iload_n1 (pq_iload_n3 (pq_icmp_ge ?_))
        refine And.intro (fun c4 => ?_) (fun c4 => ?_)
        · skip
          refine hC.1 3 41 _ _ rfl _ _ _ _ _ ?_
          have k0 : (0 : Int32).toInt = 0 := rfl
          refine pq_iconst (pq_nil ?_)
          refine hC.1 4 42 _ _ rfl _ _ _ _ _ ?_
          refine pq_istore [some (.ref h), some (.int x1), some (.int x2), some (.int x3), some (.int x4), some (.int (0 : Int32)), none, none, none, none] rfl (pq_iload5 (pq_icond_eq ?_))
          refine And.intro (fun _ => ?_) (fun c9 => absurd c9 (by decide))
          refine hC.1 5 53 _ _ rfl _ _ _ _ _ ?_
          refine pq_iload_n3 (pq_nil ?_)
          refine hC.1 6 54 _ _ rfl _ _ _ _ _ ?_
          refine pq_istore [some (.ref h), some (.int x1), some (.int x2), some (.int x3), some (.int x4), some (.int (0 : Int32)), some (.int x3), none, none, none] rfl (pq_iload5 (pq_icond_eq ?_))
          refine And.intro (fun _ => ?_) (fun c9 => absurd c9 (by decide))
          refine hC.1 7 65 _ _ rfl _ _ _ _ _ ?_
          refine pq_iload4 (pq_nil ?_)
          refine hC.1 8 67 _ _ rfl _ _ _ _ _ ?_
          refine pq_istore [some (.ref h), some (.int x1), some (.int x2), some (.int x3), some (.int x4), some (.int (0 : Int32)), some (.int x3), some (.int x4), none, none] rfl (pq_iload5 (pq_icond_eq ?_))
          refine And.intro (fun _ => ?_) (fun c9 => absurd c9 (by decide))
          refine hC.1 9 78 _ _ rfl _ _ _ _ _ ?_
          refine pq_iload_n1 (pq_nil ?_)
          refine hC.1 10 79 _ _ rfl _ _ _ _ _ ?_
          refine pq_istore [some (.ref h), some (.int x1), some (.int x2), some (.int x3), some (.int x4), some (.int (0 : Int32)), some (.int x3), some (.int x4), some (.int x1), none] rfl (pq_iload5 (pq_icond_eq ?_))
          refine And.intro (fun _ => ?_) (fun c9 => absurd c9 (by decide))
          refine hC.1 11 91 _ _ rfl _ _ _ _ _ ?_
          refine pq_iload_n2 (pq_nil ?_)
          refine hC.1 12 92 _ _ rfl _ _ _ _ _ ?_
          refine pq_istore [some (.ref h), some (.int x1), some (.int x2), some (.int x3), some (.int x4), some (.int (0 : Int32)), some (.int x3), some (.int x4), some (.int x1), some (.int x2)] rfl (pq_aload_n0 (pq_iv0_11 ?_))
          refine And.intro (Exists.intro _ md_o) (Exists.intro _ (Exists.intro _ (Exists.intro _ (Exists.intro _ (And.intro (F_X11_begins D v f hv hf  ) (And.intro rfl (fun r9 A9 h9 => ?_)))))))
          obtain ⟨v6, f6, rfl, rfl, hv6, hf6, hx6, hg6_0, hg6_1, by5⟩ := h9
          refine pq_id0 ?_
          have hw6 : f6 2 = f 2 := hx6.trans rfl
          have hr6_0 : f6 0 = f 0 := hg6_0.trans rfl
          have hr6_1 : f6 1 = f 1 := hg6_1.trans rfl
          have hu7_1 := hv6.2.1
          have hu7_2 := hv6.2.2.1
          have sq6_0 : (v6 0).toInt = (v 0).toInt := by5.1
          have sq6_3 : (v6 3).toInt = (v 3).toInt := by5.2.1
          have sq6_4 : (v6 4).toInt = (v 4).toInt := by5.2.2.1
          have sq6_6 : (v6 6).toInt = (v 6).toInt := by5.2.2.2.1
          have sp6 := by5.2.2.2.2
          clear by5
          refine pq_aload_n0 (pq_iconst (pq_iload6 (pq_iv2_11 ?_)))
          have hp_102 : ∀ L, rp (v 0) (f 0) (f 1) L → rp (v6 0) (f6 0) (f6 1) L := fun L h => rp_fr h (by omega) hr6_0 hr6_1
          refine And.intro (Exists.intro _ md_o) (Exists.intro _ (Exists.intro _ (Exists.intro _ (Exists.intro _ (And.intro (F_X11_laysFrom D v6 f6 hv6 hf6 (0 : Int32) x3 (by omega) (by omega) (by omega) (by omega)) (And.intro rfl (fun r9 A9 h9 => ?_)))))))
          obtain ⟨v9, f9, rfl, rfl, hv9, hf9, hx9, hg9_0, hg9_1, by8⟩ := h9
          refine pq_id0 ?_
          have hw9 : f9 2 = f 2 := hx9.trans hw6
          have hr9_0 : f9 0 = f 0 := hg9_0.trans hr6_0
          have hr9_1 : f9 1 = f 1 := hg9_1.trans hr6_1
          have hu10_2 := hv9.2.2.1
          have hb_102 := by8.2
          have sq9_0 : (v9 0).toInt = (v 0).toInt := by8.1.1.trans sq6_0
          have sq9_1 : (v9 1).toInt = (v6 1).toInt := by8.1.2.1
          have sq9_3 : (v9 3).toInt = (v 3).toInt := by8.1.2.2.1.trans sq6_3
          have sq9_4 : (v9 4).toInt = (v 4).toInt := by8.1.2.2.2.1.trans sq6_4
          have sq9_6 : (v9 6).toInt = (v 6).toInt := by8.1.2.2.2.2.1.trans sq6_6
          have sp9 := by8.1.2.2.2.2.2
          clear by8
          refine pq_aload_n0 (pq_iload8 (pq_iload9 (pq_iconst (pq_iadd ?_))))
          intro m11 em_111
          try have e11 : m11.toInt = (x2).toInt + (1) := by rw [em_111]; exact pm_addc _ _ (1) rfl (by omega) (by omega)
          refine pq_iv2_11 ?_
          have hp_112 : ∀ L, rp (v 0) (f 0) (f 1) L → rp (v9 0) (f9 0) (f9 1) L := fun L h => rp_fr h (by omega) hr9_0 hr9_1
          refine And.intro (Exists.intro _ md_o) (Exists.intro _ (Exists.intro _ (Exists.intro _ (Exists.intro _ (And.intro (F_X11_laysFrom D v9 f9 hv9 hf9 x1 m11 (by omega) (by omega) (by omega) (by omega)) (And.intro rfl (fun r9 A9 h9 => ?_)))))))
          obtain ⟨v13, f13, rfl, rfl, hv13, hf13, hx13, hg13_0, hg13_1, by12⟩ := h9
          refine pq_id0 ?_
          have hw13 : f13 2 = f 2 := hx13.trans hw9
          have hr13_0 : f13 0 = f 0 := hg13_0.trans hr9_0
          have hr13_1 : f13 1 = f 1 := hg13_1.trans hr9_1
          have hu14_2 := hv13.2.2.1
          have hb_112 := by12.2
          have sq13_0 : (v13 0).toInt = (v 0).toInt := by12.1.1.trans sq9_0
          have sq13_1 : (v13 1).toInt = (v6 1).toInt := by12.1.2.1.trans sq9_1
          have sq13_3 : (v13 3).toInt = (v 3).toInt := by12.1.2.2.1.trans sq9_3
          have sq13_4 : (v13 4).toInt = (v 4).toInt := by12.1.2.2.2.1.trans sq9_4
          have sq13_6 : (v13 6).toInt = (v 6).toInt := by12.1.2.2.2.2.1.trans sq9_6
          have sp13 := by12.1.2.2.2.2.2
          clear by12
          refine pq_aload_n0 (pq_iload7 (pq_iconst (pq_iadd ?_)))
          intro m15 em_119
          try have e15 : m15.toInt = (x4).toInt + (1) := by rw [em_119]; exact pm_addc _ _ (1) rfl (by omega) (by omega)
          refine pq_iload8 (pq_iv2_11 ?_)
          have hp_122 : ∀ L, rp (v 0) (f 0) (f 1) L → rp (v13 0) (f13 0) (f13 1) L := fun L h => rp_fr h (by omega) hr13_0 hr13_1
          refine And.intro (Exists.intro _ md_o) (Exists.intro _ (Exists.intro _ (Exists.intro _ (Exists.intro _ (And.intro (F_X11_laysFrom D v13 f13 hv13 hf13 m15 x1 (by omega) (by omega) (by omega) (by omega)) (And.intro rfl (fun r9 A9 h9 => ?_)))))))
          obtain ⟨v17, f17, rfl, rfl, hv17, hf17, hx17, hg17_0, hg17_1, by16⟩ := h9
          refine pq_id0 ?_
          have hw17 : f17 2 = f 2 := hx17.trans hw13
          have hr17_0 : f17 0 = f 0 := hg17_0.trans hr13_0
          have hr17_1 : f17 1 = f 1 := hg17_1.trans hr13_1
          have hu18_2 := hv17.2.2.1
          have hb_122 := by16.2
          have sq17_0 : (v17 0).toInt = (v 0).toInt := by16.1.1.trans sq13_0
          have sq17_1 : (v17 1).toInt = (v6 1).toInt := by16.1.2.1.trans sq13_1
          have sq17_3 : (v17 3).toInt = (v 3).toInt := by16.1.2.2.1.trans sq13_3
          have sq17_4 : (v17 4).toInt = (v 4).toInt := by16.1.2.2.2.1.trans sq13_4
          have sq17_6 : (v17 6).toInt = (v 6).toInt := by16.1.2.2.2.2.1.trans sq13_6
          have sp17 := by16.1.2.2.2.2.2
          clear by16
          refine pq_aload_n0 (pq_iload6 (pq_iload7 (pq_iconst (pq_iadd ?_))))
          intro m19 em_131
          try have e19 : m19.toInt = (x4).toInt + (1) := by rw [em_131]; exact pm_addc _ _ (1) rfl (by omega) (by omega)
          refine pq_iv2_11 ?_
          have hp_132 : ∀ L, rp (v 0) (f 0) (f 1) L → rp (v17 0) (f17 0) (f17 1) L := fun L h => rp_fr h (by omega) hr17_0 hr17_1
          refine And.intro (Exists.intro _ md_o) (Exists.intro _ (Exists.intro _ (Exists.intro _ (Exists.intro _ (And.intro (F_X11_laysFrom D v17 f17 hv17 hf17 x3 m19 (by omega) (by omega) (by omega) (by omega)) (And.intro rfl (fun r9 A9 h9 => ?_)))))))
          obtain ⟨v21, f21, rfl, rfl, hv21, hf21, hx21, hg21_0, hg21_1, by20⟩ := h9
          refine pq_id0 ?_
          have hw21 : f21 2 = f 2 := hx21.trans hw17
          have hr21_0 : f21 0 = f 0 := hg21_0.trans hr17_0
          have hr21_1 : f21 1 = f 1 := hg21_1.trans hr17_1
          have hu22_2 := hv21.2.2.1
          have hb_132 := by20.2
          have sq21_0 : (v21 0).toInt = (v 0).toInt := by20.1.1.trans sq17_0
          have sq21_1 : (v21 1).toInt = (v6 1).toInt := by20.1.2.1.trans sq17_1
          have sq21_3 : (v21 3).toInt = (v 3).toInt := by20.1.2.2.1.trans sq17_3
          have sq21_4 : (v21 4).toInt = (v 4).toInt := by20.1.2.2.2.1.trans sq17_4
          have sq21_6 : (v21 6).toInt = (v 6).toInt := by20.1.2.2.2.2.1.trans sq17_6
          have sp21 := by20.1.2.2.2.2.2
          clear by20
          refine pq_aload_n0 (pq_iload9 (pq_iconst (pq_iadd ?_)))
          intro m23 em_139
          try have e23 : m23.toInt = (x2).toInt + (1) := by rw [em_139]; exact pm_addc _ _ (1) rfl (by omega) (by omega)
          refine pq_aload_n0 (qgm_many (pq_iv2_11 ?_))
          have hp_144 : ∀ L, rp (v 0) (f 0) (f 1) L → rp (v21 0) (f21 0) (f21 1) L := fun L h => rp_fr h (by omega) hr21_0 hr21_1
          refine And.intro (Exists.intro _ md_o) (Exists.intro _ (Exists.intro _ (Exists.intro _ (Exists.intro _ (And.intro (F_X11_laysFrom D v21 f21 hv21 hf21 m23 (v21 0) (by omega) (by omega) (by omega) (by omega)) (And.intro rfl (fun r9 A9 h9 => ?_)))))))
          obtain ⟨v25, f25, rfl, rfl, hv25, hf25, hx25, hg25_0, hg25_1, by24⟩ := h9
          refine pq_id0 ?_
          have hw25 : f25 2 = f 2 := hx25.trans hw21
          have hr25_0 : f25 0 = f 0 := hg25_0.trans hr21_0
          have hr25_1 : f25 1 = f 1 := hg25_1.trans hr21_1
          have hu26_2 := hv25.2.2.1
          have hb_144 := by24.2
          have sq25_0 : (v25 0).toInt = (v 0).toInt := by24.1.1.trans sq21_0
          have sq25_1 : (v25 1).toInt = (v6 1).toInt := by24.1.2.1.trans sq21_1
          have sq25_3 : (v25 3).toInt = (v 3).toInt := by24.1.2.2.1.trans sq21_3
          have sq25_4 : (v25 4).toInt = (v 4).toInt := by24.1.2.2.2.1.trans sq21_4
          have sq25_6 : (v25 6).toInt = (v 6).toInt := by24.1.2.2.2.2.1.trans sq21_6
          have sp25 := by24.1.2.2.2.2.2
          clear by24
          refine pq_aload_n0 (pq_iv0_11 ?_)
          refine And.intro (Exists.intro _ md_o) (Exists.intro _ (Exists.intro _ (Exists.intro _ (Exists.intro _ (And.intro (F_X11_ends D v25 f25 hv25 hf25  (by omega)) (And.intro rfl (fun r9 A9 h9 => ?_)))))))
          obtain ⟨y27, v28, f28, rfl, rfl, hv28, hf28, hx28, by27⟩ := h9
          refine pq_id1 ?_
          have hw28 : f28 2 = f 2 := hx28.trans hw25
          have hu29_0 := hv28.1
          have hu29_4 := hv28.2.2.2.2.1
          have hb_148 := by27.2
          have sq28_1 : (v28 1).toInt = (v6 1).toInt := by27.1.1.trans sq25_1
          have sq28_2 : (v28 2).toInt = (v25 2).toInt := by27.1.2.1
          have sq28_3 : (v28 3).toInt = (v 3).toInt := by27.1.2.2.1.trans sq25_3
          have sq28_6 : (v28 6).toInt = (v 6).toInt := by27.1.2.2.2.1.trans sq25_6
          have sp28 := by27.1.2.2.2.2
          clear by27
          refine pq_iret ?_
          exact ⟨rfl, fun e9 => absurd e9 (by decide), rfl, y27, v28, f28, rfl, rfl, hv28, hf28, hw28, by first | omega | (dsimp only; omega) | trivial, by first | (intro L hL; have hl := hL.1; rw [ed_swap, if_pos (by omega), if_pos (by omega)]; have t1 := hb_102 L [] 0 x1.toInt (hp_102 L hL) rfl rfl (by omega) (by omega) (rp_0 (by omega)); have t2 := hb_112 L _ x3.toInt (x4.toInt + 1) (hp_112 L hL) (by omega) (by omega) (by omega) (by omega) t1; have t3 := hb_122 L _ (x2.toInt + 1) x3.toInt (hp_122 L hL) (by omega) (by omega) (by omega) (by omega) t2; have t4 := hb_132 L _ x1.toInt (x2.toInt + 1) (hp_132 L hL) (by omega) (by omega) (by omega) (by omega) t3; have t5 := hb_144 L _ (x4.toInt + 1) L.length (hp_144 L hL) (by omega) (by omega) (by omega) (by omega) t4; rw [List.nil_append] at t5; exact ⟨hb_148 _ t5, by show _ = _ + (1 : Int); omega, by show _ = _ + (1 : Int) * _; omega⟩) | (intro L hL; have hl := hL.1; rw [ed_swap, if_pos (by omega), if_neg (by omega)]; have t1 := hb_102 L [] 0 x3.toInt (hp_102 L hL) rfl rfl (by omega) (by omega) (rp_0 (by omega)); have t2 := hb_112 L _ x1.toInt (x2.toInt + 1) (hp_112 L hL) (by omega) (by omega) (by omega) (by omega) t1; have t3 := hb_122 L _ (x4.toInt + 1) x1.toInt (hp_122 L hL) (by omega) (by omega) (by omega) (by omega) t2; have t4 := hb_132 L _ x3.toInt (x4.toInt + 1) (hp_132 L hL) (by omega) (by omega) (by omega) (by omega) t3; have t5 := hb_144 L _ (x2.toInt + 1) L.length (hp_144 L hL) (by omega) (by omega) (by omega) (by omega) t4; rw [List.nil_append] at t5; exact ⟨hb_148 _ t5, by show _ = _ + (1 : Int); omega, by show _ = _ + (1 : Int) * _; omega⟩)⟩
        · skip
          exfalso
          omega
      · skip
        refine pq_iload_n3 (pq_iload_n2 (pq_icmp_gt ?_))
        refine And.intro (fun c30 => ?_) (fun c30 => ?_)
        · skip
          refine hC.1 2 32 _ _ rfl _ _ _ _ _ ?_
          refine pq_iload_n1 (pq_iload_n3 (pq_icmp_ge ?_))
          refine And.intro (fun c31 => ?_) (fun c31 => ?_)
          · skip
            exfalso
            omega
          · skip
            refine pq_iconst (pq_goto ?_)
            refine hC.1 4 42 _ _ rfl _ _ _ _ _ ?_
            refine pq_istore [some (.ref h), some (.int x1), some (.int x2), some (.int x3), some (.int x4), some (.int (1 : Int32)), none, none, none, none] rfl (pq_iload5 (pq_icond_eq ?_))
            refine And.intro (fun c9 => absurd c9 (by decide)) (fun _ => ?_)
            refine pq_iload_n1 (pq_goto ?_)
            refine hC.1 6 54 _ _ rfl _ _ _ _ _ ?_
            refine pq_istore [some (.ref h), some (.int x1), some (.int x2), some (.int x3), some (.int x4), some (.int (1 : Int32)), some (.int x1), none, none, none] rfl (pq_iload5 (pq_icond_eq ?_))
            refine And.intro (fun c9 => absurd c9 (by decide)) (fun _ => ?_)
            refine pq_iload_n2 (pq_goto ?_)
            refine hC.1 8 67 _ _ rfl _ _ _ _ _ ?_
            refine pq_istore [some (.ref h), some (.int x1), some (.int x2), some (.int x3), some (.int x4), some (.int (1 : Int32)), some (.int x1), some (.int x2), none, none] rfl (pq_iload5 (pq_icond_eq ?_))
            refine And.intro (fun c9 => absurd c9 (by decide)) (fun _ => ?_)
            refine pq_iload_n3 (pq_goto ?_)
            refine hC.1 10 79 _ _ rfl _ _ _ _ _ ?_
            refine pq_istore [some (.ref h), some (.int x1), some (.int x2), some (.int x3), some (.int x4), some (.int (1 : Int32)), some (.int x1), some (.int x2), some (.int x3), none] rfl (pq_iload5 (pq_icond_eq ?_))
            refine And.intro (fun c9 => absurd c9 (by decide)) (fun _ => ?_)
            refine pq_iload4 (pq_goto ?_)
            refine hC.1 12 92 _ _ rfl _ _ _ _ _ ?_
            refine pq_istore [some (.ref h), some (.int x1), some (.int x2), some (.int x3), some (.int x4), some (.int (1 : Int32)), some (.int x1), some (.int x2), some (.int x3), some (.int x4)] rfl (pq_aload_n0 (pq_iv0_11 ?_))
            refine And.intro (Exists.intro _ md_o) (Exists.intro _ (Exists.intro _ (Exists.intro _ (Exists.intro _ (And.intro (F_X11_begins D v f hv hf  ) (And.intro rfl (fun r9 A9 h9 => ?_)))))))
            obtain ⟨v33, f33, rfl, rfl, hv33, hf33, hx33, hg33_0, hg33_1, by32⟩ := h9
            refine pq_id0 ?_
            have hw33 : f33 2 = f 2 := hx33.trans rfl
            have hr33_0 : f33 0 = f 0 := hg33_0.trans rfl
            have hr33_1 : f33 1 = f 1 := hg33_1.trans rfl
            have hu34_1 := hv33.2.1
            have hu34_2 := hv33.2.2.1
            have sq33_0 : (v33 0).toInt = (v 0).toInt := by32.1
            have sq33_3 : (v33 3).toInt = (v 3).toInt := by32.2.1
            have sq33_4 : (v33 4).toInt = (v 4).toInt := by32.2.2.1
            have sq33_6 : (v33 6).toInt = (v 6).toInt := by32.2.2.2.1
            have sp33 := by32.2.2.2.2
            clear by32
            refine pq_aload_n0 ?_
            have k0 : (0 : Int32).toInt = 0 := rfl
            refine pq_iconst (pq_iload6 (pq_iv2_11 ?_))
            have hp_102 : ∀ L, rp (v 0) (f 0) (f 1) L → rp (v33 0) (f33 0) (f33 1) L := fun L h => rp_fr h (by omega) hr33_0 hr33_1
            refine And.intro (Exists.intro _ md_o) (Exists.intro _ (Exists.intro _ (Exists.intro _ (Exists.intro _ (And.intro (F_X11_laysFrom D v33 f33 hv33 hf33 (0 : Int32) x1 (by omega) (by omega) (by omega) (by omega)) (And.intro rfl (fun r9 A9 h9 => ?_)))))))
            obtain ⟨v36, f36, rfl, rfl, hv36, hf36, hx36, hg36_0, hg36_1, by35⟩ := h9
            refine pq_id0 ?_
            have hw36 : f36 2 = f 2 := hx36.trans hw33
            have hr36_0 : f36 0 = f 0 := hg36_0.trans hr33_0
            have hr36_1 : f36 1 = f 1 := hg36_1.trans hr33_1
            have hu37_2 := hv36.2.2.1
            have hb_102 := by35.2
            have sq36_0 : (v36 0).toInt = (v 0).toInt := by35.1.1.trans sq33_0
            have sq36_1 : (v36 1).toInt = (v33 1).toInt := by35.1.2.1
            have sq36_3 : (v36 3).toInt = (v 3).toInt := by35.1.2.2.1.trans sq33_3
            have sq36_4 : (v36 4).toInt = (v 4).toInt := by35.1.2.2.2.1.trans sq33_4
            have sq36_6 : (v36 6).toInt = (v 6).toInt := by35.1.2.2.2.2.1.trans sq33_6
            have sp36 := by35.1.2.2.2.2.2
            clear by35
            refine pq_aload_n0 (pq_iload8 (pq_iload9 (pq_iconst (pq_iadd ?_))))
            intro m38 em_111
            try have e38 : m38.toInt = (x4).toInt + (1) := by rw [em_111]; exact pm_addc _ _ (1) rfl (by omega) (by omega)
            refine pq_iv2_11 ?_
            have hp_112 : ∀ L, rp (v 0) (f 0) (f 1) L → rp (v36 0) (f36 0) (f36 1) L := fun L h => rp_fr h (by omega) hr36_0 hr36_1
            refine And.intro (Exists.intro _ md_o) (Exists.intro _ (Exists.intro _ (Exists.intro _ (Exists.intro _ (And.intro (F_X11_laysFrom D v36 f36 hv36 hf36 x3 m38 (by omega) (by omega) (by omega) (by omega)) (And.intro rfl (fun r9 A9 h9 => ?_)))))))
            obtain ⟨v40, f40, rfl, rfl, hv40, hf40, hx40, hg40_0, hg40_1, by39⟩ := h9
            refine pq_id0 ?_
            have hw40 : f40 2 = f 2 := hx40.trans hw36
            have hr40_0 : f40 0 = f 0 := hg40_0.trans hr36_0
            have hr40_1 : f40 1 = f 1 := hg40_1.trans hr36_1
            have hu41_2 := hv40.2.2.1
            have hb_112 := by39.2
            have sq40_0 : (v40 0).toInt = (v 0).toInt := by39.1.1.trans sq36_0
            have sq40_1 : (v40 1).toInt = (v33 1).toInt := by39.1.2.1.trans sq36_1
            have sq40_3 : (v40 3).toInt = (v 3).toInt := by39.1.2.2.1.trans sq36_3
            have sq40_4 : (v40 4).toInt = (v 4).toInt := by39.1.2.2.2.1.trans sq36_4
            have sq40_6 : (v40 6).toInt = (v 6).toInt := by39.1.2.2.2.2.1.trans sq36_6
            have sp40 := by39.1.2.2.2.2.2
            clear by39
            refine pq_aload_n0 (pq_iload7 (pq_iconst (pq_iadd ?_)))
            intro m42 em_119
            try have e42 : m42.toInt = (x2).toInt + (1) := by rw [em_119]; exact pm_addc _ _ (1) rfl (by omega) (by omega)
            refine pq_iload8 (pq_iv2_11 ?_)
            have hp_122 : ∀ L, rp (v 0) (f 0) (f 1) L → rp (v40 0) (f40 0) (f40 1) L := fun L h => rp_fr h (by omega) hr40_0 hr40_1
            refine And.intro (Exists.intro _ md_o) (Exists.intro _ (Exists.intro _ (Exists.intro _ (Exists.intro _ (And.intro (F_X11_laysFrom D v40 f40 hv40 hf40 m42 x3 (by omega) (by omega) (by omega) (by omega)) (And.intro rfl (fun r9 A9 h9 => ?_)))))))
            obtain ⟨v44, f44, rfl, rfl, hv44, hf44, hx44, hg44_0, hg44_1, by43⟩ := h9
            refine pq_id0 ?_
            have hw44 : f44 2 = f 2 := hx44.trans hw40
            have hr44_0 : f44 0 = f 0 := hg44_0.trans hr40_0
            have hr44_1 : f44 1 = f 1 := hg44_1.trans hr40_1
            have hu45_2 := hv44.2.2.1
            have hb_122 := by43.2
            have sq44_0 : (v44 0).toInt = (v 0).toInt := by43.1.1.trans sq40_0
            have sq44_1 : (v44 1).toInt = (v33 1).toInt := by43.1.2.1.trans sq40_1
            have sq44_3 : (v44 3).toInt = (v 3).toInt := by43.1.2.2.1.trans sq40_3
            have sq44_4 : (v44 4).toInt = (v 4).toInt := by43.1.2.2.2.1.trans sq40_4
            have sq44_6 : (v44 6).toInt = (v 6).toInt := by43.1.2.2.2.2.1.trans sq40_6
            have sp44 := by43.1.2.2.2.2.2
            clear by43
            refine pq_aload_n0 (pq_iload6 (pq_iload7 (pq_iconst (pq_iadd ?_))))
            intro m46 em_131
            try have e46 : m46.toInt = (x2).toInt + (1) := by rw [em_131]; exact pm_addc _ _ (1) rfl (by omega) (by omega)
            refine pq_iv2_11 ?_
            have hp_132 : ∀ L, rp (v 0) (f 0) (f 1) L → rp (v44 0) (f44 0) (f44 1) L := fun L h => rp_fr h (by omega) hr44_0 hr44_1
            refine And.intro (Exists.intro _ md_o) (Exists.intro _ (Exists.intro _ (Exists.intro _ (Exists.intro _ (And.intro (F_X11_laysFrom D v44 f44 hv44 hf44 x1 m46 (by omega) (by omega) (by omega) (by omega)) (And.intro rfl (fun r9 A9 h9 => ?_)))))))
            obtain ⟨v48, f48, rfl, rfl, hv48, hf48, hx48, hg48_0, hg48_1, by47⟩ := h9
            refine pq_id0 ?_
            have hw48 : f48 2 = f 2 := hx48.trans hw44
            have hr48_0 : f48 0 = f 0 := hg48_0.trans hr44_0
            have hr48_1 : f48 1 = f 1 := hg48_1.trans hr44_1
            have hu49_2 := hv48.2.2.1
            have hb_132 := by47.2
            have sq48_0 : (v48 0).toInt = (v 0).toInt := by47.1.1.trans sq44_0
            have sq48_1 : (v48 1).toInt = (v33 1).toInt := by47.1.2.1.trans sq44_1
            have sq48_3 : (v48 3).toInt = (v 3).toInt := by47.1.2.2.1.trans sq44_3
            have sq48_4 : (v48 4).toInt = (v 4).toInt := by47.1.2.2.2.1.trans sq44_4
            have sq48_6 : (v48 6).toInt = (v 6).toInt := by47.1.2.2.2.2.1.trans sq44_6
            have sp48 := by47.1.2.2.2.2.2
            clear by47
            refine pq_aload_n0 (pq_iload9 (pq_iconst (pq_iadd ?_)))
            intro m50 em_139
            try have e50 : m50.toInt = (x4).toInt + (1) := by rw [em_139]; exact pm_addc _ _ (1) rfl (by omega) (by omega)
            refine pq_aload_n0 (qgm_many (pq_iv2_11 ?_))
            have hp_144 : ∀ L, rp (v 0) (f 0) (f 1) L → rp (v48 0) (f48 0) (f48 1) L := fun L h => rp_fr h (by omega) hr48_0 hr48_1
            refine And.intro (Exists.intro _ md_o) (Exists.intro _ (Exists.intro _ (Exists.intro _ (Exists.intro _ (And.intro (F_X11_laysFrom D v48 f48 hv48 hf48 m50 (v48 0) (by omega) (by omega) (by omega) (by omega)) (And.intro rfl (fun r9 A9 h9 => ?_)))))))
            obtain ⟨v52, f52, rfl, rfl, hv52, hf52, hx52, hg52_0, hg52_1, by51⟩ := h9
            refine pq_id0 ?_
            have hw52 : f52 2 = f 2 := hx52.trans hw48
            have hr52_0 : f52 0 = f 0 := hg52_0.trans hr48_0
            have hr52_1 : f52 1 = f 1 := hg52_1.trans hr48_1
            have hu53_2 := hv52.2.2.1
            have hb_144 := by51.2
            have sq52_0 : (v52 0).toInt = (v 0).toInt := by51.1.1.trans sq48_0
            have sq52_1 : (v52 1).toInt = (v33 1).toInt := by51.1.2.1.trans sq48_1
            have sq52_3 : (v52 3).toInt = (v 3).toInt := by51.1.2.2.1.trans sq48_3
            have sq52_4 : (v52 4).toInt = (v 4).toInt := by51.1.2.2.2.1.trans sq48_4
            have sq52_6 : (v52 6).toInt = (v 6).toInt := by51.1.2.2.2.2.1.trans sq48_6
            have sp52 := by51.1.2.2.2.2.2
            clear by51
            refine pq_aload_n0 (pq_iv0_11 ?_)
            refine And.intro (Exists.intro _ md_o) (Exists.intro _ (Exists.intro _ (Exists.intro _ (Exists.intro _ (And.intro (F_X11_ends D v52 f52 hv52 hf52  (by omega)) (And.intro rfl (fun r9 A9 h9 => ?_)))))))
            obtain ⟨y54, v55, f55, rfl, rfl, hv55, hf55, hx55, by54⟩ := h9
            refine pq_id1 ?_
            have hw55 : f55 2 = f 2 := hx55.trans hw52
            have hu56_0 := hv55.1
            have hu56_4 := hv55.2.2.2.2.1
            have hb_148 := by54.2
            have sq55_1 : (v55 1).toInt = (v33 1).toInt := by54.1.1.trans sq52_1
            have sq55_2 : (v55 2).toInt = (v52 2).toInt := by54.1.2.1
            have sq55_3 : (v55 3).toInt = (v 3).toInt := by54.1.2.2.1.trans sq52_3
            have sq55_6 : (v55 6).toInt = (v 6).toInt := by54.1.2.2.2.1.trans sq52_6
            have sp55 := by54.1.2.2.2.2
            clear by54
            refine pq_iret ?_
            exact ⟨rfl, fun e9 => absurd e9 (by decide), rfl, y54, v55, f55, rfl, rfl, hv55, hf55, hw55, by first | omega | (dsimp only; omega) | trivial, by first | (intro L hL; have hl := hL.1; rw [ed_swap, if_pos (by omega), if_pos (by omega)]; have t1 := hb_102 L [] 0 x1.toInt (hp_102 L hL) rfl rfl (by omega) (by omega) (rp_0 (by omega)); have t2 := hb_112 L _ x3.toInt (x4.toInt + 1) (hp_112 L hL) (by omega) (by omega) (by omega) (by omega) t1; have t3 := hb_122 L _ (x2.toInt + 1) x3.toInt (hp_122 L hL) (by omega) (by omega) (by omega) (by omega) t2; have t4 := hb_132 L _ x1.toInt (x2.toInt + 1) (hp_132 L hL) (by omega) (by omega) (by omega) (by omega) t3; have t5 := hb_144 L _ (x4.toInt + 1) L.length (hp_144 L hL) (by omega) (by omega) (by omega) (by omega) t4; rw [List.nil_append] at t5; exact ⟨hb_148 _ t5, by show _ = _ + (1 : Int); omega, by show _ = _ + (1 : Int) * _; omega⟩) | (intro L hL; have hl := hL.1; rw [ed_swap, if_pos (by omega), if_neg (by omega)]; have t1 := hb_102 L [] 0 x3.toInt (hp_102 L hL) rfl rfl (by omega) (by omega) (rp_0 (by omega)); have t2 := hb_112 L _ x1.toInt (x2.toInt + 1) (hp_112 L hL) (by omega) (by omega) (by omega) (by omega) t1; have t3 := hb_122 L _ (x4.toInt + 1) x1.toInt (hp_122 L hL) (by omega) (by omega) (by omega) (by omega) t2; have t4 := hb_132 L _ x3.toInt (x4.toInt + 1) (hp_132 L hL) (by omega) (by omega) (by omega) (by omega) t3; have t5 := hb_144 L _ (x2.toInt + 1) L.length (hp_144 L hL) (by omega) (by omega) (by omega) (by omega) t4; rw [List.nil_append] at t5; exact ⟨hb_148 _ t5, by show _ = _ + (1 : Int); omega, by show _ = _ + (1 : Int) * _; omega⟩)⟩
        · skip
          refine pq_nil ?_
          refine hC.1 1 30 _ _ rfl _ _ _ _ _ ?_
          have km1 : (-1 : Int32).toInt = -1 := rfl
          refine pq_iconst (pq_iret ?_)
          exact ⟨rfl, fun e9 => absurd e9 (by decide), rfl, (-1 : Int32), v, f, rfl, rfl, hv, hf, rfl, by first | omega | (dsimp only; omega) | trivial, by intro L hL; have hl := hL.1; rw [ed_swap, if_neg (by omega)]; exact ⟨hL, by show _ = _ + (0 : Int); omega, by show _ = _ + (0 : Int) * _; omega⟩⟩
    · skip
      have k0 : (0 : Int32).toInt = 0 := rfl
      refine pq_id1 (pq_icond_eq ?_)
      refine And.intro (fun _ => ?_) (fun c9 => absurd c9 (by decide))
      refine hC.1 1 30 _ _ rfl _ _ _ _ _ ?_
      have km1 : (-1 : Int32).toInt = -1 := rfl
      refine pq_iconst (pq_iret ?_)
      exact ⟨rfl, fun e9 => absurd e9 (by decide), rfl, (-1 : Int32), v, f, rfl, rfl, hv, hf, rfl, by first | omega | (dsimp only; omega) | trivial, by intro L hL; have hl := hL.1; rw [ed_swap, if_neg (by omega)]; exact ⟨hL, by show _ = _ + (0 : Int); omega, by show _ = _ + (0 : Int) * _; omega⟩⟩
  · skip
    have k0 : (0 : Int32).toInt = 0 := rfl
    refine pq_id1 (pq_icond_eq ?_)
    refine And.intro (fun _ => ?_) (fun c9 => absurd c9 (by decide))
    refine hC.1 1 30 _ _ rfl _ _ _ _ _ ?_
    have km1 : (-1 : Int32).toInt = -1 := rfl
    refine pq_iconst (pq_iret ?_)
    exact ⟨rfl, fun e9 => absurd e9 (by decide), rfl, (-1 : Int32), v, f, rfl, rfl, hv, hf, rfl, by first | omega | (dsimp only; omega) | trivial, by intro L hL; have hl := hL.1; rw [ed_swap, if_neg (by omega)]; exact ⟨hL, by show _ = _ + (0 : Int); omega, by show _ = _ + (0 : Int) * _; omega⟩⟩

end
end
section
section
variable {l : Launch} {g : pm_G} {A0 : pm_H} {h : Nat} {q : Nat → Nat}
set_option maxRecDepth 100000 in
set_option maxHeartbeats 2000000 in
theorem F_X11_copy (D : md_D h q) (v : Nat → Int32) (f : Nat → Nat → Int32) (hv : md_V v) (hf : md_F f) (x1 : Int32) (x2 : Int32) (x3 : Int32) (p0 : (v 4).toInt < 100000) : pm_Mt l g 192 4 0 0 [.ref h, .int x1, .int x2, .int x3] (md A0 g h q v f) (md_Qw A0 g h q f (fun r v2 f2 => ((v2 6).toInt = (v 6).toInt ∧ (v2 4).toInt ≤ (v 4).toInt + 1 ∧ (v 4).toInt ≤ (v2 4).toInt) ∧ (∀ L, rp (v 0) (f 0) (f 1) L → rp (v2 0) (f2 0) (f2 1) ((ed_copy L (v 3) x1 x2 x3).getD L) ∧ (v2 4).toInt = (v 4).toInt + edn (ed_copy L (v 3) x1 x2 x3) ∧ (v2 3).toInt = (v 3).toInt + edn (ed_copy L (v 3) x1 x2 x3) * (x2.toInt - x1.toInt + 1)))) := by
  refine mt_X11_copy rfl (fun J hC => ?_)
  have hv9 := hv
  unfold md_V at hv9
  have rg_x1 := pm_rng x1
  have rg_x2 := pm_rng x2
  have rg_x3 := pm_rng x3
  refine hC.1 0 0 _ _ rfl _ _ _ _ _ ?_
  refine And.intro (Exists.intro _ md_o) (Exists.intro _ (Exists.intro _ (Exists.intro _ (Exists.intro _ (And.intro (c_X11_isSpan D v f hv hf x1 x2 ) (And.intro rfl (fun r9 A9 h9 => ?_)))))))
  rcases h9 with ⟨y1, rfl, rfl, ⟨rfl, by1⟩ | ⟨rfl, by1⟩⟩
  · skip
    have k1 : (1 : Int32).toInt = 1 := rfl
    refine And.intro (fun c9 => absurd c9 (by decide)) (fun _ => ?_)
    have k0 : (0 : Int32).toInt = 0 := rfl
    refine Exists.intro _ (And.intro md_o ?_)
    refine Exists.intro _ (Exists.intro _ (Exists.intro _ (Exists.intro _ (And.intro (c_X11_isIn (md A0 g h q v f) x3 (0 : Int32) (v 0) ) (And.intro rfl (fun r9 A9 h9 => ?_))))))
    rcases h9 with ⟨y2, rfl, rfl, ⟨rfl, by2⟩ | ⟨rfl, by2⟩⟩
    · skip
      refine And.intro (fun c9 => absurd c9 (by decide)) (fun _ => ?_)
      intro m3 em_24
      try have e3 : m3.toInt = (x2).toInt - (x1).toInt := by rw [em_24]; exact pm_sub _ _ (by omega) (by omega)
      intro m4 em_26
      try have e4 : m4.toInt = (m3).toInt + (1) := by rw [em_26]; exact pm_addc _ _ (1) rfl (by omega) (by omega)
      refine And.intro (Exists.intro _ md_o) (Exists.intro _ (Exists.intro _ (Exists.intro _ (Exists.intro _ (And.intro (c_X11_hasRoom D v f hv hf m4 (by omega)) (And.intro rfl (fun r9 A9 h9 => ?_)))))))
      rcases h9 with ⟨y5, rfl, rfl, ⟨rfl, by5⟩ | ⟨rfl, by5⟩⟩
      · skip
        refine And.intro (fun _ => ?_) (fun c9 => absurd c9 (by decide))
        refine hC.1 2 35 _ _ rfl _ _ _ _ _ ?_
        refine And.intro (Exists.intro _ md_o) (Exists.intro _ (Exists.intro _ (Exists.intro _ (Exists.intro _ (And.intro (F_X11_begins D v f hv hf  ) (And.intro rfl (fun r9 A9 h9 => ?_)))))))
        obtain ⟨v7, f7, rfl, rfl, hv7, hf7, hx7, hg7_0, hg7_1, by6⟩ := h9
        have hw7 : f7 2 = f 2 := hx7.trans rfl
        have hr7_0 : f7 0 = f 0 := hg7_0.trans rfl
        have hr7_1 : f7 1 = f 1 := hg7_1.trans rfl
        have hu8_1 := hv7.2.1
        have hu8_2 := hv7.2.2.1
        have sq7_0 : (v7 0).toInt = (v 0).toInt := by6.1
        have sq7_3 : (v7 3).toInt = (v 3).toInt := by6.2.1
        have sq7_4 : (v7 4).toInt = (v 4).toInt := by6.2.2.1
        have sq7_6 : (v7 6).toInt = (v 6).toInt := by6.2.2.2.1
        have sp7 := by6.2.2.2.2
        clear by6
        have hp_42 : ∀ L, rp (v 0) (f 0) (f 1) L → rp (v7 0) (f7 0) (f7 1) L := fun L h => rp_fr h (by omega) hr7_0 hr7_1
        refine And.intro (Exists.intro _ md_o) (Exists.intro _ (Exists.intro _ (Exists.intro _ (Exists.intro _ (And.intro (F_X11_laysFrom D v7 f7 hv7 hf7 (0 : Int32) x3 (by omega) (by omega) (by omega) (by omega)) (And.intro rfl (fun r9 A9 h9 => ?_)))))))
        obtain ⟨v10, f10, rfl, rfl, hv10, hf10, hx10, hg10_0, hg10_1, by9⟩ := h9
        have hw10 : f10 2 = f 2 := hx10.trans hw7
        have hr10_0 : f10 0 = f 0 := hg10_0.trans hr7_0
        have hr10_1 : f10 1 = f 1 := hg10_1.trans hr7_1
        have hu11_2 := hv10.2.2.1
        have hb_42 := by9.2
        have sq10_0 : (v10 0).toInt = (v 0).toInt := by9.1.1.trans sq7_0
        have sq10_1 : (v10 1).toInt = (v7 1).toInt := by9.1.2.1
        have sq10_3 : (v10 3).toInt = (v 3).toInt := by9.1.2.2.1.trans sq7_3
        have sq10_4 : (v10 4).toInt = (v 4).toInt := by9.1.2.2.2.1.trans sq7_4
        have sq10_6 : (v10 6).toInt = (v 6).toInt := by9.1.2.2.2.2.1.trans sq7_6
        have sp10 := by9.1.2.2.2.2.2
        clear by9
        have lp13 : ∀ (n : Nat) (z4_48 : Int32) (v12 : Nat → Int32) (f12 : Nat → Nat → Int32), md_V v12 → md_F f12 → f12 2 = f 2 → f12 0 = f 0 → f12 1 = f 1 → (x1.toInt ≤ z4_48.toInt ∧ z4_48.toInt ≤ x2.toInt + 1) → ((v12 0).toInt = (v 0).toInt ∧ (v12 4).toInt = (v 4).toInt ∧ (v12 2).toInt = x3.toInt + (z4_48.toInt - x1.toInt) ∧ (v12 3).toInt = (v 3).toInt + (z4_48.toInt - x1.toInt)) → (∀ L, rp (v 0) (f 0) (f 1) L → rp (v12 2) (f12 5) (f12 6) (si L 0 x3.toInt ++ nw_l (v 3) ((si L x1.toInt z4_48.toInt).map Prod.fst))) → (v12 6).toInt = (v 6).toInt → 200 - z4_48.toInt < (n : Int) → J 48 [some (.ref h), some (.int x1), some (.int x2), some (.int x3), some (.int z4_48)] [] (md A0 g h q v12 f12) 0 0 := by
          intro n
          induction n with
          | zero =>
            intro z4_48 v12 f12 hv12 hf12 hw12 hr12_0 hr12_1 j0_48 j1_48 j2_48 j3_48 j4_48
            clear hu8_1 hu8_2 sq7_0 sq7_3 sq7_4 sq7_6 sp7 hu11_2 sq10_0 sq10_1 sq10_3 sq10_4 sq10_6 sp10
            omega
          | succ n ih14 =>
            intro z4_48 v12 f12 hv12 hf12 hw12 hr12_0 hr12_1 j0_48 j1_48 j2_48 j3_48 j4_48
            clear hu8_1 hu8_2 sq7_0 sq7_3 sq7_4 sq7_6 sp7 hu11_2 sq10_0 sq10_1 sq10_3 sq10_4 sq10_6 sp10
            have lr0 := hr12_0
            have lr1 := hr12_1
            have lv3 : ∃ z9, z9 = v12 3 := ⟨_, rfl⟩
            obtain ⟨g48, eg48⟩ := lv3
            refine hC.1 3 48 _ _ rfl _ _ _ _ _ ?_
            have hu15_0 := hv12.1
            have hu15_1 := hv12.2.1
            have hu15_2 := hv12.2.2.1
            have hu15_3 := hv12.2.2.2.1
            have hu15_4 := hv12.2.2.2.2.1
            refine And.intro (fun c16 => ?_) (fun c16 => ?_)
            · skip
              refine hC.1 4 71 _ _ rfl _ _ _ _ _ ?_
              refine Exists.intro _ (And.intro md_o ?_)
              have hp_77 : ∀ L, rp (v 0) (f 0) (f 1) L → rp (v12 0) (f12 0) (f12 1) L := fun L h => rp_fr h (by omega) hr12_0 hr12_1
              refine And.intro (Exists.intro _ md_o) (Exists.intro _ (Exists.intro _ (Exists.intro _ (Exists.intro _ (And.intro (F_X11_laysFrom D v12 f12 hv12 hf12 x3 (v12 0) (by omega) (by omega) (by omega) (by omega)) (And.intro rfl (fun r9 A9 h9 => ?_)))))))
              obtain ⟨v18, f18, rfl, rfl, hv18, hf18, hx18, hg18_0, hg18_1, by17⟩ := h9
              have hw18 : f18 2 = f 2 := hx18.trans hw12
              have hr18_0 : f18 0 = f 0 := hg18_0.trans hr12_0
              have hr18_1 : f18 1 = f 1 := hg18_1.trans hr12_1
              have hu19_2 := hv18.2.2.1
              have hb_77 := by17.2
              have sq18_0 : (v18 0).toInt = (v12 0).toInt := by17.1.1
              have sq18_1 : (v18 1).toInt = (v12 1).toInt := by17.1.2.1
              have sq18_3 : (v18 3).toInt = (v12 3).toInt := by17.1.2.2.1
              have sq18_4 : (v18 4).toInt = (v12 4).toInt := by17.1.2.2.2.1
              have sq18_6 : (v18 6).toInt = (v12 6).toInt := by17.1.2.2.2.2.1
              have sp18 := by17.1.2.2.2.2.2
              clear by17
              refine And.intro (Exists.intro _ md_o) (Exists.intro _ (Exists.intro _ (Exists.intro _ (Exists.intro _ (And.intro (F_X11_ends D v18 f18 hv18 hf18  (by omega)) (And.intro rfl (fun r9 A9 h9 => ?_)))))))
              obtain ⟨y20, v21, f21, rfl, rfl, hv21, hf21, hx21, by20⟩ := h9
              have hw21 : f21 2 = f 2 := hx21.trans hw18
              have hu22_0 := hv21.1
              have hu22_4 := hv21.2.2.2.2.1
              have hb_81 := by20.2
              have sq21_1 : (v21 1).toInt = (v12 1).toInt := by20.1.1.trans sq18_1
              have sq21_2 : (v21 2).toInt = (v18 2).toInt := by20.1.2.1
              have sq21_3 : (v21 3).toInt = (v12 3).toInt := by20.1.2.2.1.trans sq18_3
              have sq21_6 : (v21 6).toInt = (v12 6).toInt := by20.1.2.2.2.1.trans sq18_6
              have sp21 := by20.1.2.2.2.2
              clear by20
              exact ⟨rfl, fun e9 => absurd e9 (by decide), rfl, y20, v21, f21, rfl, rfl, hv21, hf21, hw21, by first | omega | (dsimp only; omega) | trivial, by intro L hL; have hl := hL.1; rw [ed_copy, if_pos (by omega)]; have t2 := j2_48 L hL; rw [show z4_48.toInt = x2.toInt + 1 by omega] at t2; have t3 := hb_77 L _ (x3.toInt) L.length (hp_77 L hL) (by omega) (by omega) (by omega) (by omega) t2; exact ⟨hb_81 _ t3, by show _ = _ + (1 : Int); omega, by show _ = _ + (1 : Int) * _; omega⟩⟩
            · skip
              refine Exists.intro _ (And.intro md_o ?_)
              refine Exists.intro _ (Exists.intro _ (And.intro (Or.inl (md_a_colours D)) (And.intro (by omega) ?_)))
              have w23 : (0 : Int) ≤ (f12 0 (z4_48).toInt.toNat).toInt ∧ (f12 0 (z4_48).toInt.toNat).toInt ≤ (23 : Int) := hf12 0 _
              refine And.intro (Exists.intro _ md_o) (Exists.intro _ (Exists.intro _ (Exists.intro _ (Exists.intro _ (And.intro (F_X11_laysNew D v12 f12 hv12 hf12 (f12 0 (z4_48).toInt.toNat) (by omega) (by omega) (by omega)) (And.intro rfl (fun r9 A9 h9 => ?_)))))))
              obtain ⟨v25, f25, rfl, rfl, hv25, hf25, hx25, hg25_0, hg25_1, by24⟩ := h9
              have hw25 : f25 2 = f 2 := hx25.trans hw12
              have hr25_0 : f25 0 = f 0 := hg25_0.trans hr12_0
              have hr25_1 : f25 1 = f 1 := hg25_1.trans hr12_1
              have hu26_2 := hv25.2.2.1
              have hu26_3 := hv25.2.2.2.1
              have hb_62 := by24.2
              have sq25_0 : (v25 0).toInt = (v12 0).toInt := by24.1.1
              have sq25_1 : (v25 1).toInt = (v12 1).toInt := by24.1.2.1
              have sq25_4 : (v25 4).toInt = (v12 4).toInt := by24.1.2.2.1
              have sq25_6 : (v25 6).toInt = (v12 6).toInt := by24.1.2.2.2.1
              have sp25 := by24.1.2.2.2.2
              have hb9 := by24.2
              clear by24
              intro m27 em_65
              try have e27 : m27.toInt = (z4_48).toInt + (1) := by rw [em_65]; exact pm_addc _ _ (1) rfl (by omega) (by omega)
              exact ih14 m27 v25 f25 hv25 hf25 hw25 hr25_0 hr25_1 (by omega) (by omega) (by intro L hL; have hl := hL.1; rw [show m27.toInt = z4_48.toInt + 1 by omega, si_s hL (a := x1.toInt) (z := z4_48.toInt) (by omega) (by omega) (by omega), List.map_append, List.map_cons, List.map_nil]; have hk := si_len (L := L) (a := x1.toInt) (b := z4_48.toInt) (by omega) (by omega) (by omega); rw [nw_app (g2 := g48) (by rw [eg48, List.length_map]; omega) (by rw [List.length_map]; omega), ← List.append_assoc]; have h4 := hb9 _ g48 (by rw [eg48]) (j2_48 L hL); rw [lr0] at h4; exact h4) (by omega) (by omega)
        exact lp13 (200 - x1.toInt).toNat.succ x1 v10 f10 hv10 hf10 hw10 hr10_0 hr10_1 (by omega) (by omega) (by intro L hL; have hl := hL.1; rw [si_n (Int.le_refl _)]; have t1 := hb_42 L [] 0 x3.toInt (hp_42 L hL) rfl rfl (by omega) (by omega) (rp_0 (by omega)); rw [List.nil_append] at t1; show rp _ _ _ (si L 0 x3.toInt ++ []); rw [List.append_nil]; exact t1) (by omega) (by omega)
      · skip
        refine And.intro (fun c9 => absurd c9 (by decide)) (fun _ => ?_)
        refine hC.1 1 33 _ _ rfl _ _ _ _ _ ?_
        have km1 : (-1 : Int32).toInt = -1 := rfl
        exact ⟨rfl, fun e9 => absurd e9 (by decide), rfl, (-1 : Int32), v, f, rfl, rfl, hv, hf, rfl, by first | omega | (dsimp only; omega) | trivial, by intro L hL; have hl := hL.1; rw [ed_copy, if_neg (by omega)]; exact ⟨hL, by show _ = _ + (0 : Int); omega, by show _ = _ + (0 : Int) * _; omega⟩⟩
    · skip
      refine And.intro (fun _ => ?_) (fun c9 => absurd c9 (by decide))
      refine hC.1 1 33 _ _ rfl _ _ _ _ _ ?_
      have km1 : (-1 : Int32).toInt = -1 := rfl
      exact ⟨rfl, fun e9 => absurd e9 (by decide), rfl, (-1 : Int32), v, f, rfl, rfl, hv, hf, rfl, by first | omega | (dsimp only; omega) | trivial, by intro L hL; have hl := hL.1; rw [ed_copy, if_neg (by omega)]; exact ⟨hL, by show _ = _ + (0 : Int); omega, by show _ = _ + (0 : Int) * _; omega⟩⟩
  · skip
    have k0 : (0 : Int32).toInt = 0 := rfl
    refine And.intro (fun _ => ?_) (fun c9 => absurd c9 (by decide))
    refine hC.1 1 33 _ _ rfl _ _ _ _ _ ?_
    have km1 : (-1 : Int32).toInt = -1 := rfl
    exact ⟨rfl, fun e9 => absurd e9 (by decide), rfl, (-1 : Int32), v, f, rfl, rfl, hv, hf, rfl, by first | omega | (dsimp only; omega) | trivial, by intro L hL; have hl := hL.1; rw [ed_copy, if_neg (by omega)]; exact ⟨hL, by show _ = _ + (0 : Int); omega, by show _ = _ + (0 : Int) * _; omega⟩⟩

set_option maxRecDepth 100000 in
set_option maxHeartbeats 2000000 in
theorem F_X11_draw (D : md_D h q) (v : Nat → Int32) (f : Nat → Nat → Int32) (hv : md_V v) (hf : md_F f) (x1 : Int32) (x2 : Int32) (x3 : Int32) (p0 : (v 4).toInt < 100000) : pm_Mt l g 193 4 0 0 [.ref h, .int x1, .int x2, .int x3] (md A0 g h q v f) (md_Qw A0 g h q f (fun r v2 f2 => ((v2 6).toInt = (v 6).toInt ∧ (v2 4).toInt ≤ (v 4).toInt + 1 ∧ (v 4).toInt ≤ (v2 4).toInt) ∧ (∀ L, rp (v 0) (f 0) (f 1) L → rp (v2 0) (f2 0) (f2 1) ((ed_draw L (v 3) x1 x2 x3).getD L) ∧ (v2 4).toInt = (v 4).toInt + edn (ed_draw L (v 3) x1 x2 x3) ∧ (v2 3).toInt = (v 3).toInt + edn (ed_draw L (v 3) x1 x2 x3) * (x2.toInt)))) := by
  refine mt_X11_draw rfl (fun J hC => ?_)
  have hv9 := hv
  unfold md_V at hv9
  have rg_x1 := pm_rng x1
  have rg_x2 := pm_rng x2
  have rg_x3 := pm_rng x3
  refine hC.1 0 0 _ _ rfl _ _ _ _ _ ?_
  have k0 : (0 : Int32).toInt = 0 := rfl
  have k9999 : (9999 : Int32).toInt = 9999 := rfl
  refine Exists.intro _ (Exists.intro _ (Exists.intro _ (Exists.intro _ (And.intro (c_X11_isIn (md A0 g h q v f) x1 (0 : Int32) (9999 : Int32) ) (And.intro rfl (fun r9 A9 h9 => ?_))))))
  rcases h9 with ⟨y1, rfl, rfl, ⟨rfl, by1⟩ | ⟨rfl, by1⟩⟩
  · skip
    have k1 : (1 : Int32).toInt = 1 := rfl
    refine And.intro (fun c9 => absurd c9 (by decide)) (fun _ => ?_)
    have k160 : (160 : Int32).toInt = 160 := rfl
    refine Exists.intro _ (Exists.intro _ (Exists.intro _ (Exists.intro _ (And.intro (c_X11_isIn (md A0 g h q v f) x2 (1 : Int32) (160 : Int32) ) (And.intro rfl (fun r9 A9 h9 => ?_))))))
    rcases h9 with ⟨y2, rfl, rfl, ⟨rfl, by2⟩ | ⟨rfl, by2⟩⟩
    · skip
      refine And.intro (fun c9 => absurd c9 (by decide)) (fun _ => ?_)
      have k24 : (24 : Int32).toInt = 24 := rfl
      refine Exists.intro _ (Exists.intro _ (Exists.intro _ (Exists.intro _ (And.intro (c_X11_isIn (md A0 g h q v f) x3 (1 : Int32) (24 : Int32) ) (And.intro rfl (fun r9 A9 h9 => ?_))))))
      rcases h9 with ⟨y3, rfl, rfl, ⟨rfl, by3⟩ | ⟨rfl, by3⟩⟩
      · skip
        refine And.intro (fun c9 => absurd c9 (by decide)) (fun _ => ?_)
        refine And.intro (Exists.intro _ md_o) (Exists.intro _ (Exists.intro _ (Exists.intro _ (Exists.intro _ (And.intro (c_X11_hasRoom D v f hv hf x2 (by omega)) (And.intro rfl (fun r9 A9 h9 => ?_)))))))
        rcases h9 with ⟨y4, rfl, rfl, ⟨rfl, by4⟩ | ⟨rfl, by4⟩⟩
        · skip
          refine And.intro (fun _ => ?_) (fun c9 => absurd c9 (by decide))
          refine hC.1 2 42 _ _ rfl _ _ _ _ _ ?_
          refine And.intro (Exists.intro _ md_o) (Exists.intro _ (Exists.intro _ (Exists.intro _ (Exists.intro _ (And.intro (F_X11_begins D v f hv hf  ) (And.intro rfl (fun r9 A9 h9 => ?_)))))))
          obtain ⟨v6, f6, rfl, rfl, hv6, hf6, hx6, hg6_0, hg6_1, by5⟩ := h9
          have hw6 : f6 2 = f 2 := hx6.trans rfl
          have hr6_0 : f6 0 = f 0 := hg6_0.trans rfl
          have hr6_1 : f6 1 = f 1 := hg6_1.trans rfl
          have hu7_1 := hv6.2.1
          have hu7_2 := hv6.2.2.1
          have sq6_0 : (v6 0).toInt = (v 0).toInt := by5.1
          have sq6_3 : (v6 3).toInt = (v 3).toInt := by5.2.1
          have sq6_4 : (v6 4).toInt = (v 4).toInt := by5.2.2.1
          have sq6_6 : (v6 6).toInt = (v 6).toInt := by5.2.2.2.1
          have sp6 := by5.2.2.2.2
          clear by5
          refine Exists.intro _ (And.intro md_o ?_)
          have hp_52 : ∀ L, rp (v 0) (f 0) (f 1) L → rp (v6 0) (f6 0) (f6 1) L := fun L h => rp_fr h (by omega) hr6_0 hr6_1
          refine And.intro (Exists.intro _ md_o) (Exists.intro _ (Exists.intro _ (Exists.intro _ (Exists.intro _ (And.intro (F_X11_laysFrom D v6 f6 hv6 hf6 (0 : Int32) (v6 0) (by omega) (by omega) (by omega) (by omega)) (And.intro rfl (fun r9 A9 h9 => ?_)))))))
          obtain ⟨v9, f9, rfl, rfl, hv9, hf9, hx9, hg9_0, hg9_1, by8⟩ := h9
          have hw9 : f9 2 = f 2 := hx9.trans hw6
          have hr9_0 : f9 0 = f 0 := hg9_0.trans hr6_0
          have hr9_1 : f9 1 = f 1 := hg9_1.trans hr6_1
          have hu10_2 := hv9.2.2.1
          have hb_52 := by8.2
          have sq9_0 : (v9 0).toInt = (v 0).toInt := by8.1.1.trans sq6_0
          have sq9_1 : (v9 1).toInt = (v6 1).toInt := by8.1.2.1
          have sq9_3 : (v9 3).toInt = (v 3).toInt := by8.1.2.2.1.trans sq6_3
          have sq9_4 : (v9 4).toInt = (v 4).toInt := by8.1.2.2.2.1.trans sq6_4
          have sq9_6 : (v9 6).toInt = (v 6).toInt := by8.1.2.2.2.2.1.trans sq6_6
          have sp9 := by8.1.2.2.2.2.2
          clear by8
          have lp12 : ∀ (n : Nat) (z4_61 : Int32) (z5_61 : Int32) (v11 : Nat → Int32) (f11 : Nat → Nat → Int32), md_V v11 → md_F f11 → f11 2 = f 2 → f11 0 = f 0 → f11 1 = f 1 → (0 ≤ z5_61.toInt ∧ z5_61.toInt ≤ x2.toInt) → (0 ≤ z4_61.toInt ∧ z4_61.toInt ≤ 10006) → ((v11 0).toInt = (v 0).toInt ∧ (v11 4).toInt = (v 4).toInt ∧ (v11 2).toInt = (v 0).toInt + z5_61.toInt ∧ (v11 3).toInt = (v 3).toInt + z5_61.toInt) → (z4_61.toInt = ds x1.toInt z5_61.toInt.toNat) → (∀ L, rp (v 0) (f 0) (f 1) L → rp (v11 2) (f11 5) (f11 6) (L ++ nw_l (v 3) (dr_l x1.toInt x3.toInt z5_61.toInt.toNat))) → (v11 6).toInt = (v 6).toInt → 200 - z5_61.toInt < (n : Int) → J 61 [some (.ref h), some (.int x1), some (.int x2), some (.int x3), some (.int z4_61), some (.int z5_61)] [] (md A0 g h q v11 f11) 0 0 := by
            intro n
            induction n with
            | zero =>
              intro z4_61 z5_61 v11 f11 hv11 hf11 hw11 hr11_0 hr11_1 j0_61 j1_61 j2_61 j3_61 j4_61 j5_61 j6_61
              clear hu7_1 hu7_2 sq6_0 sq6_3 sq6_4 sq6_6 sp6 hu10_2 sq9_0 sq9_1 sq9_3 sq9_4 sq9_6 sp9
              omega
            | succ n ih13 =>
              intro z4_61 z5_61 v11 f11 hv11 hf11 hw11 hr11_0 hr11_1 j0_61 j1_61 j2_61 j3_61 j4_61 j5_61 j6_61
              clear hu7_1 hu7_2 sq6_0 sq6_3 sq6_4 sq6_6 sp6 hu10_2 sq9_0 sq9_1 sq9_3 sq9_4 sq9_6 sp9
              have lr0 := hr11_0
              have lr1 := hr11_1
              have lv3 : ∃ z9, z9 = v11 3 := ⟨_, rfl⟩
              obtain ⟨g61, eg61⟩ := lv3
              refine hC.1 3 61 _ _ rfl _ _ _ _ _ ?_
              have hu14_0 := hv11.1
              have hu14_1 := hv11.2.1
              have hu14_2 := hv11.2.2.1
              have hu14_3 := hv11.2.2.2.1
              have hu14_4 := hv11.2.2.2.2.1
              refine And.intro (fun c15 => ?_) (fun c15 => ?_)
              · skip
                refine hC.1 4 96 _ _ rfl _ _ _ _ _ ?_
                refine And.intro (Exists.intro _ md_o) (Exists.intro _ (Exists.intro _ (Exists.intro _ (Exists.intro _ (And.intro (F_X11_ends D v11 f11 hv11 hf11  (by omega)) (And.intro rfl (fun r9 A9 h9 => ?_)))))))
                obtain ⟨y16, v17, f17, rfl, rfl, hv17, hf17, hx17, by16⟩ := h9
                have hw17 : f17 2 = f 2 := hx17.trans hw11
                have hu18_0 := hv17.1
                have hu18_4 := hv17.2.2.2.2.1
                have hb_97 := by16.2
                have sq17_1 : (v17 1).toInt = (v11 1).toInt := by16.1.1
                have sq17_2 : (v17 2).toInt = (v11 2).toInt := by16.1.2.1
                have sq17_3 : (v17 3).toInt = (v11 3).toInt := by16.1.2.2.1
                have sq17_6 : (v17 6).toInt = (v11 6).toInt := by16.1.2.2.2.1
                have sp17 := by16.1.2.2.2.2
                clear by16
                exact ⟨rfl, fun e9 => absurd e9 (by decide), rfl, y16, v17, f17, rfl, rfl, hv17, hf17, hw17, by first | omega | (dsimp only; omega) | trivial, by intro L hL; have hl := hL.1; rw [ed_draw, if_pos (by omega)]; have t2 := j4_61 L hL; rw [show z5_61.toInt.toNat = x2.toInt.toNat by omega] at t2; exact ⟨hb_97 _ t2, by show _ = _ + (1 : Int); omega, by show _ = _ + (1 : Int) * _; omega⟩⟩
              · skip
                have k137 : (137 : Int32).toInt = 137 := rfl
                intro m19 em_72
                try have e19 : m19.toInt = (137) * (z4_61).toInt := by rw [em_72]; exact pm_mulk _ _ (137) rfl (by omega) (by omega)
                have k71 : (71 : Int32).toInt = 71 := rfl
                intro m20 em_75
                try have e20 : m20.toInt = (m19).toInt + (71) := by rw [em_75]; exact pm_addc _ _ (71) rfl (by omega) (by omega)
                have k10007 : (10007 : Int32).toInt = 10007 := rfl
                refine And.intro (by decide) ?_
                intro m21 em_79
                have e21 : 0 ≤ m21.toInt ∧ m21.toInt < 10007 ∧ m21.toInt = (m20).toInt % 10007 := by rw [em_79]; exact pm_remc _ _ 10007 rfl (by omega) (by decide)
                have hd1 : ds x1.toInt (z5_61.toInt.toNat + 1) = m21.toInt := by show (137 * ds x1.toInt z5_61.toInt.toNat + 71) % 10007 = _; rw [← j3_61]; omega
                refine And.intro (fun e9 => by have e8 := congrArg Int32.toInt e9; have e7 : (0 : Int32).toInt = 0 := rfl; omega) ?_
                intro m22 em_86
                try have e22 := pm_rem m21 x3 (by omega) (by omega)
                try rw [← em_86] at e22
                obtain ⟨cc9, hcc9⟩ : ∃ z9, z9 = m22 := ⟨_, rfl⟩
                have ecc := pm_rem m21 x3 (by omega) (by omega)
                rw [← em_86, ← hcc9] at ecc
                refine And.intro (Exists.intro _ md_o) (Exists.intro _ (Exists.intro _ (Exists.intro _ (Exists.intro _ (And.intro (F_X11_laysNew D v11 f11 hv11 hf11 m22 (by omega) (by omega) (by omega)) (And.intro rfl (fun r9 A9 h9 => ?_)))))))
                obtain ⟨v24, f24, rfl, rfl, hv24, hf24, hx24, hg24_0, hg24_1, by23⟩ := h9
                have hw24 : f24 2 = f 2 := hx24.trans hw11
                have hr24_0 : f24 0 = f 0 := hg24_0.trans hr11_0
                have hr24_1 : f24 1 = f 1 := hg24_1.trans hr11_1
                have hu25_2 := hv24.2.2.1
                have hu25_3 := hv24.2.2.2.1
                have hb_87 := by23.2
                have sq24_0 : (v24 0).toInt = (v11 0).toInt := by23.1.1
                have sq24_1 : (v24 1).toInt = (v11 1).toInt := by23.1.2.1
                have sq24_4 : (v24 4).toInt = (v11 4).toInt := by23.1.2.2.1
                have sq24_6 : (v24 6).toInt = (v11 6).toInt := by23.1.2.2.2.1
                have sp24 := by23.1.2.2.2.2
                have hb9 := by23.2
                clear by23
                intro m26 em_90
                try have e26 : m26.toInt = (z5_61).toInt + (1) := by rw [em_90]; exact pm_addc _ _ (1) rfl (by omega) (by omega)
                exact ih13 m21 m26 v24 f24 hv24 hf24 hw24 hr24_0 hr24_1 (by omega) (by omega) (by omega) (by rw [show m26.toInt.toNat = z5_61.toInt.toNat + 1 by omega, hd1]) (by intro L hL; have hl := hL.1; rw [show m26.toInt.toNat = z5_61.toInt.toNat + 1 by omega, dr_s, hd1, nw_app (g2 := g61) (by rw [eg61, dr_len]; omega) (by rw [dr_len]; omega), ← List.append_assoc]; have h4 := hb9 _ g61 (by rw [eg61]) (j4_61 L hL); have h5 : Int32.ofInt (m21.toInt % x3.toInt) = cc9 := (by rw [← ecc.2.2, Int32.ofInt_toInt]); rw [h5, hcc9]; exact h4) (by omega) (by omega)
          exact lp12 (200 - (0 : Int32).toInt).toNat.succ x1 (0 : Int32) v9 f9 hv9 hf9 hw9 hr9_0 hr9_1 (by omega) (by omega) (by omega) (by rfl) (by intro L hL; have hl := hL.1; show rp _ _ _ (L ++ []); rw [List.append_nil]; have t1 := hb_52 L [] 0 L.length (hp_52 L hL) rfl (by omega) (by omega) (by omega) (rp_0 (by omega)); rw [List.nil_append, si_all] at t1; exact t1) (by omega) (by omega)
        · skip
          refine And.intro (fun c9 => absurd c9 (by decide)) (fun _ => ?_)
          refine hC.1 1 40 _ _ rfl _ _ _ _ _ ?_
          have km1 : (-1 : Int32).toInt = -1 := rfl
          exact ⟨rfl, fun e9 => absurd e9 (by decide), rfl, (-1 : Int32), v, f, rfl, rfl, hv, hf, rfl, by first | omega | (dsimp only; omega) | trivial, by intro L hL; have hl := hL.1; rw [ed_draw, if_neg (by omega)]; exact ⟨hL, by show _ = _ + (0 : Int); omega, by show _ = _ + (0 : Int) * _; omega⟩⟩
      · skip
        refine And.intro (fun _ => ?_) (fun c9 => absurd c9 (by decide))
        refine hC.1 1 40 _ _ rfl _ _ _ _ _ ?_
        have km1 : (-1 : Int32).toInt = -1 := rfl
        exact ⟨rfl, fun e9 => absurd e9 (by decide), rfl, (-1 : Int32), v, f, rfl, rfl, hv, hf, rfl, by first | omega | (dsimp only; omega) | trivial, by intro L hL; have hl := hL.1; rw [ed_draw, if_neg (by omega)]; exact ⟨hL, by show _ = _ + (0 : Int); omega, by show _ = _ + (0 : Int) * _; omega⟩⟩
    · skip
      refine And.intro (fun _ => ?_) (fun c9 => absurd c9 (by decide))
      refine hC.1 1 40 _ _ rfl _ _ _ _ _ ?_
      have km1 : (-1 : Int32).toInt = -1 := rfl
      exact ⟨rfl, fun e9 => absurd e9 (by decide), rfl, (-1 : Int32), v, f, rfl, rfl, hv, hf, rfl, by first | omega | (dsimp only; omega) | trivial, by intro L hL; have hl := hL.1; rw [ed_draw, if_neg (by omega)]; exact ⟨hL, by show _ = _ + (0 : Int); omega, by show _ = _ + (0 : Int) * _; omega⟩⟩
  · skip
    refine And.intro (fun _ => ?_) (fun c9 => absurd c9 (by decide))
    refine hC.1 1 40 _ _ rfl _ _ _ _ _ ?_
    have km1 : (-1 : Int32).toInt = -1 := rfl
    exact ⟨rfl, fun e9 => absurd e9 (by decide), rfl, (-1 : Int32), v, f, rfl, rfl, hv, hf, rfl, by first | omega | (dsimp only; omega) | trivial, by intro L hL; have hl := hL.1; rw [ed_draw, if_neg (by omega)]; exact ⟨hL, by show _ = _ + (0 : Int); omega, by show _ = _ + (0 : Int) * _; omega⟩⟩

end
end
section
section
variable {l : Launch} {g : pm_G} {A0 : pm_H} {h : Nat} {q : Nat → Nat}
set_option maxRecDepth 100000 in
set_option maxHeartbeats 2000000 in
theorem F_X11_recolours (D : md_D h q) (v : Nat → Int32) (f : Nat → Nat → Int32) (hv : md_V v) (hf : md_F f) (x1 : Int32) (x2 : Int32) (x3 : Int32) (x4 : Int32) (x5 : Int32) (p0 : (v 4).toInt < 100000) (p1 : -1 ≤ x3.toInt ∧ x3.toInt ≤ 23) (p2 : 0 ≤ x4.toInt ∧ x4.toInt ≤ 23) : pm_Mt l g 171 4 0 0 [.ref h, .int x1, .int x2, .int x3, .int x4, .int x5] (md A0 g h q v f) (md_Qw A0 g h q f (fun r v2 f2 => ((v2 3).toInt = (v 3).toInt ∧ (v2 6).toInt = (v 6).toInt ∧ (v2 4).toInt = (v 4).toInt + 1) ∧ (∀ (L : List pl_P) (h9 : Int32 → Int32), rp (v 0) (f 0) (f 1) L → (∀ c9, h9 c9 = if x3 = -1 ∨ c9 = x3 then x4 else if ¬ x5 = 0 ∧ c9 = x4 then x3 else c9) → 0 ≤ x1.toInt → x1.toInt ≤ x2.toInt + 1 → x2.toInt < (L.length : Int) → rp (v2 0) (f2 0) (f2 1) (rc_l L x1.toInt x2.toInt h9)))) := by
  refine mt_X11_recolours rfl (fun J hC => ?_)
  have hv9 := hv
  unfold md_V at hv9
  have rg_x1 := pm_rng x1
  have rg_x2 := pm_rng x2
  have rg_x3 := pm_rng x3
  have rg_x4 := pm_rng x4
  have rg_x5 := pm_rng x5
  refine hC.1 0 0 _ _ rfl _ _ _ _ _ ?_
  refine And.intro (Exists.intro _ md_o) (Exists.intro _ (Exists.intro _ (Exists.intro _ (Exists.intro _ (And.intro (F_X11_begins D v f hv hf  ) (And.intro rfl (fun r9 A9 h9 => ?_)))))))
  obtain ⟨v2, f2, rfl, rfl, hv2, hf2, hx2, hg2_0, hg2_1, by1⟩ := h9
  have hw2 : f2 2 = f 2 := hx2.trans rfl
  have hr2_0 : f2 0 = f 0 := hg2_0.trans rfl
  have hr2_1 : f2 1 = f 1 := hg2_1.trans rfl
  have hu3_1 := hv2.2.1
  have hu3_2 := hv2.2.2.1
  have sq2_0 : (v2 0).toInt = (v 0).toInt := by1.1
  have sq2_3 : (v2 3).toInt = (v 3).toInt := by1.2.1
  have sq2_4 : (v2 4).toInt = (v 4).toInt := by1.2.2.1
  have sq2_6 : (v2 6).toInt = (v 6).toInt := by1.2.2.2.1
  have sp2 := by1.2.2.2.2
  clear by1
  have k0 : (0 : Int32).toInt = 0 := rfl
  have lp5 : ∀ (n : Nat) (z6_7 : Int32) (v4 : Nat → Int32) (f4 : Nat → Nat → Int32), md_V v4 → md_F f4 → f4 2 = f 2 → f4 0 = f 0 → f4 1 = f 1 → (0 ≤ z6_7.toInt ∧ z6_7.toInt ≤ (v 0).toInt) → ((v4 0).toInt = (v 0).toInt ∧ (v4 4).toInt = (v 4).toInt ∧ (v4 2).toInt = z6_7.toInt) → (∀ (L : List pl_P) (h9 : Int32 → Int32), rp (v 0) (f 0) (f 1) L → (∀ c9, h9 c9 = if x3 = -1 ∨ c9 = x3 then x4 else if ¬ x5 = 0 ∧ c9 = x4 then x3 else c9) → 0 ≤ x1.toInt → x1.toInt ≤ x2.toInt + 1 → x2.toInt < (L.length : Int) → rp (v4 2) (f4 5) (f4 6) (rc_p L x1.toInt x2.toInt h9 z6_7.toInt)) → (v4 3).toInt = (v 3).toInt → (v4 6).toInt = (v 6).toInt → 200 - z6_7.toInt < (n : Int) → J 7 [some (.ref h), some (.int x1), some (.int x2), some (.int x3), some (.int x4), some (.int x5), some (.int z6_7), none, none, none] [] (md A0 g h q v4 f4) 0 0 := by
    intro n
    induction n with
    | zero =>
      intro z6_7 v4 f4 hv4 hf4 hw4 hr4_0 hr4_1 j0_7 j1_7 j2_7 j3_7 j4_7 j5_7
      clear hu3_1 hu3_2 sq2_0 sq2_3 sq2_4 sq2_6 sp2
      omega
    | succ n ih6 =>
      intro z6_7 v4 f4 hv4 hf4 hw4 hr4_0 hr4_1 j0_7 j1_7 j2_7 j3_7 j4_7 j5_7
      clear hu3_1 hu3_2 sq2_0 sq2_3 sq2_4 sq2_6 sp2
      have lr0 := hr4_0
      have lr1 := hr4_1
      refine hC.1 1 7 _ _ rfl _ _ _ _ _ ?_
      have hu7_0 := hv4.1
      have hu7_1 := hv4.2.1
      have hu7_2 := hv4.2.2.1
      have hu7_4 := hv4.2.2.2.2.1
      refine Exists.intro _ (And.intro md_o ?_)
      refine And.intro (fun c8 => ?_) (fun c8 => ?_)
      · skip
        refine hC.1 7 99 _ _ rfl _ _ _ _ _ ?_
        refine And.intro (Exists.intro _ md_o) (Exists.intro _ (Exists.intro _ (Exists.intro _ (Exists.intro _ (And.intro (F_X11_ends D v4 f4 hv4 hf4  (by omega)) (And.intro rfl (fun r9 A9 h9 => ?_)))))))
        obtain ⟨y9, v10, f10, rfl, rfl, hv10, hf10, hx10, by9⟩ := h9
        have hw10 : f10 2 = f 2 := hx10.trans hw4
        have hu11_0 := hv10.1
        have hu11_4 := hv10.2.2.2.2.1
        have hb_100 := by9.2
        have sq10_1 : (v10 1).toInt = (v4 1).toInt := by9.1.1
        have sq10_2 : (v10 2).toInt = (v4 2).toInt := by9.1.2.1
        have sq10_3 : (v10 3).toInt = (v4 3).toInt := by9.1.2.2.1
        have sq10_6 : (v10 6).toInt = (v4 6).toInt := by9.1.2.2.2.1
        have sp10 := by9.1.2.2.2.2
        clear by9
        exact ⟨rfl, fun e9 => absurd e9 (by decide), rfl, y9, v10, f10, rfl, rfl, hv10, hf10, hw10, by first | omega | (dsimp only; omega) | trivial, by intro L h9 hL hH h1 h2 h3; have hl := hL.1; have t2 := j2_7 L h9 hL hH h1 h2 h3; rw [show z6_7.toInt = (L.length : Int) by omega, rc_e h1 h2 h3] at t2; exact hb_100 _ t2⟩
      · skip
        refine Exists.intro _ (And.intro md_o ?_)
        refine Exists.intro _ (Exists.intro _ (And.intro (Or.inl (md_a_colours D)) (And.intro (by omega) ?_)))
        have w12 : (0 : Int) ≤ (f4 0 (z6_7).toInt.toNat).toInt ∧ (f4 0 (z6_7).toInt.toNat).toInt ≤ (23 : Int) := hf4 0 _
        refine Exists.intro _ (Exists.intro _ (Exists.intro _ (Exists.intro _ (And.intro (c_X11_isIn (md A0 g h q v4 f4) z6_7 x1 x2 ) (And.intro rfl (fun r9 A9 h9 => ?_))))))
        rcases h9 with ⟨y13, rfl, rfl, ⟨rfl, by13⟩ | ⟨rfl, by13⟩⟩
        · skip
          have k1 : (1 : Int32).toInt = 1 := rfl
          refine And.intro (fun _ => ?_) (fun c9 => absurd c9 (by decide))
          refine hC.1 2 44 _ _ rfl _ _ _ _ _ ?_
          have km1 : (-1 : Int32).toInt = -1 := rfl
          refine And.intro (fun c14 => ?_) (fun c14 => ?_)
          · skip
            have dc14 : (x3).toInt = ((-1 : Int32) : Int32).toInt := congrArg Int32.toInt c14
            refine hC.1 3 55 _ _ rfl _ _ _ _ _ ?_
            refine hC.1 6 78 _ _ rfl _ _ _ _ _ ?_
            refine Exists.intro _ (And.intro md_o ?_)
            refine Exists.intro _ (Exists.intro _ (And.intro (Or.inl (md_a_names D)) (And.intro (by omega) ?_)))
            refine And.intro (Exists.intro _ md_o) (Exists.intro _ (Exists.intro _ (Exists.intro _ (Exists.intro _ (And.intro (F_X11_lays D v4 f4 hv4 hf4 x4 (f4 1 (z6_7).toInt.toNat) (by omega) (by omega)) (And.intro rfl (fun r9 A9 h9 => ?_)))))))
            obtain ⟨v16, f16, rfl, rfl, hv16, hf16, hx16, hg16_0, hg16_1, by15⟩ := h9
            have hw16 : f16 2 = f 2 := hx16.trans hw4
            have hr16_0 : f16 0 = f 0 := hg16_0.trans hr4_0
            have hr16_1 : f16 1 = f 1 := hg16_1.trans hr4_1
            have hu17_2 := hv16.2.2.1
            have hb_90 := by15.2
            have sq16_0 : (v16 0).toInt = (v4 0).toInt := by15.1.1
            have sq16_1 : (v16 1).toInt = (v4 1).toInt := by15.1.2.1
            have sq16_3 : (v16 3).toInt = (v4 3).toInt := by15.1.2.2.1
            have sq16_4 : (v16 4).toInt = (v4 4).toInt := by15.1.2.2.2.1
            have sq16_6 : (v16 6).toInt = (v4 6).toInt := by15.1.2.2.2.2.1
            have sp16 := by15.1.2.2.2.2.2
            have hb9 := by15.2
            clear by15
            intro m18 em_93
            try have e18 : m18.toInt = (z6_7).toInt + (1) := by rw [em_93]; exact pm_addc _ _ (1) rfl (by omega) (by omega)
            exact hC.2 [false, false, false, false, false, false, false, true, true, true] _ _ _ _ _ _ (ih6 m18 v16 f16 hv16 hf16 hw16 hr16_0 hr16_1 (by omega) (by omega) (by intro L h9 hL hH h1 h2 h3; have hl := hL.1; have hL2 := rp_fr hL (n2 := v16 0) (by omega) lr0 lr1; rw [show m18.toInt = z6_7.toInt + 1 by omega, rc_s hL2 h1 h2 h3 (by omega) (by omega)]; have h4 := hb9 _ (j2_7 L h9 hL hH h1 h2 h3); first | (rw [if_neg (by omega)]; exact h4) | (rw [if_pos (by omega), hH, if_pos (Or.inl (by assumption))]; exact h4) | (rw [if_pos (by omega), hH, if_pos (Or.inr (by assumption))]; exact h4) | (rw [if_pos (by omega), hH, if_neg (fun h8 => h8.elim (by assumption) (by assumption)), if_pos ⟨by assumption, by assumption⟩]; exact h4) | (rw [if_pos (by omega), hH, if_neg (fun h8 => h8.elim (by assumption) (by assumption)), if_neg (fun h8 => absurd h8.2 (by assumption))]; exact h4) | (rw [if_pos (by omega), hH, if_neg (fun h8 => h8.elim (by assumption) (by assumption)), if_neg (fun h8 => h8.1 (by assumption))]; exact h4)) (by omega) (by omega) (by omega))
          · skip
            have dc14 := pm_neI c14
            refine And.intro (fun c19 => ?_) (fun c19 => ?_)
            · skip
              have dc19 := pm_neI c19
              refine hC.1 4 60 _ _ rfl _ _ _ _ _ ?_
              refine And.intro (fun c20 => ?_) (fun c20 => ?_)
              · skip
                have dc20 : (x5).toInt = (0 : Int32).toInt := congrArg Int32.toInt c20
                refine hC.1 5 76 _ _ rfl _ _ _ _ _ ?_
                refine hC.1 6 78 _ _ rfl _ _ _ _ _ ?_
                refine Exists.intro _ (And.intro md_o ?_)
                refine Exists.intro _ (Exists.intro _ (And.intro (Or.inl (md_a_names D)) (And.intro (by omega) ?_)))
                refine And.intro (Exists.intro _ md_o) (Exists.intro _ (Exists.intro _ (Exists.intro _ (Exists.intro _ (And.intro (F_X11_lays D v4 f4 hv4 hf4 (f4 0 (z6_7).toInt.toNat) (f4 1 (z6_7).toInt.toNat) (by omega) (by omega)) (And.intro rfl (fun r9 A9 h9 => ?_)))))))
                obtain ⟨v22, f22, rfl, rfl, hv22, hf22, hx22, hg22_0, hg22_1, by21⟩ := h9
                have hw22 : f22 2 = f 2 := hx22.trans hw4
                have hr22_0 : f22 0 = f 0 := hg22_0.trans hr4_0
                have hr22_1 : f22 1 = f 1 := hg22_1.trans hr4_1
                have hu23_2 := hv22.2.2.1
                have hb_90 := by21.2
                have sq22_0 : (v22 0).toInt = (v4 0).toInt := by21.1.1
                have sq22_1 : (v22 1).toInt = (v4 1).toInt := by21.1.2.1
                have sq22_3 : (v22 3).toInt = (v4 3).toInt := by21.1.2.2.1
                have sq22_4 : (v22 4).toInt = (v4 4).toInt := by21.1.2.2.2.1
                have sq22_6 : (v22 6).toInt = (v4 6).toInt := by21.1.2.2.2.2.1
                have sp22 := by21.1.2.2.2.2.2
                have hb9 := by21.2
                clear by21
                intro m24 em_93
                try have e24 : m24.toInt = (z6_7).toInt + (1) := by rw [em_93]; exact pm_addc _ _ (1) rfl (by omega) (by omega)
                exact hC.2 [false, false, false, false, false, false, false, true, true, true] _ _ _ _ _ _ (ih6 m24 v22 f22 hv22 hf22 hw22 hr22_0 hr22_1 (by omega) (by omega) (by intro L h9 hL hH h1 h2 h3; have hl := hL.1; have hL2 := rp_fr hL (n2 := v22 0) (by omega) lr0 lr1; rw [show m24.toInt = z6_7.toInt + 1 by omega, rc_s hL2 h1 h2 h3 (by omega) (by omega)]; have h4 := hb9 _ (j2_7 L h9 hL hH h1 h2 h3); first | (rw [if_neg (by omega)]; exact h4) | (rw [if_pos (by omega), hH, if_pos (Or.inl (by assumption))]; exact h4) | (rw [if_pos (by omega), hH, if_pos (Or.inr (by assumption))]; exact h4) | (rw [if_pos (by omega), hH, if_neg (fun h8 => h8.elim (by assumption) (by assumption)), if_pos ⟨by assumption, by assumption⟩]; exact h4) | (rw [if_pos (by omega), hH, if_neg (fun h8 => h8.elim (by assumption) (by assumption)), if_neg (fun h8 => absurd h8.2 (by assumption))]; exact h4) | (rw [if_pos (by omega), hH, if_neg (fun h8 => h8.elim (by assumption) (by assumption)), if_neg (fun h8 => h8.1 (by assumption))]; exact h4)) (by omega) (by omega) (by omega))
              · skip
                have dc20 := pm_neI c20
                refine And.intro (fun c25 => ?_) (fun c25 => ?_)
                · skip
                  have dc25 := pm_neI c25
                  refine hC.1 5 76 _ _ rfl _ _ _ _ _ ?_
                  refine hC.1 6 78 _ _ rfl _ _ _ _ _ ?_
                  refine Exists.intro _ (And.intro md_o ?_)
                  refine Exists.intro _ (Exists.intro _ (And.intro (Or.inl (md_a_names D)) (And.intro (by omega) ?_)))
                  refine And.intro (Exists.intro _ md_o) (Exists.intro _ (Exists.intro _ (Exists.intro _ (Exists.intro _ (And.intro (F_X11_lays D v4 f4 hv4 hf4 (f4 0 (z6_7).toInt.toNat) (f4 1 (z6_7).toInt.toNat) (by omega) (by omega)) (And.intro rfl (fun r9 A9 h9 => ?_)))))))
                  obtain ⟨v27, f27, rfl, rfl, hv27, hf27, hx27, hg27_0, hg27_1, by26⟩ := h9
                  have hw27 : f27 2 = f 2 := hx27.trans hw4
                  have hr27_0 : f27 0 = f 0 := hg27_0.trans hr4_0
                  have hr27_1 : f27 1 = f 1 := hg27_1.trans hr4_1
                  have hu28_2 := hv27.2.2.1
                  have hb_90 := by26.2
                  have sq27_0 : (v27 0).toInt = (v4 0).toInt := by26.1.1
                  have sq27_1 : (v27 1).toInt = (v4 1).toInt := by26.1.2.1
                  have sq27_3 : (v27 3).toInt = (v4 3).toInt := by26.1.2.2.1
                  have sq27_4 : (v27 4).toInt = (v4 4).toInt := by26.1.2.2.2.1
                  have sq27_6 : (v27 6).toInt = (v4 6).toInt := by26.1.2.2.2.2.1
                  have sp27 := by26.1.2.2.2.2.2
                  have hb9 := by26.2
                  clear by26
                  intro m29 em_93
                  try have e29 : m29.toInt = (z6_7).toInt + (1) := by rw [em_93]; exact pm_addc _ _ (1) rfl (by omega) (by omega)
                  exact hC.2 [false, false, false, false, false, false, false, true, true, true] _ _ _ _ _ _ (ih6 m29 v27 f27 hv27 hf27 hw27 hr27_0 hr27_1 (by omega) (by omega) (by intro L h9 hL hH h1 h2 h3; have hl := hL.1; have hL2 := rp_fr hL (n2 := v27 0) (by omega) lr0 lr1; rw [show m29.toInt = z6_7.toInt + 1 by omega, rc_s hL2 h1 h2 h3 (by omega) (by omega)]; have h4 := hb9 _ (j2_7 L h9 hL hH h1 h2 h3); first | (rw [if_neg (by omega)]; exact h4) | (rw [if_pos (by omega), hH, if_pos (Or.inl (by assumption))]; exact h4) | (rw [if_pos (by omega), hH, if_pos (Or.inr (by assumption))]; exact h4) | (rw [if_pos (by omega), hH, if_neg (fun h8 => h8.elim (by assumption) (by assumption)), if_pos ⟨by assumption, by assumption⟩]; exact h4) | (rw [if_pos (by omega), hH, if_neg (fun h8 => h8.elim (by assumption) (by assumption)), if_neg (fun h8 => absurd h8.2 (by assumption))]; exact h4) | (rw [if_pos (by omega), hH, if_neg (fun h8 => h8.elim (by assumption) (by assumption)), if_neg (fun h8 => h8.1 (by assumption))]; exact h4)) (by omega) (by omega) (by omega))
                · skip
                  have dc25 : ((f4 0 (z6_7).toInt.toNat)).toInt = (x4 : Int32).toInt := congrArg Int32.toInt c25
                  refine hC.1 6 78 _ _ rfl _ _ _ _ _ ?_
                  refine Exists.intro _ (And.intro md_o ?_)
                  refine Exists.intro _ (Exists.intro _ (And.intro (Or.inl (md_a_names D)) (And.intro (by omega) ?_)))
                  refine And.intro (Exists.intro _ md_o) (Exists.intro _ (Exists.intro _ (Exists.intro _ (Exists.intro _ (And.intro (F_X11_lays D v4 f4 hv4 hf4 x3 (f4 1 (z6_7).toInt.toNat) (by omega) (by omega)) (And.intro rfl (fun r9 A9 h9 => ?_)))))))
                  obtain ⟨v31, f31, rfl, rfl, hv31, hf31, hx31, hg31_0, hg31_1, by30⟩ := h9
                  have hw31 : f31 2 = f 2 := hx31.trans hw4
                  have hr31_0 : f31 0 = f 0 := hg31_0.trans hr4_0
                  have hr31_1 : f31 1 = f 1 := hg31_1.trans hr4_1
                  have hu32_2 := hv31.2.2.1
                  have hb_90 := by30.2
                  have sq31_0 : (v31 0).toInt = (v4 0).toInt := by30.1.1
                  have sq31_1 : (v31 1).toInt = (v4 1).toInt := by30.1.2.1
                  have sq31_3 : (v31 3).toInt = (v4 3).toInt := by30.1.2.2.1
                  have sq31_4 : (v31 4).toInt = (v4 4).toInt := by30.1.2.2.2.1
                  have sq31_6 : (v31 6).toInt = (v4 6).toInt := by30.1.2.2.2.2.1
                  have sp31 := by30.1.2.2.2.2.2
                  have hb9 := by30.2
                  clear by30
                  intro m33 em_93
                  try have e33 : m33.toInt = (z6_7).toInt + (1) := by rw [em_93]; exact pm_addc _ _ (1) rfl (by omega) (by omega)
                  exact hC.2 [false, false, false, false, false, false, false, true, true, true] _ _ _ _ _ _ (ih6 m33 v31 f31 hv31 hf31 hw31 hr31_0 hr31_1 (by omega) (by omega) (by intro L h9 hL hH h1 h2 h3; have hl := hL.1; have hL2 := rp_fr hL (n2 := v31 0) (by omega) lr0 lr1; rw [show m33.toInt = z6_7.toInt + 1 by omega, rc_s hL2 h1 h2 h3 (by omega) (by omega)]; have h4 := hb9 _ (j2_7 L h9 hL hH h1 h2 h3); first | (rw [if_neg (by omega)]; exact h4) | (rw [if_pos (by omega), hH, if_pos (Or.inl (by assumption))]; exact h4) | (rw [if_pos (by omega), hH, if_pos (Or.inr (by assumption))]; exact h4) | (rw [if_pos (by omega), hH, if_neg (fun h8 => h8.elim (by assumption) (by assumption)), if_pos ⟨by assumption, by assumption⟩]; exact h4) | (rw [if_pos (by omega), hH, if_neg (fun h8 => h8.elim (by assumption) (by assumption)), if_neg (fun h8 => absurd h8.2 (by assumption))]; exact h4) | (rw [if_pos (by omega), hH, if_neg (fun h8 => h8.elim (by assumption) (by assumption)), if_neg (fun h8 => h8.1 (by assumption))]; exact h4)) (by omega) (by omega) (by omega))
            · skip
              have dc19 : ((f4 0 (z6_7).toInt.toNat)).toInt = (x3 : Int32).toInt := congrArg Int32.toInt c19
              refine hC.1 3 55 _ _ rfl _ _ _ _ _ ?_
              refine hC.1 6 78 _ _ rfl _ _ _ _ _ ?_
              refine Exists.intro _ (And.intro md_o ?_)
              refine Exists.intro _ (Exists.intro _ (And.intro (Or.inl (md_a_names D)) (And.intro (by omega) ?_)))
              refine And.intro (Exists.intro _ md_o) (Exists.intro _ (Exists.intro _ (Exists.intro _ (Exists.intro _ (And.intro (F_X11_lays D v4 f4 hv4 hf4 x4 (f4 1 (z6_7).toInt.toNat) (by omega) (by omega)) (And.intro rfl (fun r9 A9 h9 => ?_)))))))
              obtain ⟨v35, f35, rfl, rfl, hv35, hf35, hx35, hg35_0, hg35_1, by34⟩ := h9
              have hw35 : f35 2 = f 2 := hx35.trans hw4
              have hr35_0 : f35 0 = f 0 := hg35_0.trans hr4_0
              have hr35_1 : f35 1 = f 1 := hg35_1.trans hr4_1
              have hu36_2 := hv35.2.2.1
              have hb_90 := by34.2
              have sq35_0 : (v35 0).toInt = (v4 0).toInt := by34.1.1
              have sq35_1 : (v35 1).toInt = (v4 1).toInt := by34.1.2.1
              have sq35_3 : (v35 3).toInt = (v4 3).toInt := by34.1.2.2.1
              have sq35_4 : (v35 4).toInt = (v4 4).toInt := by34.1.2.2.2.1
              have sq35_6 : (v35 6).toInt = (v4 6).toInt := by34.1.2.2.2.2.1
              have sp35 := by34.1.2.2.2.2.2
              have hb9 := by34.2
              clear by34
              intro m37 em_93
              try have e37 : m37.toInt = (z6_7).toInt + (1) := by rw [em_93]; exact pm_addc _ _ (1) rfl (by omega) (by omega)
              exact hC.2 [false, false, false, false, false, false, false, true, true, true] _ _ _ _ _ _ (ih6 m37 v35 f35 hv35 hf35 hw35 hr35_0 hr35_1 (by omega) (by omega) (by intro L h9 hL hH h1 h2 h3; have hl := hL.1; have hL2 := rp_fr hL (n2 := v35 0) (by omega) lr0 lr1; rw [show m37.toInt = z6_7.toInt + 1 by omega, rc_s hL2 h1 h2 h3 (by omega) (by omega)]; have h4 := hb9 _ (j2_7 L h9 hL hH h1 h2 h3); first | (rw [if_neg (by omega)]; exact h4) | (rw [if_pos (by omega), hH, if_pos (Or.inl (by assumption))]; exact h4) | (rw [if_pos (by omega), hH, if_pos (Or.inr (by assumption))]; exact h4) | (rw [if_pos (by omega), hH, if_neg (fun h8 => h8.elim (by assumption) (by assumption)), if_pos ⟨by assumption, by assumption⟩]; exact h4) | (rw [if_pos (by omega), hH, if_neg (fun h8 => h8.elim (by assumption) (by assumption)), if_neg (fun h8 => absurd h8.2 (by assumption))]; exact h4) | (rw [if_pos (by omega), hH, if_neg (fun h8 => h8.elim (by assumption) (by assumption)), if_neg (fun h8 => h8.1 (by assumption))]; exact h4)) (by omega) (by omega) (by omega))
        · skip
          refine And.intro (fun c9 => absurd c9 (by decide)) (fun _ => ?_)
          refine hC.1 6 78 _ _ rfl _ _ _ _ _ ?_
          refine Exists.intro _ (And.intro md_o ?_)
          refine Exists.intro _ (Exists.intro _ (And.intro (Or.inl (md_a_names D)) (And.intro (by omega) ?_)))
          refine And.intro (Exists.intro _ md_o) (Exists.intro _ (Exists.intro _ (Exists.intro _ (Exists.intro _ (And.intro (F_X11_lays D v4 f4 hv4 hf4 (f4 0 (z6_7).toInt.toNat) (f4 1 (z6_7).toInt.toNat) (by omega) (by omega)) (And.intro rfl (fun r9 A9 h9 => ?_)))))))
          obtain ⟨v39, f39, rfl, rfl, hv39, hf39, hx39, hg39_0, hg39_1, by38⟩ := h9
          have hw39 : f39 2 = f 2 := hx39.trans hw4
          have hr39_0 : f39 0 = f 0 := hg39_0.trans hr4_0
          have hr39_1 : f39 1 = f 1 := hg39_1.trans hr4_1
          have hu40_2 := hv39.2.2.1
          have hb_90 := by38.2
          have sq39_0 : (v39 0).toInt = (v4 0).toInt := by38.1.1
          have sq39_1 : (v39 1).toInt = (v4 1).toInt := by38.1.2.1
          have sq39_3 : (v39 3).toInt = (v4 3).toInt := by38.1.2.2.1
          have sq39_4 : (v39 4).toInt = (v4 4).toInt := by38.1.2.2.2.1
          have sq39_6 : (v39 6).toInt = (v4 6).toInt := by38.1.2.2.2.2.1
          have sp39 := by38.1.2.2.2.2.2
          have hb9 := by38.2
          clear by38
          have k1 : (1 : Int32).toInt = 1 := rfl
          intro m41 em_93
          try have e41 : m41.toInt = (z6_7).toInt + (1) := by rw [em_93]; exact pm_addc _ _ (1) rfl (by omega) (by omega)
          exact hC.2 [false, false, false, false, false, false, false, true, true, true] _ _ _ _ _ _ (ih6 m41 v39 f39 hv39 hf39 hw39 hr39_0 hr39_1 (by omega) (by omega) (by intro L h9 hL hH h1 h2 h3; have hl := hL.1; have hL2 := rp_fr hL (n2 := v39 0) (by omega) lr0 lr1; rw [show m41.toInt = z6_7.toInt + 1 by omega, rc_s hL2 h1 h2 h3 (by omega) (by omega)]; have h4 := hb9 _ (j2_7 L h9 hL hH h1 h2 h3); first | (rw [if_neg (by omega)]; exact h4) | (rw [if_pos (by omega), hH, if_pos (Or.inl (by assumption))]; exact h4) | (rw [if_pos (by omega), hH, if_pos (Or.inr (by assumption))]; exact h4) | (rw [if_pos (by omega), hH, if_neg (fun h8 => h8.elim (by assumption) (by assumption)), if_pos ⟨by assumption, by assumption⟩]; exact h4) | (rw [if_pos (by omega), hH, if_neg (fun h8 => h8.elim (by assumption) (by assumption)), if_neg (fun h8 => absurd h8.2 (by assumption))]; exact h4) | (rw [if_pos (by omega), hH, if_neg (fun h8 => h8.elim (by assumption) (by assumption)), if_neg (fun h8 => h8.1 (by assumption))]; exact h4)) (by omega) (by omega) (by omega))
  exact lp5 (200 - (0 : Int32).toInt).toNat.succ (0 : Int32) v2 f2 hv2 hf2 hw2 hr2_0 hr2_1 (by omega) (by omega) (by intro L h9 hL hH h1 h2 h3; rw [rc_0 h1 h2]; exact rp_0 (by omega)) (by omega) (by omega) (by omega)

end
end
section
section
variable {l : Launch} {g : pm_G} {A0 : pm_H} {h : Nat} {q : Nat → Nat}
set_option maxRecDepth 100000 in
set_option maxHeartbeats 2000000 in
theorem F_X11_put (D : md_D h q) (v : Nat → Int32) (f : Nat → Nat → Int32) (hv : md_V v) (hf : md_F f) (x1 : Int32) (x2 : Int32) (p0 : (v 4).toInt < 100000) : pm_Mt l g 167 5 0 0 [.ref h, .int x1, .int x2] (md A0 g h q v f) (md_Qw A0 g h q f (fun r v2 f2 => ((v2 6).toInt = (v 6).toInt ∧ (v2 4).toInt ≤ (v 4).toInt + 1 ∧ (v 4).toInt ≤ (v2 4).toInt) ∧ (∀ L, rp (v 0) (f 0) (f 1) L → rp (v2 0) (f2 0) (f2 1) ((ed_paint L x1 x1 x2).getD L) ∧ (v2 4).toInt = (v 4).toInt + edn (ed_paint L x1 x1 x2) ∧ (v2 3).toInt = (v 3).toInt + edn (ed_paint L x1 x1 x2) * (0)))) := by
  refine mt_X11_put rfl (fun J hC => ?_)
  have hv9 := hv
  unfold md_V at hv9
  have rg_x1 := pm_rng x1
  have rg_x2 := pm_rng x2
  refine hC.1 0 0 _ _ rfl _ _ _ _ _ ?_
  refine And.intro (Exists.intro _ md_o) (Exists.intro _ (Exists.intro _ (Exists.intro _ (Exists.intro _ (And.intro (c_X11_isPlace D v f hv hf x1 ) (And.intro rfl (fun r9 A9 h9 => ?_)))))))
  rcases h9 with ⟨y1, rfl, rfl, ⟨rfl, by1⟩ | ⟨rfl, by1⟩⟩
  · skip
    have k1 : (1 : Int32).toInt = 1 := rfl
    refine And.intro (fun c9 => absurd c9 (by decide)) (fun _ => ?_)
    refine Exists.intro _ (Exists.intro _ (Exists.intro _ (Exists.intro _ (And.intro (c_X11_isColour (md A0 g h q v f) x2 ) (And.intro rfl (fun r9 A9 h9 => ?_))))))
    rcases h9 with ⟨y2, rfl, rfl, ⟨rfl, by2⟩ | ⟨rfl, by2⟩⟩
    · skip
      refine And.intro (fun c9 => absurd c9 (by decide)) (fun _ => ?_)
      have km1 : (-1 : Int32).toInt = -1 := rfl
      have k0 : (0 : Int32).toInt = 0 := rfl
      have hp_21 : ∀ L, rp (v 0) (f 0) (f 1) L → rp (v 0) (f 0) (f 1) L := fun L h => rp_fr h (by omega) rfl rfl
      refine And.intro (Exists.intro _ md_o) (Exists.intro _ (Exists.intro _ (Exists.intro _ (Exists.intro _ (And.intro (F_X11_recolours D v f hv hf x1 x1 (-1 : Int32) x2 (0 : Int32) (by omega) (by omega) (by omega)) (And.intro rfl (fun r9 A9 h9 => ?_)))))))
      obtain ⟨y3, v4, f4, rfl, rfl, hv4, hf4, hx4, by3⟩ := h9
      have hw4 : f4 2 = f 2 := hx4.trans rfl
      have hu5_0 := hv4.1
      have hu5_1 := hv4.2.1
      have hu5_2 := hv4.2.2.1
      have hu5_4 := hv4.2.2.2.2.1
      have hb_21 := by3.2
      have sq4_3 : (v4 3).toInt = (v 3).toInt := by3.1.1
      have sq4_6 : (v4 6).toInt = (v 6).toInt := by3.1.2.1
      have sp4 := by3.1.2.2
      clear by3
      refine hC.1 2 28 _ _ rfl _ _ _ _ _ ?_
      exact ⟨rfl, fun e9 => absurd e9 (by decide), rfl, y3, v4, f4, rfl, rfl, hv4, hf4, hw4, by first | omega | (dsimp only; omega) | trivial, by first | (intro L hL; have hl := hL.1; rw [ed_paint, if_pos (by omega)]; have t9 := hb_21 L (fun _ => x2) (hp_21 L hL) (fun c9 => (if_pos (Or.inl rfl)).symm) (by omega) (by omega) (by omega); exact ⟨t9, by show _ = _ + (1 : Int); omega, by show _ = _ + (1 : Int) * _; omega⟩) | (intro L hL; have hl := hL.1; rw [ed_paint, if_neg (by omega)]; exact ⟨hL, by show _ = _ + (0 : Int); omega, by show _ = _ + (0 : Int) * _; omega⟩)⟩
    · skip
      have k0 : (0 : Int32).toInt = 0 := rfl
      refine And.intro (fun _ => ?_) (fun c9 => absurd c9 (by decide))
      refine hC.1 1 27 _ _ rfl _ _ _ _ _ ?_
      have km1 : (-1 : Int32).toInt = -1 := rfl
      refine hC.1 2 28 _ _ rfl _ _ _ _ _ ?_
      exact ⟨rfl, fun e9 => absurd e9 (by decide), rfl, (-1 : Int32), v, f, rfl, rfl, hv, hf, rfl, by first | omega | (dsimp only; omega) | trivial, by first | (intro L hL; have hl := hL.1; rw [ed_paint, if_pos (by omega)]; have t9 := hb_21 L (fun _ => x2) (hp_21 L hL) (fun c9 => (if_pos (Or.inl rfl)).symm) (by omega) (by omega) (by omega); exact ⟨t9, by show _ = _ + (1 : Int); omega, by show _ = _ + (1 : Int) * _; omega⟩) | (intro L hL; have hl := hL.1; rw [ed_paint, if_neg (by omega)]; exact ⟨hL, by show _ = _ + (0 : Int); omega, by show _ = _ + (0 : Int) * _; omega⟩)⟩
  · skip
    have k0 : (0 : Int32).toInt = 0 := rfl
    refine And.intro (fun _ => ?_) (fun c9 => absurd c9 (by decide))
    refine hC.1 1 27 _ _ rfl _ _ _ _ _ ?_
    have km1 : (-1 : Int32).toInt = -1 := rfl
    refine hC.1 2 28 _ _ rfl _ _ _ _ _ ?_
    exact ⟨rfl, fun e9 => absurd e9 (by decide), rfl, (-1 : Int32), v, f, rfl, rfl, hv, hf, rfl, by first | omega | (dsimp only; omega) | trivial, by first | (intro L hL; have hl := hL.1; rw [ed_paint, if_pos (by omega)]; have t9 := hb_21 L (fun _ => x2) (hp_21 L hL) (fun c9 => (if_pos (Or.inl rfl)).symm) (by omega) (by omega) (by omega); exact ⟨t9, by show _ = _ + (1 : Int); omega, by show _ = _ + (1 : Int) * _; omega⟩) | (intro L hL; have hl := hL.1; rw [ed_paint, if_neg (by omega)]; exact ⟨hL, by show _ = _ + (0 : Int); omega, by show _ = _ + (0 : Int) * _; omega⟩)⟩

set_option maxRecDepth 100000 in
set_option maxHeartbeats 2000000 in
theorem F_X11_paint (D : md_D h q) (v : Nat → Int32) (f : Nat → Nat → Int32) (hv : md_V v) (hf : md_F f) (x1 : Int32) (x2 : Int32) (x3 : Int32) (p0 : (v 4).toInt < 100000) : pm_Mt l g 179 5 0 0 [.ref h, .int x1, .int x2, .int x3] (md A0 g h q v f) (md_Qw A0 g h q f (fun r v2 f2 => ((v2 6).toInt = (v 6).toInt ∧ (v2 4).toInt ≤ (v 4).toInt + 1 ∧ (v 4).toInt ≤ (v2 4).toInt) ∧ (∀ L, rp (v 0) (f 0) (f 1) L → rp (v2 0) (f2 0) (f2 1) ((ed_paint L x1 x2 x3).getD L) ∧ (v2 4).toInt = (v 4).toInt + edn (ed_paint L x1 x2 x3) ∧ (v2 3).toInt = (v 3).toInt + edn (ed_paint L x1 x2 x3) * (0)))) := by
  refine mt_X11_paint rfl (fun J hC => ?_)
  have hv9 := hv
  unfold md_V at hv9
  have rg_x1 := pm_rng x1
  have rg_x2 := pm_rng x2
  have rg_x3 := pm_rng x3
  refine hC.1 0 0 _ _ rfl _ _ _ _ _ ?_
  refine And.intro (Exists.intro _ md_o) (Exists.intro _ (Exists.intro _ (Exists.intro _ (Exists.intro _ (And.intro (c_X11_isSpan D v f hv hf x1 x2 ) (And.intro rfl (fun r9 A9 h9 => ?_)))))))
  rcases h9 with ⟨y1, rfl, rfl, ⟨rfl, by1⟩ | ⟨rfl, by1⟩⟩
  · skip
    have k1 : (1 : Int32).toInt = 1 := rfl
    refine And.intro (fun c9 => absurd c9 (by decide)) (fun _ => ?_)
    refine Exists.intro _ (Exists.intro _ (Exists.intro _ (Exists.intro _ (And.intro (c_X11_isColour (md A0 g h q v f) x3 ) (And.intro rfl (fun r9 A9 h9 => ?_))))))
    rcases h9 with ⟨y2, rfl, rfl, ⟨rfl, by2⟩ | ⟨rfl, by2⟩⟩
    · skip
      refine And.intro (fun c9 => absurd c9 (by decide)) (fun _ => ?_)
      have km1 : (-1 : Int32).toInt = -1 := rfl
      have k0 : (0 : Int32).toInt = 0 := rfl
      have hp_22 : ∀ L, rp (v 0) (f 0) (f 1) L → rp (v 0) (f 0) (f 1) L := fun L h => rp_fr h (by omega) rfl rfl
      refine And.intro (Exists.intro _ md_o) (Exists.intro _ (Exists.intro _ (Exists.intro _ (Exists.intro _ (And.intro (F_X11_recolours D v f hv hf x1 x2 (-1 : Int32) x3 (0 : Int32) (by omega) (by omega) (by omega)) (And.intro rfl (fun r9 A9 h9 => ?_)))))))
      obtain ⟨y3, v4, f4, rfl, rfl, hv4, hf4, hx4, by3⟩ := h9
      have hw4 : f4 2 = f 2 := hx4.trans rfl
      have hu5_0 := hv4.1
      have hu5_1 := hv4.2.1
      have hu5_2 := hv4.2.2.1
      have hu5_4 := hv4.2.2.2.2.1
      have hb_22 := by3.2
      have sq4_3 : (v4 3).toInt = (v 3).toInt := by3.1.1
      have sq4_6 : (v4 6).toInt = (v 6).toInt := by3.1.2.1
      have sp4 := by3.1.2.2
      clear by3
      refine hC.1 2 29 _ _ rfl _ _ _ _ _ ?_
      exact ⟨rfl, fun e9 => absurd e9 (by decide), rfl, y3, v4, f4, rfl, rfl, hv4, hf4, hw4, by first | omega | (dsimp only; omega) | trivial, by first | (intro L hL; have hl := hL.1; rw [ed_paint, if_pos (by omega)]; have t9 := hb_22 L (fun _ => x3) (hp_22 L hL) (fun c9 => (if_pos (Or.inl rfl)).symm) (by omega) (by omega) (by omega); exact ⟨t9, by show _ = _ + (1 : Int); omega, by show _ = _ + (1 : Int) * _; omega⟩) | (intro L hL; have hl := hL.1; rw [ed_paint, if_neg (by omega)]; exact ⟨hL, by show _ = _ + (0 : Int); omega, by show _ = _ + (0 : Int) * _; omega⟩)⟩
    · skip
      have k0 : (0 : Int32).toInt = 0 := rfl
      refine And.intro (fun _ => ?_) (fun c9 => absurd c9 (by decide))
      refine hC.1 1 28 _ _ rfl _ _ _ _ _ ?_
      have km1 : (-1 : Int32).toInt = -1 := rfl
      refine hC.1 2 29 _ _ rfl _ _ _ _ _ ?_
      exact ⟨rfl, fun e9 => absurd e9 (by decide), rfl, (-1 : Int32), v, f, rfl, rfl, hv, hf, rfl, by first | omega | (dsimp only; omega) | trivial, by first | (intro L hL; have hl := hL.1; rw [ed_paint, if_pos (by omega)]; have t9 := hb_22 L (fun _ => x3) (hp_22 L hL) (fun c9 => (if_pos (Or.inl rfl)).symm) (by omega) (by omega) (by omega); exact ⟨t9, by show _ = _ + (1 : Int); omega, by show _ = _ + (1 : Int) * _; omega⟩) | (intro L hL; have hl := hL.1; rw [ed_paint, if_neg (by omega)]; exact ⟨hL, by show _ = _ + (0 : Int); omega, by show _ = _ + (0 : Int) * _; omega⟩)⟩
  · skip
    have k0 : (0 : Int32).toInt = 0 := rfl
    refine And.intro (fun _ => ?_) (fun c9 => absurd c9 (by decide))
    refine hC.1 1 28 _ _ rfl _ _ _ _ _ ?_
    have km1 : (-1 : Int32).toInt = -1 := rfl
    refine hC.1 2 29 _ _ rfl _ _ _ _ _ ?_
    exact ⟨rfl, fun e9 => absurd e9 (by decide), rfl, (-1 : Int32), v, f, rfl, rfl, hv, hf, rfl, by first | omega | (dsimp only; omega) | trivial, by first | (intro L hL; have hl := hL.1; rw [ed_paint, if_pos (by omega)]; have t9 := hb_22 L (fun _ => x3) (hp_22 L hL) (fun c9 => (if_pos (Or.inl rfl)).symm) (by omega) (by omega) (by omega); exact ⟨t9, by show _ = _ + (1 : Int); omega, by show _ = _ + (1 : Int) * _; omega⟩) | (intro L hL; have hl := hL.1; rw [ed_paint, if_neg (by omega)]; exact ⟨hL, by show _ = _ + (0 : Int); omega, by show _ = _ + (0 : Int) * _; omega⟩)⟩

set_option maxRecDepth 100000 in
set_option maxHeartbeats 2000000 in
theorem F_X11_merge (D : md_D h q) (v : Nat → Int32) (f : Nat → Nat → Int32) (hv : md_V v) (hf : md_F f) (x1 : Int32) (x2 : Int32) (p0 : (v 4).toInt < 100000) : pm_Mt l g 181 5 0 0 [.ref h, .int x1, .int x2] (md A0 g h q v f) (md_Qw A0 g h q f (fun r v2 f2 => ((v2 6).toInt = (v 6).toInt ∧ (v2 4).toInt ≤ (v 4).toInt + 1 ∧ (v 4).toInt ≤ (v2 4).toInt) ∧ (∀ L, rp (v 0) (f 0) (f 1) L → rp (v2 0) (f2 0) (f2 1) ((ed_merge L x1 x2).getD L) ∧ (v2 4).toInt = (v 4).toInt + edn (ed_merge L x1 x2) ∧ (v2 3).toInt = (v 3).toInt + edn (ed_merge L x1 x2) * (0)))) := by
  refine mt_X11_merge rfl (fun J hC => ?_)
  have hv9 := hv
  unfold md_V at hv9
  have rg_x1 := pm_rng x1
  have rg_x2 := pm_rng x2
  refine hC.1 0 0 _ _ rfl _ _ _ _ _ ?_
  refine Exists.intro _ (Exists.intro _ (Exists.intro _ (Exists.intro _ (And.intro (c_X11_isColour (md A0 g h q v f) x1 ) (And.intro rfl (fun r9 A9 h9 => ?_))))))
  rcases h9 with ⟨y1, rfl, rfl, ⟨rfl, by1⟩ | ⟨rfl, by1⟩⟩
  · skip
    have k1 : (1 : Int32).toInt = 1 := rfl
    refine And.intro (fun c9 => absurd c9 (by decide)) (fun _ => ?_)
    refine Exists.intro _ (Exists.intro _ (Exists.intro _ (Exists.intro _ (And.intro (c_X11_isColour (md A0 g h q v f) x2 ) (And.intro rfl (fun r9 A9 h9 => ?_))))))
    rcases h9 with ⟨y2, rfl, rfl, ⟨rfl, by2⟩ | ⟨rfl, by2⟩⟩
    · skip
      refine And.intro (fun c9 => absurd c9 (by decide)) (fun _ => ?_)
      refine And.intro (fun c3 => ?_) (fun c3 => ?_)
      · skip
        have dc3 : (x1).toInt = (x2 : Int32).toInt := congrArg Int32.toInt c3
        refine hC.1 1 36 _ _ rfl _ _ _ _ _ ?_
        have km1 : (-1 : Int32).toInt = -1 := rfl
        refine hC.1 2 37 _ _ rfl _ _ _ _ _ ?_
        exact ⟨rfl, fun e9 => absurd e9 (by decide), rfl, (-1 : Int32), v, f, rfl, rfl, hv, hf, rfl, by first | omega | (dsimp only; omega) | trivial, by first | (intro L hL; have hl := hL.1; rw [ed_merge, if_pos (by omega)]; have nm9 : ¬ x1 = -1 := fun e9 => (by have e8 := congrArg Int32.toInt e9; have e7 : (-1 : Int32).toInt = -1 := rfl; omega); have t9 := hb_30 L (fun c => if c = x1 then x2 else c) (hp_30 L hL) (fun c9 => (by by_cases q9 : c9 = x1; (simp [q9]); (simp [q9, nm9, show ¬ (1 : Int32) = 0 by decide]))) (by omega) (by omega) (by omega); rw [show (0 : Int32).toInt = 0 from rfl, ← hmm9, show mm9.toInt = (L.length : Int) - 1 by (rw [hmm9]; omega), rc_all] at t9; exact ⟨t9, by show _ = _ + (1 : Int); omega, by show _ = _ + (1 : Int) * _; omega⟩) | (intro L hL; have hl := hL.1; rw [ed_merge, if_neg (by omega)]; exact ⟨hL, by show _ = _ + (0 : Int); omega, by show _ = _ + (0 : Int) * _; omega⟩)⟩
      · skip
        have dc3 := pm_neI c3
        have k0 : (0 : Int32).toInt = 0 := rfl
        refine Exists.intro _ (And.intro md_o ?_)
        intro m4 em_26
        try have e4 : m4.toInt = ((v 0)).toInt - (1) := by rw [em_26]; exact pm_subc _ _ (1) rfl (by omega) (by omega)
        obtain ⟨mm9, hmm9⟩ : ∃ z9, z9 = m4 := ⟨_, rfl⟩
        have hp_30 : ∀ L, rp (v 0) (f 0) (f 1) L → rp (v 0) (f 0) (f 1) L := fun L h => rp_fr h (by omega) rfl rfl
        refine And.intro (Exists.intro _ md_o) (Exists.intro _ (Exists.intro _ (Exists.intro _ (Exists.intro _ (And.intro (F_X11_recolours D v f hv hf (0 : Int32) m4 x1 x2 (0 : Int32) (by omega) (by omega) (by omega)) (And.intro rfl (fun r9 A9 h9 => ?_)))))))
        obtain ⟨y5, v6, f6, rfl, rfl, hv6, hf6, hx6, by5⟩ := h9
        have hw6 : f6 2 = f 2 := hx6.trans rfl
        have hu7_0 := hv6.1
        have hu7_1 := hv6.2.1
        have hu7_2 := hv6.2.2.1
        have hu7_4 := hv6.2.2.2.2.1
        have hb_30 := by5.2
        have sq6_3 : (v6 3).toInt = (v 3).toInt := by5.1.1
        have sq6_6 : (v6 6).toInt = (v 6).toInt := by5.1.2.1
        have sp6 := by5.1.2.2
        clear by5
        refine hC.1 2 37 _ _ rfl _ _ _ _ _ ?_
        exact ⟨rfl, fun e9 => absurd e9 (by decide), rfl, y5, v6, f6, rfl, rfl, hv6, hf6, hw6, by first | omega | (dsimp only; omega) | trivial, by first | (intro L hL; have hl := hL.1; rw [ed_merge, if_pos (by omega)]; have nm9 : ¬ x1 = -1 := fun e9 => (by have e8 := congrArg Int32.toInt e9; have e7 : (-1 : Int32).toInt = -1 := rfl; omega); have t9 := hb_30 L (fun c => if c = x1 then x2 else c) (hp_30 L hL) (fun c9 => (by by_cases q9 : c9 = x1; (simp [q9]); (simp [q9, nm9, show ¬ (1 : Int32) = 0 by decide]))) (by omega) (by omega) (by omega); rw [show (0 : Int32).toInt = 0 from rfl, ← hmm9, show mm9.toInt = (L.length : Int) - 1 by (rw [hmm9]; omega), rc_all] at t9; exact ⟨t9, by show _ = _ + (1 : Int); omega, by show _ = _ + (1 : Int) * _; omega⟩) | (intro L hL; have hl := hL.1; rw [ed_merge, if_neg (by omega)]; exact ⟨hL, by show _ = _ + (0 : Int); omega, by show _ = _ + (0 : Int) * _; omega⟩)⟩
    · skip
      have k0 : (0 : Int32).toInt = 0 := rfl
      refine And.intro (fun _ => ?_) (fun c9 => absurd c9 (by decide))
      refine hC.1 1 36 _ _ rfl _ _ _ _ _ ?_
      have km1 : (-1 : Int32).toInt = -1 := rfl
      refine hC.1 2 37 _ _ rfl _ _ _ _ _ ?_
      exact ⟨rfl, fun e9 => absurd e9 (by decide), rfl, (-1 : Int32), v, f, rfl, rfl, hv, hf, rfl, by first | omega | (dsimp only; omega) | trivial, by first | (intro L hL; have hl := hL.1; rw [ed_merge, if_pos (by omega)]; have nm9 : ¬ x1 = -1 := fun e9 => (by have e8 := congrArg Int32.toInt e9; have e7 : (-1 : Int32).toInt = -1 := rfl; omega); have t9 := hb_30 L (fun c => if c = x1 then x2 else c) (hp_30 L hL) (fun c9 => (by by_cases q9 : c9 = x1; (simp [q9]); (simp [q9, nm9, show ¬ (1 : Int32) = 0 by decide]))) (by omega) (by omega) (by omega); rw [show (0 : Int32).toInt = 0 from rfl, ← hmm9, show mm9.toInt = (L.length : Int) - 1 by (rw [hmm9]; omega), rc_all] at t9; exact ⟨t9, by show _ = _ + (1 : Int); omega, by show _ = _ + (1 : Int) * _; omega⟩) | (intro L hL; have hl := hL.1; rw [ed_merge, if_neg (by omega)]; exact ⟨hL, by show _ = _ + (0 : Int); omega, by show _ = _ + (0 : Int) * _; omega⟩)⟩
  · skip
    have k0 : (0 : Int32).toInt = 0 := rfl
    refine And.intro (fun _ => ?_) (fun c9 => absurd c9 (by decide))
    refine hC.1 1 36 _ _ rfl _ _ _ _ _ ?_
    have km1 : (-1 : Int32).toInt = -1 := rfl
    refine hC.1 2 37 _ _ rfl _ _ _ _ _ ?_
    exact ⟨rfl, fun e9 => absurd e9 (by decide), rfl, (-1 : Int32), v, f, rfl, rfl, hv, hf, rfl, by first | omega | (dsimp only; omega) | trivial, by first | (intro L hL; have hl := hL.1; rw [ed_merge, if_pos (by omega)]; have nm9 : ¬ x1 = -1 := fun e9 => (by have e8 := congrArg Int32.toInt e9; have e7 : (-1 : Int32).toInt = -1 := rfl; omega); have t9 := hb_30 L (fun c => if c = x1 then x2 else c) (hp_30 L hL) (fun c9 => (by by_cases q9 : c9 = x1; (simp [q9]); (simp [q9, nm9, show ¬ (1 : Int32) = 0 by decide]))) (by omega) (by omega) (by omega); rw [show (0 : Int32).toInt = 0 from rfl, ← hmm9, show mm9.toInt = (L.length : Int) - 1 by (rw [hmm9]; omega), rc_all] at t9; exact ⟨t9, by show _ = _ + (1 : Int); omega, by show _ = _ + (1 : Int) * _; omega⟩) | (intro L hL; have hl := hL.1; rw [ed_merge, if_neg (by omega)]; exact ⟨hL, by show _ = _ + (0 : Int); omega, by show _ = _ + (0 : Int) * _; omega⟩)⟩

set_option maxRecDepth 100000 in
set_option maxHeartbeats 2000000 in
theorem F_X11_exchange (D : md_D h q) (v : Nat → Int32) (f : Nat → Nat → Int32) (hv : md_V v) (hf : md_F f) (x1 : Int32) (x2 : Int32) (p0 : (v 4).toInt < 100000) : pm_Mt l g 182 5 0 0 [.ref h, .int x1, .int x2] (md A0 g h q v f) (md_Qw A0 g h q f (fun r v2 f2 => ((v2 6).toInt = (v 6).toInt ∧ (v2 4).toInt ≤ (v 4).toInt + 1 ∧ (v 4).toInt ≤ (v2 4).toInt) ∧ (∀ L, rp (v 0) (f 0) (f 1) L → rp (v2 0) (f2 0) (f2 1) ((ed_exch L x1 x2).getD L) ∧ (v2 4).toInt = (v 4).toInt + edn (ed_exch L x1 x2) ∧ (v2 3).toInt = (v 3).toInt + edn (ed_exch L x1 x2) * (0)))) := by
  refine mt_X11_exchange rfl (fun J hC => ?_)
  have hv9 := hv
  unfold md_V at hv9
  have rg_x1 := pm_rng x1
  have rg_x2 := pm_rng x2
  refine hC.1 0 0 _ _ rfl _ _ _ _ _ ?_
  refine Exists.intro _ (Exists.intro _ (Exists.intro _ (Exists.intro _ (And.intro (c_X11_isColour (md A0 g h q v f) x1 ) (And.intro rfl (fun r9 A9 h9 => ?_))))))
  rcases h9 with ⟨y1, rfl, rfl, ⟨rfl, by1⟩ | ⟨rfl, by1⟩⟩
  · skip
    have k1 : (1 : Int32).toInt = 1 := rfl
    refine And.intro (fun c9 => absurd c9 (by decide)) (fun _ => ?_)
    refine Exists.intro _ (Exists.intro _ (Exists.intro _ (Exists.intro _ (And.intro (c_X11_isColour (md A0 g h q v f) x2 ) (And.intro rfl (fun r9 A9 h9 => ?_))))))
    rcases h9 with ⟨y2, rfl, rfl, ⟨rfl, by2⟩ | ⟨rfl, by2⟩⟩
    · skip
      refine And.intro (fun c9 => absurd c9 (by decide)) (fun _ => ?_)
      refine And.intro (fun c3 => ?_) (fun c3 => ?_)
      · skip
        have dc3 : (x1).toInt = (x2 : Int32).toInt := congrArg Int32.toInt c3
        refine hC.1 1 36 _ _ rfl _ _ _ _ _ ?_
        have km1 : (-1 : Int32).toInt = -1 := rfl
        refine hC.1 2 37 _ _ rfl _ _ _ _ _ ?_
        exact ⟨rfl, fun e9 => absurd e9 (by decide), rfl, (-1 : Int32), v, f, rfl, rfl, hv, hf, rfl, by first | omega | (dsimp only; omega) | trivial, by first | (intro L hL; have hl := hL.1; rw [ed_exch, if_pos (by omega)]; have nm9 : ¬ x1 = -1 := fun e9 => (by have e8 := congrArg Int32.toInt e9; have e7 : (-1 : Int32).toInt = -1 := rfl; omega); have t9 := hb_30 L (fun c => if c = x1 then x2 else if c = x2 then x1 else c) (hp_30 L hL) (fun c9 => (by by_cases q9 : c9 = x1; (simp [q9]); (simp [q9, nm9, show ¬ (1 : Int32) = 0 by decide]))) (by omega) (by omega) (by omega); rw [show (0 : Int32).toInt = 0 from rfl, ← hmm9, show mm9.toInt = (L.length : Int) - 1 by (rw [hmm9]; omega), rc_all] at t9; exact ⟨t9, by show _ = _ + (1 : Int); omega, by show _ = _ + (1 : Int) * _; omega⟩) | (intro L hL; have hl := hL.1; rw [ed_exch, if_neg (by omega)]; exact ⟨hL, by show _ = _ + (0 : Int); omega, by show _ = _ + (0 : Int) * _; omega⟩)⟩
      · skip
        have dc3 := pm_neI c3
        have k0 : (0 : Int32).toInt = 0 := rfl
        refine Exists.intro _ (And.intro md_o ?_)
        intro m4 em_26
        try have e4 : m4.toInt = ((v 0)).toInt - (1) := by rw [em_26]; exact pm_subc _ _ (1) rfl (by omega) (by omega)
        obtain ⟨mm9, hmm9⟩ : ∃ z9, z9 = m4 := ⟨_, rfl⟩
        have hp_30 : ∀ L, rp (v 0) (f 0) (f 1) L → rp (v 0) (f 0) (f 1) L := fun L h => rp_fr h (by omega) rfl rfl
        refine And.intro (Exists.intro _ md_o) (Exists.intro _ (Exists.intro _ (Exists.intro _ (Exists.intro _ (And.intro (F_X11_recolours D v f hv hf (0 : Int32) m4 x1 x2 (1 : Int32) (by omega) (by omega) (by omega)) (And.intro rfl (fun r9 A9 h9 => ?_)))))))
        obtain ⟨y5, v6, f6, rfl, rfl, hv6, hf6, hx6, by5⟩ := h9
        have hw6 : f6 2 = f 2 := hx6.trans rfl
        have hu7_0 := hv6.1
        have hu7_1 := hv6.2.1
        have hu7_2 := hv6.2.2.1
        have hu7_4 := hv6.2.2.2.2.1
        have hb_30 := by5.2
        have sq6_3 : (v6 3).toInt = (v 3).toInt := by5.1.1
        have sq6_6 : (v6 6).toInt = (v 6).toInt := by5.1.2.1
        have sp6 := by5.1.2.2
        clear by5
        refine hC.1 2 37 _ _ rfl _ _ _ _ _ ?_
        exact ⟨rfl, fun e9 => absurd e9 (by decide), rfl, y5, v6, f6, rfl, rfl, hv6, hf6, hw6, by first | omega | (dsimp only; omega) | trivial, by first | (intro L hL; have hl := hL.1; rw [ed_exch, if_pos (by omega)]; have nm9 : ¬ x1 = -1 := fun e9 => (by have e8 := congrArg Int32.toInt e9; have e7 : (-1 : Int32).toInt = -1 := rfl; omega); have t9 := hb_30 L (fun c => if c = x1 then x2 else if c = x2 then x1 else c) (hp_30 L hL) (fun c9 => (by by_cases q9 : c9 = x1; (simp [q9]); (simp [q9, nm9, show ¬ (1 : Int32) = 0 by decide]))) (by omega) (by omega) (by omega); rw [show (0 : Int32).toInt = 0 from rfl, ← hmm9, show mm9.toInt = (L.length : Int) - 1 by (rw [hmm9]; omega), rc_all] at t9; exact ⟨t9, by show _ = _ + (1 : Int); omega, by show _ = _ + (1 : Int) * _; omega⟩) | (intro L hL; have hl := hL.1; rw [ed_exch, if_neg (by omega)]; exact ⟨hL, by show _ = _ + (0 : Int); omega, by show _ = _ + (0 : Int) * _; omega⟩)⟩
    · skip
      have k0 : (0 : Int32).toInt = 0 := rfl
      refine And.intro (fun _ => ?_) (fun c9 => absurd c9 (by decide))
      refine hC.1 1 36 _ _ rfl _ _ _ _ _ ?_
      have km1 : (-1 : Int32).toInt = -1 := rfl
      refine hC.1 2 37 _ _ rfl _ _ _ _ _ ?_
      exact ⟨rfl, fun e9 => absurd e9 (by decide), rfl, (-1 : Int32), v, f, rfl, rfl, hv, hf, rfl, by first | omega | (dsimp only; omega) | trivial, by first | (intro L hL; have hl := hL.1; rw [ed_exch, if_pos (by omega)]; have nm9 : ¬ x1 = -1 := fun e9 => (by have e8 := congrArg Int32.toInt e9; have e7 : (-1 : Int32).toInt = -1 := rfl; omega); have t9 := hb_30 L (fun c => if c = x1 then x2 else if c = x2 then x1 else c) (hp_30 L hL) (fun c9 => (by by_cases q9 : c9 = x1; (simp [q9]); (simp [q9, nm9, show ¬ (1 : Int32) = 0 by decide]))) (by omega) (by omega) (by omega); rw [show (0 : Int32).toInt = 0 from rfl, ← hmm9, show mm9.toInt = (L.length : Int) - 1 by (rw [hmm9]; omega), rc_all] at t9; exact ⟨t9, by show _ = _ + (1 : Int); omega, by show _ = _ + (1 : Int) * _; omega⟩) | (intro L hL; have hl := hL.1; rw [ed_exch, if_neg (by omega)]; exact ⟨hL, by show _ = _ + (0 : Int); omega, by show _ = _ + (0 : Int) * _; omega⟩)⟩
  · skip
    have k0 : (0 : Int32).toInt = 0 := rfl
    refine And.intro (fun _ => ?_) (fun c9 => absurd c9 (by decide))
    refine hC.1 1 36 _ _ rfl _ _ _ _ _ ?_
    have km1 : (-1 : Int32).toInt = -1 := rfl
    refine hC.1 2 37 _ _ rfl _ _ _ _ _ ?_
    exact ⟨rfl, fun e9 => absurd e9 (by decide), rfl, (-1 : Int32), v, f, rfl, rfl, hv, hf, rfl, by first | omega | (dsimp only; omega) | trivial, by first | (intro L hL; have hl := hL.1; rw [ed_exch, if_pos (by omega)]; have nm9 : ¬ x1 = -1 := fun e9 => (by have e8 := congrArg Int32.toInt e9; have e7 : (-1 : Int32).toInt = -1 := rfl; omega); have t9 := hb_30 L (fun c => if c = x1 then x2 else if c = x2 then x1 else c) (hp_30 L hL) (fun c9 => (by by_cases q9 : c9 = x1; (simp [q9]); (simp [q9, nm9, show ¬ (1 : Int32) = 0 by decide]))) (by omega) (by omega) (by omega); rw [show (0 : Int32).toInt = 0 from rfl, ← hmm9, show mm9.toInt = (L.length : Int) - 1 by (rw [hmm9]; omega), rc_all] at t9; exact ⟨t9, by show _ = _ + (1 : Int); omega, by show _ = _ + (1 : Int) * _; omega⟩) | (intro L hL; have hl := hL.1; rw [ed_exch, if_neg (by omega)]; exact ⟨hL, by show _ = _ + (0 : Int); omega, by show _ = _ + (0 : Int) * _; omega⟩)⟩

end
end
section
noncomputable def cn (c : Nat → Int32) (x : Int32) : Nat → Nat
  | 0 => 0
  | k + 1 => cn c x k + if c k = x then 1 else 0
theorem cn_le (c : Nat → Int32) (x : Int32) : ∀ n, cn c x n ≤ n
  | 0 => Nat.le_refl _
  | k + 1 => by
    have := cn_le c x k
    unfold cn
    split <;> omega
theorem cn_y {c : Nat → Int32} {x : Int32} {k : Nat} (h : c k = x) : cn c x (k + 1) = cn c x k + 1 := by rw [cn, if_pos h]
theorem cn_n {c : Nat → Int32} {x : Int32} {k : Nat} (h : ¬ c k = x) : cn c x (k + 1) = cn c x k := by rw [cn, if_neg h, Nat.add_zero]
noncomputable def NTH (c : Nat → Int32) (n : Int) (x : Int32) (k r : Int) : Prop := (r = -1 ∧ ∀ i : Nat, (i : Int) < n → ¬ (c i = x ∧ (cn c x i : Int) = k)) ∨ (0 ≤ r ∧ r < n ∧ c r.toNat = x ∧ (cn c x r.toNat : Int) = k)
noncomputable def FST (c : Nat → Int32) (n : Int) (x : Int32) (r : Int) : Prop := (r = -1 ∧ ∀ i : Nat, (i : Int) < n → ¬ c i = x) ∨ (0 ≤ r ∧ r < n ∧ c r.toNat = x ∧ ∀ i : Nat, (i : Int) < r → ¬ c i = x)
end
section
section
variable {l : Launch} {g : pm_G} {A0 : pm_H} {h : Nat} {q : Nat → Nat}
set_option maxRecDepth 100000 in
set_option maxHeartbeats 2000000 in
theorem F_X11_laysOrder (D : md_D h q) (v : Nat → Int32) (f : Nat → Nat → Int32) (hv : md_V v) (hf : md_F f) (x1 : Int32) (x2 : Int32) (x3 : Int32) (p0 : 0 ≤ x1.toInt ∧ x1.toInt ≤ x2.toInt ∧ x2.toInt < (v 0).toInt) : pm_Mt l g 221 2 0 0 [.ref h, .int x1, .int x2, .int x3] (md A0 g h q v f) (md_Qw A0 g h q f (fun r v2 f2 => f2 0 = f 0 ∧ f2 1 = f 1 ∧ (v2 0).toInt = (v 0).toInt ∧ (v2 1).toInt = (v 1).toInt ∧ (v2 2).toInt = (v 2).toInt ∧ (v2 3).toInt = (v 3).toInt ∧ (v2 4).toInt = (v 4).toInt ∧ (v2 6).toInt = (v 6).toInt ∧ 0 ≤ r.toInt ∧ r.toInt ≤ 24)) := by
  refine mt_X11_laysOrder rfl (fun J hC => ?_)
  have hv9 := hv
  unfold md_V at hv9
  have rg_x1 := pm_rng x1
  have rg_x2 := pm_rng x2
  have rg_x3 := pm_rng x3
  refine hC.1 0 0 _ _ rfl _ _ _ _ _ ?_
  have k0 : (0 : Int32).toInt = 0 := rfl
  have lp2 : ∀ (n : Nat) (z4_9 : Int32) (z5_9 : Int32) (z6_9 : Int32) (v1 : Nat → Int32) (f1 : Nat → Nat → Int32), md_V v1 → md_F f1 → f1 2 = f 2 → f1 0 = f 0 → f1 1 = f 1 → (0 ≤ z6_9.toInt ∧ z6_9.toInt ≤ x2.toInt - x1.toInt + 1) → (z4_9.toInt = (cntB z5_9 24 : Int)) → (2 ≤ x3.toInt → z4_9.toInt = 0) → (v1 0).toInt = (v 0).toInt → (v1 1).toInt = (v 1).toInt → (v1 2).toInt = (v 2).toInt → (v1 3).toInt = (v 3).toInt → (v1 4).toInt = (v 4).toInt → (v1 6).toInt = (v 6).toInt → 200 - z6_9.toInt < (n : Int) → J 9 [some (.ref h), some (.int x1), some (.int x2), some (.int x3), some (.int z4_9), some (.int z5_9), some (.int z6_9), none, none] [] (md A0 g h q v1 f1) 0 0 := by
    intro n
    induction n with
    | zero =>
      intro z4_9 z5_9 z6_9 v1 f1 hv1 hf1 hw1 hr1_0 hr1_1 j0_9 j1_9 j2_9 j3_9 j4_9 j5_9 j6_9 j7_9 j8_9 j9_9
      omega
    | succ n ih3 =>
      intro z4_9 z5_9 z6_9 v1 f1 hv1 hf1 hw1 hr1_0 hr1_1 j0_9 j1_9 j2_9 j3_9 j4_9 j5_9 j6_9 j7_9 j8_9 j9_9
      have cb9 := cntB_le z5_9 24
      refine hC.1 1 9 _ _ rfl _ _ _ _ _ ?_
      intro m5 em_13
      try have e5 : m5.toInt = (x2).toInt - (x1).toInt := by rw [em_13]; exact pm_sub _ _ (by omega) (by omega)
      refine And.intro (fun c6 => ?_) (fun c6 => ?_)
      · skip
        refine hC.1 6 85 _ _ rfl _ _ _ _ _ ?_
        have k2 : (2 : Int32).toInt = 2 := rfl
        refine And.intro (fun c7 => ?_) (fun c7 => ?_)
        · skip
          refine hC.1 7 93 _ _ rfl _ _ _ _ _ ?_
          refine And.intro (Exists.intro _ md_o) (Exists.intro _ (Exists.intro _ (Exists.intro _ (Exists.intro _ (And.intro (c_X11_setOf D v1 f1 hv1 hf1 x1 x2 (by omega) (by omega)) (And.intro rfl (fun r9 A9 h9 => ?_)))))))
          obtain ⟨y8, rfl, rfl, by8⟩ := h9
          have lp10 : ∀ (n : Nat) (z4_104 : Int32) (z7_104 : Int32) (v9 : Nat → Int32) (f9 : Nat → Nat → Int32), md_V v9 → md_F f9 → f9 2 = f 2 → f9 0 = f 0 → f9 1 = f 1 → (0 ≤ z7_104.toInt ∧ z7_104.toInt ≤ 24 ∧ 0 ≤ z4_104.toInt ∧ z4_104.toInt ≤ z7_104.toInt) → (v9 0).toInt = (v 0).toInt → (v9 1).toInt = (v 1).toInt → (v9 2).toInt = (v 2).toInt → (v9 3).toInt = (v 3).toInt → (v9 4).toInt = (v 4).toInt → (v9 6).toInt = (v 6).toInt → 30 - z7_104.toInt < (n : Int) → J 104 [some (.ref h), some (.int x1), some (.int x2), some (.int x3), some (.int z4_104), some (.int z5_9), some (.int y8), some (.int z7_104), none] [] (md A0 g h q v9 f9) 0 0 := by
            intro n
            induction n with
            | zero =>
              intro z4_104 z7_104 v9 f9 hv9 hf9 hw9 hr9_0 hr9_1 j0_104 j1_104 j2_104 j3_104 j4_104 j5_104 j6_104 j7_104
              omega
            | succ n ih11 =>
              intro z4_104 z7_104 v9 f9 hv9 hf9 hw9 hr9_0 hr9_1 j0_104 j1_104 j2_104 j3_104 j4_104 j5_104 j6_104 j7_104
              refine hC.1 8 104 _ _ rfl _ _ _ _ _ ?_
              have k24 : (24 : Int32).toInt = 24 := rfl
              refine And.intro (fun c13 => ?_) (fun c13 => ?_)
              · skip
                refine hC.1 13 194 _ _ rfl _ _ _ _ _ ?_
                exact ⟨rfl, fun e9 => absurd e9 (by decide), rfl, z4_104, v9, f9, rfl, rfl, hv9, hf9, hw9, hr9_0, hr9_1, by first | omega | (dsimp only; omega) | trivial⟩
              · skip
                have k1 : (1 : Int32).toInt = 1 := rfl
                refine And.intro (fun c14 => ?_) (fun c14 => ?_)
                · skip
                  have dc14 := pm_neI c14
                  refine hC.1 9 124 _ _ rfl _ _ _ _ _ ?_
                  have lp16 : ∀ (n : Nat) (z8_128 : Int32) (v15 : Nat → Int32) (f15 : Nat → Nat → Int32), md_V v15 → md_F f15 → f15 2 = f 2 → f15 0 = f 0 → f15 1 = f 1 → (0 ≤ z8_128.toInt ∧ z8_128.toInt ≤ z4_104.toInt) → (v15 0).toInt = (v 0).toInt → (v15 1).toInt = (v 1).toInt → (v15 2).toInt = (v 2).toInt → (v15 3).toInt = (v 3).toInt → (v15 4).toInt = (v 4).toInt → (v15 6).toInt = (v 6).toInt → z8_128.toInt < (n : Int) → J 128 [some (.ref h), some (.int x1), some (.int x2), some (.int x3), some (.int z4_104), some (.int z5_9), some (.int y8), some (.int z7_104), some (.int z8_128)] [] (md A0 g h q v15 f15) 0 0 := by
                    intro n
                    induction n with
                    | zero =>
                      intro z8_128 v15 f15 hv15 hf15 hw15 hr15_0 hr15_1 j0_128 j1_128 j2_128 j3_128 j4_128 j5_128 j6_128 j7_128
                      omega
                    | succ n ih17 =>
                      intro z8_128 v15 f15 hv15 hf15 hw15 hr15_0 hr15_1 j0_128 j1_128 j2_128 j3_128 j4_128 j5_128 j6_128 j7_128
                      refine hC.1 10 128 _ _ rfl _ _ _ _ _ ?_
                      refine And.intro (fun c19 => ?_) (fun c19 => ?_)
                      · skip
                        refine hC.1 11 176 _ _ rfl _ _ _ _ _ ?_
                        refine Exists.intro _ (And.intro md_o ?_)
                        refine Exists.intro _ (Exists.intro _ (And.intro (md_a_row D) (And.intro (by omega) ?_)))
                        rw [md_s_row D]
                        obtain ⟨f20, ef20⟩ : ∃ z9, z9 = va_up f15 16 (upd (f15 16) (z8_128).toInt.toNat z7_104) := ⟨_, rfl⟩
                        rw [← ef20]
                        have hf20 : md_F f20 := by rw [ef20]; exact md_F_st hf15 16 _ _ (by show (0 : Int) ≤ _ ∧ _ ≤ (23 : Int); omega)
                        have hw20 : f20 2 = f 2 := (show f20 2 = f15 2 by rw [ef20]; rfl).trans hw15
                        have hr20_0 : f20 0 = f 0 := (show f20 0 = f15 0 by rw [ef20]; rfl).trans hr15_0
                        have hr20_1 : f20 1 = f 1 := (show f20 1 = f15 1 by rw [ef20]; rfl).trans hr15_1
                        intro m21 em_185
                        try have e21 : m21.toInt = (z4_104).toInt + (1) := by rw [em_185]; exact pm_addc _ _ (1) rfl (by omega) (by omega)
                        refine hC.1 12 188 _ _ rfl _ _ _ _ _ ?_
                        intro m22 em_188
                        try have e22 : m22.toInt = (z7_104).toInt + (1) := by rw [em_188]; exact pm_addc _ _ (1) rfl (by omega) (by omega)
                        exact hC.2 [false, false, false, false, false, false, false, false, true] _ _ _ _ _ _ (ih11 m21 m22 v15 f20 hv15 hf20 hw20 hr20_0 hr20_1 (by omega) (by omega) (by omega) (by omega) (by omega) (by omega) (by omega) (by omega))
                      · skip
                        refine Exists.intro _ (And.intro md_o ?_)
                        intro m23 em_143
                        try have e23 : m23.toInt = (z8_128).toInt - (1) := by rw [em_143]; exact pm_subc _ _ (1) rfl (by omega) (by omega)
                        refine Exists.intro _ (Exists.intro _ (And.intro (Or.inl (md_a_row D)) (And.intro (by omega) ?_)))
                        have w24 : (0 : Int) ≤ (f15 16 (m23).toInt.toNat).toInt ∧ (f15 16 (m23).toInt.toNat).toInt ≤ (23 : Int) := hf15 16 _
                        refine And.intro (Exists.intro _ md_o) (Exists.intro _ (Exists.intro _ (Exists.intro _ (Exists.intro _ (And.intro (c_X11_isAhead D v15 f15 hv15 hf15 z7_104 (f15 16 (m23).toInt.toNat) x1 x2 x3 (by omega) (by omega) (by omega) (by omega)) (And.intro rfl (fun r9 A9 h9 => ?_)))))))
                        rcases h9 with ⟨y25, rfl, rfl, ⟨rfl, by25⟩ | ⟨rfl, by25⟩⟩
                        · skip
                          refine And.intro (fun c9 => absurd c9 (by decide)) (fun _ => ?_)
                          refine Exists.intro _ (And.intro md_o ?_)
                          refine Exists.intro _ (And.intro md_o ?_)
                          intro m26 em_167
                          try have e26 : m26.toInt = (z8_128).toInt - (1) := by rw [em_167]; exact pm_subc _ _ (1) rfl (by omega) (by omega)
                          refine Exists.intro _ (Exists.intro _ (And.intro (Or.inl (md_a_row D)) (And.intro (by omega) ?_)))
                          have w27 : (0 : Int) ≤ (f15 16 (m26).toInt.toNat).toInt ∧ (f15 16 (m26).toInt.toNat).toInt ≤ (23 : Int) := hf15 16 _
                          refine Exists.intro _ (Exists.intro _ (And.intro (md_a_row D) (And.intro (by omega) ?_)))
                          rw [md_s_row D]
                          obtain ⟨f28, ef28⟩ : ∃ z9, z9 = va_up f15 16 (upd (f15 16) (z8_128).toInt.toNat (f15 16 (m26).toInt.toNat)) := ⟨_, rfl⟩
                          rw [← ef28]
                          have hf28 : md_F f28 := by rw [ef28]; exact md_F_st hf15 16 _ _ (by show (0 : Int) ≤ _ ∧ _ ≤ (23 : Int); omega)
                          have hw28 : f28 2 = f 2 := (show f28 2 = f15 2 by rw [ef28]; rfl).trans hw15
                          have hr28_0 : f28 0 = f 0 := (show f28 0 = f15 0 by rw [ef28]; rfl).trans hr15_0
                          have hr28_1 : f28 1 = f 1 := (show f28 1 = f15 1 by rw [ef28]; rfl).trans hr15_1
                          have km1 : (-1 : Int32).toInt = -1 := rfl
                          intro m29 em_170
                          try have e29 : m29.toInt = (z8_128).toInt + (-1) := by rw [em_170]; exact pm_addc _ _ (-1) rfl (by omega) (by omega)
                          exact ih17 m29 v15 f28 hv15 hf28 hw28 hr28_0 hr28_1 (by omega) (by omega) (by omega) (by omega) (by omega) (by omega) (by omega) (by omega)
                        · skip
                          refine And.intro (fun _ => ?_) (fun c9 => absurd c9 (by decide))
                          refine hC.1 11 176 _ _ rfl _ _ _ _ _ ?_
                          refine Exists.intro _ (And.intro md_o ?_)
                          refine Exists.intro _ (Exists.intro _ (And.intro (md_a_row D) (And.intro (by omega) ?_)))
                          rw [md_s_row D]
                          obtain ⟨f30, ef30⟩ : ∃ z9, z9 = va_up f15 16 (upd (f15 16) (z8_128).toInt.toNat z7_104) := ⟨_, rfl⟩
                          rw [← ef30]
                          have hf30 : md_F f30 := by rw [ef30]; exact md_F_st hf15 16 _ _ (by show (0 : Int) ≤ _ ∧ _ ≤ (23 : Int); omega)
                          have hw30 : f30 2 = f 2 := (show f30 2 = f15 2 by rw [ef30]; rfl).trans hw15
                          have hr30_0 : f30 0 = f 0 := (show f30 0 = f15 0 by rw [ef30]; rfl).trans hr15_0
                          have hr30_1 : f30 1 = f 1 := (show f30 1 = f15 1 by rw [ef30]; rfl).trans hr15_1
                          intro m31 em_185
                          try have e31 : m31.toInt = (z4_104).toInt + (1) := by rw [em_185]; exact pm_addc _ _ (1) rfl (by omega) (by omega)
                          refine hC.1 12 188 _ _ rfl _ _ _ _ _ ?_
                          intro m32 em_188
                          try have e32 : m32.toInt = (z7_104).toInt + (1) := by rw [em_188]; exact pm_addc _ _ (1) rfl (by omega) (by omega)
                          exact hC.2 [false, false, false, false, false, false, false, false, true] _ _ _ _ _ _ (ih11 m31 m32 v15 f30 hv15 hf30 hw30 hr30_0 hr30_1 (by omega) (by omega) (by omega) (by omega) (by omega) (by omega) (by omega) (by omega))
                  exact lp16 (z4_104.toInt).toNat.succ z4_104 v9 f9 hv9 hf9 hw9 hr9_0 hr9_1 (by omega) (by omega) (by omega) (by omega) (by omega) (by omega) (by omega) (by omega)
                · skip
                  have dc14 : (((y8 >>> (z7_104 &&& 31)) &&& (1 : Int32))).toInt = (0 : Int32).toInt := congrArg Int32.toInt c14
                  refine hC.1 12 188 _ _ rfl _ _ _ _ _ ?_
                  intro m33 em_188
                  try have e33 : m33.toInt = (z7_104).toInt + (1) := by rw [em_188]; exact pm_addc _ _ (1) rfl (by omega) (by omega)
                  exact ih11 z4_104 m33 v9 f9 hv9 hf9 hw9 hr9_0 hr9_1 (by omega) (by omega) (by omega) (by omega) (by omega) (by omega) (by omega) (by omega)
          exact lp10 (30 - (0 : Int32).toInt).toNat.succ z4_9 (0 : Int32) v1 f1 hv1 hf1 hw1 hr1_0 hr1_1 (by omega) (by omega) (by omega) (by omega) (by omega) (by omega) (by omega) (by omega)
        · skip
          exact ⟨rfl, fun e9 => absurd e9 (by decide), rfl, z4_9, v1, f1, rfl, rfl, hv1, hf1, hw1, hr1_0, hr1_1, by first | omega | (dsimp only; omega) | trivial⟩
      · skip
        have k2 : (2 : Int32).toInt = 2 := rfl
        refine And.intro (fun c34 => ?_) (fun c34 => ?_)
        · skip
          refine hC.1 6 85 _ _ rfl _ _ _ _ _ ?_
          refine And.intro (fun c35 => ?_) (fun c35 => ?_)
          · skip
            refine hC.1 7 93 _ _ rfl _ _ _ _ _ ?_
            refine And.intro (Exists.intro _ md_o) (Exists.intro _ (Exists.intro _ (Exists.intro _ (Exists.intro _ (And.intro (c_X11_setOf D v1 f1 hv1 hf1 x1 x2 (by omega) (by omega)) (And.intro rfl (fun r9 A9 h9 => ?_)))))))
            obtain ⟨y36, rfl, rfl, by36⟩ := h9
            have lp38 : ∀ (n : Nat) (z4_104 : Int32) (z7_104 : Int32) (v37 : Nat → Int32) (f37 : Nat → Nat → Int32), md_V v37 → md_F f37 → f37 2 = f 2 → f37 0 = f 0 → f37 1 = f 1 → (0 ≤ z7_104.toInt ∧ z7_104.toInt ≤ 24 ∧ 0 ≤ z4_104.toInt ∧ z4_104.toInt ≤ z7_104.toInt) → (v37 0).toInt = (v 0).toInt → (v37 1).toInt = (v 1).toInt → (v37 2).toInt = (v 2).toInt → (v37 3).toInt = (v 3).toInt → (v37 4).toInt = (v 4).toInt → (v37 6).toInt = (v 6).toInt → 30 - z7_104.toInt < (n : Int) → J 104 [some (.ref h), some (.int x1), some (.int x2), some (.int x3), some (.int z4_104), some (.int z5_9), some (.int y36), some (.int z7_104), none] [] (md A0 g h q v37 f37) 0 0 := by
              intro n
              induction n with
              | zero =>
                intro z4_104 z7_104 v37 f37 hv37 hf37 hw37 hr37_0 hr37_1 j0_104 j1_104 j2_104 j3_104 j4_104 j5_104 j6_104 j7_104
                omega
              | succ n ih39 =>
                intro z4_104 z7_104 v37 f37 hv37 hf37 hw37 hr37_0 hr37_1 j0_104 j1_104 j2_104 j3_104 j4_104 j5_104 j6_104 j7_104
                refine hC.1 8 104 _ _ rfl _ _ _ _ _ ?_
                have k24 : (24 : Int32).toInt = 24 := rfl
                refine And.intro (fun c41 => ?_) (fun c41 => ?_)
                · skip
                  refine hC.1 13 194 _ _ rfl _ _ _ _ _ ?_
                  exact ⟨rfl, fun e9 => absurd e9 (by decide), rfl, z4_104, v37, f37, rfl, rfl, hv37, hf37, hw37, hr37_0, hr37_1, by first | omega | (dsimp only; omega) | trivial⟩
                · skip
                  have k1 : (1 : Int32).toInt = 1 := rfl
                  refine And.intro (fun c42 => ?_) (fun c42 => ?_)
                  · skip
                    have dc42 := pm_neI c42
                    refine hC.1 9 124 _ _ rfl _ _ _ _ _ ?_
                    have lp44 : ∀ (n : Nat) (z8_128 : Int32) (v43 : Nat → Int32) (f43 : Nat → Nat → Int32), md_V v43 → md_F f43 → f43 2 = f 2 → f43 0 = f 0 → f43 1 = f 1 → (0 ≤ z8_128.toInt ∧ z8_128.toInt ≤ z4_104.toInt) → (v43 0).toInt = (v 0).toInt → (v43 1).toInt = (v 1).toInt → (v43 2).toInt = (v 2).toInt → (v43 3).toInt = (v 3).toInt → (v43 4).toInt = (v 4).toInt → (v43 6).toInt = (v 6).toInt → z8_128.toInt < (n : Int) → J 128 [some (.ref h), some (.int x1), some (.int x2), some (.int x3), some (.int z4_104), some (.int z5_9), some (.int y36), some (.int z7_104), some (.int z8_128)] [] (md A0 g h q v43 f43) 0 0 := by
                      intro n
                      induction n with
                      | zero =>
                        intro z8_128 v43 f43 hv43 hf43 hw43 hr43_0 hr43_1 j0_128 j1_128 j2_128 j3_128 j4_128 j5_128 j6_128 j7_128
                        omega
                      | succ n ih45 =>
                        intro z8_128 v43 f43 hv43 hf43 hw43 hr43_0 hr43_1 j0_128 j1_128 j2_128 j3_128 j4_128 j5_128 j6_128 j7_128
                        refine hC.1 10 128 _ _ rfl _ _ _ _ _ ?_
                        refine And.intro (fun c47 => ?_) (fun c47 => ?_)
                        · skip
                          refine hC.1 11 176 _ _ rfl _ _ _ _ _ ?_
                          refine Exists.intro _ (And.intro md_o ?_)
                          refine Exists.intro _ (Exists.intro _ (And.intro (md_a_row D) (And.intro (by omega) ?_)))
                          rw [md_s_row D]
                          obtain ⟨f48, ef48⟩ : ∃ z9, z9 = va_up f43 16 (upd (f43 16) (z8_128).toInt.toNat z7_104) := ⟨_, rfl⟩
                          rw [← ef48]
                          have hf48 : md_F f48 := by rw [ef48]; exact md_F_st hf43 16 _ _ (by show (0 : Int) ≤ _ ∧ _ ≤ (23 : Int); omega)
                          have hw48 : f48 2 = f 2 := (show f48 2 = f43 2 by rw [ef48]; rfl).trans hw43
                          have hr48_0 : f48 0 = f 0 := (show f48 0 = f43 0 by rw [ef48]; rfl).trans hr43_0
                          have hr48_1 : f48 1 = f 1 := (show f48 1 = f43 1 by rw [ef48]; rfl).trans hr43_1
                          intro m49 em_185
                          try have e49 : m49.toInt = (z4_104).toInt + (1) := by rw [em_185]; exact pm_addc _ _ (1) rfl (by omega) (by omega)
                          refine hC.1 12 188 _ _ rfl _ _ _ _ _ ?_
                          intro m50 em_188
                          try have e50 : m50.toInt = (z7_104).toInt + (1) := by rw [em_188]; exact pm_addc _ _ (1) rfl (by omega) (by omega)
                          exact hC.2 [false, false, false, false, false, false, false, false, true] _ _ _ _ _ _ (ih39 m49 m50 v43 f48 hv43 hf48 hw48 hr48_0 hr48_1 (by omega) (by omega) (by omega) (by omega) (by omega) (by omega) (by omega) (by omega))
                        · skip
                          refine Exists.intro _ (And.intro md_o ?_)
                          intro m51 em_143
                          try have e51 : m51.toInt = (z8_128).toInt - (1) := by rw [em_143]; exact pm_subc _ _ (1) rfl (by omega) (by omega)
                          refine Exists.intro _ (Exists.intro _ (And.intro (Or.inl (md_a_row D)) (And.intro (by omega) ?_)))
                          have w52 : (0 : Int) ≤ (f43 16 (m51).toInt.toNat).toInt ∧ (f43 16 (m51).toInt.toNat).toInt ≤ (23 : Int) := hf43 16 _
                          refine And.intro (Exists.intro _ md_o) (Exists.intro _ (Exists.intro _ (Exists.intro _ (Exists.intro _ (And.intro (c_X11_isAhead D v43 f43 hv43 hf43 z7_104 (f43 16 (m51).toInt.toNat) x1 x2 x3 (by omega) (by omega) (by omega) (by omega)) (And.intro rfl (fun r9 A9 h9 => ?_)))))))
                          rcases h9 with ⟨y53, rfl, rfl, ⟨rfl, by53⟩ | ⟨rfl, by53⟩⟩
                          · skip
                            refine And.intro (fun c9 => absurd c9 (by decide)) (fun _ => ?_)
                            refine Exists.intro _ (And.intro md_o ?_)
                            refine Exists.intro _ (And.intro md_o ?_)
                            intro m54 em_167
                            try have e54 : m54.toInt = (z8_128).toInt - (1) := by rw [em_167]; exact pm_subc _ _ (1) rfl (by omega) (by omega)
                            refine Exists.intro _ (Exists.intro _ (And.intro (Or.inl (md_a_row D)) (And.intro (by omega) ?_)))
                            have w55 : (0 : Int) ≤ (f43 16 (m54).toInt.toNat).toInt ∧ (f43 16 (m54).toInt.toNat).toInt ≤ (23 : Int) := hf43 16 _
                            refine Exists.intro _ (Exists.intro _ (And.intro (md_a_row D) (And.intro (by omega) ?_)))
                            rw [md_s_row D]
                            obtain ⟨f56, ef56⟩ : ∃ z9, z9 = va_up f43 16 (upd (f43 16) (z8_128).toInt.toNat (f43 16 (m54).toInt.toNat)) := ⟨_, rfl⟩
                            rw [← ef56]
                            have hf56 : md_F f56 := by rw [ef56]; exact md_F_st hf43 16 _ _ (by show (0 : Int) ≤ _ ∧ _ ≤ (23 : Int); omega)
                            have hw56 : f56 2 = f 2 := (show f56 2 = f43 2 by rw [ef56]; rfl).trans hw43
                            have hr56_0 : f56 0 = f 0 := (show f56 0 = f43 0 by rw [ef56]; rfl).trans hr43_0
                            have hr56_1 : f56 1 = f 1 := (show f56 1 = f43 1 by rw [ef56]; rfl).trans hr43_1
                            have km1 : (-1 : Int32).toInt = -1 := rfl
                            intro m57 em_170
                            try have e57 : m57.toInt = (z8_128).toInt + (-1) := by rw [em_170]; exact pm_addc _ _ (-1) rfl (by omega) (by omega)
                            exact ih45 m57 v43 f56 hv43 hf56 hw56 hr56_0 hr56_1 (by omega) (by omega) (by omega) (by omega) (by omega) (by omega) (by omega) (by omega)
                          · skip
                            refine And.intro (fun _ => ?_) (fun c9 => absurd c9 (by decide))
                            refine hC.1 11 176 _ _ rfl _ _ _ _ _ ?_
                            refine Exists.intro _ (And.intro md_o ?_)
                            refine Exists.intro _ (Exists.intro _ (And.intro (md_a_row D) (And.intro (by omega) ?_)))
                            rw [md_s_row D]
                            obtain ⟨f58, ef58⟩ : ∃ z9, z9 = va_up f43 16 (upd (f43 16) (z8_128).toInt.toNat z7_104) := ⟨_, rfl⟩
                            rw [← ef58]
                            have hf58 : md_F f58 := by rw [ef58]; exact md_F_st hf43 16 _ _ (by show (0 : Int) ≤ _ ∧ _ ≤ (23 : Int); omega)
                            have hw58 : f58 2 = f 2 := (show f58 2 = f43 2 by rw [ef58]; rfl).trans hw43
                            have hr58_0 : f58 0 = f 0 := (show f58 0 = f43 0 by rw [ef58]; rfl).trans hr43_0
                            have hr58_1 : f58 1 = f 1 := (show f58 1 = f43 1 by rw [ef58]; rfl).trans hr43_1
                            intro m59 em_185
                            try have e59 : m59.toInt = (z4_104).toInt + (1) := by rw [em_185]; exact pm_addc _ _ (1) rfl (by omega) (by omega)
                            refine hC.1 12 188 _ _ rfl _ _ _ _ _ ?_
                            intro m60 em_188
                            try have e60 : m60.toInt = (z7_104).toInt + (1) := by rw [em_188]; exact pm_addc _ _ (1) rfl (by omega) (by omega)
                            exact hC.2 [false, false, false, false, false, false, false, false, true] _ _ _ _ _ _ (ih39 m59 m60 v43 f58 hv43 hf58 hw58 hr58_0 hr58_1 (by omega) (by omega) (by omega) (by omega) (by omega) (by omega) (by omega) (by omega))
                    exact lp44 (z4_104.toInt).toNat.succ z4_104 v37 f37 hv37 hf37 hw37 hr37_0 hr37_1 (by omega) (by omega) (by omega) (by omega) (by omega) (by omega) (by omega) (by omega)
                  · skip
                    have dc42 : (((y36 >>> (z7_104 &&& 31)) &&& (1 : Int32))).toInt = (0 : Int32).toInt := congrArg Int32.toInt c42
                    refine hC.1 12 188 _ _ rfl _ _ _ _ _ ?_
                    intro m61 em_188
                    try have e61 : m61.toInt = (z7_104).toInt + (1) := by rw [em_188]; exact pm_addc _ _ (1) rfl (by omega) (by omega)
                    exact ih39 z4_104 m61 v37 f37 hv37 hf37 hw37 hr37_0 hr37_1 (by omega) (by omega) (by omega) (by omega) (by omega) (by omega) (by omega) (by omega)
            exact lp38 (30 - (0 : Int32).toInt).toNat.succ z4_9 (0 : Int32) v1 f1 hv1 hf1 hw1 hr1_0 hr1_1 (by omega) (by omega) (by omega) (by omega) (by omega) (by omega) (by omega) (by omega)
          · skip
            exact ⟨rfl, fun e9 => absurd e9 (by decide), rfl, z4_9, v1, f1, rfl, rfl, hv1, hf1, hw1, hr1_0, hr1_1, by first | omega | (dsimp only; omega) | trivial⟩
        · skip
          refine Exists.intro _ (And.intro md_o ?_)
          refine And.intro (fun c62 => ?_) (fun c62 => ?_)
          · skip
            have dc62 := pm_neI c62
            refine hC.1 2 37 _ _ rfl _ _ _ _ _ ?_
            intro m63 em_40
            try have e63 : m63.toInt = (x2).toInt - (z6_9).toInt := by rw [em_40]; exact pm_sub _ _ (by omega) (by omega)
            refine hC.1 3 41 _ _ rfl _ _ _ _ _ ?_
            refine Exists.intro _ (Exists.intro _ (And.intro (Or.inl (md_a_colours D)) (And.intro (by omega) ?_)))
            have w64 : (0 : Int) ≤ (f1 0 (m63).toInt.toNat).toInt ∧ (f1 0 (m63).toInt.toNat).toInt ≤ (23 : Int) := hf1 0 _
            have k1 : (1 : Int32).toInt = 1 := rfl
            refine And.intro (fun c65 => ?_) (fun c65 => ?_)
            · skip
              have dc65 := pm_neI c65
              refine hC.1 4 58 _ _ rfl _ _ _ _ _ ?_
              have hn9 := cnt_lt (c := (f1 0 (m63).toInt.toNat)) j1_9 (by omega) (by assumption)
              refine Exists.intro _ (And.intro md_o ?_)
              refine Exists.intro _ (Exists.intro _ (And.intro (md_a_row D) (And.intro (by omega) ?_)))
              rw [md_s_row D]
              obtain ⟨f66, ef66⟩ : ∃ z9, z9 = va_up f1 16 (upd (f1 16) (z4_9).toInt.toNat (f1 0 (m63).toInt.toNat)) := ⟨_, rfl⟩
              rw [← ef66]
              have hf66 : md_F f66 := by rw [ef66]; exact md_F_st hf1 16 _ _ (by show (0 : Int) ≤ _ ∧ _ ≤ (23 : Int); omega)
              have hw66 : f66 2 = f 2 := (show f66 2 = f1 2 by rw [ef66]; rfl).trans hw1
              have hr66_0 : f66 0 = f 0 := (show f66 0 = f1 0 by rw [ef66]; rfl).trans hr1_0
              have hr66_1 : f66 1 = f 1 := (show f66 1 = f1 1 by rw [ef66]; rfl).trans hr1_1
              intro m67 em_76
              try have e67 : m67.toInt = (z4_9).toInt + (1) := by rw [em_76]; exact pm_addc _ _ (1) rfl (by omega) (by omega)
              refine hC.1 5 79 _ _ rfl _ _ _ _ _ ?_
              intro m68 em_79
              try have e68 : m68.toInt = (z6_9).toInt + (1) := by rw [em_79]; exact pm_addc _ _ (1) rfl (by omega) (by omega)
              exact hC.2 [false, false, false, false, false, false, false, true, false] _ _ _ _ _ _ (ih3 m67 (z5_9 ||| ((1 : Int32) <<< ((f1 0 (m63).toInt.toNat) &&& 31))) m68 v1 f66 hv1 hf66 hw66 hr66_0 hr66_1 (by omega) (by first | exact j1_9 | (rw [em_76]; exact cnt_st j1_9 (by omega) (by assumption))) (by omega) (by omega) (by omega) (by omega) (by omega) (by omega) (by omega) (by omega))
            · skip
              have dc65 : (((z5_9 >>> ((f1 0 (m63).toInt.toNat) &&& 31)) &&& (1 : Int32))).toInt = ((1 : Int32) : Int32).toInt := congrArg Int32.toInt c65
              refine hC.1 5 79 _ _ rfl _ _ _ _ _ ?_
              intro m69 em_79
              try have e69 : m69.toInt = (z6_9).toInt + (1) := by rw [em_79]; exact pm_addc _ _ (1) rfl (by omega) (by omega)
              exact hC.2 [false, false, false, false, false, false, false, true, false] _ _ _ _ _ _ (ih3 z4_9 z5_9 m69 v1 f1 hv1 hf1 hw1 hr1_0 hr1_1 (by omega) (by first | exact j1_9 | (rw [em_76]; exact cnt_st j1_9 (by omega) (by assumption))) (by omega) (by omega) (by omega) (by omega) (by omega) (by omega) (by omega) (by omega))
          · skip
            have dc62 : (x3).toInt = (0 : Int32).toInt := congrArg Int32.toInt c62
            intro m70 em_33
            try have e70 : m70.toInt = (x1).toInt + (z6_9).toInt := by rw [em_33]; exact pm_add _ _ (by omega) (by omega)
            refine hC.1 3 41 _ _ rfl _ _ _ _ _ ?_
            refine Exists.intro _ (Exists.intro _ (And.intro (Or.inl (md_a_colours D)) (And.intro (by omega) ?_)))
            have w71 : (0 : Int) ≤ (f1 0 (m70).toInt.toNat).toInt ∧ (f1 0 (m70).toInt.toNat).toInt ≤ (23 : Int) := hf1 0 _
            have k1 : (1 : Int32).toInt = 1 := rfl
            refine And.intro (fun c72 => ?_) (fun c72 => ?_)
            · skip
              have dc72 := pm_neI c72
              refine hC.1 4 58 _ _ rfl _ _ _ _ _ ?_
              have hn9 := cnt_lt (c := (f1 0 (m70).toInt.toNat)) j1_9 (by omega) (by assumption)
              refine Exists.intro _ (And.intro md_o ?_)
              refine Exists.intro _ (Exists.intro _ (And.intro (md_a_row D) (And.intro (by omega) ?_)))
              rw [md_s_row D]
              obtain ⟨f73, ef73⟩ : ∃ z9, z9 = va_up f1 16 (upd (f1 16) (z4_9).toInt.toNat (f1 0 (m70).toInt.toNat)) := ⟨_, rfl⟩
              rw [← ef73]
              have hf73 : md_F f73 := by rw [ef73]; exact md_F_st hf1 16 _ _ (by show (0 : Int) ≤ _ ∧ _ ≤ (23 : Int); omega)
              have hw73 : f73 2 = f 2 := (show f73 2 = f1 2 by rw [ef73]; rfl).trans hw1
              have hr73_0 : f73 0 = f 0 := (show f73 0 = f1 0 by rw [ef73]; rfl).trans hr1_0
              have hr73_1 : f73 1 = f 1 := (show f73 1 = f1 1 by rw [ef73]; rfl).trans hr1_1
              intro m74 em_76
              try have e74 : m74.toInt = (z4_9).toInt + (1) := by rw [em_76]; exact pm_addc _ _ (1) rfl (by omega) (by omega)
              refine hC.1 5 79 _ _ rfl _ _ _ _ _ ?_
              intro m75 em_79
              try have e75 : m75.toInt = (z6_9).toInt + (1) := by rw [em_79]; exact pm_addc _ _ (1) rfl (by omega) (by omega)
              exact hC.2 [false, false, false, false, false, false, false, true, false] _ _ _ _ _ _ (ih3 m74 (z5_9 ||| ((1 : Int32) <<< ((f1 0 (m70).toInt.toNat) &&& 31))) m75 v1 f73 hv1 hf73 hw73 hr73_0 hr73_1 (by omega) (by first | exact j1_9 | (rw [em_76]; exact cnt_st j1_9 (by omega) (by assumption))) (by omega) (by omega) (by omega) (by omega) (by omega) (by omega) (by omega) (by omega))
            · skip
              have dc72 : (((z5_9 >>> ((f1 0 (m70).toInt.toNat) &&& 31)) &&& (1 : Int32))).toInt = ((1 : Int32) : Int32).toInt := congrArg Int32.toInt c72
              refine hC.1 5 79 _ _ rfl _ _ _ _ _ ?_
              intro m76 em_79
              try have e76 : m76.toInt = (z6_9).toInt + (1) := by rw [em_79]; exact pm_addc _ _ (1) rfl (by omega) (by omega)
              exact hC.2 [false, false, false, false, false, false, false, true, false] _ _ _ _ _ _ (ih3 z4_9 z5_9 m76 v1 f1 hv1 hf1 hw1 hr1_0 hr1_1 (by omega) (by first | exact j1_9 | (rw [em_76]; exact cnt_st j1_9 (by omega) (by assumption))) (by omega) (by omega) (by omega) (by omega) (by omega) (by omega) (by omega) (by omega))
  exact lp2 (200 - (0 : Int32).toInt).toNat.succ (0 : Int32) (0 : Int32) (0 : Int32) v f hv hf rfl rfl rfl (by omega) (by exact cnt_0) (by omega) (by omega) (by omega) (by omega) (by omega) (by omega) (by omega) (by omega)

set_option maxRecDepth 100000 in
set_option maxHeartbeats 2000000 in
theorem F_X11_kth (D : md_D h q) (v : Nat → Int32) (f : Nat → Nat → Int32) (hv : md_V v) (hf : md_F f) (x1 : Int32) (x2 : Int32) (x3 : Int32) (x4 : Int32)  : pm_Mt l g 220 3 0 0 [.ref h, .int x1, .int x2, .int x3, .int x4] (md A0 g h q v f) (md_Qw A0 g h q f (fun r v2 f2 => f2 0 = f 0 ∧ f2 1 = f 1 ∧ (v2 0).toInt = (v 0).toInt ∧ (v2 1).toInt = (v 1).toInt ∧ (v2 2).toInt = (v 2).toInt ∧ (v2 3).toInt = (v 3).toInt ∧ (v2 4).toInt = (v 4).toInt ∧ (v2 6).toInt = (v 6).toInt)) := by
  refine mt_X11_kth rfl (fun J hC => ?_)
  have hv9 := hv
  unfold md_V at hv9
  have rg_x1 := pm_rng x1
  have rg_x2 := pm_rng x2
  have rg_x3 := pm_rng x3
  have rg_x4 := pm_rng x4
  refine hC.1 0 0 _ _ rfl _ _ _ _ _ ?_
  refine And.intro (Exists.intro _ md_o) (Exists.intro _ (Exists.intro _ (Exists.intro _ (Exists.intro _ (And.intro (c_X11_isSpan D v f hv hf x1 x2 ) (And.intro rfl (fun r9 A9 h9 => ?_)))))))
  rcases h9 with ⟨y1, rfl, rfl, ⟨rfl, by1⟩ | ⟨rfl, by1⟩⟩
  · skip
    have k1 : (1 : Int32).toInt = 1 := rfl
    refine And.intro (fun c9 => absurd c9 (by decide)) (fun _ => ?_)
    have k0 : (0 : Int32).toInt = 0 := rfl
    have k4 : (4 : Int32).toInt = 4 := rfl
    refine Exists.intro _ (Exists.intro _ (Exists.intro _ (Exists.intro _ (And.intro (c_X11_isIn (md A0 g h q v f) x4 (0 : Int32) (4 : Int32) ) (And.intro rfl (fun r9 A9 h9 => ?_))))))
    rcases h9 with ⟨y2, rfl, rfl, ⟨rfl, by2⟩ | ⟨rfl, by2⟩⟩
    · skip
      refine And.intro (fun _ => ?_) (fun c9 => absurd c9 (by decide))
      refine hC.1 2 21 _ _ rfl _ _ _ _ _ ?_
      refine And.intro (Exists.intro _ md_o) (Exists.intro _ (Exists.intro _ (Exists.intro _ (Exists.intro _ (And.intro (F_X11_laysOrder D v f hv hf x1 x2 x4 (by omega)) (And.intro rfl (fun r9 A9 h9 => ?_)))))))
      obtain ⟨y3, v4, f4, rfl, rfl, hv4, hf4, hx4, hg4_0, hg4_1, by3⟩ := h9
      have hw4 : f4 2 = f 2 := hx4.trans rfl
      have hr4_0 : f4 0 = f 0 := hg4_0.trans rfl
      have hr4_1 : f4 1 = f 1 := hg4_1.trans rfl
      intro m6 em_36
      try have e6 : m6.toInt = (y3).toInt - (1) := by rw [em_36]; exact pm_subc _ _ (1) rfl (by omega) (by omega)
      refine Exists.intro _ (Exists.intro _ (Exists.intro _ (Exists.intro _ (And.intro (c_X11_isIn (md A0 g h q v4 f4) x3 (0 : Int32) m6 ) (And.intro rfl (fun r9 A9 h9 => ?_))))))
      rcases h9 with ⟨y7, rfl, rfl, ⟨rfl, by7⟩ | ⟨rfl, by7⟩⟩
      · skip
        refine And.intro (fun c9 => absurd c9 (by decide)) (fun _ => ?_)
        refine Exists.intro _ (And.intro md_o ?_)
        refine Exists.intro _ (Exists.intro _ (And.intro (Or.inl (md_a_row D)) (And.intro (by omega) ?_)))
        have w8 : (0 : Int) ≤ (f4 16 (x3).toInt.toNat).toInt ∧ (f4 16 (x3).toInt.toNat).toInt ≤ (23 : Int) := hf4 16 _
        refine hC.1 4 53 _ _ rfl _ _ _ _ _ ?_
        exact ⟨rfl, fun e9 => absurd e9 (by decide), rfl, (f4 16 (x3).toInt.toNat), v4, f4, rfl, rfl, hv4, hf4, hw4, hr4_0, hr4_1, by first | omega | (dsimp only; omega) | trivial⟩
      · skip
        refine And.intro (fun _ => ?_) (fun c9 => absurd c9 (by decide))
        refine hC.1 3 52 _ _ rfl _ _ _ _ _ ?_
        have km1 : (-1 : Int32).toInt = -1 := rfl
        refine hC.1 4 53 _ _ rfl _ _ _ _ _ ?_
        exact ⟨rfl, fun e9 => absurd e9 (by decide), rfl, (-1 : Int32), v4, f4, rfl, rfl, hv4, hf4, hw4, hr4_0, hr4_1, by first | omega | (dsimp only; omega) | trivial⟩
    · skip
      refine And.intro (fun c9 => absurd c9 (by decide)) (fun _ => ?_)
      refine hC.1 1 19 _ _ rfl _ _ _ _ _ ?_
      have km1 : (-1 : Int32).toInt = -1 := rfl
      exact ⟨rfl, fun e9 => absurd e9 (by decide), rfl, (-1 : Int32), v, f, rfl, rfl, hv, hf, rfl, rfl, rfl, by first | omega | (dsimp only; omega) | trivial⟩
  · skip
    have k0 : (0 : Int32).toInt = 0 := rfl
    refine And.intro (fun _ => ?_) (fun c9 => absurd c9 (by decide))
    refine hC.1 1 19 _ _ rfl _ _ _ _ _ ?_
    have km1 : (-1 : Int32).toInt = -1 := rfl
    exact ⟨rfl, fun e9 => absurd e9 (by decide), rfl, (-1 : Int32), v, f, rfl, rfl, hv, hf, rfl, rfl, rfl, by first | omega | (dsimp only; omega) | trivial⟩

end
end
section
section
variable {l : Launch} {g : pm_G} {A0 : pm_H} {h : Nat} {q : Nat → Nat}
set_option maxRecDepth 100000 in
set_option maxHeartbeats 2000000 in
theorem F_X11_least (D : md_D h q) (v : Nat → Int32) (f : Nat → Nat → Int32) (hv : md_V v) (hf : md_F f) (x1 : Int32) (x2 : Int32) (x3 : Int32)  : pm_Mt l g 242 3 0 0 [.ref h, .int x1, .int x2, .int x3] (md A0 g h q v f) (md_Qw A0 g h q f (fun r v2 f2 => f2 0 = f 0 ∧ f2 1 = f 1 ∧ (v2 0).toInt = (v 0).toInt ∧ (v2 1).toInt = (v 1).toInt ∧ (v2 2).toInt = (v 2).toInt ∧ (v2 3).toInt = (v 3).toInt ∧ (v2 4).toInt = (v 4).toInt ∧ (v2 6).toInt = (v 6).toInt)) := by
  refine mt_X11_least rfl (fun J hC => ?_)
  have hv9 := hv
  unfold md_V at hv9
  have rg_x1 := pm_rng x1
  have rg_x2 := pm_rng x2
  have rg_x3 := pm_rng x3
  refine hC.1 0 0 _ _ rfl _ _ _ _ _ ?_
  refine And.intro (Exists.intro _ md_o) (Exists.intro _ (Exists.intro _ (Exists.intro _ (Exists.intro _ (And.intro (c_X11_isSpan D v f hv hf x1 x2 ) (And.intro rfl (fun r9 A9 h9 => ?_)))))))
  rcases h9 with ⟨y1, rfl, rfl, ⟨rfl, by1⟩ | ⟨rfl, by1⟩⟩
  · skip
    have k1 : (1 : Int32).toInt = 1 := rfl
    refine And.intro (fun c9 => absurd c9 (by decide)) (fun _ => ?_)
    refine And.intro (fun c2 => ?_) (fun c2 => ?_)
    · skip
      refine hC.1 2 16 _ _ rfl _ _ _ _ _ ?_
      have k4 : (4 : Int32).toInt = 4 := rfl
      refine And.intro (Exists.intro _ md_o) (Exists.intro _ (Exists.intro _ (Exists.intro _ (Exists.intro _ (And.intro (F_X11_laysOrder D v f hv hf x1 x2 (4 : Int32) (by omega)) (And.intro rfl (fun r9 A9 h9 => ?_)))))))
      obtain ⟨y3, v4, f4, rfl, rfl, hv4, hf4, hx4, hg4_0, hg4_1, by3⟩ := h9
      have hw4 : f4 2 = f 2 := hx4.trans rfl
      have hr4_0 : f4 0 = f 0 := hg4_0.trans rfl
      have hr4_1 : f4 1 = f 1 := hg4_1.trans rfl
      have k0 : (0 : Int32).toInt = 0 := rfl
      have lp6 : ∀ (n : Nat) (z5_31 : Int32) (z6_31 : Int32), (1 ≤ z6_31.toInt) → ((30 - z6_31.toInt).toNat : Int) < (n : Int) → J 31 [some (.ref h), some (.int x1), some (.int x2), some (.int x3), some (.int y3), some (.int z5_31), some (.int z6_31)] [] (md A0 g h q v4 f4) 0 0 := by
        intro n
        induction n with
        | zero =>
          intro z5_31 z6_31 j0_31 j1_31
          omega
        | succ n ih7 =>
          intro z5_31 z6_31 j0_31 j1_31
          refine hC.1 3 31 _ _ rfl _ _ _ _ _ ?_
          refine And.intro (fun c8 => ?_) (fun c8 => ?_)
          · skip
            refine hC.1 4 62 _ _ rfl _ _ _ _ _ ?_
            exact ⟨rfl, fun e9 => absurd e9 (by decide), rfl, z5_31, v4, f4, rfl, rfl, hv4, hf4, hw4, hr4_0, hr4_1, by first | omega | (dsimp only; omega) | trivial⟩
          · skip
            refine Exists.intro _ (And.intro md_o ?_)
            refine Exists.intro _ (Exists.intro _ (And.intro (Or.inl (md_a_row D)) (And.intro (by omega) ?_)))
            have w9 : (0 : Int) ≤ (f4 16 (z6_31).toInt.toNat).toInt ∧ (f4 16 (z6_31).toInt.toNat).toInt ≤ (23 : Int) := hf4 16 _
            refine And.intro (Exists.intro _ md_o) (Exists.intro _ (Exists.intro _ (Exists.intro _ (Exists.intro _ (And.intro (c_X11_timesIn D v4 f4 hv4 hf4 x1 x2 (f4 16 (z6_31).toInt.toNat) (by omega) (by omega)) (And.intro rfl (fun r9 A9 h9 => ?_)))))))
            obtain ⟨y10, rfl, rfl, by10⟩ := h9
            intro m11 em_53
            try have e11 : m11.toInt = (z5_31).toInt + (y10).toInt := by rw [em_53]; exact pm_add _ _ (by omega) (by omega)
            intro m12 em_56
            try have e12 : m12.toInt = (z6_31).toInt + (1) := by rw [em_56]; exact pm_addc _ _ (1) rfl (by omega) (by omega)
            exact ih7 m11 m12 (by omega) (by omega)
      exact lp6 (((30 - x3.toInt).toNat : Int)).toNat.succ (0 : Int32) x3 (by omega) (by omega)
    · skip
      refine hC.1 1 14 _ _ rfl _ _ _ _ _ ?_
      have km1 : (-1 : Int32).toInt = -1 := rfl
      exact ⟨rfl, fun e9 => absurd e9 (by decide), rfl, (-1 : Int32), v, f, rfl, rfl, hv, hf, rfl, rfl, rfl, by first | omega | (dsimp only; omega) | trivial⟩
  · skip
    have k0 : (0 : Int32).toInt = 0 := rfl
    refine And.intro (fun _ => ?_) (fun c9 => absurd c9 (by decide))
    refine hC.1 1 14 _ _ rfl _ _ _ _ _ ?_
    have km1 : (-1 : Int32).toInt = -1 := rfl
    exact ⟨rfl, fun e9 => absurd e9 (by decide), rfl, (-1 : Int32), v, f, rfl, rfl, hv, hf, rfl, rfl, rfl, by first | omega | (dsimp only; omega) | trivial⟩

set_option maxRecDepth 100000 in
set_option maxHeartbeats 2000000 in
theorem F_X11_goOver (D : md_D h q) (v : Nat → Int32) (f : Nat → Nat → Int32) (hv : md_V v) (hf : md_F f) (x1 : Int32) (x2 : Int32) (x3 : Int32) (p0 : -1 ≤ x1.toInt ∧ x1.toInt < (v 0).toInt) : pm_Mt l g 259 2 0 0 [.ref h, .int x1, .int x2, .int x3] (md A0 g h q v f) (md_Qw A0 g h q f (fun r v2 f2 => f2 0 = f 0 ∧ f2 1 = f 1 ∧ (v2 0).toInt = (v 0).toInt ∧ (v2 1).toInt = (v 1).toInt ∧ (v2 2).toInt = (v 2).toInt ∧ (v2 3).toInt = (v 3).toInt ∧ (v2 4).toInt = (v 4).toInt ∧ (v2 6).toInt = (v 6).toInt)) := by
  refine mt_X11_goOver rfl (fun J hC => ?_)
  have hv9 := hv
  unfold md_V at hv9
  have rg_x1 := pm_rng x1
  have rg_x2 := pm_rng x2
  have rg_x3 := pm_rng x3
  refine hC.1 0 0 _ _ rfl _ _ _ _ _ ?_
  have k0 : (0 : Int32).toInt = 0 := rfl
  refine Exists.intro _ (And.intro md_o (And.intro rfl ?_))
  rw [md_p_shelfSet D]
  obtain ⟨v1, ev1⟩ : ∃ z9, z9 = upd v 7 (0 : Int32) := ⟨_, rfl⟩
  rw [← ev1]
  have ev1_0 : (v1 0).toInt = (v 0).toInt := by rw [ev1]; rfl
  have ev1_1 : (v1 1).toInt = (v 1).toInt := by rw [ev1]; rfl
  have ev1_2 : (v1 2).toInt = (v 2).toInt := by rw [ev1]; rfl
  have ev1_3 : (v1 3).toInt = (v 3).toInt := by rw [ev1]; rfl
  have ev1_4 : (v1 4).toInt = (v 4).toInt := by rw [ev1]; rfl
  have ev1_5 : (v1 5).toInt = (v 5).toInt := by rw [ev1]; rfl
  have ev1_6 : (v1 6).toInt = (v 6).toInt := by rw [ev1]; rfl
  have ev1_7 : (v1 7).toInt = ((0 : Int32)).toInt := by rw [ev1]; rfl
  have pn_5 : v1 7 = (0 : Int32) := by rw [ev1]; rfl
  have lp3 : ∀ (n : Nat) (z4_11 : Int32) (z5_11 : Int32) (v2 : Nat → Int32) (f2 : Nat → Nat → Int32), md_V v2 → md_F f2 → f2 2 = f 2 → f2 0 = f 0 → f2 1 = f 1 → (0 ≤ z5_11.toInt ∧ z5_11.toInt ≤ x1.toInt + 1) → (goB (v2 7) (f2 0) z5_11.toInt) → (v2 0).toInt = (v 0).toInt → (v2 1).toInt = (v 1).toInt → (v2 2).toInt = (v 2).toInt → (v2 3).toInt = (v 3).toInt → (v2 4).toInt = (v 4).toInt → (v2 6).toInt = (v 6).toInt → 200 - z5_11.toInt < (n : Int) → J 11 [some (.ref h), some (.int x1), some (.int x2), some (.int x3), some (.int z4_11), some (.int z5_11)] [] (md A0 g h q v2 f2) 0 0 := by
    intro n
    induction n with
    | zero =>
      intro z4_11 z5_11 v2 f2 hv2 hf2 hw2 hr2_0 hr2_1 j0_11 j1_11 j2_11 j3_11 j4_11 j5_11 j6_11 j7_11 j8_11
      clear ev1_0 ev1_1 ev1_2 ev1_3 ev1_4 ev1_5 ev1_6 ev1_7
      omega
    | succ n ih4 =>
      intro z4_11 z5_11 v2 f2 hv2 hf2 hw2 hr2_0 hr2_1 j0_11 j1_11 j2_11 j3_11 j4_11 j5_11 j6_11 j7_11 j8_11
      clear ev1_0 ev1_1 ev1_2 ev1_3 ev1_4 ev1_5 ev1_6 ev1_7
      refine hC.1 1 11 _ _ rfl _ _ _ _ _ ?_
      refine And.intro (fun c6 => ?_) (fun c6 => ?_)
      · skip
        refine hC.1 5 96 _ _ rfl _ _ _ _ _ ?_
        exact ⟨rfl, fun e9 => absurd e9 (by decide), rfl, z4_11, v2, f2, rfl, rfl, hv2, hf2, hw2, hr2_0, hr2_1, by first | omega | (dsimp only; omega) | trivial⟩
      · skip
        refine Exists.intro _ (And.intro md_o ?_)
        refine Exists.intro _ (And.intro md_o ?_)
        refine Exists.intro _ (Exists.intro _ (And.intro (Or.inl (md_a_colours D)) (And.intro (by omega) ?_)))
        have w7 : (0 : Int) ≤ (f2 0 (z5_11).toInt.toNat).toInt ∧ (f2 0 (z5_11).toInt.toNat).toInt ≤ (23 : Int) := hf2 0 _
        have k1 : (1 : Int32).toInt = 1 := rfl
        refine And.intro (fun c8 => ?_) (fun c8 => ?_)
        · skip
          have dc8 := pm_neI c8
          refine hC.1 2 38 _ _ rfl _ _ _ _ _ ?_
          intro m9 em_38
          try have e9 : m9.toInt = (z4_11).toInt + (1) := by rw [em_38]; exact pm_addc _ _ (1) rfl (by omega) (by omega)
          refine Exists.intro _ (And.intro md_o ?_)
          refine Exists.intro _ (Exists.intro _ (Exists.intro _ (Exists.intro _ (And.intro (c_X11_bits (md A0 g h q v2 f2) (v2 7) ) (And.intro rfl (fun r9 A9 h9 => ?_))))))
          obtain ⟨y10, rfl, rfl, by10⟩ := h9
          refine And.intro (fun c11 => ?_) (fun c11 => ?_)
          · skip
            have dc11 := pm_neI c11
            refine hC.1 3 72 _ _ rfl _ _ _ _ _ ?_
            refine Exists.intro _ (And.intro md_o ?_)
            refine Exists.intro _ (And.intro md_o ?_)
            refine Exists.intro _ (Exists.intro _ (And.intro (Or.inl (md_a_colours D)) (And.intro (by omega) ?_)))
            have w12 : (0 : Int) ≤ (f2 0 (z5_11).toInt.toNat).toInt ∧ (f2 0 (z5_11).toInt.toNat).toInt ≤ (23 : Int) := hf2 0 _
            refine Exists.intro _ (And.intro md_o (And.intro rfl ?_))
            rw [md_p_shelfSet D]
            obtain ⟨v13, ev13⟩ : ∃ z9, z9 = upd v2 7 ((v2 7) ||| ((1 : Int32) <<< ((f2 0 (z5_11).toInt.toNat) &&& 31))) := ⟨_, rfl⟩
            rw [← ev13]
            have ev13_0 : (v13 0).toInt = (v2 0).toInt := by rw [ev13]; rfl
            have ev13_1 : (v13 1).toInt = (v2 1).toInt := by rw [ev13]; rfl
            have ev13_2 : (v13 2).toInt = (v2 2).toInt := by rw [ev13]; rfl
            have ev13_3 : (v13 3).toInt = (v2 3).toInt := by rw [ev13]; rfl
            have ev13_4 : (v13 4).toInt = (v2 4).toInt := by rw [ev13]; rfl
            have ev13_5 : (v13 5).toInt = (v2 5).toInt := by rw [ev13]; rfl
            have ev13_6 : (v13 6).toInt = (v2 6).toInt := by rw [ev13]; rfl
            have ev13_7 : (v13 7).toInt = (((v2 7) ||| ((1 : Int32) <<< ((f2 0 (z5_11).toInt.toNat) &&& 31)))).toInt := by rw [ev13]; rfl
            have pn_87 : v13 7 = ((v2 7) ||| ((1 : Int32) <<< ((f2 0 (z5_11).toInt.toNat) &&& 31))) := by rw [ev13]; rfl
            refine hC.1 4 90 _ _ rfl _ _ _ _ _ ?_
            intro m14 em_90
            try have e14 : m14.toInt = (z5_11).toInt + (1) := by rw [em_90]; exact pm_addc _ _ (1) rfl (by omega) (by omega)
            have hv15 : md_V v13 := by unfold md_V; omega
            exact ih4 m9 m14 v13 f2 hv15 hf2 hw2 hr2_0 hr2_1 (by omega) (by first | exact go_mono j1_11 (by omega) | (rw [pn_87, pn_69]; exact go_or (go_and j1_11) (by omega) (by omega) rfl (by omega)) | (rw [pn_87]; exact go_or j1_11 (by omega) (by omega) rfl (by omega))) (by omega) (by omega) (by omega) (by omega) (by omega) (by omega) (by omega)
          · skip
            have dc11 : (y10).toInt = (x2 : Int32).toInt := congrArg Int32.toInt c11
            refine Exists.intro _ (And.intro md_o ?_)
            refine And.intro (Exists.intro _ md_o) (Exists.intro _ (Exists.intro _ (Exists.intro _ (Exists.intro _ (And.intro (c_X11_goner D v2 f2 hv2 hf2 z5_11 x3 (by omega) (by exact j1_11)) (And.intro rfl (fun r9 A9 h9 => ?_)))))))
            obtain ⟨y16, rfl, rfl, by16⟩ := h9
            have km1 : (-1 : Int32).toInt = -1 := rfl
            refine Exists.intro _ (And.intro md_o (And.intro rfl ?_))
            rw [md_p_shelfSet D]
            obtain ⟨v17, ev17⟩ : ∃ z9, z9 = upd v2 7 ((v2 7) &&& (((1 : Int32) <<< (y16 &&& 31)) ^^^ (-1 : Int32))) := ⟨_, rfl⟩
            rw [← ev17]
            have ev17_0 : (v17 0).toInt = (v2 0).toInt := by rw [ev17]; rfl
            have ev17_1 : (v17 1).toInt = (v2 1).toInt := by rw [ev17]; rfl
            have ev17_2 : (v17 2).toInt = (v2 2).toInt := by rw [ev17]; rfl
            have ev17_3 : (v17 3).toInt = (v2 3).toInt := by rw [ev17]; rfl
            have ev17_4 : (v17 4).toInt = (v2 4).toInt := by rw [ev17]; rfl
            have ev17_5 : (v17 5).toInt = (v2 5).toInt := by rw [ev17]; rfl
            have ev17_6 : (v17 6).toInt = (v2 6).toInt := by rw [ev17]; rfl
            have ev17_7 : (v17 7).toInt = (((v2 7) &&& (((1 : Int32) <<< (y16 &&& 31)) ^^^ (-1 : Int32)))).toInt := by rw [ev17]; rfl
            have pn_69 : v17 7 = ((v2 7) &&& (((1 : Int32) <<< (y16 &&& 31)) ^^^ (-1 : Int32))) := by rw [ev17]; rfl
            refine hC.1 3 72 _ _ rfl _ _ _ _ _ ?_
            refine Exists.intro _ (And.intro md_o ?_)
            refine Exists.intro _ (And.intro md_o ?_)
            refine Exists.intro _ (Exists.intro _ (And.intro (Or.inl (md_a_colours D)) (And.intro (by omega) ?_)))
            have w18 : (0 : Int) ≤ (f2 0 (z5_11).toInt.toNat).toInt ∧ (f2 0 (z5_11).toInt.toNat).toInt ≤ (23 : Int) := hf2 0 _
            refine Exists.intro _ (And.intro md_o (And.intro rfl ?_))
            rw [md_p_shelfSet D]
            obtain ⟨v19, ev19⟩ : ∃ z9, z9 = upd v17 7 ((v17 7) ||| ((1 : Int32) <<< ((f2 0 (z5_11).toInt.toNat) &&& 31))) := ⟨_, rfl⟩
            rw [← ev19]
            have ev19_0 : (v19 0).toInt = (v17 0).toInt := by rw [ev19]; rfl
            have ev19_1 : (v19 1).toInt = (v17 1).toInt := by rw [ev19]; rfl
            have ev19_2 : (v19 2).toInt = (v17 2).toInt := by rw [ev19]; rfl
            have ev19_3 : (v19 3).toInt = (v17 3).toInt := by rw [ev19]; rfl
            have ev19_4 : (v19 4).toInt = (v17 4).toInt := by rw [ev19]; rfl
            have ev19_5 : (v19 5).toInt = (v17 5).toInt := by rw [ev19]; rfl
            have ev19_6 : (v19 6).toInt = (v17 6).toInt := by rw [ev19]; rfl
            have ev19_7 : (v19 7).toInt = (((v17 7) ||| ((1 : Int32) <<< ((f2 0 (z5_11).toInt.toNat) &&& 31)))).toInt := by rw [ev19]; rfl
            have pn_87 : v19 7 = ((v17 7) ||| ((1 : Int32) <<< ((f2 0 (z5_11).toInt.toNat) &&& 31))) := by rw [ev19]; rfl
            refine hC.1 4 90 _ _ rfl _ _ _ _ _ ?_
            intro m20 em_90
            try have e20 : m20.toInt = (z5_11).toInt + (1) := by rw [em_90]; exact pm_addc _ _ (1) rfl (by omega) (by omega)
            have hv21 : md_V v19 := by unfold md_V; omega
            exact ih4 m9 m20 v19 f2 hv21 hf2 hw2 hr2_0 hr2_1 (by omega) (by first | exact go_mono j1_11 (by omega) | (rw [pn_87, pn_69]; exact go_or (go_and j1_11) (by omega) (by omega) rfl (by omega)) | (rw [pn_87]; exact go_or j1_11 (by omega) (by omega) rfl (by omega))) (by omega) (by omega) (by omega) (by omega) (by omega) (by omega) (by omega)
        · skip
          have dc8 : ((((v2 7) >>> ((f2 0 (z5_11).toInt.toNat) &&& 31)) &&& (1 : Int32))).toInt = ((1 : Int32) : Int32).toInt := congrArg Int32.toInt c8
          refine hC.1 4 90 _ _ rfl _ _ _ _ _ ?_
          intro m22 em_90
          try have e22 : m22.toInt = (z5_11).toInt + (1) := by rw [em_90]; exact pm_addc _ _ (1) rfl (by omega) (by omega)
          exact ih4 z4_11 m22 v2 f2 hv2 hf2 hw2 hr2_0 hr2_1 (by omega) (by first | exact go_mono j1_11 (by omega) | (rw [pn_87, pn_69]; exact go_or (go_and j1_11) (by omega) (by omega) rfl (by omega)) | (rw [pn_87]; exact go_or j1_11 (by omega) (by omega) rfl (by omega))) (by omega) (by omega) (by omega) (by omega) (by omega) (by omega) (by omega)
  have hv23 : md_V v1 := by unfold md_V; omega
  exact lp3 (200 - (0 : Int32).toInt).toNat.succ (0 : Int32) (0 : Int32) v1 f hv23 hf rfl rfl rfl (by omega) (by rw [pn_5]; exact go_0 _ _) (by omega) (by omega) (by omega) (by omega) (by omega) (by omega) (by omega)

set_option maxRecDepth 100000 in
set_option maxHeartbeats 2000000 in
theorem F_X11_misses (D : md_D h q) (v : Nat → Int32) (f : Nat → Nat → Int32) (hv : md_V v) (hf : md_F f) (x1 : Int32) (x2 : Int32)  : pm_Mt l g 257 3 0 0 [.ref h, .int x1, .int x2] (md A0 g h q v f) (md_Qw A0 g h q f (fun r v2 f2 => f2 0 = f 0 ∧ f2 1 = f 1 ∧ (v2 0).toInt = (v 0).toInt ∧ (v2 1).toInt = (v 1).toInt ∧ (v2 2).toInt = (v 2).toInt ∧ (v2 3).toInt = (v 3).toInt ∧ (v2 4).toInt = (v 4).toInt ∧ (v2 6).toInt = (v 6).toInt)) := by
  refine mt_X11_misses rfl (fun J hC => ?_)
  have hv9 := hv
  unfold md_V at hv9
  have rg_x1 := pm_rng x1
  have rg_x2 := pm_rng x2
  refine hC.1 0 0 _ _ rfl _ _ _ _ _ ?_
  refine Exists.intro _ (Exists.intro _ (Exists.intro _ (Exists.intro _ (And.intro (c_X11_isShelf (md A0 g h q v f) x1 x2 ) (And.intro rfl (fun r9 A9 h9 => ?_))))))
  rcases h9 with ⟨y1, rfl, rfl, ⟨rfl, by1⟩ | ⟨rfl, by1⟩⟩
  · skip
    have k1 : (1 : Int32).toInt = 1 := rfl
    refine And.intro (fun c9 => absurd c9 (by decide)) (fun _ => ?_)
    refine Exists.intro _ (And.intro md_o ?_)
    intro m2 em_14
    try have e2 : m2.toInt = ((v 0)).toInt - (1) := by rw [em_14]; exact pm_subc _ _ (1) rfl (by omega) (by omega)
    refine And.intro (Exists.intro _ md_o) (Exists.intro _ (Exists.intro _ (Exists.intro _ (Exists.intro _ (And.intro (F_X11_goOver D v f hv hf m2 x1 x2 (by omega)) (And.intro rfl (fun r9 A9 h9 => ?_)))))))
    obtain ⟨y3, v4, f4, rfl, rfl, hv4, hf4, hx4, hg4_0, hg4_1, by3⟩ := h9
    have hw4 : f4 2 = f 2 := hx4.trans rfl
    have hr4_0 : f4 0 = f 0 := hg4_0.trans rfl
    have hr4_1 : f4 1 = f 1 := hg4_1.trans rfl
    refine hC.1 2 24 _ _ rfl _ _ _ _ _ ?_
    exact ⟨rfl, fun e9 => absurd e9 (by decide), rfl, y3, v4, f4, rfl, rfl, hv4, hf4, hw4, hr4_0, hr4_1, by first | omega | (dsimp only; omega) | trivial⟩
  · skip
    have k0 : (0 : Int32).toInt = 0 := rfl
    refine And.intro (fun _ => ?_) (fun c9 => absurd c9 (by decide))
    refine hC.1 1 23 _ _ rfl _ _ _ _ _ ?_
    have km1 : (-1 : Int32).toInt = -1 := rfl
    refine hC.1 2 24 _ _ rfl _ _ _ _ _ ?_
    exact ⟨rfl, fun e9 => absurd e9 (by decide), rfl, (-1 : Int32), v, f, rfl, rfl, hv, hf, rfl, rfl, rfl, by first | omega | (dsimp only; omega) | trivial⟩

set_option maxRecDepth 100000 in
set_option maxHeartbeats 2000000 in
theorem F_X11_shelf (D : md_D h q) (v : Nat → Int32) (f : Nat → Nat → Int32) (hv : md_V v) (hf : md_F f) (x1 : Int32) (x2 : Int32) (x3 : Int32)  : pm_Mt l g 262 3 0 0 [.ref h, .int x1, .int x2, .int x3] (md A0 g h q v f) (md_Qw A0 g h q f (fun r v2 f2 => f2 0 = f 0 ∧ f2 1 = f 1 ∧ (v2 0).toInt = (v 0).toInt ∧ (v2 1).toInt = (v 1).toInt ∧ (v2 2).toInt = (v 2).toInt ∧ (v2 3).toInt = (v 3).toInt ∧ (v2 4).toInt = (v 4).toInt ∧ (v2 6).toInt = (v 6).toInt)) := by
  refine mt_X11_shelf rfl (fun J hC => ?_)
  have hv9 := hv
  unfold md_V at hv9
  have rg_x1 := pm_rng x1
  have rg_x2 := pm_rng x2
  have rg_x3 := pm_rng x3
  refine hC.1 0 0 _ _ rfl _ _ _ _ _ ?_
  refine And.intro (Exists.intro _ md_o) (Exists.intro _ (Exists.intro _ (Exists.intro _ (Exists.intro _ (And.intro (c_X11_isPlace D v f hv hf x1 ) (And.intro rfl (fun r9 A9 h9 => ?_)))))))
  rcases h9 with ⟨y1, rfl, rfl, ⟨rfl, by1⟩ | ⟨rfl, by1⟩⟩
  · skip
    have k1 : (1 : Int32).toInt = 1 := rfl
    refine And.intro (fun c9 => absurd c9 (by decide)) (fun _ => ?_)
    refine Exists.intro _ (Exists.intro _ (Exists.intro _ (Exists.intro _ (And.intro (c_X11_isShelf (md A0 g h q v f) x2 x3 ) (And.intro rfl (fun r9 A9 h9 => ?_))))))
    rcases h9 with ⟨y2, rfl, rfl, ⟨rfl, by2⟩ | ⟨rfl, by2⟩⟩
    · skip
      refine And.intro (fun _ => ?_) (fun c9 => absurd c9 (by decide))
      refine hC.1 2 18 _ _ rfl _ _ _ _ _ ?_
      refine And.intro (Exists.intro _ md_o) (Exists.intro _ (Exists.intro _ (Exists.intro _ (Exists.intro _ (And.intro (F_X11_goOver D v f hv hf x1 x2 x3 (by omega)) (And.intro rfl (fun r9 A9 h9 => ?_)))))))
      obtain ⟨y3, v4, f4, rfl, rfl, hv4, hf4, hx4, hg4_0, hg4_1, by3⟩ := h9
      have hw4 : f4 2 = f 2 := hx4.trans rfl
      have hr4_0 : f4 0 = f 0 := hg4_0.trans rfl
      have hr4_1 : f4 1 = f 1 := hg4_1.trans rfl
      refine And.intro (fun c6 => ?_) (fun c6 => ?_)
      · skip
        refine hC.1 3 36 _ _ rfl _ _ _ _ _ ?_
        refine Exists.intro _ (And.intro md_o ?_)
        refine hC.1 4 40 _ _ rfl _ _ _ _ _ ?_
        exact ⟨rfl, fun e9 => absurd e9 (by decide), rfl, (v4 7), v4, f4, rfl, rfl, hv4, hf4, hw4, hr4_0, hr4_1, by first | omega | (dsimp only; omega) | trivial⟩
      · skip
        have km1 : (-1 : Int32).toInt = -1 := rfl
        refine hC.1 4 40 _ _ rfl _ _ _ _ _ ?_
        exact ⟨rfl, fun e9 => absurd e9 (by decide), rfl, (-1 : Int32), v4, f4, rfl, rfl, hv4, hf4, hw4, hr4_0, hr4_1, by first | omega | (dsimp only; omega) | trivial⟩
    · skip
      have k0 : (0 : Int32).toInt = 0 := rfl
      refine And.intro (fun c9 => absurd c9 (by decide)) (fun _ => ?_)
      refine hC.1 1 16 _ _ rfl _ _ _ _ _ ?_
      have km1 : (-1 : Int32).toInt = -1 := rfl
      exact ⟨rfl, fun e9 => absurd e9 (by decide), rfl, (-1 : Int32), v, f, rfl, rfl, hv, hf, rfl, rfl, rfl, by first | omega | (dsimp only; omega) | trivial⟩
  · skip
    have k0 : (0 : Int32).toInt = 0 := rfl
    refine And.intro (fun _ => ?_) (fun c9 => absurd c9 (by decide))
    refine hC.1 1 16 _ _ rfl _ _ _ _ _ ?_
    have km1 : (-1 : Int32).toInt = -1 := rfl
    exact ⟨rfl, fun e9 => absurd e9 (by decide), rfl, (-1 : Int32), v, f, rfl, rfl, hv, hf, rfl, rfl, rfl, by first | omega | (dsimp only; omega) | trivial⟩

set_option maxRecDepth 100000 in
set_option maxHeartbeats 2000000 in
theorem F_X11_suffices (D : md_D h q) (v : Nat → Int32) (f : Nat → Nat → Int32) (hv : md_V v) (hf : md_F f) (x1 : Int32) (x2 : Int32)  : pm_Mt l g 263 3 0 0 [.ref h, .int x1, .int x2] (md A0 g h q v f) (md_Qw A0 g h q f (fun r v2 f2 => f2 0 = f 0 ∧ f2 1 = f 1 ∧ (v2 0).toInt = (v 0).toInt ∧ (v2 1).toInt = (v 1).toInt ∧ (v2 2).toInt = (v 2).toInt ∧ (v2 3).toInt = (v 3).toInt ∧ (v2 4).toInt = (v 4).toInt ∧ (v2 6).toInt = (v 6).toInt)) := by
  refine mt_X11_suffices rfl (fun J hC => ?_)
  have hv9 := hv
  unfold md_V at hv9
  have rg_x1 := pm_rng x1
  have rg_x2 := pm_rng x2
  refine hC.1 0 0 _ _ rfl _ _ _ _ _ ?_
  refine And.intro (fun c1 => ?_) (fun c1 => ?_)
  · skip
    refine hC.1 1 13 _ _ rfl _ _ _ _ _ ?_
    have km1 : (-1 : Int32).toInt = -1 := rfl
    exact ⟨rfl, fun e9 => absurd e9 (by decide), rfl, (-1 : Int32), v, f, rfl, rfl, hv, hf, rfl, rfl, rfl, by first | omega | (dsimp only; omega) | trivial⟩
  · skip
    have k0 : (0 : Int32).toInt = 0 := rfl
    have k1 : (1 : Int32).toInt = 1 := rfl
    refine Exists.intro _ (Exists.intro _ (Exists.intro _ (Exists.intro _ (And.intro (c_X11_isIn (md A0 g h q v f) x2 (0 : Int32) (1 : Int32) ) (And.intro rfl (fun r9 A9 h9 => ?_))))))
    rcases h9 with ⟨y2, rfl, rfl, ⟨rfl, by2⟩ | ⟨rfl, by2⟩⟩
    · skip
      refine And.intro (fun _ => ?_) (fun c9 => absurd c9 (by decide))
      refine hC.1 2 15 _ _ rfl _ _ _ _ _ ?_
      have lp4 : ∀ (n : Nat) (z3_17 : Int32) (v3 : Nat → Int32) (f3 : Nat → Nat → Int32), md_V v3 → md_F f3 → f3 2 = f 2 → f3 0 = f 0 → f3 1 = f 1 → (1 ≤ z3_17.toInt ∧ z3_17.toInt ≤ 25) → (v3 0).toInt = (v 0).toInt → (v3 1).toInt = (v 1).toInt → (v3 2).toInt = (v 2).toInt → (v3 3).toInt = (v 3).toInt → (v3 4).toInt = (v 4).toInt → (v3 6).toInt = (v 6).toInt → 200 - z3_17.toInt < (n : Int) → J 17 [some (.ref h), some (.int x1), some (.int x2), some (.int z3_17)] [] (md A0 g h q v3 f3) 0 0 := by
        intro n
        induction n with
        | zero =>
          intro z3_17 v3 f3 hv3 hf3 hw3 hr3_0 hr3_1 j0_17 j1_17 j2_17 j3_17 j4_17 j5_17 j6_17 j7_17
          omega
        | succ n ih5 =>
          intro z3_17 v3 f3 hv3 hf3 hw3 hr3_0 hr3_1 j0_17 j1_17 j2_17 j3_17 j4_17 j5_17 j6_17 j7_17
          refine hC.1 3 17 _ _ rfl _ _ _ _ _ ?_
          have k24 : (24 : Int32).toInt = 24 := rfl
          refine And.intro (fun c7 => ?_) (fun c7 => ?_)
          · skip
            refine hC.1 5 47 _ _ rfl _ _ _ _ _ ?_
            have km1 : (-1 : Int32).toInt = -1 := rfl
            exact ⟨rfl, fun e9 => absurd e9 (by decide), rfl, (-1 : Int32), v3, f3, rfl, rfl, hv3, hf3, hw3, hr3_0, hr3_1, by first | omega | (dsimp only; omega) | trivial⟩
          · skip
            refine Exists.intro _ (And.intro md_o ?_)
            intro m8 em_29
            try have e8 : m8.toInt = ((v3 0)).toInt - (1) := by rw [em_29]; exact pm_subc _ _ (1) rfl (by omega) (by omega)
            refine And.intro (Exists.intro _ md_o) (Exists.intro _ (Exists.intro _ (Exists.intro _ (Exists.intro _ (And.intro (F_X11_goOver D v3 f3 hv3 hf3 m8 z3_17 x2 (by omega)) (And.intro rfl (fun r9 A9 h9 => ?_)))))))
            obtain ⟨y9, v10, f10, rfl, rfl, hv10, hf10, hx10, hg10_0, hg10_1, by9⟩ := h9
            have hw10 : f10 2 = f 2 := hx10.trans hw3
            have hr10_0 : f10 0 = f 0 := hg10_0.trans hr3_0
            have hr10_1 : f10 1 = f 1 := hg10_1.trans hr3_1
            refine And.intro (fun c12 => ?_) (fun c12 => ?_)
            · skip
              refine hC.1 4 41 _ _ rfl _ _ _ _ _ ?_
              intro m13 em_41
              try have e13 : m13.toInt = (z3_17).toInt + (1) := by rw [em_41]; exact pm_addc _ _ (1) rfl (by omega) (by omega)
              exact ih5 m13 v10 f10 hv10 hf10 hw10 hr10_0 hr10_1 (by omega) (by omega) (by omega) (by omega) (by omega) (by omega) (by omega) (by omega)
            · skip
              exact ⟨rfl, fun e9 => absurd e9 (by decide), rfl, z3_17, v10, f10, rfl, rfl, hv10, hf10, hw10, hr10_0, hr10_1, by first | omega | (dsimp only; omega) | trivial⟩
      exact lp4 (200 - (1 : Int32).toInt).toNat.succ (1 : Int32) v f hv hf rfl rfl rfl (by omega) (by omega) (by omega) (by omega) (by omega) (by omega) (by omega) (by omega)
    · skip
      refine And.intro (fun c9 => absurd c9 (by decide)) (fun _ => ?_)
      refine hC.1 1 13 _ _ rfl _ _ _ _ _ ?_
      have km1 : (-1 : Int32).toInt = -1 := rfl
      exact ⟨rfl, fun e9 => absurd e9 (by decide), rfl, (-1 : Int32), v, f, rfl, rfl, hv, hf, rfl, rfl, rfl, by first | omega | (dsimp only; omega) | trivial⟩

set_option maxRecDepth 100000 in
set_option maxHeartbeats 2000000 in
theorem F_X11_layGaps (D : md_D h q) (v : Nat → Int32) (f : Nat → Nat → Int32) (hv : md_V v) (hf : md_F f)  : pm_Mt l g 268 1 0 0 [.ref h] (md A0 g h q v f) (md_Qv A0 g h q f (fun v2 f2 => f2 0 = f 0 ∧ f2 1 = f 1 ∧ (v2 0).toInt = (v 0).toInt ∧ (v2 1).toInt = (v 1).toInt ∧ (v2 2).toInt = (v 2).toInt ∧ (v2 3).toInt = (v 3).toInt ∧ (v2 4).toInt = (v 4).toInt ∧ (v2 6).toInt = (v 6).toInt)) := by
  refine mt_X11_layGaps rfl (fun J hC => ?_)
  have hv9 := hv
  unfold md_V at hv9
  refine hC.1 0 0 _ _ rfl _ _ _ _ _ ?_
  have k0 : (0 : Int32).toInt = 0 := rfl
  have lp2 : ∀ (n : Nat) (z1_2 : Int32) (v1 : Nat → Int32) (f1 : Nat → Nat → Int32), md_V v1 → md_F f1 → f1 2 = f 2 → f1 0 = f 0 → f1 1 = f 1 → (0 ≤ z1_2.toInt ∧ z1_2.toInt ≤ (v 0).toInt) → (v1 0).toInt = (v 0).toInt → (v1 1).toInt = (v 1).toInt → (v1 2).toInt = (v 2).toInt → (v1 3).toInt = (v 3).toInt → (v1 4).toInt = (v 4).toInt → (v1 6).toInt = (v 6).toInt → 200 - z1_2.toInt < (n : Int) → J 2 [some (.ref h), some (.int z1_2)] [] (md A0 g h q v1 f1) 0 0 := by
    intro n
    induction n with
    | zero =>
      intro z1_2 v1 f1 hv1 hf1 hw1 hr1_0 hr1_1 j0_2 j1_2 j2_2 j3_2 j4_2 j5_2 j6_2 j7_2
      omega
    | succ n ih3 =>
      intro z1_2 v1 f1 hv1 hf1 hw1 hr1_0 hr1_1 j0_2 j1_2 j2_2 j3_2 j4_2 j5_2 j6_2 j7_2
      refine hC.1 1 2 _ _ rfl _ _ _ _ _ ?_
      refine Exists.intro _ (And.intro md_o ?_)
      refine And.intro (fun c5 => ?_) (fun c5 => ?_)
      · skip
        refine hC.1 4 42 _ _ rfl _ _ _ _ _ ?_
        exact ⟨rfl, rfl, v1, f1, rfl, rfl, hv1, hf1, hw1, hr1_0, hr1_1, by first | omega | (dsimp only; omega) | trivial⟩
      · skip
        refine Exists.intro _ (And.intro md_o ?_)
        refine And.intro (Exists.intro _ md_o) (Exists.intro _ (Exists.intro _ (Exists.intro _ (Exists.intro _ (And.intro (c_X11_ahead D v1 f1 hv1 hf1 z1_2 (by omega)) (And.intro rfl (fun r9 A9 h9 => ?_)))))))
        obtain ⟨y6, rfl, rfl, by6⟩ := h9
        refine And.intro (fun c7 => ?_) (fun c7 => ?_)
        · skip
          refine hC.1 2 28 _ _ rfl _ _ _ _ _ ?_
          refine And.intro (Exists.intro _ md_o) (Exists.intro _ (Exists.intro _ (Exists.intro _ (Exists.intro _ (And.intro (c_X11_ahead D v1 f1 hv1 hf1 z1_2 (by omega)) (And.intro rfl (fun r9 A9 h9 => ?_)))))))
          obtain ⟨y8, rfl, rfl, by8⟩ := h9
          intro m9 em_34
          try have e9 : m9.toInt = (z1_2).toInt - (y8).toInt := by rw [em_34]; exact pm_sub _ _ (by omega) (by omega)
          refine hC.1 3 35 _ _ rfl _ _ _ _ _ ?_
          refine Exists.intro _ (Exists.intro _ (And.intro (md_a_gaps D) (And.intro (by omega) ?_)))
          rw [md_s_gaps D]
          obtain ⟨f10, ef10⟩ : ∃ z9, z9 = va_up f1 17 (upd (f1 17) (z1_2).toInt.toNat m9) := ⟨_, rfl⟩
          rw [← ef10]
          have hf10 : md_F f10 := by rw [ef10]; exact md_F_st hf1 17 _ _ (md_rng _ _ (by decide))
          have hw10 : f10 2 = f 2 := (show f10 2 = f1 2 by rw [ef10]; rfl).trans hw1
          have hr10_0 : f10 0 = f 0 := (show f10 0 = f1 0 by rw [ef10]; rfl).trans hr1_0
          have hr10_1 : f10 1 = f 1 := (show f10 1 = f1 1 by rw [ef10]; rfl).trans hr1_1
          have k1 : (1 : Int32).toInt = 1 := rfl
          intro m11 em_36
          try have e11 : m11.toInt = (z1_2).toInt + (1) := by rw [em_36]; exact pm_addc _ _ (1) rfl (by omega) (by omega)
          exact ih3 m11 v1 f10 hv1 hf10 hw10 hr10_0 hr10_1 (by omega) (by omega) (by omega) (by omega) (by omega) (by omega) (by omega) (by omega)
        · skip
          have k268435456 : (268435456 : Int32).toInt = 268435456 := rfl
          refine hC.1 3 35 _ _ rfl _ _ _ _ _ ?_
          refine Exists.intro _ (Exists.intro _ (And.intro (md_a_gaps D) (And.intro (by omega) ?_)))
          rw [md_s_gaps D]
          obtain ⟨f12, ef12⟩ : ∃ z9, z9 = va_up f1 17 (upd (f1 17) (z1_2).toInt.toNat (268435456 : Int32)) := ⟨_, rfl⟩
          rw [← ef12]
          have hf12 : md_F f12 := by rw [ef12]; exact md_F_st hf1 17 _ _ (md_rng _ _ (by decide))
          have hw12 : f12 2 = f 2 := (show f12 2 = f1 2 by rw [ef12]; rfl).trans hw1
          have hr12_0 : f12 0 = f 0 := (show f12 0 = f1 0 by rw [ef12]; rfl).trans hr1_0
          have hr12_1 : f12 1 = f 1 := (show f12 1 = f1 1 by rw [ef12]; rfl).trans hr1_1
          have k1 : (1 : Int32).toInt = 1 := rfl
          intro m13 em_36
          try have e13 : m13.toInt = (z1_2).toInt + (1) := by rw [em_36]; exact pm_addc _ _ (1) rfl (by omega) (by omega)
          exact ih3 m13 v1 f12 hv1 hf12 hw12 hr12_0 hr12_1 (by omega) (by omega) (by omega) (by omega) (by omega) (by omega) (by omega) (by omega)
  exact lp2 (200 - (0 : Int32).toInt).toNat.succ (0 : Int32) v f hv hf rfl rfl rfl (by omega) (by omega) (by omega) (by omega) (by omega) (by omega) (by omega) (by omega)

end
end
section
section
variable {l : Launch} {g : pm_G} {A0 : pm_H} {h : Nat} {q : Nat → Nat}
set_option maxRecDepth 100000 in
set_option maxHeartbeats 2000000 in
theorem F_X11_match (D : md_D h q) (v : Nat → Int32) (f : Nat → Nat → Int32) (hv : md_V v) (hf : md_F f) (x1 : Int32) (x2 : Int32) (x3 : Int32)  : pm_Mt l g 267 2 0 0 [.ref h, .int x1, .int x2, .int x3] (md A0 g h q v f) (md_Qw A0 g h q f (fun r v2 f2 => f2 0 = f 0 ∧ f2 1 = f 1 ∧ (v2 0).toInt = (v 0).toInt ∧ (v2 1).toInt = (v 1).toInt ∧ (v2 2).toInt = (v 2).toInt ∧ (v2 3).toInt = (v 3).toInt ∧ (v2 4).toInt = (v 4).toInt ∧ (v2 6).toInt = (v 6).toInt)) := by
  refine mt_X11_match rfl (fun J hC => ?_)
  have hv9 := hv
  unfold md_V at hv9
  have rg_x1 := pm_rng x1
  have rg_x2 := pm_rng x2
  have rg_x3 := pm_rng x3
  refine hC.1 0 0 _ _ rfl _ _ _ _ _ ?_
  refine And.intro (Exists.intro _ md_o) (Exists.intro _ (Exists.intro _ (Exists.intro _ (Exists.intro _ (And.intro (c_X11_isSpan D v f hv hf x1 x2 ) (And.intro rfl (fun r9 A9 h9 => ?_)))))))
  rcases h9 with ⟨y1, rfl, rfl, ⟨rfl, by1⟩ | ⟨rfl, by1⟩⟩
  · skip
    have k1 : (1 : Int32).toInt = 1 := rfl
    refine And.intro (fun c9 => absurd c9 (by decide)) (fun _ => ?_)
    have km1 : (-1 : Int32).toInt = -1 := rfl
    refine And.intro (fun c2 => ?_) (fun c2 => ?_)
    · skip
      refine hC.1 2 16 _ _ rfl _ _ _ _ _ ?_
      refine And.intro (Exists.intro _ md_o) (Exists.intro _ (Exists.intro _ (Exists.intro _ (Exists.intro _ (And.intro (F_X11_layGaps D v f hv hf  ) (And.intro rfl (fun r9 A9 h9 => ?_)))))))
      obtain ⟨v4, f4, rfl, rfl, hv4, hf4, hx4, hg4_0, hg4_1, by3⟩ := h9
      have hw4 : f4 2 = f 2 := hx4.trans rfl
      have hr4_0 : f4 0 = f 0 := hg4_0.trans rfl
      have hr4_1 : f4 1 = f 1 := hg4_1.trans rfl
      intro m6 em_22
      try have e6 : m6.toInt = (x2).toInt - (x1).toInt := by rw [em_22]; exact pm_sub _ _ (by omega) (by omega)
      intro m7 em_24
      try have e7 : m7.toInt = (m6).toInt + (1) := by rw [em_24]; exact pm_addc _ _ (1) rfl (by omega) (by omega)
      have k0 : (0 : Int32).toInt = 0 := rfl
      have lp8 : ∀ (n : Nat) (z5_33 : Int32) (z6_33 : Int32), (0 ≤ z6_33.toInt ∧ z6_33.toInt ≤ 161) → 200 - z6_33.toInt < (n : Int) → J 33 [some (.ref h), some (.int x1), some (.int x2), some (.int x3), some (.int m7), some (.int z5_33), some (.int z6_33)] [] (md A0 g h q v4 f4) 0 0 := by
        intro n
        induction n with
        | zero =>
          intro z5_33 z6_33 j0_33 j1_33
          omega
        | succ n ih9 =>
          intro z5_33 z6_33 j0_33 j1_33
          refine hC.1 3 33 _ _ rfl _ _ _ _ _ ?_
          intro m10 em_37
          try have e10 : m10.toInt = (z6_33).toInt + (m7).toInt := by rw [em_37]; exact pm_add _ _ (by omega) (by omega)
          refine Exists.intro _ (And.intro md_o ?_)
          refine And.intro (fun c11 => ?_) (fun c11 => ?_)
          · skip
            refine hC.1 7 80 _ _ rfl _ _ _ _ _ ?_
            refine And.intro (fun c12 => ?_) (fun c12 => ?_)
            · skip
              have dc12 := pm_neI c12
              refine hC.1 8 90 _ _ rfl _ _ _ _ _ ?_
              refine hC.1 9 91 _ _ rfl _ _ _ _ _ ?_
              exact ⟨rfl, fun e9 => absurd e9 (by decide), rfl, (-1 : Int32), v4, f4, rfl, rfl, hv4, hf4, hw4, hr4_0, hr4_1, by first | omega | (dsimp only; omega) | trivial⟩
            · skip
              have dc12 : (x3).toInt = ((-1 : Int32) : Int32).toInt := congrArg Int32.toInt c12
              refine hC.1 9 91 _ _ rfl _ _ _ _ _ ?_
              exact ⟨rfl, fun e9 => absurd e9 (by decide), rfl, z5_33, v4, f4, rfl, rfl, hv4, hf4, hw4, hr4_0, hr4_1, by first | omega | (dsimp only; omega) | trivial⟩
          · skip
            refine And.intro (Exists.intro _ md_o) (Exists.intro _ (Exists.intro _ (Exists.intro _ (Exists.intro _ (And.intro (c_X11_matched D v4 f4 hv4 hf4 x1 z6_33 m7 (by omega) (by omega) (by omega)) (And.intro rfl (fun r9 A9 h9 => ?_)))))))
            obtain ⟨y13, rfl, rfl, by13⟩ := h9
            refine And.intro (fun c14 => ?_) (fun c14 => ?_)
            · skip
              refine hC.1 4 62 _ _ rfl _ _ _ _ _ ?_
              refine And.intro (fun c15 => ?_) (fun c15 => ?_)
              · skip
                have dc15 := pm_neI c15
                refine hC.1 5 71 _ _ rfl _ _ _ _ _ ?_
                intro m16 em_71
                try have e16 : m16.toInt = (z5_33).toInt + (1) := by rw [em_71]; exact pm_addc _ _ (1) rfl (by omega) (by omega)
                refine hC.1 6 74 _ _ rfl _ _ _ _ _ ?_
                intro m17 em_74
                try have e17 : m17.toInt = (z6_33).toInt + (1) := by rw [em_74]; exact pm_addc _ _ (1) rfl (by omega) (by omega)
                exact ih9 m16 m17 (by omega) (by omega)
              · skip
                have dc15 : (z5_33).toInt = (x3 : Int32).toInt := congrArg Int32.toInt c15
                exact ⟨rfl, fun e9 => absurd e9 (by decide), rfl, z6_33, v4, f4, rfl, rfl, hv4, hf4, hw4, hr4_0, hr4_1, by first | omega | (dsimp only; omega) | trivial⟩
            · skip
              refine hC.1 6 74 _ _ rfl _ _ _ _ _ ?_
              intro m18 em_74
              try have e18 : m18.toInt = (z6_33).toInt + (1) := by rw [em_74]; exact pm_addc _ _ (1) rfl (by omega) (by omega)
              exact ih9 z5_33 m18 (by omega) (by omega)
      exact lp8 (200 - (0 : Int32).toInt).toNat.succ (0 : Int32) (0 : Int32) (by omega) (by omega)
    · skip
      refine hC.1 1 14 _ _ rfl _ _ _ _ _ ?_
      exact ⟨rfl, fun e9 => absurd e9 (by decide), rfl, (-1 : Int32), v, f, rfl, rfl, hv, hf, rfl, rfl, rfl, by first | omega | (dsimp only; omega) | trivial⟩
  · skip
    have k0 : (0 : Int32).toInt = 0 := rfl
    refine And.intro (fun _ => ?_) (fun c9 => absurd c9 (by decide))
    refine hC.1 1 14 _ _ rfl _ _ _ _ _ ?_
    have km1 : (-1 : Int32).toInt = -1 := rfl
    exact ⟨rfl, fun e9 => absurd e9 (by decide), rfl, (-1 : Int32), v, f, rfl, rfl, hv, hf, rfl, rfl, rfl, by first | omega | (dsimp only; omega) | trivial⟩

set_option maxRecDepth 100000 in
set_option maxHeartbeats 2000000 in
theorem F_X11_twin (D : md_D h q) (v : Nat → Int32) (f : Nat → Nat → Int32) (hv : md_V v) (hf : md_F f) (x1 : Int32)  : pm_Mt l g 270 2 0 0 [.ref h, .int x1] (md A0 g h q v f) (md_Qw A0 g h q f (fun r v2 f2 => f2 0 = f 0 ∧ f2 1 = f 1 ∧ (v2 0).toInt = (v 0).toInt ∧ (v2 1).toInt = (v 1).toInt ∧ (v2 2).toInt = (v 2).toInt ∧ (v2 3).toInt = (v 3).toInt ∧ (v2 4).toInt = (v 4).toInt ∧ (v2 6).toInt = (v 6).toInt)) := by
  refine mt_X11_twin rfl (fun J hC => ?_)
  have hv9 := hv
  unfold md_V at hv9
  have rg_x1 := pm_rng x1
  refine hC.1 0 0 _ _ rfl _ _ _ _ _ ?_
  have k0 : (0 : Int32).toInt = 0 := rfl
  have k1 : (1 : Int32).toInt = 1 := rfl
  refine Exists.intro _ (Exists.intro _ (Exists.intro _ (Exists.intro _ (And.intro (c_X11_isIn (md A0 g h q v f) x1 (0 : Int32) (1 : Int32) ) (And.intro rfl (fun r9 A9 h9 => ?_))))))
  rcases h9 with ⟨y1, rfl, rfl, ⟨rfl, by1⟩ | ⟨rfl, by1⟩⟩
  · skip
    refine And.intro (fun _ => ?_) (fun c9 => absurd c9 (by decide))
    refine hC.1 1 11 _ _ rfl _ _ _ _ _ ?_
    refine And.intro (Exists.intro _ md_o) (Exists.intro _ (Exists.intro _ (Exists.intro _ (Exists.intro _ (And.intro (F_X11_layGaps D v f hv hf  ) (And.intro rfl (fun r9 A9 h9 => ?_)))))))
    obtain ⟨v3, f3, rfl, rfl, hv3, hf3, hx3, hg3_0, hg3_1, by2⟩ := h9
    have hw3 : f3 2 = f 2 := hx3.trans rfl
    have hr3_0 : f3 0 = f 0 := hg3_0.trans rfl
    have hr3_1 : f3 1 = f 1 := hg3_1.trans rfl
    have km1 : (-1 : Int32).toInt = -1 := rfl
    have lp5 : ∀ (n : Nat) (z2_22 : Int32) (z3_22 : Int32) (z4_22 : Int32), (0 ≤ z4_22.toInt ∧ z4_22.toInt ≤ (v 0).toInt) → 200 - z4_22.toInt < (n : Int) → J 22 [some (.ref h), some (.int x1), some (.int z2_22), some (.int z3_22), some (.int z4_22), none, none] [] (md A0 g h q v3 f3) 0 0 := by
      intro n
      induction n with
      | zero =>
        intro z2_22 z3_22 z4_22 j0_22 j1_22
        omega
      | succ n ih6 =>
        intro z2_22 z3_22 z4_22 j0_22 j1_22
        refine hC.1 2 22 _ _ rfl _ _ _ _ _ ?_
        refine Exists.intro _ (And.intro md_o ?_)
        refine And.intro (fun c7 => ?_) (fun c7 => ?_)
        · skip
          refine hC.1 7 86 _ _ rfl _ _ _ _ _ ?_
          refine And.intro (fun c8 => ?_) (fun c8 => ?_)
          · skip
            refine hC.1 8 94 _ _ rfl _ _ _ _ _ ?_
            refine hC.1 10 99 _ _ rfl _ _ _ _ _ ?_
            exact ⟨rfl, fun e9 => absurd e9 (by decide), rfl, z2_22, v3, f3, rfl, rfl, hv3, hf3, hw3, hr3_0, hr3_1, by first | omega | (dsimp only; omega) | trivial⟩
          · skip
            refine And.intro (fun c9 => ?_) (fun c9 => ?_)
            · skip
              have dc9 := pm_neI c9
              refine hC.1 9 98 _ _ rfl _ _ _ _ _ ?_
              refine hC.1 10 99 _ _ rfl _ _ _ _ _ ?_
              exact ⟨rfl, fun e9 => absurd e9 (by decide), rfl, z3_22, v3, f3, rfl, rfl, hv3, hf3, hw3, hr3_0, hr3_1, by first | omega | (dsimp only; omega) | trivial⟩
            · skip
              have dc9 : (x1).toInt = (0 : Int32).toInt := congrArg Int32.toInt c9
              refine hC.1 8 94 _ _ rfl _ _ _ _ _ ?_
              refine hC.1 10 99 _ _ rfl _ _ _ _ _ ?_
              exact ⟨rfl, fun e9 => absurd e9 (by decide), rfl, z2_22, v3, f3, rfl, rfl, hv3, hf3, hw3, hr3_0, hr3_1, by first | omega | (dsimp only; omega) | trivial⟩
        · skip
          intro m10 em_34
          try have e10 : m10.toInt = (z4_22).toInt + (1) := by rw [em_34]; exact pm_addc _ _ (1) rfl (by omega) (by omega)
          have lp11 : ∀ (n : Nat) (z2_37 : Int32) (z3_37 : Int32) (z5_37 : Int32), (0 ≤ z5_37.toInt ∧ z5_37.toInt ≤ 161) → 200 - z5_37.toInt < (n : Int) → J 37 [some (.ref h), some (.int x1), some (.int z2_37), some (.int z3_37), some (.int z4_22), some (.int z5_37), none] [] (md A0 g h q v3 f3) 0 0 := by
            intro n
            induction n with
            | zero =>
              intro z2_37 z3_37 z5_37 j0_37 j1_37
              omega
            | succ n ih12 =>
              intro z2_37 z3_37 z5_37 j0_37 j1_37
              refine hC.1 3 37 _ _ rfl _ _ _ _ _ ?_
              refine Exists.intro _ (And.intro md_o ?_)
              refine And.intro (fun c13 => ?_) (fun c13 => ?_)
              · skip
                refine hC.1 6 80 _ _ rfl _ _ _ _ _ ?_
                intro m14 em_80
                try have e14 : m14.toInt = (z4_22).toInt + (1) := by rw [em_80]; exact pm_addc _ _ (1) rfl (by omega) (by omega)
                exact hC.2 [false, false, false, false, false, true, false] _ _ _ _ _ _ (ih6 z2_37 z3_37 m14 (by omega) (by omega))
              · skip
                have k160 : (160 : Int32).toInt = 160 := rfl
                refine And.intro (Exists.intro _ md_o) (Exists.intro _ (Exists.intro _ (Exists.intro _ (Exists.intro _ (And.intro (c_X11_matched D v3 f3 hv3 hf3 z4_22 z5_37 (160 : Int32) (by omega) (by omega) (by omega)) (And.intro rfl (fun r9 A9 h9 => ?_)))))))
                obtain ⟨y15, rfl, rfl, by15⟩ := h9
                refine And.intro (fun c16 => ?_) (fun c16 => ?_)
                · skip
                  refine hC.1 4 68 _ _ rfl _ _ _ _ _ ?_
                  refine hC.1 5 74 _ _ rfl _ _ _ _ _ ?_
                  intro m17 em_74
                  try have e17 : m17.toInt = (z5_37).toInt + (1) := by rw [em_74]; exact pm_addc _ _ (1) rfl (by omega) (by omega)
                  exact hC.2 [false, false, false, false, false, false, true] _ _ _ _ _ _ (ih12 z4_22 y15 m17 (by omega) (by omega))
                · skip
                  refine hC.1 5 74 _ _ rfl _ _ _ _ _ ?_
                  intro m18 em_74
                  try have e18 : m18.toInt = (z5_37).toInt + (1) := by rw [em_74]; exact pm_addc _ _ (1) rfl (by omega) (by omega)
                  exact hC.2 [false, false, false, false, false, false, true] _ _ _ _ _ _ (ih12 z2_37 z3_37 m18 (by omega) (by omega))
          exact lp11 (200 - m10.toInt).toNat.succ z2_22 z3_22 m10 (by omega) (by omega)
    exact lp5 (200 - (0 : Int32).toInt).toNat.succ (-1 : Int32) (0 : Int32) (0 : Int32) (by omega) (by omega)
  · skip
    refine And.intro (fun c9 => absurd c9 (by decide)) (fun _ => ?_)
    have km1 : (-1 : Int32).toInt = -1 := rfl
    exact ⟨rfl, fun e9 => absurd e9 (by decide), rfl, (-1 : Int32), v, f, rfl, rfl, hv, hf, rfl, rfl, rfl, by first | omega | (dsimp only; omega) | trivial⟩

set_option maxRecDepth 100000 in
set_option maxHeartbeats 2000000 in
theorem F_X11_layPart (D : md_D h q) (v : Nat → Int32) (f : Nat → Nat → Int32) (hv : md_V v) (hf : md_F f) (x1 : Int32) (x2 : Int32) (x3 : Int32) (p0 : 1 ≤ x1.toInt ∧ x1.toInt ≤ 8) (p1 : 0 ≤ x2.toInt ∧ x2.toInt ≤ (v 0).toInt) (p2 : x3.toInt = 161) : pm_Mt l g 274 1 0 0 [.ref h, .int x1, .int x2, .int x3] (md A0 g h q v f) (md_Qv A0 g h q f (fun v2 f2 => f2 0 = f 0 ∧ f2 1 = f 1 ∧ (v2 0).toInt = (v 0).toInt ∧ (v2 1).toInt = (v 1).toInt ∧ (v2 2).toInt = (v 2).toInt ∧ (v2 3).toInt = (v 3).toInt ∧ (v2 4).toInt = (v 4).toInt ∧ (v2 6).toInt = (v 6).toInt)) := by
  refine mt_X11_layPart rfl (fun J hC => ?_)
  have hv9 := hv
  unfold md_V at hv9
  have rg_x1 := pm_rng x1
  have rg_x2 := pm_rng x2
  have rg_x3 := pm_rng x3
  refine hC.1 0 0 _ _ rfl _ _ _ _ _ ?_
  have k0 : (0 : Int32).toInt = 0 := rfl
  have lp2 : ∀ (n : Nat) (z4_6 : Int32) (z5_6 : Int32) (v1 : Nat → Int32) (f1 : Nat → Nat → Int32), md_V v1 → md_F f1 → f1 2 = f 2 → f1 0 = f 0 → f1 1 = f 1 → (0 ≤ z5_6.toInt ∧ z5_6.toInt ≤ (v 0).toInt) → (v1 0).toInt = (v 0).toInt → (v1 1).toInt = (v 1).toInt → (v1 2).toInt = (v 2).toInt → (v1 3).toInt = (v 3).toInt → (v1 4).toInt = (v 4).toInt → (v1 6).toInt = (v 6).toInt → 200 - z5_6.toInt < (n : Int) → J 6 [some (.ref h), some (.int x1), some (.int x2), some (.int x3), some (.int z4_6), some (.int z5_6), none] [] (md A0 g h q v1 f1) 0 0 := by
    intro n
    induction n with
    | zero =>
      intro z4_6 z5_6 v1 f1 hv1 hf1 hw1 hr1_0 hr1_1 j0_6 j1_6 j2_6 j3_6 j4_6 j5_6 j6_6 j7_6
      omega
    | succ n ih3 =>
      intro z4_6 z5_6 v1 f1 hv1 hf1 hw1 hr1_0 hr1_1 j0_6 j1_6 j2_6 j3_6 j4_6 j5_6 j6_6 j7_6
      refine hC.1 1 6 _ _ rfl _ _ _ _ _ ?_
      refine Exists.intro _ (And.intro md_o ?_)
      refine And.intro (fun c5 => ?_) (fun c5 => ?_)
      · skip
        refine hC.1 4 105 _ _ rfl _ _ _ _ _ ?_
        exact ⟨rfl, rfl, v1, f1, rfl, rfl, hv1, hf1, hw1, hr1_0, hr1_1, by first | omega | (dsimp only; omega) | trivial⟩
      · skip
        have k1 : (1 : Int32).toInt = 1 := rfl
        refine Exists.intro _ (And.intro md_o ?_)
        refine Exists.intro _ (Exists.intro _ (And.intro (Or.inl (md_a_colours D)) (And.intro (by omega) ?_)))
        have w6 : (0 : Int) ≤ (f1 0 (z5_6).toInt.toNat).toInt ∧ (f1 0 (z5_6).toInt.toNat).toInt ≤ (23 : Int) := hf1 0 _
        refine Exists.intro _ (Exists.intro _ (Exists.intro _ (Exists.intro _ (And.intro (c_X11_bits (md A0 g h q v1 f1) (z4_6 ||| ((1 : Int32) <<< ((f1 0 (z5_6).toInt.toNat) &&& 31))) ) (And.intro rfl (fun r9 A9 h9 => ?_))))))
        obtain ⟨y7, rfl, rfl, by7⟩ := h9
        refine Exists.intro _ (And.intro md_o ?_)
        intro m8 em_41
        try have e8 : m8.toInt = (x1).toInt - (1) := by rw [em_41]; exact pm_subc _ _ (1) rfl (by omega) (by omega)
        intro m9 em_42
        try have e9 : m9.toInt = (161) * (m8).toInt := by rw [em_42]; exact pm_mulk _ _ (161) (by omega) (by omega) (by omega)
        intro m10 em_45
        try have e10 : m10.toInt = (m9).toInt + (z5_6).toInt := by rw [em_45]; exact pm_add _ _ (by omega) (by omega)
        intro m11 em_47
        try have e11 : m11.toInt = (m10).toInt + (1) := by rw [em_47]; exact pm_addc _ _ (1) rfl (by omega) (by omega)
        refine Exists.intro _ (Exists.intro _ (And.intro (Or.inl (md_a_worth D)) (And.intro (by omega) ?_)))
        intro m12 em_49
        try have e12 : m12.toInt = (y7).toInt + ((f1 18 (m11).toInt.toNat)).toInt := by rw [em_49]; exact pm_add _ _ (by omega) (by omega)
        refine Exists.intro _ (And.intro md_o ?_)
        intro m13 em_60
        try have e13 : m13.toInt = (161) * (x1).toInt := by rw [em_60]; exact pm_mulk _ _ (161) (by omega) (by omega) (by omega)
        intro m14 em_62
        try have e14 : m14.toInt = (m13).toInt + (x2).toInt := by rw [em_62]; exact pm_add _ _ (by omega) (by omega)
        refine Exists.intro _ (Exists.intro _ (And.intro (Or.inl (md_a_worth D)) (And.intro (by omega) ?_)))
        refine And.intro (fun c15 => ?_) (fun c15 => ?_)
        · skip
          refine hC.1 3 99 _ _ rfl _ _ _ _ _ ?_
          intro m16 em_99
          try have e16 : m16.toInt = (z5_6).toInt + (1) := by rw [em_99]; exact pm_addc _ _ (1) rfl (by omega) (by omega)
          exact hC.2 [false, false, false, false, false, false, true] _ _ _ _ _ _ (ih3 (z4_6 ||| ((1 : Int32) <<< ((f1 0 (z5_6).toInt.toNat) &&& 31))) m16 v1 f1 hv1 hf1 hw1 hr1_0 hr1_1 (by omega) (by omega) (by omega) (by omega) (by omega) (by omega) (by omega) (by omega))
        · skip
          refine And.intro (fun c17 => ?_) (fun c17 => ?_)
          · skip
            refine hC.1 2 75 _ _ rfl _ _ _ _ _ ?_
            refine Exists.intro _ (And.intro md_o ?_)
            intro m18 em_81
            try have e18 : m18.toInt = (161) * (x1).toInt := by rw [em_81]; exact pm_mulk _ _ (161) (by omega) (by omega) (by omega)
            intro m19 em_83
            try have e19 : m19.toInt = (m18).toInt + (x2).toInt := by rw [em_83]; exact pm_add _ _ (by omega) (by omega)
            refine Exists.intro _ (Exists.intro _ (And.intro (md_a_worth D) (And.intro (by omega) ?_)))
            rw [md_s_worth D]
            obtain ⟨f20, ef20⟩ : ∃ z9, z9 = va_up f1 18 (upd (f1 18) (m19).toInt.toNat m12) := ⟨_, rfl⟩
            rw [← ef20]
            have hf20 : md_F f20 := by rw [ef20]; exact md_F_st hf1 18 _ _ (md_rng _ _ (by decide))
            have hw20 : f20 2 = f 2 := (show f20 2 = f1 2 by rw [ef20]; rfl).trans hw1
            have hr20_0 : f20 0 = f 0 := (show f20 0 = f1 0 by rw [ef20]; rfl).trans hr1_0
            have hr20_1 : f20 1 = f 1 := (show f20 1 = f1 1 by rw [ef20]; rfl).trans hr1_1
            refine Exists.intro _ (And.intro md_o ?_)
            intro m21 em_93
            try have e21 : m21.toInt = (161) * (x1).toInt := by rw [em_93]; exact pm_mulk _ _ (161) (by omega) (by omega) (by omega)
            intro m22 em_95
            try have e22 : m22.toInt = (m21).toInt + (x2).toInt := by rw [em_95]; exact pm_add _ _ (by omega) (by omega)
            refine Exists.intro _ (Exists.intro _ (And.intro (md_a_ends0 D) (And.intro (by omega) ?_)))
            rw [md_s_ends0 D]
            obtain ⟨f23, ef23⟩ : ∃ z9, z9 = va_up f20 19 (upd (f20 19) (m22).toInt.toNat z5_6) := ⟨_, rfl⟩
            rw [← ef23]
            have hf23 : md_F f23 := by rw [ef23]; exact md_F_st hf20 19 _ _ (by show (0 : Int) ≤ _ ∧ _ ≤ (159 : Int); omega)
            have hw23 : f23 2 = f 2 := (show f23 2 = f20 2 by rw [ef23]; rfl).trans hw20
            have hr23_0 : f23 0 = f 0 := (show f23 0 = f20 0 by rw [ef23]; rfl).trans hr20_0
            have hr23_1 : f23 1 = f 1 := (show f23 1 = f20 1 by rw [ef23]; rfl).trans hr20_1
            refine hC.1 3 99 _ _ rfl _ _ _ _ _ ?_
            intro m24 em_99
            try have e24 : m24.toInt = (z5_6).toInt + (1) := by rw [em_99]; exact pm_addc _ _ (1) rfl (by omega) (by omega)
            exact hC.2 [false, false, false, false, false, false, true] _ _ _ _ _ _ (ih3 (z4_6 ||| ((1 : Int32) <<< ((f1 0 (z5_6).toInt.toNat) &&& 31))) m24 v1 f23 hv1 hf23 hw23 hr23_0 hr23_1 (by omega) (by omega) (by omega) (by omega) (by omega) (by omega) (by omega) (by omega))
          · skip
            refine hC.1 3 99 _ _ rfl _ _ _ _ _ ?_
            intro m25 em_99
            try have e25 : m25.toInt = (z5_6).toInt + (1) := by rw [em_99]; exact pm_addc _ _ (1) rfl (by omega) (by omega)
            exact hC.2 [false, false, false, false, false, false, true] _ _ _ _ _ _ (ih3 (z4_6 ||| ((1 : Int32) <<< ((f1 0 (z5_6).toInt.toNat) &&& 31))) m25 v1 f1 hv1 hf1 hw1 hr1_0 hr1_1 (by omega) (by omega) (by omega) (by omega) (by omega) (by omega) (by omega) (by omega))
  exact lp2 (200 - x2.toInt).toNat.succ (0 : Int32) x2 v f hv hf rfl rfl rfl (by omega) (by omega) (by omega) (by omega) (by omega) (by omega) (by omega) (by omega)

end
end
section
section
variable {l : Launch} {g : pm_G} {A0 : pm_H} {h : Nat} {q : Nat → Nat}
set_option maxRecDepth 100000 in
set_option maxHeartbeats 2000000 in
theorem F_X11_layBest (D : md_D h q) (v : Nat → Int32) (f : Nat → Nat → Int32) (hv : md_V v) (hf : md_F f) (x1 : Int32) (p0 : 0 ≤ x1.toInt ∧ x1.toInt ≤ 8) : pm_Mt l g 273 2 0 0 [.ref h, .int x1] (md A0 g h q v f) (md_Qv A0 g h q f (fun v2 f2 => f2 0 = f 0 ∧ f2 1 = f 1 ∧ (v2 0).toInt = (v 0).toInt ∧ (v2 1).toInt = (v 1).toInt ∧ (v2 2).toInt = (v 2).toInt ∧ (v2 3).toInt = (v 3).toInt ∧ (v2 4).toInt = (v 4).toInt ∧ (v2 6).toInt = (v 6).toInt)) := by
  refine mt_X11_layBest rfl (fun J hC => ?_)
  have hv9 := hv
  unfold md_V at hv9
  have rg_x1 := pm_rng x1
  refine hC.1 0 0 _ _ rfl _ _ _ _ _ ?_
  have k161 : (161 : Int32).toInt = 161 := rfl
  have k0 : (0 : Int32).toInt = 0 := rfl
  have lp2 : ∀ (n : Nat) (z3_6 : Int32) (v1 : Nat → Int32) (f1 : Nat → Nat → Int32), md_V v1 → md_F f1 → f1 2 = f 2 → f1 0 = f 0 → f1 1 = f 1 → (0 ≤ z3_6.toInt ∧ z3_6.toInt ≤ 9) → (v1 0).toInt = (v 0).toInt → (v1 1).toInt = (v 1).toInt → (v1 2).toInt = (v 2).toInt → (v1 3).toInt = (v 3).toInt → (v1 4).toInt = (v 4).toInt → (v1 6).toInt = (v 6).toInt → 200 - z3_6.toInt < (n : Int) → J 6 [some (.ref h), some (.int x1), some (.int (161 : Int32)), some (.int z3_6), none] [] (md A0 g h q v1 f1) 0 0 := by
    intro n
    induction n with
    | zero =>
      intro z3_6 v1 f1 hv1 hf1 hw1 hr1_0 hr1_1 j0_6 j1_6 j2_6 j3_6 j4_6 j5_6 j6_6 j7_6
      omega
    | succ n ih3 =>
      intro z3_6 v1 f1 hv1 hf1 hw1 hr1_0 hr1_1 j0_6 j1_6 j2_6 j3_6 j4_6 j5_6 j6_6 j7_6
      refine hC.1 1 6 _ _ rfl _ _ _ _ _ ?_
      refine And.intro (fun c5 => ?_) (fun c5 => ?_)
      · skip
        refine hC.1 7 85 _ _ rfl _ _ _ _ _ ?_
        exact ⟨rfl, rfl, v1, f1, rfl, rfl, hv1, hf1, hw1, hr1_0, hr1_1, by first | omega | (dsimp only; omega) | trivial⟩
      · skip
        refine Exists.intro _ (And.intro md_o ?_)
        have lp7 : ∀ (n : Nat) (z4_17 : Int32) (v6 : Nat → Int32) (f6 : Nat → Nat → Int32), md_V v6 → md_F f6 → f6 2 = f 2 → f6 0 = f 0 → f6 1 = f 1 → (-1 ≤ z4_17.toInt ∧ z4_17.toInt ≤ (v 0).toInt) → (v6 0).toInt = (v 0).toInt → (v6 1).toInt = (v 1).toInt → (v6 2).toInt = (v 2).toInt → (v6 3).toInt = (v 3).toInt → (v6 4).toInt = (v 4).toInt → (v6 6).toInt = (v 6).toInt → z4_17.toInt + 1 < (n : Int) → J 17 [some (.ref h), some (.int x1), some (.int (161 : Int32)), some (.int z3_6), some (.int z4_17)] [] (md A0 g h q v6 f6) 0 0 := by
          intro n
          induction n with
          | zero =>
            intro z4_17 v6 f6 hv6 hf6 hw6 hr6_0 hr6_1 j0_17 j1_17 j2_17 j3_17 j4_17 j5_17 j6_17 j7_17
            omega
          | succ n ih8 =>
            intro z4_17 v6 f6 hv6 hf6 hw6 hr6_0 hr6_1 j0_17 j1_17 j2_17 j3_17 j4_17 j5_17 j6_17 j7_17
            refine hC.1 2 17 _ _ rfl _ _ _ _ _ ?_
            refine And.intro (fun c10 => ?_) (fun c10 => ?_)
            · skip
              refine hC.1 6 79 _ _ rfl _ _ _ _ _ ?_
              have k1 : (1 : Int32).toInt = 1 := rfl
              intro m11 em_79
              try have e11 : m11.toInt = (z3_6).toInt + (1) := by rw [em_79]; exact pm_addc _ _ (1) rfl (by omega) (by omega)
              exact hC.2 [false, false, false, false, true] _ _ _ _ _ _ (ih3 m11 v6 f6 hv6 hf6 hw6 hr6_0 hr6_1 (by omega) (by omega) (by omega) (by omega) (by omega) (by omega) (by omega) (by omega))
            · skip
              refine Exists.intro _ (And.intro md_o ?_)
              intro m12 em_28
              try have e12 : m12.toInt = (161) * (z3_6).toInt := by rw [em_28]; exact pm_mulk _ _ (161) rfl (by omega) (by omega)
              intro m13 em_31
              try have e13 : m13.toInt = (m12).toInt + (z4_17).toInt := by rw [em_31]; exact pm_add _ _ (by omega) (by omega)
              refine And.intro (fun c14 => ?_) (fun c14 => ?_)
              · skip
                have dc14 := pm_neI c14
                refine hC.1 3 49 _ _ rfl _ _ _ _ _ ?_
                have km268435456 : (-268435456 : Int32).toInt = -268435456 := rfl
                refine hC.1 4 51 _ _ rfl _ _ _ _ _ ?_
                refine Exists.intro _ (Exists.intro _ (And.intro (md_a_worth D) (And.intro (by omega) ?_)))
                rw [md_s_worth D]
                obtain ⟨f15, ef15⟩ : ∃ z9, z9 = va_up f6 18 (upd (f6 18) (m13).toInt.toNat (-268435456 : Int32)) := ⟨_, rfl⟩
                rw [← ef15]
                have hf15 : md_F f15 := by rw [ef15]; exact md_F_st hf6 18 _ _ (md_rng _ _ (by decide))
                have hw15 : f15 2 = f 2 := (show f15 2 = f6 2 by rw [ef15]; rfl).trans hw6
                have hr15_0 : f15 0 = f 0 := (show f15 0 = f6 0 by rw [ef15]; rfl).trans hr6_0
                have hr15_1 : f15 1 = f 1 := (show f15 1 = f6 1 by rw [ef15]; rfl).trans hr6_1
                refine And.intro (fun c16 => ?_) (fun c16 => ?_)
                · skip
                  refine hC.1 5 73 _ _ rfl _ _ _ _ _ ?_
                  have km1 : (-1 : Int32).toInt = -1 := rfl
                  intro m17 em_73
                  try have e17 : m17.toInt = (z4_17).toInt + (-1) := by rw [em_73]; exact pm_addc _ _ (-1) rfl (by omega) (by omega)
                  exact ih8 m17 v6 f15 hv6 hf15 hw15 hr15_0 hr15_1 (by omega) (by omega) (by omega) (by omega) (by omega) (by omega) (by omega) (by omega)
                · skip
                  refine Exists.intro _ (And.intro md_o ?_)
                  refine And.intro (fun c18 => ?_) (fun c18 => ?_)
                  · skip
                    refine hC.1 5 73 _ _ rfl _ _ _ _ _ ?_
                    have km1 : (-1 : Int32).toInt = -1 := rfl
                    intro m19 em_73
                    try have e19 : m19.toInt = (z4_17).toInt + (-1) := by rw [em_73]; exact pm_addc _ _ (-1) rfl (by omega) (by omega)
                    exact ih8 m19 v6 f15 hv6 hf15 hw15 hr15_0 hr15_1 (by omega) (by omega) (by omega) (by omega) (by omega) (by omega) (by omega) (by omega)
                  · skip
                    refine And.intro (Exists.intro _ md_o) (Exists.intro _ (Exists.intro _ (Exists.intro _ (Exists.intro _ (And.intro (F_X11_layPart D v6 f15 hv6 hf15 z3_6 z4_17 (161 : Int32) (by omega) (by omega) (by omega)) (And.intro rfl (fun r9 A9 h9 => ?_)))))))
                    obtain ⟨v21, f21, rfl, rfl, hv21, hf21, hx21, hg21_0, hg21_1, by20⟩ := h9
                    have hw21 : f21 2 = f 2 := hx21.trans hw15
                    have hr21_0 : f21 0 = f 0 := hg21_0.trans hr15_0
                    have hr21_1 : f21 1 = f 1 := hg21_1.trans hr15_1
                    refine hC.1 5 73 _ _ rfl _ _ _ _ _ ?_
                    have km1 : (-1 : Int32).toInt = -1 := rfl
                    intro m23 em_73
                    try have e23 : m23.toInt = (z4_17).toInt + (-1) := by rw [em_73]; exact pm_addc _ _ (-1) rfl (by omega) (by omega)
                    exact ih8 m23 v21 f21 hv21 hf21 hw21 hr21_0 hr21_1 (by omega) (by omega) (by omega) (by omega) (by omega) (by omega) (by omega) (by omega)
              · skip
                have dc14 : (z3_6).toInt = (0 : Int32).toInt := congrArg Int32.toInt c14
                refine Exists.intro _ (And.intro md_o ?_)
                refine And.intro (fun c24 => ?_) (fun c24 => ?_)
                · skip
                  have dc24 := pm_neI c24
                  refine hC.1 3 49 _ _ rfl _ _ _ _ _ ?_
                  have km268435456 : (-268435456 : Int32).toInt = -268435456 := rfl
                  refine hC.1 4 51 _ _ rfl _ _ _ _ _ ?_
                  refine Exists.intro _ (Exists.intro _ (And.intro (md_a_worth D) (And.intro (by omega) ?_)))
                  rw [md_s_worth D]
                  obtain ⟨f25, ef25⟩ : ∃ z9, z9 = va_up f6 18 (upd (f6 18) (m13).toInt.toNat (-268435456 : Int32)) := ⟨_, rfl⟩
                  rw [← ef25]
                  have hf25 : md_F f25 := by rw [ef25]; exact md_F_st hf6 18 _ _ (md_rng _ _ (by decide))
                  have hw25 : f25 2 = f 2 := (show f25 2 = f6 2 by rw [ef25]; rfl).trans hw6
                  have hr25_0 : f25 0 = f 0 := (show f25 0 = f6 0 by rw [ef25]; rfl).trans hr6_0
                  have hr25_1 : f25 1 = f 1 := (show f25 1 = f6 1 by rw [ef25]; rfl).trans hr6_1
                  refine And.intro (fun c26 => ?_) (fun c26 => ?_)
                  · skip
                    refine hC.1 5 73 _ _ rfl _ _ _ _ _ ?_
                    have km1 : (-1 : Int32).toInt = -1 := rfl
                    intro m27 em_73
                    try have e27 : m27.toInt = (z4_17).toInt + (-1) := by rw [em_73]; exact pm_addc _ _ (-1) rfl (by omega) (by omega)
                    exact ih8 m27 v6 f25 hv6 hf25 hw25 hr25_0 hr25_1 (by omega) (by omega) (by omega) (by omega) (by omega) (by omega) (by omega) (by omega)
                  · skip
                    refine Exists.intro _ (And.intro md_o ?_)
                    refine And.intro (fun c28 => ?_) (fun c28 => ?_)
                    · skip
                      refine hC.1 5 73 _ _ rfl _ _ _ _ _ ?_
                      have km1 : (-1 : Int32).toInt = -1 := rfl
                      intro m29 em_73
                      try have e29 : m29.toInt = (z4_17).toInt + (-1) := by rw [em_73]; exact pm_addc _ _ (-1) rfl (by omega) (by omega)
                      exact ih8 m29 v6 f25 hv6 hf25 hw25 hr25_0 hr25_1 (by omega) (by omega) (by omega) (by omega) (by omega) (by omega) (by omega) (by omega)
                    · skip
                      refine And.intro (Exists.intro _ md_o) (Exists.intro _ (Exists.intro _ (Exists.intro _ (Exists.intro _ (And.intro (F_X11_layPart D v6 f25 hv6 hf25 z3_6 z4_17 (161 : Int32) (by omega) (by omega) (by omega)) (And.intro rfl (fun r9 A9 h9 => ?_)))))))
                      obtain ⟨v31, f31, rfl, rfl, hv31, hf31, hx31, hg31_0, hg31_1, by30⟩ := h9
                      have hw31 : f31 2 = f 2 := hx31.trans hw25
                      have hr31_0 : f31 0 = f 0 := hg31_0.trans hr25_0
                      have hr31_1 : f31 1 = f 1 := hg31_1.trans hr25_1
                      refine hC.1 5 73 _ _ rfl _ _ _ _ _ ?_
                      have km1 : (-1 : Int32).toInt = -1 := rfl
                      intro m33 em_73
                      try have e33 : m33.toInt = (z4_17).toInt + (-1) := by rw [em_73]; exact pm_addc _ _ (-1) rfl (by omega) (by omega)
                      exact ih8 m33 v31 f31 hv31 hf31 hw31 hr31_0 hr31_1 (by omega) (by omega) (by omega) (by omega) (by omega) (by omega) (by omega) (by omega)
                · skip
                  have dc24 : (z4_17).toInt = ((v6 0) : Int32).toInt := congrArg Int32.toInt c24
                  refine hC.1 4 51 _ _ rfl _ _ _ _ _ ?_
                  refine Exists.intro _ (Exists.intro _ (And.intro (md_a_worth D) (And.intro (by omega) ?_)))
                  rw [md_s_worth D]
                  obtain ⟨f34, ef34⟩ : ∃ z9, z9 = va_up f6 18 (upd (f6 18) (m13).toInt.toNat (0 : Int32)) := ⟨_, rfl⟩
                  rw [← ef34]
                  have hf34 : md_F f34 := by rw [ef34]; exact md_F_st hf6 18 _ _ (md_rng _ _ (by decide))
                  have hw34 : f34 2 = f 2 := (show f34 2 = f6 2 by rw [ef34]; rfl).trans hw6
                  have hr34_0 : f34 0 = f 0 := (show f34 0 = f6 0 by rw [ef34]; rfl).trans hr6_0
                  have hr34_1 : f34 1 = f 1 := (show f34 1 = f6 1 by rw [ef34]; rfl).trans hr6_1
                  refine And.intro (fun c35 => ?_) (fun c35 => ?_)
                  · skip
                    refine hC.1 5 73 _ _ rfl _ _ _ _ _ ?_
                    have km1 : (-1 : Int32).toInt = -1 := rfl
                    intro m36 em_73
                    try have e36 : m36.toInt = (z4_17).toInt + (-1) := by rw [em_73]; exact pm_addc _ _ (-1) rfl (by omega) (by omega)
                    exact ih8 m36 v6 f34 hv6 hf34 hw34 hr34_0 hr34_1 (by omega) (by omega) (by omega) (by omega) (by omega) (by omega) (by omega) (by omega)
                  · skip
                    refine Exists.intro _ (And.intro md_o ?_)
                    refine And.intro (fun c37 => ?_) (fun c37 => ?_)
                    · skip
                      refine hC.1 5 73 _ _ rfl _ _ _ _ _ ?_
                      have km1 : (-1 : Int32).toInt = -1 := rfl
                      intro m38 em_73
                      try have e38 : m38.toInt = (z4_17).toInt + (-1) := by rw [em_73]; exact pm_addc _ _ (-1) rfl (by omega) (by omega)
                      exact ih8 m38 v6 f34 hv6 hf34 hw34 hr34_0 hr34_1 (by omega) (by omega) (by omega) (by omega) (by omega) (by omega) (by omega) (by omega)
                    · skip
                      refine And.intro (Exists.intro _ md_o) (Exists.intro _ (Exists.intro _ (Exists.intro _ (Exists.intro _ (And.intro (F_X11_layPart D v6 f34 hv6 hf34 z3_6 z4_17 (161 : Int32) (by omega) (by omega) (by omega)) (And.intro rfl (fun r9 A9 h9 => ?_)))))))
                      obtain ⟨v40, f40, rfl, rfl, hv40, hf40, hx40, hg40_0, hg40_1, by39⟩ := h9
                      have hw40 : f40 2 = f 2 := hx40.trans hw34
                      have hr40_0 : f40 0 = f 0 := hg40_0.trans hr34_0
                      have hr40_1 : f40 1 = f 1 := hg40_1.trans hr34_1
                      refine hC.1 5 73 _ _ rfl _ _ _ _ _ ?_
                      have km1 : (-1 : Int32).toInt = -1 := rfl
                      intro m42 em_73
                      try have e42 : m42.toInt = (z4_17).toInt + (-1) := by rw [em_73]; exact pm_addc _ _ (-1) rfl (by omega) (by omega)
                      exact ih8 m42 v40 f40 hv40 hf40 hw40 hr40_0 hr40_1 (by omega) (by omega) (by omega) (by omega) (by omega) (by omega) (by omega) (by omega)
        exact lp7 ((v1 0).toInt + 1).toNat.succ (v1 0) v1 f1 hv1 hf1 hw1 hr1_0 hr1_1 (by omega) (by omega) (by omega) (by omega) (by omega) (by omega) (by omega) (by omega)
  exact lp2 (200 - (0 : Int32).toInt).toNat.succ (0 : Int32) v f hv hf rfl rfl rfl (by omega) (by omega) (by omega) (by omega) (by omega) (by omega) (by omega) (by omega)

set_option maxRecDepth 100000 in
set_option maxHeartbeats 2000000 in
theorem F_X11_best (D : md_D h q) (v : Nat → Int32) (f : Nat → Nat → Int32) (hv : md_V v) (hf : md_F f) (x1 : Int32) (x2 : Int32)  : pm_Mt l g 272 3 0 0 [.ref h, .int x1, .int x2] (md A0 g h q v f) (md_Qw A0 g h q f (fun r v2 f2 => f2 0 = f 0 ∧ f2 1 = f 1 ∧ (v2 0).toInt = (v 0).toInt ∧ (v2 1).toInt = (v 1).toInt ∧ (v2 2).toInt = (v 2).toInt ∧ (v2 3).toInt = (v 3).toInt ∧ (v2 4).toInt = (v 4).toInt ∧ (v2 6).toInt = (v 6).toInt)) := by
  refine mt_X11_best rfl (fun J hC => ?_)
  have hv9 := hv
  unfold md_V at hv9
  have rg_x1 := pm_rng x1
  have rg_x2 := pm_rng x2
  refine hC.1 0 0 _ _ rfl _ _ _ _ _ ?_
  have k1 : (1 : Int32).toInt = 1 := rfl
  have k8 : (8 : Int32).toInt = 8 := rfl
  refine Exists.intro _ (Exists.intro _ (Exists.intro _ (Exists.intro _ (And.intro (c_X11_isIn (md A0 g h q v f) x1 (1 : Int32) (8 : Int32) ) (And.intro rfl (fun r9 A9 h9 => ?_))))))
  rcases h9 with ⟨y1, rfl, rfl, ⟨rfl, by1⟩ | ⟨rfl, by1⟩⟩
  · skip
    refine And.intro (fun c9 => absurd c9 (by decide)) (fun _ => ?_)
    refine Exists.intro _ (And.intro md_o ?_)
    refine And.intro (fun c2 => ?_) (fun c2 => ?_)
    · skip
      refine hC.1 1 29 _ _ rfl _ _ _ _ _ ?_
      have km1 : (-1 : Int32).toInt = -1 := rfl
      exact ⟨rfl, fun e9 => absurd e9 (by decide), rfl, (-1 : Int32), v, f, rfl, rfl, hv, hf, rfl, rfl, rfl, by first | omega | (dsimp only; omega) | trivial⟩
    · skip
      have km1 : (-1 : Int32).toInt = -1 := rfl
      intro m3 em_22
      try have e3 : m3.toInt = (x1).toInt - (1) := by rw [em_22]; exact pm_subc _ _ (1) rfl (by omega) (by omega)
      refine Exists.intro _ (Exists.intro _ (Exists.intro _ (Exists.intro _ (And.intro (c_X11_isIn (md A0 g h q v f) x2 (-1 : Int32) m3 ) (And.intro rfl (fun r9 A9 h9 => ?_))))))
      rcases h9 with ⟨y4, rfl, rfl, ⟨rfl, by4⟩ | ⟨rfl, by4⟩⟩
      · skip
        refine And.intro (fun _ => ?_) (fun c9 => absurd c9 (by decide))
        refine hC.1 2 31 _ _ rfl _ _ _ _ _ ?_
        refine And.intro (Exists.intro _ md_o) (Exists.intro _ (Exists.intro _ (Exists.intro _ (Exists.intro _ (And.intro (F_X11_layBest D v f hv hf x1 (by omega)) (And.intro rfl (fun r9 A9 h9 => ?_)))))))
        obtain ⟨v6, f6, rfl, rfl, hv6, hf6, hx6, hg6_0, hg6_1, by5⟩ := h9
        have hw6 : f6 2 = f 2 := hx6.trans rfl
        have hr6_0 : f6 0 = f 0 := hg6_0.trans rfl
        have hr6_1 : f6 1 = f 1 := hg6_1.trans rfl
        have k161 : (161 : Int32).toInt = 161 := rfl
        refine And.intro (fun c8 => ?_) (fun c8 => ?_)
        · skip
          have dc8 := pm_neI c8
          refine hC.1 3 54 _ _ rfl _ _ _ _ _ ?_
          have k0 : (0 : Int32).toInt = 0 := rfl
          have lp9 : ∀ (n : Nat) (z4_60 : Int32) (z5_60 : Int32), (0 ≤ z4_60.toInt ∧ z4_60.toInt ≤ 160) → (0 ≤ z5_60.toInt ∧ z5_60.toInt ≤ x1.toInt) → z5_60.toInt < (n : Int) → J 60 [some (.ref h), some (.int x1), some (.int x2), some (.int (161 : Int32)), some (.int z4_60), some (.int z5_60)] [] (md A0 g h q v6 f6) 0 0 := by
            intro n
            induction n with
            | zero =>
              intro z4_60 z5_60 j0_60 j1_60 j2_60
              omega
            | succ n ih10 =>
              intro z4_60 z5_60 j0_60 j1_60 j2_60
              refine hC.1 4 60 _ _ rfl _ _ _ _ _ ?_
              intro m11 em_64
              try have e11 : m11.toInt = (x1).toInt - (x2).toInt := by rw [em_64]; exact pm_sub _ _ (by omega) (by omega)
              refine And.intro (fun c12 => ?_) (fun c12 => ?_)
              · skip
                refine hC.1 5 90 _ _ rfl _ _ _ _ _ ?_
                refine Exists.intro _ (And.intro md_o ?_)
                intro m13 em_97
                try have e13 : m13.toInt = (x1).toInt - (x2).toInt := by rw [em_97]; exact pm_sub _ _ (by omega) (by omega)
                intro m14 em_98
                try have e14 : m14.toInt = (161) * (m13).toInt := by rw [em_98]; exact pm_mulk _ _ (161) rfl (by omega) (by omega)
                intro m15 em_101
                try have e15 : m15.toInt = (m14).toInt + (z4_60).toInt := by rw [em_101]; exact pm_add _ _ (by omega) (by omega)
                refine Exists.intro _ (Exists.intro _ (And.intro (Or.inl (md_a_ends0 D)) (And.intro (by omega) ?_)))
                have w16 : (0 : Int) ≤ (f6 19 (m15).toInt.toNat).toInt ∧ (f6 19 (m15).toInt.toNat).toInt ≤ (159 : Int) := hf6 19 _
                exact ⟨rfl, fun e9 => absurd e9 (by decide), rfl, (f6 19 (m15).toInt.toNat), v6, f6, rfl, rfl, hv6, hf6, hw6, hr6_0, hr6_1, by first | omega | (dsimp only; omega) | trivial⟩
              · skip
                refine Exists.intro _ (And.intro md_o ?_)
                intro m17 em_75
                try have e17 : m17.toInt = (161) * (z5_60).toInt := by rw [em_75]; exact pm_mulk _ _ (161) rfl (by omega) (by omega)
                intro m18 em_78
                try have e18 : m18.toInt = (m17).toInt + (z4_60).toInt := by rw [em_78]; exact pm_add _ _ (by omega) (by omega)
                refine Exists.intro _ (Exists.intro _ (And.intro (Or.inl (md_a_ends0 D)) (And.intro (by omega) ?_)))
                have w19 : (0 : Int) ≤ (f6 19 (m18).toInt.toNat).toInt ∧ (f6 19 (m18).toInt.toNat).toInt ≤ (159 : Int) := hf6 19 _
                intro m20 em_81
                try have e20 : m20.toInt = ((f6 19 (m18).toInt.toNat)).toInt + (1) := by rw [em_81]; exact pm_addc _ _ (1) rfl (by omega) (by omega)
                intro m21 em_84
                try have e21 : m21.toInt = (z5_60).toInt + (-1) := by rw [em_84]; exact pm_addc _ _ (-1) rfl (by omega) (by omega)
                exact ih10 m20 m21 (by omega) (by omega) (by omega)
          exact lp9 (x1.toInt).toNat.succ (0 : Int32) x1 (by omega) (by omega) (by omega)
        · skip
          have dc8 : (x2).toInt = ((-1 : Int32) : Int32).toInt := congrArg Int32.toInt c8
          refine Exists.intro _ (And.intro md_o ?_)
          intro m22 em_51
          try have e22 : m22.toInt = (161) * (x1).toInt := by rw [em_51]; exact pm_mulk _ _ (161) rfl (by omega) (by omega)
          refine Exists.intro _ (Exists.intro _ (And.intro (Or.inl (md_a_worth D)) (And.intro (by omega) ?_)))
          exact ⟨rfl, fun e9 => absurd e9 (by decide), rfl, (f6 18 (m22).toInt.toNat), v6, f6, rfl, rfl, hv6, hf6, hw6, hr6_0, hr6_1, by first | omega | (dsimp only; omega) | trivial⟩
      · skip
        have k0 : (0 : Int32).toInt = 0 := rfl
        refine And.intro (fun c9 => absurd c9 (by decide)) (fun _ => ?_)
        refine hC.1 1 29 _ _ rfl _ _ _ _ _ ?_
        exact ⟨rfl, fun e9 => absurd e9 (by decide), rfl, (-1 : Int32), v, f, rfl, rfl, hv, hf, rfl, rfl, rfl, by first | omega | (dsimp only; omega) | trivial⟩
  · skip
    have k0 : (0 : Int32).toInt = 0 := rfl
    refine And.intro (fun _ => ?_) (fun c9 => absurd c9 (by decide))
    refine hC.1 1 29 _ _ rfl _ _ _ _ _ ?_
    have km1 : (-1 : Int32).toInt = -1 := rfl
    exact ⟨rfl, fun e9 => absurd e9 (by decide), rfl, (-1 : Int32), v, f, rfl, rfl, hv, hf, rfl, rfl, rfl, by first | omega | (dsimp only; omega) | trivial⟩

set_option maxRecDepth 100000 in
set_option maxHeartbeats 2000000 in
theorem F_X11_asks (D : md_D h q) (v : Nat → Int32) (f : Nat → Nat → Int32) (hv : md_V v) (hf : md_F f) (x1 : Int32) (x2 : Int32) (x3 : Int32) (p0 : (v 6).toInt < 30) : pm_Mt l g 276 0 0 0 [.ref h, .int x1, .int x2, .int x3] (md A0 g h q v f) (md_Qw A0 g h q f (fun r v2 f2 => f2 0 = f 0 ∧ f2 1 = f 1 ∧ (v2 0).toInt = (v 0).toInt ∧ (v2 1).toInt = (v 1).toInt ∧ (v2 2).toInt = (v 2).toInt ∧ (v2 3).toInt = (v 3).toInt ∧ (v2 4).toInt = (v 4).toInt)) := by
  refine mt_X11_asks rfl (fun J hC => ?_)
  have hv9 := hv
  unfold md_V at hv9
  have rg_x1 := pm_rng x1
  have rg_x2 := pm_rng x2
  have rg_x3 := pm_rng x3
  refine hC.1 0 0 _ _ rfl _ _ _ _ _ ?_
  refine Exists.intro _ (And.intro md_o ?_)
  refine Exists.intro _ (And.intro md_o ?_)
  refine Exists.intro _ (Exists.intro _ (And.intro (md_a_askedOne D) (And.intro (by omega) ?_)))
  rw [md_s_askedOne D]
  obtain ⟨f1, ef1⟩ : ∃ z9, z9 = va_up f 7 (upd (f 7) ((v 6)).toInt.toNat x2) := ⟨_, rfl⟩
  rw [← ef1]
  have hf1 : md_F f1 := by rw [ef1]; exact md_F_st hf 7 _ _ (md_rng _ _ (by decide))
  have hw1 : f1 2 = f 2 := (show f1 2 = f 2 by rw [ef1]; rfl).trans rfl
  have hr1_0 : f1 0 = f 0 := (show f1 0 = f 0 by rw [ef1]; rfl).trans rfl
  have hr1_1 : f1 1 = f 1 := (show f1 1 = f 1 by rw [ef1]; rfl).trans rfl
  refine Exists.intro _ (And.intro md_o ?_)
  refine Exists.intro _ (And.intro md_o ?_)
  refine Exists.intro _ (Exists.intro _ (And.intro (md_a_askedOther D) (And.intro (by omega) ?_)))
  rw [md_s_askedOther D]
  obtain ⟨f2, ef2⟩ : ∃ z9, z9 = va_up f1 8 (upd (f1 8) ((v 6)).toInt.toNat x3) := ⟨_, rfl⟩
  rw [← ef2]
  have hf2 : md_F f2 := by rw [ef2]; exact md_F_st hf1 8 _ _ (md_rng _ _ (by decide))
  have hw2 : f2 2 = f 2 := (show f2 2 = f1 2 by rw [ef2]; rfl).trans hw1
  have hr2_0 : f2 0 = f 0 := (show f2 0 = f1 0 by rw [ef2]; rfl).trans hr1_0
  have hr2_1 : f2 1 = f 1 := (show f2 1 = f1 1 by rw [ef2]; rfl).trans hr1_1
  refine Exists.intro _ (And.intro md_o ?_)
  refine Exists.intro _ (And.intro md_o ?_)
  refine Exists.intro _ (Exists.intro _ (And.intro (md_a_askedEdit D) (And.intro (by omega) ?_)))
  rw [md_s_askedEdit D]
  obtain ⟨f3, ef3⟩ : ∃ z9, z9 = va_up f2 11 (upd (f2 11) ((v 6)).toInt.toNat x1) := ⟨_, rfl⟩
  rw [← ef3]
  have hf3 : md_F f3 := by rw [ef3]; exact md_F_st hf2 11 _ _ (md_rng _ _ (by decide))
  have hw3 : f3 2 = f 2 := (show f3 2 = f2 2 by rw [ef3]; rfl).trans hw2
  have hr3_0 : f3 0 = f 0 := (show f3 0 = f2 0 by rw [ef3]; rfl).trans hr2_0
  have hr3_1 : f3 1 = f 1 := (show f3 1 = f2 1 by rw [ef3]; rfl).trans hr2_1
  refine Exists.intro _ (And.intro md_o ?_)
  refine Exists.intro _ (And.intro md_o ?_)
  have km1 : (-1 : Int32).toInt = -1 := rfl
  refine Exists.intro _ (Exists.intro _ (And.intro (md_a_answerCount D) (And.intro (by omega) ?_)))
  rw [md_s_answerCount D]
  obtain ⟨f4, ef4⟩ : ∃ z9, z9 = va_up f3 9 (upd (f3 9) ((v 6)).toInt.toNat (-1 : Int32)) := ⟨_, rfl⟩
  rw [← ef4]
  have hf4 : md_F f4 := by rw [ef4]; exact md_F_st hf3 9 _ _ (md_rng _ _ (by decide))
  have hw4 : f4 2 = f 2 := (show f4 2 = f3 2 by rw [ef4]; rfl).trans hw3
  have hr4_0 : f4 0 = f 0 := (show f4 0 = f3 0 by rw [ef4]; rfl).trans hr3_0
  have hr4_1 : f4 1 = f 1 := (show f4 1 = f3 1 by rw [ef4]; rfl).trans hr3_1
  refine Exists.intro _ (And.intro md_o ?_)
  refine Exists.intro _ (And.intro md_o ?_)
  refine Exists.intro _ (Exists.intro _ (And.intro (md_a_answerWeight D) (And.intro (by omega) ?_)))
  rw [md_s_answerWeight D]
  obtain ⟨f5, ef5⟩ : ∃ z9, z9 = va_up f4 10 (upd (f4 10) ((v 6)).toInt.toNat (-1 : Int32)) := ⟨_, rfl⟩
  rw [← ef5]
  have hf5 : md_F f5 := by rw [ef5]; exact md_F_st hf4 10 _ _ (md_rng _ _ (by decide))
  have hw5 : f5 2 = f 2 := (show f5 2 = f4 2 by rw [ef5]; rfl).trans hw4
  have hr5_0 : f5 0 = f 0 := (show f5 0 = f4 0 by rw [ef5]; rfl).trans hr4_0
  have hr5_1 : f5 1 = f 1 := (show f5 1 = f4 1 by rw [ef5]; rfl).trans hr4_1
  refine Exists.intro _ (And.intro md_o ?_)
  have k1 : (1 : Int32).toInt = 1 := rfl
  intro m6 em_56
  try have e6 : m6.toInt = ((v 6)).toInt + (1) := by rw [em_56]; exact pm_addc _ _ (1) rfl (by omega) (by omega)
  refine Exists.intro _ (And.intro md_o (And.intro rfl ?_))
  rw [md_p_askedMany D]
  obtain ⟨v7, ev7⟩ : ∃ z9, z9 = upd v 6 m6 := ⟨_, rfl⟩
  rw [← ev7]
  have ev7_0 : (v7 0).toInt = (v 0).toInt := by rw [ev7]; rfl
  have ev7_1 : (v7 1).toInt = (v 1).toInt := by rw [ev7]; rfl
  have ev7_2 : (v7 2).toInt = (v 2).toInt := by rw [ev7]; rfl
  have ev7_3 : (v7 3).toInt = (v 3).toInt := by rw [ev7]; rfl
  have ev7_4 : (v7 4).toInt = (v 4).toInt := by rw [ev7]; rfl
  have ev7_5 : (v7 5).toInt = (v 5).toInt := by rw [ev7]; rfl
  have ev7_6 : (v7 6).toInt = (m6).toInt := by rw [ev7]; rfl
  have ev7_7 : (v7 7).toInt = (v 7).toInt := by rw [ev7]; rfl
  have pn_57 : v7 6 = m6 := by rw [ev7]; rfl
  refine Exists.intro _ (And.intro md_o ?_)
  intro m8 em_65
  try have e8 : m8.toInt = ((v7 6)).toInt - (1) := by rw [em_65]; exact pm_subc _ _ (1) rfl (by omega) (by omega)
  have hv9 : md_V v7 := by unfold md_V; omega
  exact ⟨rfl, fun e9 => absurd e9 (by decide), rfl, m8, v7, f5, rfl, rfl, hv9, hf5, hw5, hr5_0, hr5_1, by first | omega | (dsimp only; omega) | trivial⟩

set_option maxRecDepth 100000 in
set_option maxHeartbeats 2000000 in
theorem F_X11_ask (D : md_D h q) (v : Nat → Int32) (f : Nat → Nat → Int32) (hv : md_V v) (hf : md_F f) (x1 : Int32) (x2 : Int32)  : pm_Mt l g 275 2 0 0 [.ref h, .int x1, .int x2] (md A0 g h q v f) (md_Qw A0 g h q f (fun r v2 f2 => f2 0 = f 0 ∧ f2 1 = f 1 ∧ (v2 0).toInt = (v 0).toInt ∧ (v2 1).toInt = (v 1).toInt ∧ (v2 2).toInt = (v 2).toInt ∧ (v2 3).toInt = (v 3).toInt ∧ (v2 4).toInt = (v 4).toInt)) := by
  refine mt_X11_ask rfl (fun J hC => ?_)
  have hv9 := hv
  unfold md_V at hv9
  have rg_x1 := pm_rng x1
  have rg_x2 := pm_rng x2
  refine hC.1 0 0 _ _ rfl _ _ _ _ _ ?_
  refine Exists.intro _ (And.intro md_o ?_)
  have k30 : (30 : Int32).toInt = 30 := rfl
  refine And.intro (fun c1 => ?_) (fun c1 => ?_)
  · skip
    refine hC.1 1 35 _ _ rfl _ _ _ _ _ ?_
    have km1 : (-1 : Int32).toInt = -1 := rfl
    refine hC.1 2 36 _ _ rfl _ _ _ _ _ ?_
    exact ⟨rfl, fun e9 => absurd e9 (by decide), rfl, (-1 : Int32), v, f, rfl, rfl, hv, hf, rfl, rfl, rfl, by first | omega | (dsimp only; omega) | trivial⟩
  · skip
    refine And.intro (Exists.intro _ md_o) (Exists.intro _ (Exists.intro _ (Exists.intro _ (Exists.intro _ (And.intro (c_X11_place D v f hv hf x1 ) (And.intro rfl (fun r9 A9 h9 => ?_)))))))
    obtain ⟨y2, rfl, rfl, by2⟩ := h9
    refine And.intro (fun c3 => ?_) (fun c3 => ?_)
    · skip
      refine hC.1 1 35 _ _ rfl _ _ _ _ _ ?_
      have km1 : (-1 : Int32).toInt = -1 := rfl
      refine hC.1 2 36 _ _ rfl _ _ _ _ _ ?_
      exact ⟨rfl, fun e9 => absurd e9 (by decide), rfl, (-1 : Int32), v, f, rfl, rfl, hv, hf, rfl, rfl, rfl, by first | omega | (dsimp only; omega) | trivial⟩
    · skip
      refine And.intro (Exists.intro _ md_o) (Exists.intro _ (Exists.intro _ (Exists.intro _ (Exists.intro _ (And.intro (c_X11_place D v f hv hf x2 ) (And.intro rfl (fun r9 A9 h9 => ?_)))))))
      obtain ⟨y4, rfl, rfl, by4⟩ := h9
      refine And.intro (fun c5 => ?_) (fun c5 => ?_)
      · skip
        refine hC.1 1 35 _ _ rfl _ _ _ _ _ ?_
        have km1 : (-1 : Int32).toInt = -1 := rfl
        refine hC.1 2 36 _ _ rfl _ _ _ _ _ ?_
        exact ⟨rfl, fun e9 => absurd e9 (by decide), rfl, (-1 : Int32), v, f, rfl, rfl, hv, hf, rfl, rfl, rfl, by first | omega | (dsimp only; omega) | trivial⟩
      · skip
        have km1 : (-1 : Int32).toInt = -1 := rfl
        refine And.intro (Exists.intro _ md_o) (Exists.intro _ (Exists.intro _ (Exists.intro _ (Exists.intro _ (And.intro (F_X11_asks D v f hv hf (-1 : Int32) x1 x2 (by omega)) (And.intro rfl (fun r9 A9 h9 => ?_)))))))
        obtain ⟨y6, v7, f7, rfl, rfl, hv7, hf7, hx7, hg7_0, hg7_1, by6⟩ := h9
        have hw7 : f7 2 = f 2 := hx7.trans rfl
        have hr7_0 : f7 0 = f 0 := hg7_0.trans rfl
        have hr7_1 : f7 1 = f 1 := hg7_1.trans rfl
        have hu8_6 := hv7.2.2.2.2.2
        refine hC.1 2 36 _ _ rfl _ _ _ _ _ ?_
        exact ⟨rfl, fun e9 => absurd e9 (by decide), rfl, y6, v7, f7, rfl, rfl, hv7, hf7, hw7, hr7_0, hr7_1, by first | omega | (dsimp only; omega) | trivial⟩

end
end
section
section
variable {l : Launch} {g : pm_G} {A0 : pm_H} {h : Nat} {q : Nat → Nat}
set_option maxRecDepth 100000 in
set_option maxHeartbeats 2000000 in
theorem F_X11_askOf (D : md_D h q) (v : Nat → Int32) (f : Nat → Nat → Int32) (hv : md_V v) (hf : md_F f) (x1 : Int32) (x2 : Int32) (x3 : Int32)  : pm_Mt l g 277 2 0 0 [.ref h, .int x1, .int x2, .int x3] (md A0 g h q v f) (md_Qw A0 g h q f (fun r v2 f2 => f2 0 = f 0 ∧ f2 1 = f 1 ∧ (v2 0).toInt = (v 0).toInt ∧ (v2 1).toInt = (v 1).toInt ∧ (v2 2).toInt = (v 2).toInt ∧ (v2 3).toInt = (v 3).toInt ∧ (v2 4).toInt = (v 4).toInt)) := by
  refine mt_X11_askOf rfl (fun J hC => ?_)
  have hv9 := hv
  unfold md_V at hv9
  have rg_x1 := pm_rng x1
  have rg_x2 := pm_rng x2
  have rg_x3 := pm_rng x3
  refine hC.1 0 0 _ _ rfl _ _ _ _ _ ?_
  refine Exists.intro _ (And.intro md_o ?_)
  have k30 : (30 : Int32).toInt = 30 := rfl
  refine And.intro (fun c1 => ?_) (fun c1 => ?_)
  · skip
    have dc1 : ((v 6)).toInt = ((30 : Int32) : Int32).toInt := congrArg Int32.toInt c1
    refine hC.1 1 43 _ _ rfl _ _ _ _ _ ?_
    have km1 : (-1 : Int32).toInt = -1 := rfl
    exact ⟨rfl, fun e9 => absurd e9 (by decide), rfl, (-1 : Int32), v, f, rfl, rfl, hv, hf, rfl, rfl, rfl, by first | omega | (dsimp only; omega) | trivial⟩
  · skip
    have dc1 := pm_neI c1
    refine And.intro (Exists.intro _ md_o) (Exists.intro _ (Exists.intro _ (Exists.intro _ (Exists.intro _ (And.intro (c_X11_isKnown D v f hv hf x1 ) (And.intro rfl (fun r9 A9 h9 => ?_)))))))
    rcases h9 with ⟨y2, rfl, rfl, ⟨rfl, by2⟩ | ⟨rfl, by2⟩⟩
    · skip
      have k1 : (1 : Int32).toInt = 1 := rfl
      refine And.intro (fun c9 => absurd c9 (by decide)) (fun _ => ?_)
      refine And.intro (fun c3 => ?_) (fun c3 => ?_)
      · skip
        refine hC.1 1 43 _ _ rfl _ _ _ _ _ ?_
        have km1 : (-1 : Int32).toInt = -1 := rfl
        exact ⟨rfl, fun e9 => absurd e9 (by decide), rfl, (-1 : Int32), v, f, rfl, rfl, hv, hf, rfl, rfl, rfl, by first | omega | (dsimp only; omega) | trivial⟩
      · skip
        refine And.intro (fun c4 => ?_) (fun c4 => ?_)
        · skip
          refine hC.1 1 43 _ _ rfl _ _ _ _ _ ?_
          have km1 : (-1 : Int32).toInt = -1 := rfl
          exact ⟨rfl, fun e9 => absurd e9 (by decide), rfl, (-1 : Int32), v, f, rfl, rfl, hv, hf, rfl, rfl, rfl, by first | omega | (dsimp only; omega) | trivial⟩
        · skip
          refine And.intro (Exists.intro _ md_o) (Exists.intro _ (Exists.intro _ (Exists.intro _ (Exists.intro _ (And.intro (c_X11_wasPlace D v f hv hf x1 x2 (by omega)) (And.intro rfl (fun r9 A9 h9 => ?_)))))))
          obtain ⟨y5, rfl, rfl, by5⟩ := h9
          refine And.intro (fun c6 => ?_) (fun c6 => ?_)
          · skip
            refine hC.1 1 43 _ _ rfl _ _ _ _ _ ?_
            have km1 : (-1 : Int32).toInt = -1 := rfl
            exact ⟨rfl, fun e9 => absurd e9 (by decide), rfl, (-1 : Int32), v, f, rfl, rfl, hv, hf, rfl, rfl, rfl, by first | omega | (dsimp only; omega) | trivial⟩
          · skip
            refine And.intro (Exists.intro _ md_o) (Exists.intro _ (Exists.intro _ (Exists.intro _ (Exists.intro _ (And.intro (c_X11_wasPlace D v f hv hf x1 x3 (by omega)) (And.intro rfl (fun r9 A9 h9 => ?_)))))))
            obtain ⟨y7, rfl, rfl, by7⟩ := h9
            refine And.intro (fun c8 => ?_) (fun c8 => ?_)
            · skip
              refine hC.1 2 45 _ _ rfl _ _ _ _ _ ?_
              refine And.intro (Exists.intro _ md_o) (Exists.intro _ (Exists.intro _ (Exists.intro _ (Exists.intro _ (And.intro (F_X11_asks D v f hv hf x1 x2 x3 (by omega)) (And.intro rfl (fun r9 A9 h9 => ?_)))))))
              obtain ⟨y9, v10, f10, rfl, rfl, hv10, hf10, hx10, hg10_0, hg10_1, by9⟩ := h9
              have hw10 : f10 2 = f 2 := hx10.trans rfl
              have hr10_0 : f10 0 = f 0 := hg10_0.trans rfl
              have hr10_1 : f10 1 = f 1 := hg10_1.trans rfl
              have hu11_6 := hv10.2.2.2.2.2
              exact ⟨rfl, fun e9 => absurd e9 (by decide), rfl, y9, v10, f10, rfl, rfl, hv10, hf10, hw10, hr10_0, hr10_1, by first | omega | (dsimp only; omega) | trivial⟩
            · skip
              refine hC.1 1 43 _ _ rfl _ _ _ _ _ ?_
              have km1 : (-1 : Int32).toInt = -1 := rfl
              exact ⟨rfl, fun e9 => absurd e9 (by decide), rfl, (-1 : Int32), v, f, rfl, rfl, hv, hf, rfl, rfl, rfl, by first | omega | (dsimp only; omega) | trivial⟩
    · skip
      have k0 : (0 : Int32).toInt = 0 := rfl
      refine And.intro (fun _ => ?_) (fun c9 => absurd c9 (by decide))
      refine hC.1 1 43 _ _ rfl _ _ _ _ _ ?_
      have km1 : (-1 : Int32).toInt = -1 := rfl
      exact ⟨rfl, fun e9 => absurd e9 (by decide), rfl, (-1 : Int32), v, f, rfl, rfl, hv, hf, rfl, rfl, rfl, by first | omega | (dsimp only; omega) | trivial⟩

set_option maxRecDepth 100000 in
set_option maxHeartbeats 2000000 in
theorem F_X11_solve (D : md_D h q) (v : Nat → Int32) (f : Nat → Nat → Int32) (hv : md_V v) (hf : md_F f)  : pm_Mt l g 278 3 0 0 [.ref h] (md A0 g h q v f) (md_Qw A0 g h q f (fun r v2 f2 => f2 0 = f 0 ∧ f2 1 = f 1 ∧ (v2 0).toInt = (v 0).toInt ∧ (v2 1).toInt = (v 1).toInt ∧ (v2 2).toInt = (v 2).toInt ∧ (v2 3).toInt = (v 3).toInt ∧ (v2 4).toInt = (v 4).toInt ∧ (v2 6).toInt = (v 6).toInt)) := by
  refine mt_X11_solve rfl (fun J hC => ?_)
  have hv9 := hv
  unfold md_V at hv9
  refine hC.1 0 0 _ _ rfl _ _ _ _ _ ?_
  have k0 : (0 : Int32).toInt = 0 := rfl
  have lp2 : ∀ (n : Nat) (z1_4 : Int32) (z2_4 : Int32) (v1 : Nat → Int32) (f1 : Nat → Nat → Int32), md_V v1 → md_F f1 → f1 2 = f 2 → f1 0 = f 0 → f1 1 = f 1 → (0 ≤ z2_4.toInt ∧ z2_4.toInt ≤ (v 6).toInt) → (v1 0).toInt = (v 0).toInt → (v1 1).toInt = (v 1).toInt → (v1 2).toInt = (v 2).toInt → (v1 3).toInt = (v 3).toInt → (v1 4).toInt = (v 4).toInt → (v1 6).toInt = (v 6).toInt → 200 - z2_4.toInt < (n : Int) → J 4 [some (.ref h), some (.int z1_4), some (.int z2_4), none, none, none, none] [] (md A0 g h q v1 f1) 0 0 := by
    intro n
    induction n with
    | zero =>
      intro z1_4 z2_4 v1 f1 hv1 hf1 hw1 hr1_0 hr1_1 j0_4 j1_4 j2_4 j3_4 j4_4 j5_4 j6_4 j7_4
      omega
    | succ n ih3 =>
      intro z1_4 z2_4 v1 f1 hv1 hf1 hw1 hr1_0 hr1_1 j0_4 j1_4 j2_4 j3_4 j4_4 j5_4 j6_4 j7_4
      refine hC.1 1 4 _ _ rfl _ _ _ _ _ ?_
      refine Exists.intro _ (And.intro md_o ?_)
      refine And.intro (fun c5 => ?_) (fun c5 => ?_)
      · skip
        refine hC.1 13 169 _ _ rfl _ _ _ _ _ ?_
        exact ⟨rfl, fun e9 => absurd e9 (by decide), rfl, z1_4, v1, f1, rfl, rfl, hv1, hf1, hw1, hr1_0, hr1_1, by first | omega | (dsimp only; omega) | trivial⟩
      · skip
        refine Exists.intro _ (And.intro md_o ?_)
        refine Exists.intro _ (Exists.intro _ (And.intro (Or.inl (md_a_askedEdit D)) (And.intro (by omega) ?_)))
        refine Exists.intro _ (And.intro md_o ?_)
        refine Exists.intro _ (Exists.intro _ (And.intro (Or.inl (md_a_askedOne D)) (And.intro (by omega) ?_)))
        refine And.intro (Exists.intro _ md_o) (Exists.intro _ (Exists.intro _ (Exists.intro _ (Exists.intro _ (And.intro (c_X11_placeBy D v1 f1 hv1 hf1 (f1 11 (z2_4).toInt.toNat) (f1 7 (z2_4).toInt.toNat) ) (And.intro rfl (fun r9 A9 h9 => ?_)))))))
        obtain ⟨y6, rfl, rfl, by6⟩ := h9
        refine Exists.intro _ (And.intro md_o ?_)
        refine Exists.intro _ (Exists.intro _ (And.intro (Or.inl (md_a_askedEdit D)) (And.intro (by omega) ?_)))
        refine Exists.intro _ (And.intro md_o ?_)
        refine Exists.intro _ (Exists.intro _ (And.intro (Or.inl (md_a_askedOther D)) (And.intro (by omega) ?_)))
        refine And.intro (Exists.intro _ md_o) (Exists.intro _ (Exists.intro _ (Exists.intro _ (Exists.intro _ (And.intro (c_X11_placeBy D v1 f1 hv1 hf1 (f1 11 (z2_4).toInt.toNat) (f1 8 (z2_4).toInt.toNat) ) (And.intro rfl (fun r9 A9 h9 => ?_)))))))
        obtain ⟨y7, rfl, rfl, by7⟩ := h9
        refine And.intro (fun c8 => ?_) (fun c8 => ?_)
        · skip
          refine hC.1 2 60 _ _ rfl _ _ _ _ _ ?_
          refine hC.1 3 61 _ _ rfl _ _ _ _ _ ?_
          refine And.intro (fun c9 => absurd c9 (by decide)) (fun _ => ?_)
          refine hC.1 6 107 _ _ rfl _ _ _ _ _ ?_
          refine Exists.intro _ (And.intro md_o ?_)
          refine And.intro (fun _ => ?_) (fun c9 => absurd c9 (by decide))
          refine hC.1 7 127 _ _ rfl _ _ _ _ _ ?_
          have km1 : (-1 : Int32).toInt = -1 := rfl
          refine hC.1 8 128 _ _ rfl _ _ _ _ _ ?_
          refine Exists.intro _ (Exists.intro _ (And.intro (md_a_answerCount D) (And.intro (by omega) ?_)))
          rw [md_s_answerCount D]
          obtain ⟨f9, ef9⟩ : ∃ z9, z9 = va_up f1 9 (upd (f1 9) (z2_4).toInt.toNat (-1 : Int32)) := ⟨_, rfl⟩
          rw [← ef9]
          have hf9 : md_F f9 := by rw [ef9]; exact md_F_st hf1 9 _ _ (md_rng _ _ (by decide))
          have hw9 : f9 2 = f 2 := (show f9 2 = f1 2 by rw [ef9]; rfl).trans hw1
          have hr9_0 : f9 0 = f 0 := (show f9 0 = f1 0 by rw [ef9]; rfl).trans hr1_0
          have hr9_1 : f9 1 = f 1 := (show f9 1 = f1 1 by rw [ef9]; rfl).trans hr1_1
          refine Exists.intro _ (And.intro md_o ?_)
          refine And.intro (fun _ => ?_) (fun c9 => absurd c9 (by decide))
          refine hC.1 9 148 _ _ rfl _ _ _ _ _ ?_
          refine hC.1 10 149 _ _ rfl _ _ _ _ _ ?_
          refine Exists.intro _ (Exists.intro _ (And.intro (md_a_answerWeight D) (And.intro (by omega) ?_)))
          rw [md_s_answerWeight D]
          obtain ⟨f10, ef10⟩ : ∃ z9, z9 = va_up f9 10 (upd (f9 10) (z2_4).toInt.toNat (-1 : Int32)) := ⟨_, rfl⟩
          rw [← ef10]
          have hf10 : md_F f10 := by rw [ef10]; exact md_F_st hf9 10 _ _ (md_rng _ _ (by decide))
          have hw10 : f10 2 = f 2 := (show f10 2 = f9 2 by rw [ef10]; rfl).trans hw9
          have hr10_0 : f10 0 = f 0 := (show f10 0 = f9 0 by rw [ef10]; rfl).trans hr9_0
          have hr10_1 : f10 1 = f 1 := (show f10 1 = f9 1 by rw [ef10]; rfl).trans hr9_1
          refine And.intro (fun _ => ?_) (fun c9 => absurd c9 (by decide))
          refine hC.1 11 160 _ _ rfl _ _ _ _ _ ?_
          refine hC.1 12 161 _ _ rfl _ _ _ _ _ ?_
          intro m11 em_161
          try have e11 : m11.toInt = (z1_4).toInt + (0) := by rw [em_161]; exact pm_addc _ _ (0) rfl (by omega) (by omega)
          have k1 : (1 : Int32).toInt = 1 := rfl
          intro m12 em_163
          try have e12 : m12.toInt = (z2_4).toInt + (1) := by rw [em_163]; exact pm_addc _ _ (1) rfl (by omega) (by omega)
          exact hC.2 [false, false, false, true, true, true, true] _ _ _ _ _ _ (ih3 m11 m12 v1 f10 hv1 hf10 hw10 hr10_0 hr10_1 (by omega) (by omega) (by omega) (by omega) (by omega) (by omega) (by omega) (by omega))
        · skip
          refine And.intro (fun c13 => ?_) (fun c13 => ?_)
          · skip
            refine hC.1 2 60 _ _ rfl _ _ _ _ _ ?_
            refine hC.1 3 61 _ _ rfl _ _ _ _ _ ?_
            refine And.intro (fun c9 => absurd c9 (by decide)) (fun _ => ?_)
            refine hC.1 6 107 _ _ rfl _ _ _ _ _ ?_
            refine Exists.intro _ (And.intro md_o ?_)
            refine And.intro (fun _ => ?_) (fun c9 => absurd c9 (by decide))
            refine hC.1 7 127 _ _ rfl _ _ _ _ _ ?_
            have km1 : (-1 : Int32).toInt = -1 := rfl
            refine hC.1 8 128 _ _ rfl _ _ _ _ _ ?_
            refine Exists.intro _ (Exists.intro _ (And.intro (md_a_answerCount D) (And.intro (by omega) ?_)))
            rw [md_s_answerCount D]
            obtain ⟨f14, ef14⟩ : ∃ z9, z9 = va_up f1 9 (upd (f1 9) (z2_4).toInt.toNat (-1 : Int32)) := ⟨_, rfl⟩
            rw [← ef14]
            have hf14 : md_F f14 := by rw [ef14]; exact md_F_st hf1 9 _ _ (md_rng _ _ (by decide))
            have hw14 : f14 2 = f 2 := (show f14 2 = f1 2 by rw [ef14]; rfl).trans hw1
            have hr14_0 : f14 0 = f 0 := (show f14 0 = f1 0 by rw [ef14]; rfl).trans hr1_0
            have hr14_1 : f14 1 = f 1 := (show f14 1 = f1 1 by rw [ef14]; rfl).trans hr1_1
            refine Exists.intro _ (And.intro md_o ?_)
            refine And.intro (fun _ => ?_) (fun c9 => absurd c9 (by decide))
            refine hC.1 9 148 _ _ rfl _ _ _ _ _ ?_
            refine hC.1 10 149 _ _ rfl _ _ _ _ _ ?_
            refine Exists.intro _ (Exists.intro _ (And.intro (md_a_answerWeight D) (And.intro (by omega) ?_)))
            rw [md_s_answerWeight D]
            obtain ⟨f15, ef15⟩ : ∃ z9, z9 = va_up f14 10 (upd (f14 10) (z2_4).toInt.toNat (-1 : Int32)) := ⟨_, rfl⟩
            rw [← ef15]
            have hf15 : md_F f15 := by rw [ef15]; exact md_F_st hf14 10 _ _ (md_rng _ _ (by decide))
            have hw15 : f15 2 = f 2 := (show f15 2 = f14 2 by rw [ef15]; rfl).trans hw14
            have hr15_0 : f15 0 = f 0 := (show f15 0 = f14 0 by rw [ef15]; rfl).trans hr14_0
            have hr15_1 : f15 1 = f 1 := (show f15 1 = f14 1 by rw [ef15]; rfl).trans hr14_1
            refine And.intro (fun _ => ?_) (fun c9 => absurd c9 (by decide))
            refine hC.1 11 160 _ _ rfl _ _ _ _ _ ?_
            refine hC.1 12 161 _ _ rfl _ _ _ _ _ ?_
            intro m16 em_161
            try have e16 : m16.toInt = (z1_4).toInt + (0) := by rw [em_161]; exact pm_addc _ _ (0) rfl (by omega) (by omega)
            have k1 : (1 : Int32).toInt = 1 := rfl
            intro m17 em_163
            try have e17 : m17.toInt = (z2_4).toInt + (1) := by rw [em_163]; exact pm_addc _ _ (1) rfl (by omega) (by omega)
            exact hC.2 [false, false, false, true, true, true, true] _ _ _ _ _ _ (ih3 m16 m17 v1 f15 hv1 hf15 hw15 hr15_0 hr15_1 (by omega) (by omega) (by omega) (by omega) (by omega) (by omega) (by omega) (by omega))
          · skip
            have k1 : (1 : Int32).toInt = 1 := rfl
            refine hC.1 3 61 _ _ rfl _ _ _ _ _ ?_
            refine And.intro (fun _ => ?_) (fun c9 => absurd c9 (by decide))
            refine hC.1 4 72 _ _ rfl _ _ _ _ _ ?_
            refine And.intro (fun c18 => ?_) (fun c18 => ?_)
            · skip
              refine hC.1 5 94 _ _ rfl _ _ _ _ _ ?_
              refine Exists.intro _ (And.intro md_o ?_)
              refine Exists.intro _ (Exists.intro _ (And.intro (Or.inl (md_a_askedEdit D)) (And.intro (by omega) ?_)))
              refine And.intro (Exists.intro _ md_o) (Exists.intro _ (Exists.intro _ (Exists.intro _ (Exists.intro _ (And.intro (c_X11_setBy D v1 f1 hv1 hf1 (f1 11 (z2_4).toInt.toNat) y7 y6 (by omega) (by omega) (by omega)) (And.intro rfl (fun r9 A9 h9 => ?_)))))))
              obtain ⟨y19, rfl, rfl, by19⟩ := h9
              refine hC.1 6 107 _ _ rfl _ _ _ _ _ ?_
              refine Exists.intro _ (And.intro md_o ?_)
              refine And.intro (fun c9 => absurd c9 (by decide)) (fun _ => ?_)
              refine Exists.intro _ (Exists.intro _ (Exists.intro _ (Exists.intro _ (And.intro (c_X11_bits (md A0 g h q v1 f1) y19 ) (And.intro rfl (fun r9 A9 h9 => ?_))))))
              obtain ⟨y20, rfl, rfl, by20⟩ := h9
              refine hC.1 8 128 _ _ rfl _ _ _ _ _ ?_
              refine Exists.intro _ (Exists.intro _ (And.intro (md_a_answerCount D) (And.intro (by omega) ?_)))
              rw [md_s_answerCount D]
              obtain ⟨f21, ef21⟩ : ∃ z9, z9 = va_up f1 9 (upd (f1 9) (z2_4).toInt.toNat y20) := ⟨_, rfl⟩
              rw [← ef21]
              have hf21 : md_F f21 := by rw [ef21]; exact md_F_st hf1 9 _ _ (md_rng _ _ (by decide))
              have hw21 : f21 2 = f 2 := (show f21 2 = f1 2 by rw [ef21]; rfl).trans hw1
              have hr21_0 : f21 0 = f 0 := (show f21 0 = f1 0 by rw [ef21]; rfl).trans hr1_0
              have hr21_1 : f21 1 = f 1 := (show f21 1 = f1 1 by rw [ef21]; rfl).trans hr1_1
              refine Exists.intro _ (And.intro md_o ?_)
              refine And.intro (fun c9 => absurd c9 (by decide)) (fun _ => ?_)
              refine And.intro (Exists.intro _ md_o) (Exists.intro _ (Exists.intro _ (Exists.intro _ (Exists.intro _ (And.intro (c_X11_weightOf D v1 f21 hv1 hf21 y19 ) (And.intro rfl (fun r9 A9 h9 => ?_)))))))
              obtain ⟨y22, rfl, rfl, by22⟩ := h9
              refine hC.1 10 149 _ _ rfl _ _ _ _ _ ?_
              refine Exists.intro _ (Exists.intro _ (And.intro (md_a_answerWeight D) (And.intro (by omega) ?_)))
              rw [md_s_answerWeight D]
              obtain ⟨f23, ef23⟩ : ∃ z9, z9 = va_up f21 10 (upd (f21 10) (z2_4).toInt.toNat y22) := ⟨_, rfl⟩
              rw [← ef23]
              have hf23 : md_F f23 := by rw [ef23]; exact md_F_st hf21 10 _ _ (md_rng _ _ (by decide))
              have hw23 : f23 2 = f 2 := (show f23 2 = f21 2 by rw [ef23]; rfl).trans hw21
              have hr23_0 : f23 0 = f 0 := (show f23 0 = f21 0 by rw [ef23]; rfl).trans hr21_0
              have hr23_1 : f23 1 = f 1 := (show f23 1 = f21 1 by rw [ef23]; rfl).trans hr21_1
              refine And.intro (fun c9 => absurd c9 (by decide)) (fun _ => ?_)
              refine hC.1 12 161 _ _ rfl _ _ _ _ _ ?_
              intro m24 em_161
              try have e24 : m24.toInt = (z1_4).toInt + (1) := by rw [em_161]; exact pm_addc _ _ (1) rfl (by omega) (by omega)
              intro m25 em_163
              try have e25 : m25.toInt = (z2_4).toInt + (1) := by rw [em_163]; exact pm_addc _ _ (1) rfl (by omega) (by omega)
              exact hC.2 [false, false, false, true, true, true, true] _ _ _ _ _ _ (ih3 m24 m25 v1 f23 hv1 hf23 hw23 hr23_0 hr23_1 (by omega) (by omega) (by omega) (by omega) (by omega) (by omega) (by omega) (by omega))
            · skip
              refine Exists.intro _ (And.intro md_o ?_)
              refine Exists.intro _ (Exists.intro _ (And.intro (Or.inl (md_a_askedEdit D)) (And.intro (by omega) ?_)))
              refine And.intro (Exists.intro _ md_o) (Exists.intro _ (Exists.intro _ (Exists.intro _ (Exists.intro _ (And.intro (c_X11_setBy D v1 f1 hv1 hf1 (f1 11 (z2_4).toInt.toNat) y6 y7 (by omega) (by omega) (by omega)) (And.intro rfl (fun r9 A9 h9 => ?_)))))))
              obtain ⟨y26, rfl, rfl, by26⟩ := h9
              refine hC.1 6 107 _ _ rfl _ _ _ _ _ ?_
              refine Exists.intro _ (And.intro md_o ?_)
              refine And.intro (fun c9 => absurd c9 (by decide)) (fun _ => ?_)
              refine Exists.intro _ (Exists.intro _ (Exists.intro _ (Exists.intro _ (And.intro (c_X11_bits (md A0 g h q v1 f1) y26 ) (And.intro rfl (fun r9 A9 h9 => ?_))))))
              obtain ⟨y27, rfl, rfl, by27⟩ := h9
              refine hC.1 8 128 _ _ rfl _ _ _ _ _ ?_
              refine Exists.intro _ (Exists.intro _ (And.intro (md_a_answerCount D) (And.intro (by omega) ?_)))
              rw [md_s_answerCount D]
              obtain ⟨f28, ef28⟩ : ∃ z9, z9 = va_up f1 9 (upd (f1 9) (z2_4).toInt.toNat y27) := ⟨_, rfl⟩
              rw [← ef28]
              have hf28 : md_F f28 := by rw [ef28]; exact md_F_st hf1 9 _ _ (md_rng _ _ (by decide))
              have hw28 : f28 2 = f 2 := (show f28 2 = f1 2 by rw [ef28]; rfl).trans hw1
              have hr28_0 : f28 0 = f 0 := (show f28 0 = f1 0 by rw [ef28]; rfl).trans hr1_0
              have hr28_1 : f28 1 = f 1 := (show f28 1 = f1 1 by rw [ef28]; rfl).trans hr1_1
              refine Exists.intro _ (And.intro md_o ?_)
              refine And.intro (fun c9 => absurd c9 (by decide)) (fun _ => ?_)
              refine And.intro (Exists.intro _ md_o) (Exists.intro _ (Exists.intro _ (Exists.intro _ (Exists.intro _ (And.intro (c_X11_weightOf D v1 f28 hv1 hf28 y26 ) (And.intro rfl (fun r9 A9 h9 => ?_)))))))
              obtain ⟨y29, rfl, rfl, by29⟩ := h9
              refine hC.1 10 149 _ _ rfl _ _ _ _ _ ?_
              refine Exists.intro _ (Exists.intro _ (And.intro (md_a_answerWeight D) (And.intro (by omega) ?_)))
              rw [md_s_answerWeight D]
              obtain ⟨f30, ef30⟩ : ∃ z9, z9 = va_up f28 10 (upd (f28 10) (z2_4).toInt.toNat y29) := ⟨_, rfl⟩
              rw [← ef30]
              have hf30 : md_F f30 := by rw [ef30]; exact md_F_st hf28 10 _ _ (md_rng _ _ (by decide))
              have hw30 : f30 2 = f 2 := (show f30 2 = f28 2 by rw [ef30]; rfl).trans hw28
              have hr30_0 : f30 0 = f 0 := (show f30 0 = f28 0 by rw [ef30]; rfl).trans hr28_0
              have hr30_1 : f30 1 = f 1 := (show f30 1 = f28 1 by rw [ef30]; rfl).trans hr28_1
              refine And.intro (fun c9 => absurd c9 (by decide)) (fun _ => ?_)
              refine hC.1 12 161 _ _ rfl _ _ _ _ _ ?_
              intro m31 em_161
              try have e31 : m31.toInt = (z1_4).toInt + (1) := by rw [em_161]; exact pm_addc _ _ (1) rfl (by omega) (by omega)
              intro m32 em_163
              try have e32 : m32.toInt = (z2_4).toInt + (1) := by rw [em_163]; exact pm_addc _ _ (1) rfl (by omega) (by omega)
              exact hC.2 [false, false, false, true, true, true, true] _ _ _ _ _ _ (ih3 m31 m32 v1 f30 hv1 hf30 hw30 hr30_0 hr30_1 (by omega) (by omega) (by omega) (by omega) (by omega) (by omega) (by omega) (by omega))
  exact lp2 (200 - (0 : Int32).toInt).toNat.succ (0 : Int32) (0 : Int32) v f hv hf rfl rfl rfl (by omega) (by omega) (by omega) (by omega) (by omega) (by omega) (by omega) (by omega)

set_option maxRecDepth 100000 in
set_option maxHeartbeats 2000000 in
theorem F_X11_forget (D : md_D h q) (v : Nat → Int32) (f : Nat → Nat → Int32) (hv : md_V v) (hf : md_F f)  : pm_Mt l g 282 0 0 0 [.ref h] (md A0 g h q v f) (md_Qw A0 g h q f (fun r v2 f2 => f2 0 = f 0 ∧ f2 1 = f 1 ∧ (v2 0).toInt = (v 0).toInt ∧ (v2 1).toInt = (v 1).toInt ∧ (v2 2).toInt = (v 2).toInt ∧ (v2 3).toInt = (v 3).toInt ∧ (v2 4).toInt = (v 4).toInt)) := by
  refine mt_X11_forget rfl (fun J hC => ?_)
  have hv9 := hv
  unfold md_V at hv9
  refine hC.1 0 0 _ _ rfl _ _ _ _ _ ?_
  refine Exists.intro _ (And.intro md_o ?_)
  have k0 : (0 : Int32).toInt = 0 := rfl
  refine Exists.intro _ (And.intro md_o (And.intro rfl ?_))
  rw [md_p_askedMany D]
  obtain ⟨v1, ev1⟩ : ∃ z9, z9 = upd v 6 (0 : Int32) := ⟨_, rfl⟩
  rw [← ev1]
  have ev1_0 : (v1 0).toInt = (v 0).toInt := by rw [ev1]; rfl
  have ev1_1 : (v1 1).toInt = (v 1).toInt := by rw [ev1]; rfl
  have ev1_2 : (v1 2).toInt = (v 2).toInt := by rw [ev1]; rfl
  have ev1_3 : (v1 3).toInt = (v 3).toInt := by rw [ev1]; rfl
  have ev1_4 : (v1 4).toInt = (v 4).toInt := by rw [ev1]; rfl
  have ev1_5 : (v1 5).toInt = (v 5).toInt := by rw [ev1]; rfl
  have ev1_6 : (v1 6).toInt = ((0 : Int32)).toInt := by rw [ev1]; rfl
  have ev1_7 : (v1 7).toInt = (v 7).toInt := by rw [ev1]; rfl
  have pn_7 : v1 6 = (0 : Int32) := by rw [ev1]; rfl
  have hv2 : md_V v1 := by unfold md_V; omega
  exact ⟨rfl, fun e9 => absurd e9 (by decide), rfl, (v 6), v1, f, rfl, rfl, hv2, hf, rfl, rfl, rfl, by first | omega | (dsimp only; omega) | trivial⟩

set_option maxRecDepth 100000 in
set_option maxHeartbeats 2000000 in
theorem F_X11_nth (D : md_D h q) (v : Nat → Int32) (f : Nat → Nat → Int32) (hv : md_V v) (hf : md_F f) (x1 : Int32) (x2 : Int32)  : pm_Mt l g 204 0 0 0 [.ref h, .int x1, .int x2] (md A0 g h q v f) (md_Qp (md A0 g h q v f) (fun r => NTH (f 0) (v 0).toInt x1 x2.toInt r.toInt)) := by
  refine mt_X11_nth rfl (fun J hC => ?_)
  have hv9 := hv
  unfold md_V at hv9
  have rg_x1 := pm_rng x1
  have rg_x2 := pm_rng x2
  refine hC.1 0 0 _ _ rfl _ _ _ _ _ ?_
  have k0 : (0 : Int32).toInt = 0 := rfl
  have lp1 : ∀ (n : Nat) (z3_5 : Int32) (z4_5 : Int32), (0 ≤ z4_5.toInt ∧ z4_5.toInt ≤ (v 0).toInt) → ((0 ≤ x2.toInt → 0 ≤ z3_5.toInt) ∧ z3_5.toInt = x2.toInt - (cn (f 0) x1 z4_5.toInt.toNat : Int)) → (∀ i9 : Nat, (i9 : Int) < z4_5.toInt → ¬ (f 0 i9 = x1 ∧ (cn (f 0) x1 i9 : Int) = x2.toInt)) → 200 - z4_5.toInt < (n : Int) → J 5 [some (.ref h), some (.int x1), some (.int x2), some (.int z3_5), some (.int z4_5)] [] (md A0 g h q v f) 0 0 := by
    intro n
    induction n with
    | zero =>
      intro z3_5 z4_5 j0_5 j1_5 j2_5 j3_5
      omega
    | succ n ih2 =>
      intro z3_5 z4_5 j0_5 j1_5 j2_5 j3_5
      have cl9 := cn_le (f 0) x1 z4_5.toInt.toNat
      refine hC.1 1 5 _ _ rfl _ _ _ _ _ ?_
      refine Exists.intro _ (And.intro md_o ?_)
      refine And.intro (fun c3 => ?_) (fun c3 => ?_)
      · skip
        refine hC.1 5 48 _ _ rfl _ _ _ _ _ ?_
        have km1 : (-1 : Int32).toInt = -1 := rfl
        exact ⟨rfl, fun e9 => absurd e9 (by decide), rfl, (-1 : Int32), rfl, rfl, by first | (exact Or.inr ⟨by omega, by omega, by assumption, by omega⟩) | (exact Or.inl ⟨rfl, fun i9 h9 => j2_5 i9 (by omega)⟩) | (exact Or.inl ⟨rfl, fun i9 h9 h8 => (by omega)⟩)⟩
      · skip
        refine And.intro (fun c4 => ?_) (fun c4 => ?_)
        · skip
          refine hC.1 5 48 _ _ rfl _ _ _ _ _ ?_
          have km1 : (-1 : Int32).toInt = -1 := rfl
          exact ⟨rfl, fun e9 => absurd e9 (by decide), rfl, (-1 : Int32), rfl, rfl, by first | (exact Or.inr ⟨by omega, by omega, by assumption, by omega⟩) | (exact Or.inl ⟨rfl, fun i9 h9 => j2_5 i9 (by omega)⟩) | (exact Or.inl ⟨rfl, fun i9 h9 h8 => (by omega)⟩)⟩
        · skip
          refine Exists.intro _ (And.intro md_o ?_)
          refine Exists.intro _ (Exists.intro _ (And.intro (Or.inl (md_a_colours D)) (And.intro (by omega) ?_)))
          have w5 : (0 : Int) ≤ (f 0 (z4_5).toInt.toNat).toInt ∧ (f 0 (z4_5).toInt.toNat).toInt ≤ (23 : Int) := hf 0 _
          refine And.intro (fun c6 => ?_) (fun c6 => ?_)
          · skip
            have dc6 : ((f 0 (z4_5).toInt.toNat)).toInt = (x1 : Int32).toInt := congrArg Int32.toInt c6
            refine hC.1 2 32 _ _ rfl _ _ _ _ _ ?_
            refine And.intro (fun c7 => ?_) (fun c7 => ?_)
            · skip
              have dc7 := pm_neI c7
              refine hC.1 3 39 _ _ rfl _ _ _ _ _ ?_
              have km1 : (-1 : Int32).toInt = -1 := rfl
              intro m8 em_39
              try have e8 : m8.toInt = (z3_5).toInt + (-1) := by rw [em_39]; exact pm_addc _ _ (-1) rfl (by omega) (by omega)
              refine hC.1 4 42 _ _ rfl _ _ _ _ _ ?_
              have k1 : (1 : Int32).toInt = 1 := rfl
              intro m9 em_42
              try have e9 : m9.toInt = (z4_5).toInt + (1) := by rw [em_42]; exact pm_addc _ _ (1) rfl (by omega) (by omega)
              exact ih2 m8 m9 (by omega) (by first | (rw [show m9.toInt.toNat = z4_5.toInt.toNat + 1 by omega, cn_n (by assumption)]; omega) | (rw [show m9.toInt.toNat = z4_5.toInt.toNat + 1 by omega, cn_y (by assumption)]; omega)) (by intro i9 h9; by_cases h8 : i9 = z4_5.toInt.toNat; (subst h8; intro h7; first | exact absurd h7.1 (by assumption) | omega); (exact j2_5 i9 (by omega))) (by omega)
            · skip
              have dc7 : (z3_5).toInt = (0 : Int32).toInt := congrArg Int32.toInt c7
              exact ⟨rfl, fun e9 => absurd e9 (by decide), rfl, z4_5, rfl, rfl, by first | (exact Or.inr ⟨by omega, by omega, by assumption, by omega⟩) | (exact Or.inl ⟨rfl, fun i9 h9 => j2_5 i9 (by omega)⟩) | (exact Or.inl ⟨rfl, fun i9 h9 h8 => (by omega)⟩)⟩
          · skip
            have dc6 := pm_neI c6
            refine hC.1 4 42 _ _ rfl _ _ _ _ _ ?_
            have k1 : (1 : Int32).toInt = 1 := rfl
            intro m10 em_42
            try have e10 : m10.toInt = (z4_5).toInt + (1) := by rw [em_42]; exact pm_addc _ _ (1) rfl (by omega) (by omega)
            exact ih2 z3_5 m10 (by omega) (by first | (rw [show m10.toInt.toNat = z4_5.toInt.toNat + 1 by omega, cn_n (by assumption)]; omega) | (rw [show m10.toInt.toNat = z4_5.toInt.toNat + 1 by omega, cn_y (by assumption)]; omega)) (by intro i9 h9; by_cases h8 : i9 = z4_5.toInt.toNat; (subst h8; intro h7; first | exact absurd h7.1 (by assumption) | omega); (exact j2_5 i9 (by omega))) (by omega)
  exact lp1 (200 - (0 : Int32).toInt).toNat.succ x2 (0 : Int32) (by omega) (by exact ⟨fun h => h, by show x2.toInt = x2.toInt - ((0 : Nat) : Int); omega⟩) (by intro i9 h9; omega) (by omega)

set_option maxRecDepth 100000 in
set_option maxHeartbeats 2000000 in
theorem F_X11_placeOf (D : md_D h q) (v : Nat → Int32) (f : Nat → Nat → Int32) (hv : md_V v) (hf : md_F f) (x1 : Int32)  : pm_Mt l g 198 0 0 0 [.ref h, .int x1] (md A0 g h q v f) (md_Qp (md A0 g h q v f) (fun r => (-1 ≤ r.toInt ∧ r.toInt < (v 0).toInt) ∧ FST (f 1) (v 0).toInt x1 r.toInt)) := by
  refine mt_X11_placeOf rfl (fun J hC => ?_)
  have hv9 := hv
  unfold md_V at hv9
  have rg_x1 := pm_rng x1
  refine hC.1 0 0 _ _ rfl _ _ _ _ _ ?_
  have k0 : (0 : Int32).toInt = 0 := rfl
  have lp1 : ∀ (n : Nat) (z2_2 : Int32), (0 ≤ z2_2.toInt ∧ z2_2.toInt ≤ (v 0).toInt) → (∀ i9 : Nat, (i9 : Int) < z2_2.toInt → ¬ f 1 i9 = x1) → 200 - z2_2.toInt < (n : Int) → J 2 [some (.ref h), some (.int x1), some (.int z2_2)] [] (md A0 g h q v f) 0 0 := by
    intro n
    induction n with
    | zero =>
      intro z2_2 j0_2 j1_2 j2_2
      omega
    | succ n ih2 =>
      intro z2_2 j0_2 j1_2 j2_2
      refine hC.1 1 2 _ _ rfl _ _ _ _ _ ?_
      refine Exists.intro _ (And.intro md_o ?_)
      refine And.intro (fun c3 => ?_) (fun c3 => ?_)
      · skip
        refine hC.1 3 28 _ _ rfl _ _ _ _ _ ?_
        have km1 : (-1 : Int32).toInt = -1 := rfl
        exact ⟨rfl, fun e9 => absurd e9 (by decide), rfl, (-1 : Int32), rfl, rfl, by first | (exact ⟨by omega, Or.inr ⟨by omega, by omega, by assumption, fun i9 h9 => j1_2 i9 (by omega)⟩⟩) | (exact ⟨by omega, Or.inl ⟨rfl, fun i9 h9 => j1_2 i9 (by omega)⟩⟩)⟩
      · skip
        refine Exists.intro _ (And.intro md_o ?_)
        refine Exists.intro _ (Exists.intro _ (And.intro (Or.inl (md_a_names D)) (And.intro (by omega) ?_)))
        refine And.intro (fun c4 => ?_) (fun c4 => ?_)
        · skip
          have dc4 := pm_neI c4
          refine hC.1 2 22 _ _ rfl _ _ _ _ _ ?_
          have k1 : (1 : Int32).toInt = 1 := rfl
          intro m5 em_22
          try have e5 : m5.toInt = (z2_2).toInt + (1) := by rw [em_22]; exact pm_addc _ _ (1) rfl (by omega) (by omega)
          exact ih2 m5 (by omega) (by intro i9 h9; by_cases h8 : i9 = z2_2.toInt.toNat; (subst h8; assumption); (exact j1_2 i9 (by omega))) (by omega)
        · skip
          have dc4 : ((f 1 (z2_2).toInt.toNat)).toInt = (x1 : Int32).toInt := congrArg Int32.toInt c4
          exact ⟨rfl, fun e9 => absurd e9 (by decide), rfl, z2_2, rfl, rfl, by first | (exact ⟨by omega, Or.inr ⟨by omega, by omega, by assumption, fun i9 h9 => j1_2 i9 (by omega)⟩⟩) | (exact ⟨by omega, Or.inl ⟨rfl, fun i9 h9 => j1_2 i9 (by omega)⟩⟩)⟩
  exact lp1 (200 - (0 : Int32).toInt).toNat.succ (0 : Int32) (by omega) (by intro i9 h9; omega) (by omega)

end
end
