section
variable {l : Launch} {g : pm_G} {A0 : pm_H} {h : Nat} {q : Nat → Nat}
set_option maxRecDepth 100000 in
set_option maxHeartbeats 2000000 in
theorem F_X11_ends (D : md_D h q) (v : Nat → Int32) (f : Nat → Nat → Int32) (hv : md_V v) (hf : md_F f) (p0 : (v 4).toInt < 100000) : pm_Mt l g 176 3 0 0 [.ref h] (md A0 g h q v f) (md_Qw A0 g h q f (fun r v2 f2 => ((v2 1).toInt = (v 1).toInt ∧ (v2 2).toInt = (v 2).toInt ∧ (v2 3).toInt = (v 3).toInt ∧ (v2 6).toInt = (v 6).toInt ∧ (v2 4).toInt = (v 4).toInt + 1 ∧ (v2 0).toInt = (v 2).toInt) ∧ (∀ N, rp (v 2) (f 5) (f 6) (N) → rp (v2 0) (f2 0) (f2 1) N))) := by
  refine mt_X11_ends rfl (fun J hC => ?_)
  have hv9 := hv
  unfold md_V at hv9
  refine hC.1 0 0 _ _ rfl _ _ _ _ _ ?_
  refine Exists.intro _ (And.intro md_o ?_)
  refine Exists.intro _ (And.intro md_o (And.intro rfl ?_))
  rw [md_p_many D]
  obtain ⟨v1, ev1⟩ : ∃ z9, z9 = upd v 0 (v 2) := ⟨_, rfl⟩
  rw [← ev1]
  have ev1_0 : (v1 0).toInt = ((v 2)).toInt := by rw [ev1]; rfl
  have ev1_1 : (v1 1).toInt = (v 1).toInt := by rw [ev1]; rfl
  have ev1_2 : (v1 2).toInt = (v 2).toInt := by rw [ev1]; rfl
  have ev1_3 : (v1 3).toInt = (v 3).toInt := by rw [ev1]; rfl
  have ev1_4 : (v1 4).toInt = (v 4).toInt := by rw [ev1]; rfl
  have ev1_5 : (v1 5).toInt = (v 5).toInt := by rw [ev1]; rfl
  have ev1_6 : (v1 6).toInt = (v 6).toInt := by rw [ev1]; rfl
  have ev1_7 : (v1 7).toInt = (v 7).toInt := by rw [ev1]; rfl
  have pn_5 : v1 0 = (v 2) := by rw [ev1]; rfl
  have k0 : (0 : Int32).toInt = 0 := rfl
  have lp3 : ∀ (n : Nat) (z1_10 : Int32) (v2 : Nat → Int32) (f2 : Nat → Nat → Int32), md_V v2 → md_F f2 → f2 2 = f 2 → f2 5 = f 5 → f2 6 = f 6 → (0 ≤ z1_10.toInt ∧ z1_10.toInt ≤ (v 2).toInt) → ((v2 0).toInt = (v 2).toInt ∧ (v2 4).toInt = (v 4).toInt) → (∀ j : Nat, (j : Int) < z1_10.toInt → f2 0 j = f 5 j ∧ f2 1 j = f 6 j) → (v2 1).toInt = (v 1).toInt → (v2 2).toInt = (v 2).toInt → (v2 3).toInt = (v 3).toInt → (v2 6).toInt = (v 6).toInt → 200 - z1_10.toInt < (n : Int) → J 10 [some (.ref h), some (.int z1_10), none] [] (md A0 g h q v2 f2) 0 0 := by
    intro n
    induction n with
    | zero =>
      intro z1_10 v2 f2 hv2 hf2 hw2 hr2_5 hr2_6 j0_10 j1_10 j2_10 j3_10 j4_10 j5_10 j6_10 j7_10
      omega
    | succ n ih4 =>
      intro z1_10 v2 f2 hv2 hf2 hw2 hr2_5 hr2_6 j0_10 j1_10 j2_10 j3_10 j4_10 j5_10 j6_10 j7_10
      have lr5 := hr2_5
      have lr6 := hr2_6
      refine hC.1 1 10 _ _ rfl _ _ _ _ _ ?_
      have hu5 := hv2
      unfold md_V at hu5
      refine Exists.intro _ (And.intro md_o ?_)
      refine And.intro (fun c6 => ?_) (fun c6 => ?_)
      · skip
        refine hC.1 2 48 _ _ rfl _ _ _ _ _ ?_
        have lp7 : ∀ (n : Nat) (z1_52 : Int32) (z2_52 : Int32), (0 ≤ z2_52.toInt ∧ z2_52.toInt ≤ (v 2).toInt) → 200 - z2_52.toInt < (n : Int) → J 52 [some (.ref h), some (.int z1_52), some (.int z2_52)] [] (md A0 g h q v2 f2) 0 0 := by
          intro n
          induction n with
          | zero =>
            intro z1_52 z2_52 j0_52 j1_52
            omega
          | succ n ih8 =>
            intro z1_52 z2_52 j0_52 j1_52
            refine hC.1 3 52 _ _ rfl _ _ _ _ _ ?_
            refine Exists.intro _ (And.intro md_o ?_)
            refine And.intro (fun c9 => ?_) (fun c9 => ?_)
            · skip
              refine hC.1 6 82 _ _ rfl _ _ _ _ _ ?_
              refine Exists.intro _ (And.intro md_o ?_)
              have k1 : (1 : Int32).toInt = 1 := rfl
              intro m10 em_88
              try have e10 : m10.toInt = ((v2 4)).toInt + (1) := by rw [em_88]; exact pm_addc _ _ (1) rfl (by omega) (by omega)
              refine Exists.intro _ (And.intro md_o (And.intro rfl ?_))
              rw [md_p_edits D]
              obtain ⟨v11, ev11⟩ : ∃ z9, z9 = upd v2 4 m10 := ⟨_, rfl⟩
              rw [← ev11]
              have ev11_0 : (v11 0).toInt = (v2 0).toInt := by rw [ev11]; rfl
              have ev11_1 : (v11 1).toInt = (v2 1).toInt := by rw [ev11]; rfl
              have ev11_2 : (v11 2).toInt = (v2 2).toInt := by rw [ev11]; rfl
              have ev11_3 : (v11 3).toInt = (v2 3).toInt := by rw [ev11]; rfl
              have ev11_4 : (v11 4).toInt = (m10).toInt := by rw [ev11]; rfl
              have ev11_5 : (v11 5).toInt = (v2 5).toInt := by rw [ev11]; rfl
              have ev11_6 : (v11 6).toInt = (v2 6).toInt := by rw [ev11]; rfl
              have ev11_7 : (v11 7).toInt = (v2 7).toInt := by rw [ev11]; rfl
              have pn_89 : v11 4 = m10 := by rw [ev11]; rfl
              refine Exists.intro _ (And.intro md_o ?_)
              intro m12 em_98
              refine Exists.intro _ (And.intro md_o (And.intro rfl ?_))
              rw [md_p_touchedAll D]
              obtain ⟨v13, ev13⟩ : ∃ z9, z9 = upd v11 5 m12 := ⟨_, rfl⟩
              rw [← ev13]
              have ev13_0 : (v13 0).toInt = (v11 0).toInt := by rw [ev13]; rfl
              have ev13_1 : (v13 1).toInt = (v11 1).toInt := by rw [ev13]; rfl
              have ev13_2 : (v13 2).toInt = (v11 2).toInt := by rw [ev13]; rfl
              have ev13_3 : (v13 3).toInt = (v11 3).toInt := by rw [ev13]; rfl
              have ev13_4 : (v13 4).toInt = (v11 4).toInt := by rw [ev13]; rfl
              have ev13_5 : (v13 5).toInt = (m12).toInt := by rw [ev13]; rfl
              have ev13_6 : (v13 6).toInt = (v11 6).toInt := by rw [ev13]; rfl
              have ev13_7 : (v13 7).toInt = (v11 7).toInt := by rw [ev13]; rfl
              have pn_99 : v13 5 = m12 := by rw [ev13]; rfl
              have hv14 : md_V v13 := by unfold md_V; omega
              refine And.intro (Exists.intro _ md_o) (Exists.intro _ (Exists.intro _ (Exists.intro _ (Exists.intro _ (And.intro (F_X11_keepsRow D v13 f2 hv14 hf2 z1_52 ) (And.intro rfl (fun r9 A9 h9 => ?_)))))))
              obtain ⟨v16, f16, rfl, rfl, hv16, hf16, hx16, hg16_0, hg16_1, by15⟩ := h9
              have hw16 : f16 2 = f 2 := hx16.trans hw2
              have pr_104_0 := hg16_0
              have pr_104_1 := hg16_1
              have hu17 := hv16
              unfold md_V at hu17
              exact ⟨rfl, fun e9 => absurd e9 (by decide), rfl, z1_52, v16, f16, rfl, rfl, hv16, hf16, hw16, by first | omega | (dsimp only; omega) | trivial, by intro N hN; refine rp_cp hN (by omega) (fun j hj => ?_); rw [pr_104_0, pr_104_1]; exact j2_10 j (by omega)⟩
            · skip
              refine And.intro (Exists.intro _ md_o) (Exists.intro _ (Exists.intro _ (Exists.intro _ (Exists.intro _ (And.intro (c_X11_isTouched D v2 f2 hv2 hf2 z2_52 (by omega)) (And.intro rfl (fun r9 A9 h9 => ?_)))))))
              rcases h9 with ⟨y18, rfl, rfl, ⟨rfl, by18⟩ | ⟨rfl, by18⟩⟩
              · skip
                have k1 : (1 : Int32).toInt = 1 := rfl
                refine And.intro (fun c9 => absurd c9 (by decide)) (fun _ => ?_)
                refine hC.1 5 74 _ _ rfl _ _ _ _ _ ?_
                intro m19 em_74
                intro m20 em_76
                try have e20 : m20.toInt = (z2_52).toInt + (1) := by rw [em_76]; exact pm_addc _ _ (1) rfl (by omega) (by omega)
                exact ih8 m19 m20 (by omega) (by omega)
              · skip
                refine And.intro (fun _ => ?_) (fun c9 => absurd c9 (by decide))
                refine hC.1 4 73 _ _ rfl _ _ _ _ _ ?_
                refine hC.1 5 74 _ _ rfl _ _ _ _ _ ?_
                intro m21 em_74
                have k1 : (1 : Int32).toInt = 1 := rfl
                intro m22 em_76
                try have e22 : m22.toInt = (z2_52).toInt + (1) := by rw [em_76]; exact pm_addc _ _ (1) rfl (by omega) (by omega)
                exact ih8 m21 m22 (by omega) (by omega)
        exact lp7 (200 - (0 : Int32).toInt).toNat.succ (0 : Int32) (0 : Int32) (by omega) (by omega)
      · skip
        refine Exists.intro _ (And.intro md_o ?_)
        refine Exists.intro _ (And.intro md_o ?_)
        refine Exists.intro _ (Exists.intro _ (And.intro (Or.inl (md_a_nextColours D)) (And.intro (by omega) ?_)))
        have w23 : (0 : Int) ≤ (f2 5 (z1_10).toInt.toNat).toInt ∧ (f2 5 (z1_10).toInt.toNat).toInt ≤ (23 : Int) := hf2 5 _
        refine Exists.intro _ (Exists.intro _ (And.intro (md_a_colours D) (And.intro (by omega) ?_)))
        rw [md_s_colours D]
        obtain ⟨f24, ef24⟩ : ∃ z9, z9 = va_up f2 0 (upd (f2 0) (z1_10).toInt.toNat (f2 5 (z1_10).toInt.toNat)) := ⟨_, rfl⟩
        rw [← ef24]
        have pf_29 : f24 0 = upd (f2 0) (z1_10).toInt.toNat (f2 5 (z1_10).toInt.toNat) := by rw [ef24]; exact if_pos rfl
        have pg_29 : ∀ i9, i9 ≠ 0 → f24 i9 = f2 i9 := fun i9 h9 => by rw [ef24]; exact if_neg h9
        have hf24 : md_F f24 := by rw [ef24]; exact md_F_st hf2 0 _ _ (by show (0 : Int) ≤ _ ∧ _ ≤ (23 : Int); omega)
        have hw24 : f24 2 = f 2 := (show f24 2 = f2 2 by rw [ef24]; rfl).trans hw2
        have hr24_5 : f24 5 = f 5 := (show f24 5 = f2 5 by rw [ef24]; rfl).trans hr2_5
        have hr24_6 : f24 6 = f 6 := (show f24 6 = f2 6 by rw [ef24]; rfl).trans hr2_6
        refine Exists.intro _ (And.intro md_o ?_)
        refine Exists.intro _ (And.intro md_o ?_)
        refine Exists.intro _ (Exists.intro _ (And.intro (Or.inl (md_a_nextNames D)) (And.intro (by omega) ?_)))
        refine Exists.intro _ (Exists.intro _ (And.intro (md_a_names D) (And.intro (by omega) ?_)))
        rw [md_s_names D]
        obtain ⟨f25, ef25⟩ : ∃ z9, z9 = va_up f24 1 (upd (f24 1) (z1_10).toInt.toNat (f24 6 (z1_10).toInt.toNat)) := ⟨_, rfl⟩
        rw [← ef25]
        have pf_41 : f25 1 = upd (f24 1) (z1_10).toInt.toNat (f24 6 (z1_10).toInt.toNat) := by rw [ef25]; exact if_pos rfl
        have pg_41 : ∀ i9, i9 ≠ 1 → f25 i9 = f24 i9 := fun i9 h9 => by rw [ef25]; exact if_neg h9
        have hf25 : md_F f25 := by rw [ef25]; exact md_F_st hf24 1 _ _ (md_rng _ _ (by decide))
        have hw25 : f25 2 = f 2 := (show f25 2 = f24 2 by rw [ef25]; rfl).trans hw24
        have hr25_5 : f25 5 = f 5 := (show f25 5 = f24 5 by rw [ef25]; rfl).trans hr24_5
        have hr25_6 : f25 6 = f 6 := (show f25 6 = f24 6 by rw [ef25]; rfl).trans hr24_6
        have k1 : (1 : Int32).toInt = 1 := rfl
        intro m26 em_42
        try have e26 : m26.toInt = (z1_10).toInt + (1) := by rw [em_42]; exact pm_addc _ _ (1) rfl (by omega) (by omega)
        exact ih4 m26 v2 f25 hv2 hf25 hw25 hr25_5 hr25_6 (by omega) (by omega) (by intro j hj; rw [pg_41 0 (by decide), pf_29, pf_41, pg_29 1 (by decide), pg_29 6 (by decide), lr5, lr6]; by_cases hjz : j = z1_10.toInt.toNat; (subst hjz; exact ⟨pk_us, pk_us⟩); (rw [pk_un hjz, pk_un hjz]; exact j2_10 j (by omega))) (by omega) (by omega) (by omega) (by omega) (by omega)
  have hv27 : md_V v1 := by unfold md_V; omega
  exact lp3 (200 - (0 : Int32).toInt).toNat.succ (0 : Int32) v1 f hv27 hf rfl rfl rfl (by omega) (by omega) (by intro j hj; omega) (by omega) (by omega) (by omega) (by omega) (by omega)

end
