section
variable {l : Launch} {g : pm_G} {A0 : pm_H} {h : Nat} {q : Nat → Nat}
set_option maxRecDepth 100000 in
set_option maxHeartbeats 2000000 in
theorem T_X11_ends (D : md_D h q) (v : Nat → Int32) (f : Nat → Nat → Int32) (hv : md_V v) (hf : md_F f) (p0 : (v 4).toInt < 100000) : pm_Mt l g 176 3 0 0 [.ref h] (md A0 g h q v f) (md_Qw A0 g h q f (fun r v2 f2 => ((v2 1).toInt = (v 1).toInt ∧ (v2 2).toInt = (v 2).toInt ∧ (v2 3).toInt = (v 3).toInt ∧ (v2 6).toInt = (v 6).toInt ∧ (v2 4).toInt = (v 4).toInt + 1 ∧ (v2 0).toInt = (v 2).toInt) ∧ ((∀ N, rp (v 2) (f 5) (f 6) (N) → rp (v2 0) (f2 0) (f2 1) N) ∧ (∀ (n : Int) (c m : Nat → Int32), OB v f n c m → r.toInt = (tcN n c m (f2 0) (f2 1) (v2 0).toInt.toNat : Int))))) := by
  refine mt_X11_ends rfl (fun J hC => ?_)
  have hv9 := hv
  unfold md_V at hv9
  refine hC.1 0 0 _ _ rfl _ _ _ _ _ ?_
  refine Exists.intro _ (And.intro md_o ?_)
  refine Exists.intro _ (And.intro md_o (And.intro rfl ?_))
  rw [md_p_many D]
  obtain ⟨v1, ev1⟩ : ∃ z9, z9 = upd v 0 (v 2) := ⟨_, rfl⟩
  rw [← ev1]
  have ev1_0 : (v1 0).toInt = ((v 2)).toInt := by rw [ev1]; rfl
  have ev1_1 : (v1 1).toInt = (v 1).toInt := by rw [ev1]; rfl
  have ev1_2 : (v1 2).toInt = (v 2).toInt := by rw [ev1]; rfl
  have ev1_3 : (v1 3).toInt = (v 3).toInt := by rw [ev1]; rfl
  have ev1_4 : (v1 4).toInt = (v 4).toInt := by rw [ev1]; rfl
  have ev1_5 : (v1 5).toInt = (v 5).toInt := by rw [ev1]; rfl
  have ev1_6 : (v1 6).toInt = (v 6).toInt := by rw [ev1]; rfl
  have ev1_7 : (v1 7).toInt = (v 7).toInt := by rw [ev1]; rfl
  have pn_5 : v1 0 = (v 2) := by rw [ev1]; rfl
  have k0 : (0 : Int32).toInt = 0 := rfl
  have lp3 : ∀ (n : Nat) (z1_10 : Int32) (v2 : Nat → Int32) (f2 : Nat → Nat → Int32), md_V v2 → md_F f2 → f2 2 = f 2 → f2 3 = f 3 → f2 4 = f 4 → f2 5 = f 5 → f2 6 = f 6 → (0 ≤ z1_10.toInt ∧ z1_10.toInt ≤ (v 2).toInt) → ((v2 0).toInt = (v 2).toInt ∧ (v2 4).toInt = (v 4).toInt) → (∀ j : Nat, (j : Int) < z1_10.toInt → f2 0 j = f 5 j ∧ f2 1 j = f 6 j) → (v2 1).toInt = (v 1).toInt → (v2 2).toInt = (v 2).toInt → (v2 3).toInt = (v 3).toInt → (v2 6).toInt = (v 6).toInt → 200 - z1_10.toInt < (n : Int) → J 10 [some (.ref h), some (.int z1_10), none] [] (md A0 g h q v2 f2) 0 0 := by
    intro n
    induction n with
    | zero =>
      intro z1_10 v2 f2 hv2 hf2 hw2 hr2_3 hr2_4 hr2_5 hr2_6 j0_10 j1_10 j2_10 j3_10 j4_10 j5_10 j6_10 j7_10
      omega
    | succ n ih4 =>
      intro z1_10 v2 f2 hv2 hf2 hw2 hr2_3 hr2_4 hr2_5 hr2_6 j0_10 j1_10 j2_10 j3_10 j4_10 j5_10 j6_10 j7_10
      have lr5 := hr2_5
      have lr6 := hr2_6
      refine hC.1 1 10 _ _ rfl _ _ _ _ _ ?_
      have hu5 := hv2
      unfold md_V at hu5
      refine Exists.intro _ (And.intro md_o ?_)
      refine And.intro (fun c6 => ?_) (fun c6 => ?_)
      · skip
        refine hC.1 2 48 _ _ rfl _ _ _ _ _ ?_
        have lp7 : ∀ (n : Nat) (z1_52 : Int32) (z2_52 : Int32), (0 ≤ z2_52.toInt ∧ z2_52.toInt ≤ (v 2).toInt) → (0 ≤ z1_52.toInt ∧ z1_52.toInt ≤ z2_52.toInt) → (∀ (n : Int) (c m : Nat → Int32), OB v f n c m → z1_52.toInt = (tcN n c m (f2 0) (f2 1) z2_52.toInt.toNat : Int)) → 200 - z2_52.toInt < (n : Int) → J 52 [some (.ref h), some (.int z1_52), some (.int z2_52)] [] (md A0 g h q v2 f2) 0 0 := by
          intro n
          induction n with
          | zero =>
            intro z1_52 z2_52 j0_52 j1_52 j2_52 j3_52
            omega
          | succ n ih8 =>
            intro z1_52 z2_52 j0_52 j1_52 j2_52 j3_52
            have lr3 := hr2_3
            have lr4 := hr2_4
            refine hC.1 3 52 _ _ rfl _ _ _ _ _ ?_
            refine Exists.intro _ (And.intro md_o ?_)
            refine And.intro (fun c9 => ?_) (fun c9 => ?_)
            · skip
              refine hC.1 6 82 _ _ rfl _ _ _ _ _ ?_
              refine Exists.intro _ (And.intro md_o ?_)
              have k1 : (1 : Int32).toInt = 1 := rfl
              intro m10 em_88
              try have e10 : m10.toInt = ((v2 4)).toInt + (1) := by rw [em_88]; exact pm_addc _ _ (1) rfl (by omega) (by omega)
              refine Exists.intro _ (And.intro md_o (And.intro rfl ?_))
              rw [md_p_edits D]
              obtain ⟨v11, ev11⟩ : ∃ z9, z9 = upd v2 4 m10 := ⟨_, rfl⟩
              rw [← ev11]
              have ev11_0 : (v11 0).toInt = (v2 0).toInt := by rw [ev11]; rfl
              have ev11_1 : (v11 1).toInt = (v2 1).toInt := by rw [ev11]; rfl
              have ev11_2 : (v11 2).toInt = (v2 2).toInt := by rw [ev11]; rfl
              have ev11_3 : (v11 3).toInt = (v2 3).toInt := by rw [ev11]; rfl
              have ev11_4 : (v11 4).toInt = (m10).toInt := by rw [ev11]; rfl
              have ev11_5 : (v11 5).toInt = (v2 5).toInt := by rw [ev11]; rfl
              have ev11_6 : (v11 6).toInt = (v2 6).toInt := by rw [ev11]; rfl
              have ev11_7 : (v11 7).toInt = (v2 7).toInt := by rw [ev11]; rfl
              have pn_89 : v11 4 = m10 := by rw [ev11]; rfl
              refine Exists.intro _ (And.intro md_o ?_)
              intro m12 em_98
              refine Exists.intro _ (And.intro md_o (And.intro rfl ?_))
              rw [md_p_touchedAll D]
              obtain ⟨v13, ev13⟩ : ∃ z9, z9 = upd v11 5 m12 := ⟨_, rfl⟩
              rw [← ev13]
              have ev13_0 : (v13 0).toInt = (v11 0).toInt := by rw [ev13]; rfl
              have ev13_1 : (v13 1).toInt = (v11 1).toInt := by rw [ev13]; rfl
              have ev13_2 : (v13 2).toInt = (v11 2).toInt := by rw [ev13]; rfl
              have ev13_3 : (v13 3).toInt = (v11 3).toInt := by rw [ev13]; rfl
              have ev13_4 : (v13 4).toInt = (v11 4).toInt := by rw [ev13]; rfl
              have ev13_5 : (v13 5).toInt = (m12).toInt := by rw [ev13]; rfl
              have ev13_6 : (v13 6).toInt = (v11 6).toInt := by rw [ev13]; rfl
              have ev13_7 : (v13 7).toInt = (v11 7).toInt := by rw [ev13]; rfl
              have pn_99 : v13 5 = m12 := by rw [ev13]; rfl
              have hv14 : md_V v13 := by unfold md_V; omega
              refine And.intro (Exists.intro _ md_o) (Exists.intro _ (Exists.intro _ (Exists.intro _ (Exists.intro _ (And.intro (T_X11_keepsRow D v13 f2 hv14 hf2 z1_52 ) (And.intro rfl (fun r9 A9 h9 => ?_)))))))
              obtain ⟨v16, f16, rfl, rfl, hv16, hf16, hx16, hg16_0, hg16_1, by15⟩ := h9
              have hw16 : f16 2 = f 2 := hx16.trans hw2
              have pr_104_0 := hg16_0
              have pr_104_1 := hg16_1
              have hu17 := hv16
              unfold md_V at hu17
              exact ⟨rfl, fun e9 => absurd e9 (by decide), rfl, z1_52, v16, f16, rfl, rfl, hv16, hf16, hw16, by first | trivial | omega | (dsimp only; omega), by refine ⟨?_, ?_⟩; (intro N hN; refine rp_cp hN (by omega) (fun j hj => ?_); rw [pr_104_0, pr_104_1]; exact j2_10 j (by omega)); (intro n c m hO; have h7 := j2_52 n c m hO; rw [pr_104_0, pr_104_1, show (v16 0).toInt.toNat = z2_52.toInt.toNat by omega]; exact h7)⟩
            · skip
              refine And.intro (Exists.intro _ md_o) (Exists.intro _ (Exists.intro _ (Exists.intro _ (Exists.intro _ (And.intro (T_X11_isTouched D v2 f2 hv2 hf2 z2_52 (by omega)) (And.intro rfl (fun r9 A9 h9 => ?_)))))))
              rcases h9 with ⟨y18, rfl, rfl, ⟨rfl, by18⟩ | ⟨rfl, by18⟩⟩
              · skip
                have k1 : (1 : Int32).toInt = 1 := rfl
                have ht9 := by18
                refine And.intro (fun c9 => absurd c9 (by decide)) (fun _ => ?_)
                refine hC.1 5 74 _ _ rfl _ _ _ _ _ ?_
                intro m19 em_74
                try have e19 : m19.toInt = (z1_52).toInt + (1) := by rw [em_74]; exact pm_addc _ _ (1) rfl (by omega) (by omega)
                intro m20 em_76
                try have e20 : m20.toInt = (z2_52).toInt + (1) := by rw [em_76]; exact pm_addc _ _ (1) rfl (by omega) (by omega)
                exact ih8 m19 m20 (by omega) (by omega) (by intro n c m hO; have hO2 := OB_fr (v2 := v2) (f2 := f2) hO (by omega) lr3 lr4; have h7 := j2_52 n c m hO; rw [show m20.toInt.toNat = z2_52.toInt.toNat + 1 by omega]; first | (rw [tcN_y (by rw [show ((z2_52.toInt.toNat : Nat) : Int) = z2_52.toInt by omega]; exact ht9 n c m hO2)]; omega) | (rw [tcN_n (by rw [show ((z2_52.toInt.toNat : Nat) : Int) = z2_52.toInt by omega]; exact ht9 n c m hO2)]; omega)) (by omega)
              · skip
                have ht9 := by18
                refine And.intro (fun _ => ?_) (fun c9 => absurd c9 (by decide))
                refine hC.1 4 73 _ _ rfl _ _ _ _ _ ?_
                refine hC.1 5 74 _ _ rfl _ _ _ _ _ ?_
                intro m21 em_74
                try have e21 : m21.toInt = (z1_52).toInt + (0) := by rw [em_74]; exact pm_addc _ _ (0) rfl (by omega) (by omega)
                have k1 : (1 : Int32).toInt = 1 := rfl
                intro m22 em_76
                try have e22 : m22.toInt = (z2_52).toInt + (1) := by rw [em_76]; exact pm_addc _ _ (1) rfl (by omega) (by omega)
                exact ih8 m21 m22 (by omega) (by omega) (by intro n c m hO; have hO2 := OB_fr (v2 := v2) (f2 := f2) hO (by omega) lr3 lr4; have h7 := j2_52 n c m hO; rw [show m22.toInt.toNat = z2_52.toInt.toNat + 1 by omega]; first | (rw [tcN_y (by rw [show ((z2_52.toInt.toNat : Nat) : Int) = z2_52.toInt by omega]; exact ht9 n c m hO2)]; omega) | (rw [tcN_n (by rw [show ((z2_52.toInt.toNat : Nat) : Int) = z2_52.toInt by omega]; exact ht9 n c m hO2)]; omega)) (by omega)
        exact lp7 (200 - (0 : Int32).toInt).toNat.succ (0 : Int32) (0 : Int32) (by omega) (by omega) (by intro n c m hO; rfl) (by omega)
      · skip
        refine Exists.intro _ (And.intro md_o ?_)
        refine Exists.intro _ (And.intro md_o ?_)
        refine Exists.intro _ (Exists.intro _ (And.intro (Or.inl (md_a_nextColours D)) (And.intro (by omega) ?_)))
        have w23 : (0 : Int) ≤ (f2 5 (z1_10).toInt.toNat).toInt ∧ (f2 5 (z1_10).toInt.toNat).toInt ≤ (23 : Int) := hf2 5 _
        refine Exists.intro _ (Exists.intro _ (And.intro (md_a_colours D) (And.intro (by omega) ?_)))
        rw [md_s_colours D]
        obtain ⟨f24, ef24⟩ : ∃ z9, z9 = va_up f2 0 (upd (f2 0) (z1_10).toInt.toNat (f2 5 (z1_10).toInt.toNat)) := ⟨_, rfl⟩
        rw [← ef24]
        have pf_29 : f24 0 = upd (f2 0) (z1_10).toInt.toNat (f2 5 (z1_10).toInt.toNat) := by rw [ef24]; exact if_pos rfl
        have pg_29 : ∀ i9, i9 ≠ 0 → f24 i9 = f2 i9 := fun i9 h9 => by rw [ef24]; exact if_neg h9
        have hf24 : md_F f24 := by rw [ef24]; exact md_F_st hf2 0 _ _ (by show (0 : Int) ≤ _ ∧ _ ≤ (23 : Int); omega)
        have hw24 : f24 2 = f 2 := (show f24 2 = f2 2 by rw [ef24]; rfl).trans hw2
        have hr24_3 : f24 3 = f 3 := (show f24 3 = f2 3 by rw [ef24]; rfl).trans hr2_3
        have hr24_4 : f24 4 = f 4 := (show f24 4 = f2 4 by rw [ef24]; rfl).trans hr2_4
        have hr24_5 : f24 5 = f 5 := (show f24 5 = f2 5 by rw [ef24]; rfl).trans hr2_5
        have hr24_6 : f24 6 = f 6 := (show f24 6 = f2 6 by rw [ef24]; rfl).trans hr2_6
        refine Exists.intro _ (And.intro md_o ?_)
        refine Exists.intro _ (And.intro md_o ?_)
        refine Exists.intro _ (Exists.intro _ (And.intro (Or.inl (md_a_nextNames D)) (And.intro (by omega) ?_)))
        refine Exists.intro _ (Exists.intro _ (And.intro (md_a_names D) (And.intro (by omega) ?_)))
        rw [md_s_names D]
        obtain ⟨f25, ef25⟩ : ∃ z9, z9 = va_up f24 1 (upd (f24 1) (z1_10).toInt.toNat (f24 6 (z1_10).toInt.toNat)) := ⟨_, rfl⟩
        rw [← ef25]
        have pf_41 : f25 1 = upd (f24 1) (z1_10).toInt.toNat (f24 6 (z1_10).toInt.toNat) := by rw [ef25]; exact if_pos rfl
        have pg_41 : ∀ i9, i9 ≠ 1 → f25 i9 = f24 i9 := fun i9 h9 => by rw [ef25]; exact if_neg h9
        have hf25 : md_F f25 := by rw [ef25]; exact md_F_st hf24 1 _ _ (md_rng _ _ (by decide))
        have hw25 : f25 2 = f 2 := (show f25 2 = f24 2 by rw [ef25]; rfl).trans hw24
        have hr25_3 : f25 3 = f 3 := (show f25 3 = f24 3 by rw [ef25]; rfl).trans hr24_3
        have hr25_4 : f25 4 = f 4 := (show f25 4 = f24 4 by rw [ef25]; rfl).trans hr24_4
        have hr25_5 : f25 5 = f 5 := (show f25 5 = f24 5 by rw [ef25]; rfl).trans hr24_5
        have hr25_6 : f25 6 = f 6 := (show f25 6 = f24 6 by rw [ef25]; rfl).trans hr24_6
        have k1 : (1 : Int32).toInt = 1 := rfl
        intro m26 em_42
        try have e26 : m26.toInt = (z1_10).toInt + (1) := by rw [em_42]; exact pm_addc _ _ (1) rfl (by omega) (by omega)
        exact ih4 m26 v2 f25 hv2 hf25 hw25 hr25_3 hr25_4 hr25_5 hr25_6 (by omega) (by omega) (by intro j hj; rw [pg_41 0 (by decide), pf_29, pf_41, pg_29 1 (by decide), pg_29 6 (by decide), lr5, lr6]; by_cases hjz : j = z1_10.toInt.toNat; (subst hjz; exact ⟨pk_us, pk_us⟩); (rw [pk_un hjz, pk_un hjz]; exact j2_10 j (by omega))) (by omega) (by omega) (by omega) (by omega) (by omega)
  have hv27 : md_V v1 := by unfold md_V; omega
  exact lp3 (200 - (0 : Int32).toInt).toNat.succ (0 : Int32) v1 f hv27 hf rfl rfl rfl rfl rfl (by omega) (by omega) (by intro j hj; omega) (by omega) (by omega) (by omega) (by omega) (by omega)

set_option maxRecDepth 100000 in
set_option maxHeartbeats 2000000 in
theorem T_X11_insert (D : md_D h q) (v : Nat → Int32) (f : Nat → Nat → Int32) (hv : md_V v) (hf : md_F f) (x1 : Int32) (x2 : Int32) (p0 : (v 4).toInt < 100000) : pm_Mt l g 183 4 0 0 [.ref h, .int x1, .int x2] (md A0 g h q v f) (md_Qw A0 g h q f (fun r v2 f2 => ((v2 6).toInt = (v 6).toInt ∧ (v2 4).toInt ≤ (v 4).toInt + 1 ∧ (v 4).toInt ≤ (v2 4).toInt) ∧ ((∀ L, rp (v 0) (f 0) (f 1) L → rp (v2 0) (f2 0) (f2 1) ((ed_insert L (v 3) x1 x2).getD L) ∧ (v2 4).toInt = (v 4).toInt + edn (ed_insert L (v 3) x1 x2) ∧ (v2 3).toInt = (v 3).toInt + edn (ed_insert L (v 3) x1 x2) * (1)) ∧ (((v2 4).toInt = (v 4).toInt ∧ r.toInt = -1) ∨ ((v2 4).toInt = (v 4).toInt + 1 ∧ r.toInt = (tcN (v 0).toInt (f 0) (f 1) (f2 0) (f2 1) (v2 0).toInt.toNat : Int)))))) := by
  refine mt_X11_insert rfl (fun J hC => ?_)
  have hv9 := hv
  unfold md_V at hv9
  have rg_x1 := pm_rng x1
  have rg_x2 := pm_rng x2
  refine hC.1 0 0 _ _ rfl _ _ _ _ _ ?_
  have k0 : (0 : Int32).toInt = 0 := rfl
  refine Exists.intro _ (And.intro md_o ?_)
  refine Exists.intro _ (Exists.intro _ (Exists.intro _ (Exists.intro _ (And.intro (c_X11_isIn (md A0 g h q v f) x1 (0 : Int32) (v 0) ) (And.intro rfl (fun r9 A9 h9 => ?_))))))
  rcases h9 with ⟨y1, rfl, rfl, ⟨rfl, by1⟩ | ⟨rfl, by1⟩⟩
  · skip
    have k1 : (1 : Int32).toInt = 1 := rfl
    refine And.intro (fun c9 => absurd c9 (by decide)) (fun _ => ?_)
    refine Exists.intro _ (Exists.intro _ (Exists.intro _ (Exists.intro _ (And.intro (c_X11_isColour (md A0 g h q v f) x2 ) (And.intro rfl (fun r9 A9 h9 => ?_))))))
    rcases h9 with ⟨y2, rfl, rfl, ⟨rfl, by2⟩ | ⟨rfl, by2⟩⟩
    · skip
      refine And.intro (fun c9 => absurd c9 (by decide)) (fun _ => ?_)
      have hp_21 : ∀ L, rp (v 0) (f 0) (f 1) L → rp (v 0) (f 0) (f 1) L := fun L h => rp_fr h (by omega) rfl rfl
      refine And.intro (Exists.intro _ md_o) (Exists.intro _ (Exists.intro _ (Exists.intro _ (Exists.intro _ (And.intro (c_X11_hasRoom D v f hv hf (1 : Int32) (by omega)) (And.intro rfl (fun r9 A9 h9 => ?_)))))))
      rcases h9 with ⟨y3, rfl, rfl, ⟨rfl, by3⟩ | ⟨rfl, by3⟩⟩
      · skip
        refine And.intro (fun _ => ?_) (fun c9 => absurd c9 (by decide))
        refine hC.1 2 29 _ _ rfl _ _ _ _ _ ?_
        have hp_30 : ∀ L, rp (v 0) (f 0) (f 1) L → rp (v 0) (f 0) (f 1) L := fun L h => rp_fr h (by omega) rfl rfl
        refine And.intro (Exists.intro _ md_o) (Exists.intro _ (Exists.intro _ (Exists.intro _ (Exists.intro _ (And.intro (T_X11_begins D v f hv hf  ) (And.intro rfl (fun r9 A9 h9 => ?_)))))))
        obtain ⟨v5, f5, rfl, rfl, hv5, hf5, hx5, hg5_0, hg5_1, by4⟩ := h9
        have hw5 : f5 2 = f 2 := hx5.trans rfl
        have hr5_0 : f5 0 = f 0 := hg5_0.trans rfl
        have hr5_1 : f5 1 = f 1 := hg5_1.trans rfl
        have hu6 := hv5
        unfold md_V at hu6
        have hb_30 := by4.2
        have ob5 : OB v5 f5 (v 0).toInt (f 0) (f 1) := by4.2
        have hp_36 : ∀ L, rp (v 0) (f 0) (f 1) L → rp (v5 0) (f5 0) (f5 1) L := fun L h => rp_fr h (by omega) hr5_0 hr5_1
        refine And.intro (Exists.intro _ md_o) (Exists.intro _ (Exists.intro _ (Exists.intro _ (Exists.intro _ (And.intro (T_X11_laysFrom D v5 f5 hv5 hf5 (0 : Int32) x1 (by omega) (by omega) (by omega) (by omega)) (And.intro rfl (fun r9 A9 h9 => ?_)))))))
        obtain ⟨v8, f8, rfl, rfl, hv8, hf8, hx8, hg8_0, hg8_1, hg8_3, hg8_4, by7⟩ := h9
        have hw8 : f8 2 = f 2 := hx8.trans hw5
        have hr8_0 : f8 0 = f 0 := hg8_0.trans hr5_0
        have hr8_1 : f8 1 = f 1 := hg8_1.trans hr5_1
        have hu9 := hv8
        unfold md_V at hu9
        have hb_36 := by7.2
        have ob8 : OB v8 f8 (v 0).toInt (f 0) (f 1) := OB_fr ob5 (by omega) hg8_3 hg8_4
        have hp_41 : ∀ L, rp (v 0) (f 0) (f 1) L → rp (v8 0) (f8 0) (f8 1) L := fun L h => rp_fr h (by omega) hr8_0 hr8_1
        refine And.intro (Exists.intro _ md_o) (Exists.intro _ (Exists.intro _ (Exists.intro _ (Exists.intro _ (And.intro (T_X11_laysNew D v8 f8 hv8 hf8 x2 (by omega) (by omega) (by omega)) (And.intro rfl (fun r9 A9 h9 => ?_)))))))
        obtain ⟨v11, f11, rfl, rfl, hv11, hf11, hx11, hg11_0, hg11_1, hg11_3, hg11_4, by10⟩ := h9
        have hw11 : f11 2 = f 2 := hx11.trans hw8
        have hr11_0 : f11 0 = f 0 := hg11_0.trans hr8_0
        have hr11_1 : f11 1 = f 1 := hg11_1.trans hr8_1
        have hu12 := hv11
        unfold md_V at hu12
        have hb_41 := by10.2
        have ob11 : OB v11 f11 (v 0).toInt (f 0) (f 1) := OB_fr ob8 (by omega) hg11_3 hg11_4
        refine Exists.intro _ (And.intro md_o ?_)
        have hp_50 : ∀ L, rp (v 0) (f 0) (f 1) L → rp (v11 0) (f11 0) (f11 1) L := fun L h => rp_fr h (by omega) hr11_0 hr11_1
        refine And.intro (Exists.intro _ md_o) (Exists.intro _ (Exists.intro _ (Exists.intro _ (Exists.intro _ (And.intro (T_X11_laysFrom D v11 f11 hv11 hf11 x1 (v11 0) (by omega) (by omega) (by omega) (by omega)) (And.intro rfl (fun r9 A9 h9 => ?_)))))))
        obtain ⟨v14, f14, rfl, rfl, hv14, hf14, hx14, hg14_0, hg14_1, hg14_3, hg14_4, by13⟩ := h9
        have hw14 : f14 2 = f 2 := hx14.trans hw11
        have hr14_0 : f14 0 = f 0 := hg14_0.trans hr11_0
        have hr14_1 : f14 1 = f 1 := hg14_1.trans hr11_1
        have hu15 := hv14
        unfold md_V at hu15
        have hb_50 := by13.2
        have ob14 : OB v14 f14 (v 0).toInt (f 0) (f 1) := OB_fr ob11 (by omega) hg14_3 hg14_4
        have hp_54 : ∀ L, rp (v 0) (f 0) (f 1) L → rp (v14 0) (f14 0) (f14 1) L := fun L h => rp_fr h (by omega) hr14_0 hr14_1
        refine And.intro (Exists.intro _ md_o) (Exists.intro _ (Exists.intro _ (Exists.intro _ (Exists.intro _ (And.intro (T_X11_ends D v14 f14 hv14 hf14  (by omega)) (And.intro rfl (fun r9 A9 h9 => ?_)))))))
        obtain ⟨y16, v17, f17, rfl, rfl, hv17, hf17, hx17, by16⟩ := h9
        have hw17 : f17 2 = f 2 := hx17.trans hw14
        have hu18 := hv17
        unfold md_V at hu18
        have hb_54 := by16.2.1
        have ha_9 := by16.2.2 _ _ _ ob14
        exact ⟨rfl, fun e9 => absurd e9 (by decide), rfl, y16, v17, f17, rfl, rfl, hv17, hf17, hw17, by first | trivial | omega | (dsimp only; omega), by refine ⟨?_, ?_⟩; (intro L hL; have hl := hL.1; rw [ed_insert, if_pos (by omega)]; have t1 := hb_36 L [] (0) (x1.toInt) (hp_36 L hL) (by omega) (by omega) (by omega) (by omega) (rp_0 (by omega)); have t2 := hb_41 _ (v 3) (by omega) t1; have t3 := hb_50 L _ (x1.toInt) (L.length) (hp_50 L hL) (by omega) (by omega) (by omega) (by omega) t2; rw [List.nil_append] at t3; exact ⟨hb_54 _ t3, by show _ = _ + (1 : Int); omega, by show _ = _ + (1 : Int) * _; omega⟩); (first | (exact hq_9) | (exact Or.inr ⟨by omega, ha_9⟩) | (exact Or.inl ⟨rfl, rfl⟩))⟩
      · skip
        refine And.intro (fun c9 => absurd c9 (by decide)) (fun _ => ?_)
        refine hC.1 1 27 _ _ rfl _ _ _ _ _ ?_
        have km1 : (-1 : Int32).toInt = -1 := rfl
        exact ⟨rfl, fun e9 => absurd e9 (by decide), rfl, (-1 : Int32), v, f, rfl, rfl, hv, hf, rfl, by first | trivial | omega | (dsimp only; omega), by refine ⟨?_, ?_⟩; (intro L hL; have hl := hL.1; rw [ed_insert, if_neg (by omega)]; exact ⟨hL, by show _ = _ + (0 : Int); omega, by show _ = _ + (0 : Int) * _; omega⟩); (first | (exact hq_9) | (exact Or.inr ⟨by omega, ha_9⟩) | (exact Or.inl ⟨rfl, rfl⟩))⟩
    · skip
      refine And.intro (fun _ => ?_) (fun c9 => absurd c9 (by decide))
      refine hC.1 1 27 _ _ rfl _ _ _ _ _ ?_
      have km1 : (-1 : Int32).toInt = -1 := rfl
      exact ⟨rfl, fun e9 => absurd e9 (by decide), rfl, (-1 : Int32), v, f, rfl, rfl, hv, hf, rfl, by first | trivial | omega | (dsimp only; omega), by refine ⟨?_, ?_⟩; (intro L hL; have hl := hL.1; rw [ed_insert, if_neg (by omega)]; exact ⟨hL, by show _ = _ + (0 : Int); omega, by show _ = _ + (0 : Int) * _; omega⟩); (first | (exact hq_9) | (exact Or.inr ⟨by omega, ha_9⟩) | (exact Or.inl ⟨rfl, rfl⟩))⟩
  · skip
    refine And.intro (fun _ => ?_) (fun c9 => absurd c9 (by decide))
    refine hC.1 1 27 _ _ rfl _ _ _ _ _ ?_
    have km1 : (-1 : Int32).toInt = -1 := rfl
    exact ⟨rfl, fun e9 => absurd e9 (by decide), rfl, (-1 : Int32), v, f, rfl, rfl, hv, hf, rfl, by first | trivial | omega | (dsimp only; omega), by refine ⟨?_, ?_⟩; (intro L hL; have hl := hL.1; rw [ed_insert, if_neg (by omega)]; exact ⟨hL, by show _ = _ + (0 : Int); omega, by show _ = _ + (0 : Int) * _; omega⟩); (first | (exact hq_9) | (exact Or.inr ⟨by omega, ha_9⟩) | (exact Or.inl ⟨rfl, rfl⟩))⟩

set_option maxRecDepth 100000 in
set_option maxHeartbeats 2000000 in
theorem T_X11_cut (D : md_D h q) (v : Nat → Int32) (f : Nat → Nat → Int32) (hv : md_V v) (hf : md_F f) (x1 : Int32) (x2 : Int32) (p0 : (v 4).toInt < 100000) : pm_Mt l g 187 4 0 0 [.ref h, .int x1, .int x2] (md A0 g h q v f) (md_Qw A0 g h q f (fun r v2 f2 => ((v2 6).toInt = (v 6).toInt ∧ (v2 4).toInt ≤ (v 4).toInt + 1 ∧ (v 4).toInt ≤ (v2 4).toInt) ∧ ((∀ L, rp (v 0) (f 0) (f 1) L → rp (v2 0) (f2 0) (f2 1) ((ed_cut L x1 x2).getD L) ∧ (v2 4).toInt = (v 4).toInt + edn (ed_cut L x1 x2) ∧ (v2 3).toInt = (v 3).toInt + edn (ed_cut L x1 x2) * (0)) ∧ (((v2 4).toInt = (v 4).toInt ∧ r.toInt = -1) ∨ ((v2 4).toInt = (v 4).toInt + 1 ∧ r.toInt = (tcN (v 0).toInt (f 0) (f 1) (f2 0) (f2 1) (v2 0).toInt.toNat : Int)))))) := by
  refine mt_X11_cut rfl (fun J hC => ?_)
  have hv9 := hv
  unfold md_V at hv9
  have rg_x1 := pm_rng x1
  have rg_x2 := pm_rng x2
  refine hC.1 0 0 _ _ rfl _ _ _ _ _ ?_
  have hp_3 : ∀ L, rp (v 0) (f 0) (f 1) L → rp (v 0) (f 0) (f 1) L := fun L h => rp_fr h (by omega) rfl rfl
  refine And.intro (Exists.intro _ md_o) (Exists.intro _ (Exists.intro _ (Exists.intro _ (Exists.intro _ (And.intro (c_X11_isSpan D v f hv hf x1 x2 ) (And.intro rfl (fun r9 A9 h9 => ?_)))))))
  rcases h9 with ⟨y1, rfl, rfl, ⟨rfl, by1⟩ | ⟨rfl, by1⟩⟩
  · skip
    have k1 : (1 : Int32).toInt = 1 := rfl
    refine And.intro (fun _ => ?_) (fun c9 => absurd c9 (by decide))
    refine hC.1 1 11 _ _ rfl _ _ _ _ _ ?_
    have hp_12 : ∀ L, rp (v 0) (f 0) (f 1) L → rp (v 0) (f 0) (f 1) L := fun L h => rp_fr h (by omega) rfl rfl
    refine And.intro (Exists.intro _ md_o) (Exists.intro _ (Exists.intro _ (Exists.intro _ (Exists.intro _ (And.intro (T_X11_begins D v f hv hf  ) (And.intro rfl (fun r9 A9 h9 => ?_)))))))
    obtain ⟨v3, f3, rfl, rfl, hv3, hf3, hx3, hg3_0, hg3_1, by2⟩ := h9
    have hw3 : f3 2 = f 2 := hx3.trans rfl
    have hr3_0 : f3 0 = f 0 := hg3_0.trans rfl
    have hr3_1 : f3 1 = f 1 := hg3_1.trans rfl
    have hu4 := hv3
    unfold md_V at hu4
    have hb_12 := by2.2
    have ob3 : OB v3 f3 (v 0).toInt (f 0) (f 1) := by2.2
    have k0 : (0 : Int32).toInt = 0 := rfl
    have hp_18 : ∀ L, rp (v 0) (f 0) (f 1) L → rp (v3 0) (f3 0) (f3 1) L := fun L h => rp_fr h (by omega) hr3_0 hr3_1
    refine And.intro (Exists.intro _ md_o) (Exists.intro _ (Exists.intro _ (Exists.intro _ (Exists.intro _ (And.intro (T_X11_laysFrom D v3 f3 hv3 hf3 (0 : Int32) x1 (by omega) (by omega) (by omega) (by omega)) (And.intro rfl (fun r9 A9 h9 => ?_)))))))
    obtain ⟨v6, f6, rfl, rfl, hv6, hf6, hx6, hg6_0, hg6_1, hg6_3, hg6_4, by5⟩ := h9
    have hw6 : f6 2 = f 2 := hx6.trans hw3
    have hr6_0 : f6 0 = f 0 := hg6_0.trans hr3_0
    have hr6_1 : f6 1 = f 1 := hg6_1.trans hr3_1
    have hu7 := hv6
    unfold md_V at hu7
    have hb_18 := by5.2
    have ob6 : OB v6 f6 (v 0).toInt (f 0) (f 1) := OB_fr ob3 (by omega) hg6_3 hg6_4
    intro m8 em_24
    try have e8 : m8.toInt = (x2).toInt + (1) := by rw [em_24]; exact pm_addc _ _ (1) rfl (by omega) (by omega)
    refine Exists.intro _ (And.intro md_o ?_)
    have hp_29 : ∀ L, rp (v 0) (f 0) (f 1) L → rp (v6 0) (f6 0) (f6 1) L := fun L h => rp_fr h (by omega) hr6_0 hr6_1
    refine And.intro (Exists.intro _ md_o) (Exists.intro _ (Exists.intro _ (Exists.intro _ (Exists.intro _ (And.intro (T_X11_laysFrom D v6 f6 hv6 hf6 m8 (v6 0) (by omega) (by omega) (by omega) (by omega)) (And.intro rfl (fun r9 A9 h9 => ?_)))))))
    obtain ⟨v10, f10, rfl, rfl, hv10, hf10, hx10, hg10_0, hg10_1, hg10_3, hg10_4, by9⟩ := h9
    have hw10 : f10 2 = f 2 := hx10.trans hw6
    have hr10_0 : f10 0 = f 0 := hg10_0.trans hr6_0
    have hr10_1 : f10 1 = f 1 := hg10_1.trans hr6_1
    have hu11 := hv10
    unfold md_V at hu11
    have hb_29 := by9.2
    have ob10 : OB v10 f10 (v 0).toInt (f 0) (f 1) := OB_fr ob6 (by omega) hg10_3 hg10_4
    have hp_33 : ∀ L, rp (v 0) (f 0) (f 1) L → rp (v10 0) (f10 0) (f10 1) L := fun L h => rp_fr h (by omega) hr10_0 hr10_1
    refine And.intro (Exists.intro _ md_o) (Exists.intro _ (Exists.intro _ (Exists.intro _ (Exists.intro _ (And.intro (T_X11_ends D v10 f10 hv10 hf10  (by omega)) (And.intro rfl (fun r9 A9 h9 => ?_)))))))
    obtain ⟨y12, v13, f13, rfl, rfl, hv13, hf13, hx13, by12⟩ := h9
    have hw13 : f13 2 = f 2 := hx13.trans hw10
    have hu14 := hv13
    unfold md_V at hu14
    have hb_33 := by12.2.1
    have ha_9 := by12.2.2 _ _ _ ob10
    exact ⟨rfl, fun e9 => absurd e9 (by decide), rfl, y12, v13, f13, rfl, rfl, hv13, hf13, hw13, by first | trivial | omega | (dsimp only; omega), by refine ⟨?_, ?_⟩; (intro L hL; have hl := hL.1; rw [ed_cut, if_pos (by omega)]; have t1 := hb_18 L [] (0) (x1.toInt) (hp_18 L hL) (by omega) (by omega) (by omega) (by omega) (rp_0 (by omega)); have t2 := hb_29 L _ (x2.toInt + 1) (L.length) (hp_29 L hL) (by omega) (by omega) (by omega) (by omega) t1; rw [List.nil_append] at t2; exact ⟨hb_33 _ t2, by show _ = _ + (1 : Int); omega, by show _ = _ + (1 : Int) * _; omega⟩); (first | (exact hq_9) | (exact Or.inr ⟨by omega, ha_9⟩) | (exact Or.inl ⟨rfl, rfl⟩))⟩
  · skip
    have k0 : (0 : Int32).toInt = 0 := rfl
    refine And.intro (fun c9 => absurd c9 (by decide)) (fun _ => ?_)
    have km1 : (-1 : Int32).toInt = -1 := rfl
    exact ⟨rfl, fun e9 => absurd e9 (by decide), rfl, (-1 : Int32), v, f, rfl, rfl, hv, hf, rfl, by first | trivial | omega | (dsimp only; omega), by refine ⟨?_, ?_⟩; (intro L hL; have hl := hL.1; rw [ed_cut, if_neg (by omega)]; exact ⟨hL, by show _ = _ + (0 : Int); omega, by show _ = _ + (0 : Int) * _; omega⟩); (first | (exact hq_9) | (exact Or.inr ⟨by omega, ha_9⟩) | (exact Or.inl ⟨rfl, rfl⟩))⟩

end
