section
variable {l : Launch} {g : pm_G} {A0 : pm_H} {h : Nat} {q : Nat → Nat}
set_option maxRecDepth 100000 in
set_option maxHeartbeats 2000000 in
theorem F_X11_begins (D : md_D h q) (v : Nat → Int32) (f : Nat → Nat → Int32) (hv : md_V v) (hf : md_F f)  : pm_Mt l g 172 2 0 0 [.ref h] (md A0 g h q v f) (md_Qv A0 g h q f (fun v2 f2 => f2 0 = f 0 ∧ f2 1 = f 1 ∧ (v2 0).toInt = (v 0).toInt ∧ (v2 3).toInt = (v 3).toInt ∧ (v2 4).toInt = (v 4).toInt ∧ (v2 6).toInt = (v 6).toInt ∧ (v2 2).toInt = 0)) := by
  refine mt_X11_begins rfl (fun J hC => ?_)
  have hv9 := hv
  unfold md_V at hv9
  refine hC.1 0 0 _ _ rfl _ _ _ _ _ ?_
  refine Exists.intro _ (And.intro md_o ?_)
  refine Exists.intro _ (And.intro md_o (And.intro rfl ?_))
  rw [md_p_oldMany D]
  obtain ⟨v1, ev1⟩ : ∃ z9, z9 = upd v 1 (v 0) := ⟨_, rfl⟩
  rw [← ev1]
  have ev1_0 : (v1 0).toInt = (v 0).toInt := by rw [ev1]; rfl
  have ev1_1 : (v1 1).toInt = ((v 0)).toInt := by rw [ev1]; rfl
  have ev1_2 : (v1 2).toInt = (v 2).toInt := by rw [ev1]; rfl
  have ev1_3 : (v1 3).toInt = (v 3).toInt := by rw [ev1]; rfl
  have ev1_4 : (v1 4).toInt = (v 4).toInt := by rw [ev1]; rfl
  have ev1_5 : (v1 5).toInt = (v 5).toInt := by rw [ev1]; rfl
  have ev1_6 : (v1 6).toInt = (v 6).toInt := by rw [ev1]; rfl
  have ev1_7 : (v1 7).toInt = (v 7).toInt := by rw [ev1]; rfl
  have pn_5 : v1 1 = (v 0) := by rw [ev1]; rfl
  have k0 : (0 : Int32).toInt = 0 := rfl
  have lp3 : ∀ (n : Nat) (z1_10 : Int32) (v2 : Nat → Int32) (f2 : Nat → Nat → Int32), md_V v2 → md_F f2 → f2 2 = f 2 → f2 0 = f 0 → f2 1 = f 1 → (0 ≤ z1_10.toInt ∧ z1_10.toInt ≤ (v 0).toInt) → (v2 0).toInt = (v 0).toInt → (v2 3).toInt = (v 3).toInt → (v2 4).toInt = (v 4).toInt → (v2 6).toInt = (v 6).toInt → 200 - z1_10.toInt < (n : Int) → J 10 [some (.ref h), some (.int z1_10)] [] (md A0 g h q v2 f2) 0 0 := by
    intro n
    induction n with
    | zero =>
      intro z1_10 v2 f2 hv2 hf2 hw2 hr2_0 hr2_1 j0_10 j1_10 j2_10 j3_10 j4_10 j5_10
      omega
    | succ n ih4 =>
      intro z1_10 v2 f2 hv2 hf2 hw2 hr2_0 hr2_1 j0_10 j1_10 j2_10 j3_10 j4_10 j5_10
      refine hC.1 1 10 _ _ rfl _ _ _ _ _ ?_
      have hu5 := hv2
      unfold md_V at hu5
      refine Exists.intro _ (And.intro md_o ?_)
      refine And.intro (fun c6 => ?_) (fun c6 => ?_)
      · skip
        refine hC.1 2 47 _ _ rfl _ _ _ _ _ ?_
        refine Exists.intro _ (And.intro md_o (And.intro rfl ?_))
        rw [md_p_nextMany D]
        obtain ⟨v7, ev7⟩ : ∃ z9, z9 = upd v2 2 (0 : Int32) := ⟨_, rfl⟩
        rw [← ev7]
        have ev7_0 : (v7 0).toInt = (v2 0).toInt := by rw [ev7]; rfl
        have ev7_1 : (v7 1).toInt = (v2 1).toInt := by rw [ev7]; rfl
        have ev7_2 : (v7 2).toInt = ((0 : Int32)).toInt := by rw [ev7]; rfl
        have ev7_3 : (v7 3).toInt = (v2 3).toInt := by rw [ev7]; rfl
        have ev7_4 : (v7 4).toInt = (v2 4).toInt := by rw [ev7]; rfl
        have ev7_5 : (v7 5).toInt = (v2 5).toInt := by rw [ev7]; rfl
        have ev7_6 : (v7 6).toInt = (v2 6).toInt := by rw [ev7]; rfl
        have ev7_7 : (v7 7).toInt = (v2 7).toInt := by rw [ev7]; rfl
        have pn_49 : v7 2 = (0 : Int32) := by rw [ev7]; rfl
        have hv8 : md_V v7 := by unfold md_V; omega
        exact ⟨rfl, rfl, v7, f2, rfl, rfl, hv8, hf2, hw2, hr2_0, hr2_1, by first | trivial | omega | (dsimp only; omega)⟩
      · skip
        refine Exists.intro _ (And.intro md_o ?_)
        refine Exists.intro _ (And.intro md_o ?_)
        refine Exists.intro _ (Exists.intro _ (And.intro (Or.inl (md_a_names D)) (And.intro (by omega) ?_)))
        refine Exists.intro _ (Exists.intro _ (And.intro (md_a_oldNames D) (And.intro (by omega) ?_)))
        rw [md_s_oldNames D]
        obtain ⟨f9, ef9⟩ : ∃ z9, z9 = va_up f2 3 (upd (f2 3) (z1_10).toInt.toNat (f2 1 (z1_10).toInt.toNat)) := ⟨_, rfl⟩
        rw [← ef9]
        have hf9 : md_F f9 := by rw [ef9]; exact md_F_st hf2 3 _ _ (md_rng _ _ (by decide))
        have hw9 : f9 2 = f 2 := (show f9 2 = f2 2 by rw [ef9]; rfl).trans hw2
        have hr9_0 : f9 0 = f 0 := (show f9 0 = f2 0 by rw [ef9]; rfl).trans hr2_0
        have hr9_1 : f9 1 = f 1 := (show f9 1 = f2 1 by rw [ef9]; rfl).trans hr2_1
        refine Exists.intro _ (And.intro md_o ?_)
        refine And.intro (Exists.intro _ md_o) (Exists.intro _ (Exists.intro _ (Exists.intro _ (Exists.intro _ (And.intro (c_X11_bondOf D v2 f9 hv2 hf9 z1_10 (by omega)) (And.intro rfl (fun r9 A9 h9 => ?_)))))))
        obtain ⟨y10, rfl, rfl, by10⟩ := h9
        refine Exists.intro _ (Exists.intro _ (And.intro (md_a_oldBonds D) (And.intro (by omega) ?_)))
        rw [md_s_oldBonds D]
        obtain ⟨f11, ef11⟩ : ∃ z9, z9 = va_up f9 4 (upd (f9 4) (z1_10).toInt.toNat y10) := ⟨_, rfl⟩
        rw [← ef11]
        have hf11 : md_F f11 := by rw [ef11]; exact md_F_st hf9 4 _ _ (md_rng _ _ (by decide))
        have hw11 : f11 2 = f 2 := (show f11 2 = f9 2 by rw [ef11]; rfl).trans hw9
        have hr11_0 : f11 0 = f 0 := (show f11 0 = f9 0 by rw [ef11]; rfl).trans hr9_0
        have hr11_1 : f11 1 = f 1 := (show f11 1 = f9 1 by rw [ef11]; rfl).trans hr9_1
        have k1 : (1 : Int32).toInt = 1 := rfl
        intro m12 em_41
        try have e12 : m12.toInt = (z1_10).toInt + (1) := by rw [em_41]; exact pm_addc _ _ (1) rfl (by omega) (by omega)
        exact ih4 m12 v2 f11 hv2 hf11 hw11 hr11_0 hr11_1 (by omega) (by omega) (by omega) (by omega) (by omega) (by omega)
  have hv13 : md_V v1 := by unfold md_V; omega
  exact lp3 (200 - (0 : Int32).toInt).toNat.succ (0 : Int32) v1 f hv13 hf rfl rfl rfl (by omega) (by omega) (by omega) (by omega) (by omega) (by omega)

set_option maxRecDepth 100000 in
set_option maxHeartbeats 2000000 in
theorem F_X11_lays (D : md_D h q) (v : Nat → Int32) (f : Nat → Nat → Int32) (hv : md_V v) (hf : md_F f) (x1 : Int32) (x2 : Int32) (p0 : (v 2).toInt < 160) (p1 : 0 ≤ x1.toInt ∧ x1.toInt ≤ 23) : pm_Mt l g 175 0 0 0 [.ref h, .int x1, .int x2] (md A0 g h q v f) (md_Qv A0 g h q f (fun v2 f2 => f2 0 = f 0 ∧ f2 1 = f 1 ∧ ((v2 0).toInt = (v 0).toInt ∧ (v2 1).toInt = (v 1).toInt ∧ (v2 3).toInt = (v 3).toInt ∧ (v2 4).toInt = (v 4).toInt ∧ (v2 6).toInt = (v 6).toInt ∧ (v2 2).toInt = (v 2).toInt + 1) ∧ (∀ N, rp (v 2) (f 5) (f 6) (N) → rp (v2 2) (f2 5) (f2 6) (N ++ [(x1, x2)])))) := by
  refine mt_X11_lays rfl (fun J hC => ?_)
  have hv9 := hv
  unfold md_V at hv9
  have rg_x1 := pm_rng x1
  have rg_x2 := pm_rng x2
  refine hC.1 0 0 _ _ rfl _ _ _ _ _ ?_
  refine Exists.intro _ (And.intro md_o ?_)
  refine Exists.intro _ (And.intro md_o ?_)
  refine Exists.intro _ (Exists.intro _ (And.intro (md_a_nextColours D) (And.intro (by omega) ?_)))
  rw [md_s_nextColours D]
  obtain ⟨f1, ef1⟩ : ∃ z9, z9 = va_up f 5 (upd (f 5) ((v 2)).toInt.toNat x1) := ⟨_, rfl⟩
  rw [← ef1]
  have pf_9 : f1 5 = upd (f 5) ((v 2)).toInt.toNat x1 := by rw [ef1]; exact if_pos rfl
  have pg_9 : ∀ i9, i9 ≠ 5 → f1 i9 = f i9 := fun i9 h9 => by rw [ef1]; exact if_neg h9
  have hf1 : md_F f1 := by rw [ef1]; exact md_F_st hf 5 _ _ (by show (0 : Int) ≤ _ ∧ _ ≤ (23 : Int); omega)
  have hw1 : f1 2 = f 2 := (show f1 2 = f 2 by rw [ef1]; rfl).trans rfl
  have hr1_0 : f1 0 = f 0 := (show f1 0 = f 0 by rw [ef1]; rfl).trans rfl
  have hr1_1 : f1 1 = f 1 := (show f1 1 = f 1 by rw [ef1]; rfl).trans rfl
  refine Exists.intro _ (And.intro md_o ?_)
  refine Exists.intro _ (And.intro md_o ?_)
  refine Exists.intro _ (Exists.intro _ (And.intro (md_a_nextNames D) (And.intro (by omega) ?_)))
  rw [md_s_nextNames D]
  obtain ⟨f2, ef2⟩ : ∃ z9, z9 = va_up f1 6 (upd (f1 6) ((v 2)).toInt.toNat x2) := ⟨_, rfl⟩
  rw [← ef2]
  have pf_19 : f2 6 = upd (f1 6) ((v 2)).toInt.toNat x2 := by rw [ef2]; exact if_pos rfl
  have pg_19 : ∀ i9, i9 ≠ 6 → f2 i9 = f1 i9 := fun i9 h9 => by rw [ef2]; exact if_neg h9
  have hf2 : md_F f2 := by rw [ef2]; exact md_F_st hf1 6 _ _ (md_rng _ _ (by decide))
  have hw2 : f2 2 = f 2 := (show f2 2 = f1 2 by rw [ef2]; rfl).trans hw1
  have hr2_0 : f2 0 = f 0 := (show f2 0 = f1 0 by rw [ef2]; rfl).trans hr1_0
  have hr2_1 : f2 1 = f 1 := (show f2 1 = f1 1 by rw [ef2]; rfl).trans hr1_1
  refine Exists.intro _ (And.intro md_o ?_)
  have k1 : (1 : Int32).toInt = 1 := rfl
  intro m3 em_26
  try have e3 : m3.toInt = ((v 2)).toInt + (1) := by rw [em_26]; exact pm_addc _ _ (1) rfl (by omega) (by omega)
  refine Exists.intro _ (And.intro md_o (And.intro rfl ?_))
  rw [md_p_nextMany D]
  obtain ⟨v4, ev4⟩ : ∃ z9, z9 = upd v 2 m3 := ⟨_, rfl⟩
  rw [← ev4]
  have ev4_0 : (v4 0).toInt = (v 0).toInt := by rw [ev4]; rfl
  have ev4_1 : (v4 1).toInt = (v 1).toInt := by rw [ev4]; rfl
  have ev4_2 : (v4 2).toInt = (m3).toInt := by rw [ev4]; rfl
  have ev4_3 : (v4 3).toInt = (v 3).toInt := by rw [ev4]; rfl
  have ev4_4 : (v4 4).toInt = (v 4).toInt := by rw [ev4]; rfl
  have ev4_5 : (v4 5).toInt = (v 5).toInt := by rw [ev4]; rfl
  have ev4_6 : (v4 6).toInt = (v 6).toInt := by rw [ev4]; rfl
  have ev4_7 : (v4 7).toInt = (v 7).toInt := by rw [ev4]; rfl
  have pn_27 : v4 2 = m3 := by rw [ev4]; rfl
  have hv5 : md_V v4 := by unfold md_V; omega
  exact ⟨rfl, rfl, v4, f2, rfl, rfl, hv5, hf2, hw2, hr2_0, hr2_1, by first | trivial | omega | (dsimp only; omega), by intro N hN; rw [pg_19 5 (by decide), pf_9, pf_19, pg_9 6 (by decide)]; exact rp_app hN (by omega) _ _⟩

set_option maxRecDepth 100000 in
set_option maxHeartbeats 2000000 in
theorem F_X11_laysFrom (D : md_D h q) (v : Nat → Int32) (f : Nat → Nat → Int32) (hv : md_V v) (hf : md_F f) (x1 : Int32) (x2 : Int32) (p0 : 0 ≤ x1.toInt ∧ x1.toInt ≤ 161) (p1 : x2.toInt ≤ 160) (p2 : (v 2).toInt + (x2.toInt - x1.toInt) ≤ 160) (p3 : x1.toInt ≤ x2.toInt) : pm_Mt l g 185 1 0 0 [.ref h, .int x1, .int x2] (md A0 g h q v f) (md_Qv A0 g h q f (fun v2 f2 => f2 0 = f 0 ∧ f2 1 = f 1 ∧ ((v2 0).toInt = (v 0).toInt ∧ (v2 1).toInt = (v 1).toInt ∧ (v2 3).toInt = (v 3).toInt ∧ (v2 4).toInt = (v 4).toInt ∧ (v2 6).toInt = (v 6).toInt ∧ (v2 2).toInt = (v 2).toInt + (x2.toInt - x1.toInt)) ∧ (∀ (L N : List pl_P) (a b : Int), rp (v 0) (f 0) (f 1) L → x1.toInt = a → x2.toInt = b → b ≤ (L.length : Int) → a ≤ b → rp (v 2) (f 5) (f 6) (N) → rp (v2 2) (f2 5) (f2 6) (N ++ si L a b)))) := by
  refine mt_X11_laysFrom rfl (fun J hC => ?_)
  have hv9 := hv
  unfold md_V at hv9
  have rg_x1 := pm_rng x1
  have rg_x2 := pm_rng x2
  refine hC.1 0 0 _ _ rfl _ _ _ _ _ ?_
  have lp2 : ∀ (n : Nat) (z3_2 : Int32) (v1 : Nat → Int32) (f1 : Nat → Nat → Int32), md_V v1 → md_F f1 → f1 2 = f 2 → f1 0 = f 0 → f1 1 = f 1 → (x1.toInt ≤ z3_2.toInt ∧ z3_2.toInt ≤ x2.toInt) → ((v1 2).toInt - z3_2.toInt = (v 2).toInt - x1.toInt) → (∀ L N, rp (v 0) (f 0) (f 1) L → x2.toInt ≤ (L.length : Int) → rp (v 2) (f 5) (f 6) (N) → rp (v1 2) (f1 5) (f1 6) (N ++ si L x1.toInt z3_2.toInt)) → (v1 0).toInt = (v 0).toInt → (v1 1).toInt = (v 1).toInt → (v1 3).toInt = (v 3).toInt → (v1 4).toInt = (v 4).toInt → (v1 6).toInt = (v 6).toInt → 200 - z3_2.toInt < (n : Int) → J 2 [some (.ref h), some (.int x1), some (.int x2), some (.int z3_2)] [] (md A0 g h q v1 f1) 0 0 := by
    intro n
    induction n with
    | zero =>
      intro z3_2 v1 f1 hv1 hf1 hw1 hr1_0 hr1_1 j0_2 j1_2 j2_2 j3_2 j4_2 j5_2 j6_2 j7_2 j8_2
      omega
    | succ n ih3 =>
      intro z3_2 v1 f1 hv1 hf1 hw1 hr1_0 hr1_1 j0_2 j1_2 j2_2 j3_2 j4_2 j5_2 j6_2 j7_2 j8_2
      have lr0 := hr1_0
      have lr1 := hr1_1
      refine hC.1 1 2 _ _ rfl _ _ _ _ _ ?_
      have hu4 := hv1
      unfold md_V at hu4
      refine And.intro (fun c5 => ?_) (fun c5 => ?_)
      · skip
        refine hC.1 2 29 _ _ rfl _ _ _ _ _ ?_
        exact ⟨rfl, rfl, v1, f1, rfl, rfl, hv1, hf1, hw1, hr1_0, hr1_1, by first | trivial | omega | (dsimp only; omega), by intro L N a b h1 ha hb h2 h3 h4; subst ha; subst hb; have h5 := j2_2 L N h1 h2 h4; rw [show z3_2.toInt = x2.toInt by omega] at h5; exact h5⟩
      · skip
        refine Exists.intro _ (And.intro md_o ?_)
        refine Exists.intro _ (Exists.intro _ (And.intro (Or.inl (md_a_colours D)) (And.intro (by omega) ?_)))
        have w6 : (0 : Int) ≤ (f1 0 (z3_2).toInt.toNat).toInt ∧ (f1 0 (z3_2).toInt.toNat).toInt ≤ (23 : Int) := hf1 0 _
        refine Exists.intro _ (And.intro md_o ?_)
        refine Exists.intro _ (Exists.intro _ (And.intro (Or.inl (md_a_names D)) (And.intro (by omega) ?_)))
        refine And.intro (Exists.intro _ md_o) (Exists.intro _ (Exists.intro _ (Exists.intro _ (Exists.intro _ (And.intro (F_X11_lays D v1 f1 hv1 hf1 (f1 0 (z3_2).toInt.toNat) (f1 1 (z3_2).toInt.toNat) (by omega) (by omega)) (And.intro rfl (fun r9 A9 h9 => ?_)))))))
        obtain ⟨v8, f8, rfl, rfl, hv8, hf8, hx8, hg8_0, hg8_1, by7⟩ := h9
        have hw8 : f8 2 = f 2 := hx8.trans hw1
        have hr8_0 : f8 0 = f 0 := hg8_0.trans hr1_0
        have hr8_1 : f8 1 = f 1 := hg8_1.trans hr1_1
        have hu9 := hv8
        unfold md_V at hu9
        have hb9 := by7.2
        have k1 : (1 : Int32).toInt = 1 := rfl
        intro m10 em_23
        try have e10 : m10.toInt = (z3_2).toInt + (1) := by rw [em_23]; exact pm_addc _ _ (1) rfl (by omega) (by omega)
        exact ih3 m10 v8 f8 hv8 hf8 hw8 hr8_0 hr8_1 (by omega) (by omega) (by intro L N h1 h2 h3; rw [show m10.toInt = z3_2.toInt + 1 by omega, si_s h1 (by omega) (by omega) (by omega), ← List.append_assoc]; have h4 := hb9 _ (j2_2 L N h1 h2 h3); rw [lr0, lr1] at h4; exact h4) (by omega) (by omega) (by omega) (by omega) (by omega) (by omega)
  exact lp2 (200 - x1.toInt).toNat.succ x1 v f hv hf rfl rfl rfl (by omega) (by omega) (by intro L N h1 h2 h3; rw [si_n (Int.le_refl _), List.append_nil]; exact h3) (by omega) (by omega) (by omega) (by omega) (by omega) (by omega)

set_option maxRecDepth 100000 in
set_option maxHeartbeats 2000000 in
theorem F_X11_laysNew (D : md_D h q) (v : Nat → Int32) (f : Nat → Nat → Int32) (hv : md_V v) (hf : md_F f) (x1 : Int32) (p0 : (v 2).toInt < 160) (p1 : 0 ≤ x1.toInt ∧ x1.toInt ≤ 23) (p2 : (v 3).toInt < 10000) : pm_Mt l g 186 1 0 0 [.ref h, .int x1] (md A0 g h q v f) (md_Qv A0 g h q f (fun v2 f2 => f2 0 = f 0 ∧ f2 1 = f 1 ∧ ((v2 0).toInt = (v 0).toInt ∧ (v2 1).toInt = (v 1).toInt ∧ (v2 4).toInt = (v 4).toInt ∧ (v2 6).toInt = (v 6).toInt ∧ (v2 2).toInt = (v 2).toInt + 1 ∧ (v2 3).toInt = (v 3).toInt + 1) ∧ (∀ (N : List pl_P) (g9 : Int32), (v 3).toInt = g9.toInt → rp (v 2) (f 5) (f 6) (N) → rp (v2 2) (f2 5) (f2 6) (N ++ [(x1, g9)])))) := by
  refine mt_X11_laysNew rfl (fun J hC => ?_)
  have hv9 := hv
  unfold md_V at hv9
  have rg_x1 := pm_rng x1
  refine hC.1 0 0 _ _ rfl _ _ _ _ _ ?_
  refine Exists.intro _ (And.intro md_o ?_)
  refine And.intro (Exists.intro _ md_o) (Exists.intro _ (Exists.intro _ (Exists.intro _ (Exists.intro _ (And.intro (F_X11_lays D v f hv hf x1 (v 3) (by omega) (by omega)) (And.intro rfl (fun r9 A9 h9 => ?_)))))))
  obtain ⟨v2, f2, rfl, rfl, hv2, hf2, hx2, hg2_0, hg2_1, by1⟩ := h9
  have hw2 : f2 2 = f 2 := hx2.trans rfl
  have hr2_0 : f2 0 = f 0 := hg2_0.trans rfl
  have hr2_1 : f2 1 = f 1 := hg2_1.trans rfl
  have hu3 := hv2
  unfold md_V at hu3
  have hb9 := by1.2
  refine Exists.intro _ (And.intro md_o ?_)
  have k1 : (1 : Int32).toInt = 1 := rfl
  intro m4 em_15
  try have e4 : m4.toInt = ((v2 3)).toInt + (1) := by rw [em_15]; exact pm_addc _ _ (1) rfl (by omega) (by omega)
  refine Exists.intro _ (And.intro md_o (And.intro rfl ?_))
  rw [md_p_given D]
  obtain ⟨v5, ev5⟩ : ∃ z9, z9 = upd v2 3 m4 := ⟨_, rfl⟩
  rw [← ev5]
  have ev5_0 : (v5 0).toInt = (v2 0).toInt := by rw [ev5]; rfl
  have ev5_1 : (v5 1).toInt = (v2 1).toInt := by rw [ev5]; rfl
  have ev5_2 : (v5 2).toInt = (v2 2).toInt := by rw [ev5]; rfl
  have ev5_3 : (v5 3).toInt = (m4).toInt := by rw [ev5]; rfl
  have ev5_4 : (v5 4).toInt = (v2 4).toInt := by rw [ev5]; rfl
  have ev5_5 : (v5 5).toInt = (v2 5).toInt := by rw [ev5]; rfl
  have ev5_6 : (v5 6).toInt = (v2 6).toInt := by rw [ev5]; rfl
  have ev5_7 : (v5 7).toInt = (v2 7).toInt := by rw [ev5]; rfl
  have pn_16 : v5 3 = m4 := by rw [ev5]; rfl
  have hv6 : md_V v5 := by unfold md_V; omega
  exact ⟨rfl, rfl, v5, f2, rfl, rfl, hv6, hf2, hw2, hr2_0, hr2_1, by first | trivial | omega | (dsimp only; omega), by intro N g9 hg hN; rw [← pm_eqI hg]; exact rp_n (hb9 N hN) (by omega)⟩

set_option maxRecDepth 100000 in
set_option maxHeartbeats 2000000 in
theorem F_X11_keepsRow (D : md_D h q) (v : Nat → Int32) (f : Nat → Nat → Int32) (hv : md_V v) (hf : md_F f) (x1 : Int32)  : pm_Mt l g 178 0 0 0 [.ref h, .int x1] (md A0 g h q v f) (md_Qv A0 g h q f (fun v2 f2 => f2 0 = f 0 ∧ f2 1 = f 1 ∧ (v2 0).toInt = (v 0).toInt ∧ (v2 1).toInt = (v 1).toInt ∧ (v2 2).toInt = (v 2).toInt ∧ (v2 3).toInt = (v 3).toInt ∧ (v2 4).toInt = (v 4).toInt ∧ (v2 6).toInt = (v 6).toInt)) := by
  refine mt_X11_keepsRow rfl (fun J hC => ?_)
  have hv9 := hv
  unfold md_V at hv9
  have rg_x1 := pm_rng x1
  refine hC.1 0 0 _ _ rfl _ _ _ _ _ ?_
  refine Exists.intro _ (And.intro md_o ?_)
  have k40 : (40 : Int32).toInt = 40 := rfl
  refine And.intro (by decide) ?_
  intro m1 em_6
  try have e1 := pm_rem (v 4) (40 : Int32) (by omega) (by omega)
  try rw [← em_6] at e1
  refine Exists.intro _ (And.intro md_o ?_)
  refine Exists.intro _ (And.intro md_o ?_)
  refine Exists.intro _ (Exists.intro _ (And.intro (md_a_wasMany D) (And.intro (by omega) ?_)))
  rw [md_s_wasMany D]
  obtain ⟨f2, ef2⟩ : ∃ z9, z9 = va_up f 14 (upd (f 14) (m1).toInt.toNat (v 0)) := ⟨_, rfl⟩
  rw [← ef2]
  have hf2 : md_F f2 := by rw [ef2]; exact md_F_st hf 14 _ _ (by show (0 : Int) ≤ _ ∧ _ ≤ (160 : Int); omega)
  have hw2 : f2 2 = f 2 := (show f2 2 = f 2 by rw [ef2]; rfl).trans rfl
  have hr2_0 : f2 0 = f 0 := (show f2 0 = f 0 by rw [ef2]; rfl).trans rfl
  have hr2_1 : f2 1 = f 1 := (show f2 1 = f 1 by rw [ef2]; rfl).trans rfl
  refine Exists.intro _ (And.intro md_o ?_)
  refine Exists.intro _ (Exists.intro _ (And.intro (md_a_wasTouched D) (And.intro (by omega) ?_)))
  rw [md_s_wasTouched D]
  obtain ⟨f3, ef3⟩ : ∃ z9, z9 = va_up f2 15 (upd (f2 15) (m1).toInt.toNat x1) := ⟨_, rfl⟩
  rw [← ef3]
  have hf3 : md_F f3 := by rw [ef3]; exact md_F_st hf2 15 _ _ (md_rng _ _ (by decide))
  have hw3 : f3 2 = f 2 := (show f3 2 = f2 2 by rw [ef3]; rfl).trans hw2
  have hr3_0 : f3 0 = f 0 := (show f3 0 = f2 0 by rw [ef3]; rfl).trans hr2_0
  have hr3_1 : f3 1 = f 1 := (show f3 1 = f2 1 by rw [ef3]; rfl).trans hr2_1
  have k0 : (0 : Int32).toInt = 0 := rfl
  have lp5 : ∀ (n : Nat) (z3_27 : Int32) (v4 : Nat → Int32) (f4 : Nat → Nat → Int32), md_V v4 → md_F f4 → f4 2 = f 2 → f4 0 = f 0 → f4 1 = f 1 → (0 ≤ z3_27.toInt ∧ z3_27.toInt ≤ (v 0).toInt) → (v4 0).toInt = (v 0).toInt → (v4 1).toInt = (v 1).toInt → (v4 2).toInt = (v 2).toInt → (v4 3).toInt = (v 3).toInt → (v4 4).toInt = (v 4).toInt → (v4 6).toInt = (v 6).toInt → 200 - z3_27.toInt < (n : Int) → J 27 [some (.ref h), some (.int x1), some (.int m1), some (.int z3_27)] [] (md A0 g h q v4 f4) 0 0 := by
    intro n
    induction n with
    | zero =>
      intro z3_27 v4 f4 hv4 hf4 hw4 hr4_0 hr4_1 j0_27 j1_27 j2_27 j3_27 j4_27 j5_27 j6_27 j7_27
      omega
    | succ n ih6 =>
      intro z3_27 v4 f4 hv4 hf4 hw4 hr4_0 hr4_1 j0_27 j1_27 j2_27 j3_27 j4_27 j5_27 j6_27 j7_27
      refine hC.1 1 27 _ _ rfl _ _ _ _ _ ?_
      have hu7 := hv4
      unfold md_V at hu7
      refine Exists.intro _ (And.intro md_o ?_)
      refine And.intro (fun c8 => ?_) (fun c8 => ?_)
      · skip
        refine hC.1 2 77 _ _ rfl _ _ _ _ _ ?_
        exact ⟨rfl, rfl, v4, f4, rfl, rfl, hv4, hf4, hw4, hr4_0, hr4_1, by first | trivial | omega | (dsimp only; omega)⟩
      · skip
        refine Exists.intro _ (And.intro md_o ?_)
        have k160 : (160 : Int32).toInt = 160 := rfl
        intro m9 em_43
        try have e9 : m9.toInt = (160) * (m1).toInt := by rw [em_43]; exact pm_mulk _ _ (160) rfl (by omega) (by omega)
        intro m10 em_45
        try have e10 : m10.toInt = (m9).toInt + (z3_27).toInt := by rw [em_45]; exact pm_add _ _ (by omega) (by omega)
        refine Exists.intro _ (And.intro md_o ?_)
        refine Exists.intro _ (Exists.intro _ (And.intro (Or.inl (md_a_colours D)) (And.intro (by omega) ?_)))
        have w11 : (0 : Int) ≤ (f4 0 (z3_27).toInt.toNat).toInt ∧ (f4 0 (z3_27).toInt.toNat).toInt ≤ (23 : Int) := hf4 0 _
        refine Exists.intro _ (Exists.intro _ (And.intro (md_a_wasColours D) (And.intro (by omega) ?_)))
        rw [md_s_wasColours D]
        obtain ⟨f12, ef12⟩ : ∃ z9, z9 = va_up f4 12 (upd (f4 12) (m10).toInt.toNat (f4 0 (z3_27).toInt.toNat)) := ⟨_, rfl⟩
        rw [← ef12]
        have hf12 : md_F f12 := by rw [ef12]; exact md_F_st hf4 12 _ _ (by show (0 : Int) ≤ _ ∧ _ ≤ (23 : Int); omega)
        have hw12 : f12 2 = f 2 := (show f12 2 = f4 2 by rw [ef12]; rfl).trans hw4
        have hr12_0 : f12 0 = f 0 := (show f12 0 = f4 0 by rw [ef12]; rfl).trans hr4_0
        have hr12_1 : f12 1 = f 1 := (show f12 1 = f4 1 by rw [ef12]; rfl).trans hr4_1
        refine Exists.intro _ (And.intro md_o ?_)
        intro m13 em_61
        try have e13 : m13.toInt = (160) * (m1).toInt := by rw [em_61]; exact pm_mulk _ _ (160) rfl (by omega) (by omega)
        intro m14 em_63
        try have e14 : m14.toInt = (m13).toInt + (z3_27).toInt := by rw [em_63]; exact pm_add _ _ (by omega) (by omega)
        refine Exists.intro _ (And.intro md_o ?_)
        refine Exists.intro _ (Exists.intro _ (And.intro (Or.inl (md_a_names D)) (And.intro (by omega) ?_)))
        refine Exists.intro _ (Exists.intro _ (And.intro (md_a_wasNames D) (And.intro (by omega) ?_)))
        rw [md_s_wasNames D]
        obtain ⟨f15, ef15⟩ : ∃ z9, z9 = va_up f12 13 (upd (f12 13) (m14).toInt.toNat (f12 1 (z3_27).toInt.toNat)) := ⟨_, rfl⟩
        rw [← ef15]
        have hf15 : md_F f15 := by rw [ef15]; exact md_F_st hf12 13 _ _ (md_rng _ _ (by decide))
        have hw15 : f15 2 = f 2 := (show f15 2 = f12 2 by rw [ef15]; rfl).trans hw12
        have hr15_0 : f15 0 = f 0 := (show f15 0 = f12 0 by rw [ef15]; rfl).trans hr12_0
        have hr15_1 : f15 1 = f 1 := (show f15 1 = f12 1 by rw [ef15]; rfl).trans hr12_1
        have k1 : (1 : Int32).toInt = 1 := rfl
        intro m16 em_71
        try have e16 : m16.toInt = (z3_27).toInt + (1) := by rw [em_71]; exact pm_addc _ _ (1) rfl (by omega) (by omega)
        exact ih6 m16 v4 f15 hv4 hf15 hw15 hr15_0 hr15_1 (by omega) (by omega) (by omega) (by omega) (by omega) (by omega) (by omega) (by omega)
  exact lp5 (200 - (0 : Int32).toInt).toNat.succ (0 : Int32) v f3 hv hf3 hw3 hr3_0 hr3_1 (by omega) (by omega) (by omega) (by omega) (by omega) (by omega) (by omega) (by omega)

end
