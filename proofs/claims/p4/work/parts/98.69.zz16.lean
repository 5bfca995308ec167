section
variable {l : Launch} {g : pm_G} {A0 : pm_H} {K nn dn : Nat} {q : Nat → Nat} {w : Nat → Int32} {e : Nat → Nat → Int32} {v : Nat → Int32} {f : Nat → Nat → Int32}
set_option maxRecDepth 100000 in
set_option maxHeartbeats 2000000 in
theorem F_X9_keepThoseOf_l5 (hI : cw_I K nn dn q w e) (hs : cw_S v f) (x1 : Int32) (x2 : Int32) (x3 : Int32) (p0 : 0 ≤ x1.toInt ∧ x1.toInt ≤ 23) : pm_Mt l g 33 4 0 0 [.ref (q 1), .int x1, .int x2, .int x3] (cw A0 g K nn dn q w e v f) (cw_Qt A0 g K nn dn q (fun r w2 e2 => e2 15 = e 15 ∧ (r = none ∧ (((w2 0).toInt = (w 0).toInt ∧ (w2 1).toInt = (w 1).toInt ∧ (w2 3).toInt = (w 3).toInt) ∧ ((∀ i9, 40 ≤ i9 → (i9 < dn ∨ dn + 4 ≤ i9) → w2 i9 = w i9 ∧ e2 i9 = e i9) ∧ ∀ (L D : List pl_P) (a b : Int), rp (w nn) (e (nn + 1)) (e (nn + 2)) (L) → nn ≠ dn → x2.toInt = a → x3.toInt + 1 = b → 0 ≤ a → a ≤ b → b ≤ (L.length : Int) → (D.length : Int) + (((si L a b).filter (fun p => decide (p.1.toInt = x1.toInt))).length : Int) ≤ 160 → rp (w dn) (e (dn + 1)) (e (dn + 2)) (D) → rp (w2 dn) (e2 (dn + 1)) (e2 (dn + 2)) (D ++ (si L a b).filter (fun p => decide (p.1.toInt = x1.toInt)))))))) := by
  refine mt_X9_keepThoseOf rfl (fun J hC => ?_)
  have ro_nn : cw_ro K nn := hI.2.1.2.1
  have ro_dn : cw_ro K dn := hI.2.1.2.2.1
  have hu1 := hI.2.1
  unfold cw_W at hu1
  have zs2 := cw_sz hI ro_nn
  have zs3 := cw_sz hI ro_dn
  have rg_x1 := pm_rng x1
  have rg_x2 := pm_rng x2
  have rg_x3 := pm_rng x3
  refine hC.1 0 0 _ _ rfl _ _ _ _ _ ?_
  have lp5 : ∀ (n : Nat) (z4_3 : Int32) (w4 : Nat → Int32) (e4 : Nat → Nat → Int32) (v4 : Nat → Int32) (f4 : Nat → Nat → Int32), cw_I K nn dn q w4 e4 → e4 15 = e 15 → cw_S v4 f4 → ((∀ i9, 40 ≤ i9 → (i9 < dn ∨ dn + 4 ≤ i9) → w4 i9 = w i9 ∧ e4 i9 = e i9)) → (∀ L D, rp (w nn) (e (nn + 1)) (e (nn + 2)) (L) → nn ≠ dn → 0 ≤ x2.toInt → x2.toInt ≤ x3.toInt + 1 → x3.toInt + 1 ≤ (L.length : Int) → (D.length : Int) + (((si L x2.toInt (x3.toInt + 1)).filter (fun p => decide (p.1.toInt = x1.toInt))).length : Int) ≤ 160 → rp (w dn) (e (dn + 1)) (e (dn + 2)) (D) → (x2.toInt ≤ z4_3.toInt ∧ z4_3.toInt ≤ x3.toInt + 1) ∧ rp (w4 dn) (e4 (dn + 1)) (e4 (dn + 2)) (D ++ (si L x2.toInt z4_3.toInt).filter (fun p => decide (p.1.toInt = x1.toInt)))) → (w4 0).toInt = (w 0).toInt → (w4 1).toInt = (w 1).toInt → (w4 3).toInt = (w 3).toInt → ((200 - z4_3.toInt).toNat : Int) < (n : Int) → J 3 [some (.ref (q 1)), some (.int x1), some (.int x2), some (.int x3), some (.int z4_3)] [] (cw A0 g K nn dn q w4 e4 v4 f4) 0 0 := by
    intro n
    induction n with
    | zero =>
      intro z4_3 w4 e4 v4 f4 hI4 hx4 hs4 j0_3 j1_3 j2_3 j3_3 j4_3 j5_3
      omega
    | succ n ih6 =>
      intro z4_3 w4 e4 v4 f4 hI4 hx4 hs4 j0_3 j1_3 j2_3 j3_3 j4_3 j5_3
      have hu7 := hI4.2.1
      unfold cw_W at hu7
      have zs8 := cw_sz hI4 ro_nn
      have zs9 := cw_sz hI4 ro_dn
      refine hC.1 1 3 _ _ rfl _ _ _ _ _ ?_
      refine And.intro (fun c10 => ?_) (fun c10 => ?_)
      · skip
        refine hC.1 3 48 _ _ rfl _ _ _ _ _ ?_
        exact ⟨rfl, rfl, w4, e4, v4, f4, rfl, hI4, hs4, hx4, rfl, by first | omega | (dsimp only; omega) | trivial, by exact ⟨j0_3, fun L D a b h1 h2 ha hb h3 h4 h5 h6 h7 => (by subst ha; subst hb; have hl := h1.1; obtain ⟨r1, r2⟩ := j1_3 L D h1 h2 h3 h4 h5 h6 h7; have hn1 := ro_nn; have hd1 := ro_dn; unfold cw_ro at hn1 hd1; have hw9 := congrArg Int32.toInt (j0_3 nn (by omega) (by omega)).1; rw [show x3.toInt + 1 = z4_3.toInt by omega]; exact r2)⟩⟩
      · skip
        refine Exists.intro _ (And.intro (cw_o1 hI4.1) ?_)
        refine And.intro (Exists.intro _ (cw_ro_o hI4.1 ro_nn)) (Exists.intro _ (Exists.intro _ (Exists.intro _ (Exists.intro _ (And.intro (c_X7_has hI4 hs4 ro_nn z4_3 ) (And.intro rfl (fun r9 A9 h9 => ?_)))))))
        rcases h9 with ⟨y11, rfl, rfl, ⟨rfl, by11⟩ | ⟨rfl, by11⟩⟩
        · skip
          have k1 : (1 : Int32).toInt = 1 := rfl
          refine And.intro (fun c9 => absurd c9 (by decide)) (fun _ => ?_)
          refine Exists.intro _ (And.intro (cw_o1 hI4.1) ?_)
          refine Exists.intro _ (And.intro (cw_ro_o hI4.1 ro_nn) ?_)
          refine Exists.intro _ (Exists.intro _ (And.intro (Or.inl (cw_ro_1 hI4.1 ro_nn)) (And.intro (by omega) ?_)))
          have w13 := cw_col hI4 ro_nn (z4_3).toInt.toNat
          refine And.intro (fun c14 => ?_) (fun c14 => ?_)
          · skip
            have dc14 := pm_neI c14
            refine hC.1 2 42 _ _ rfl _ _ _ _ _ ?_
            intro m15 em_42
            try have e15 : m15.toInt = (z4_3).toInt + (1) := by rw [em_42]; exact pm_addc _ _ (1) rfl (by omega) (by omega)
            exact ih6 m15 w4 e4 v4 f4 hI4 hx4 hs4 (by first | exact fun i9 h91 h92 => ⟨(hb_39.1 i9 h91 h92).1.trans (j0_3 i9 h91 h92).1, (hb_39.1 i9 h91 h92).2.trans (j0_3 i9 h91 h92).2⟩ | exact j0_3) (by first | (intro L D h1 h2 h3 h4 h5 h6 h7; have hl := h1.1; obtain ⟨r1, r2⟩ := j1_3 L D h1 h2 h3 h4 h5 h6 h7; refine ⟨by omega, ?_⟩; have hn1 := ro_nn; have hd1 := ro_dn; unfold cw_ro at hn1 hd1; have en1 := (j0_3 (nn + 1) (by omega) (by omega)).2; have en2 := (j0_3 (nn + 2) (by omega) (by omega)).2; have hcc : (e (nn + 1) z4_3.toInt.toNat).toInt = x1.toInt := (by rw [← en1]; assumption); have hwn := (j0_3 nn (by omega) (by omega)).1; have h1b := rp_fr h1 (congrArg Int32.toInt hwn) en1 en2; have hs9 := si_s h1 h3 r1.1 (show z4_3.toInt < (L.length : Int) by omega); have hp9 := fl_len (L := L) (a := x2.toInt) (z := z4_3.toInt + 1) (b := x3.toInt + 1) (c := x1.toInt) h3 (by omega) (by omega) h5; rw [hs9, fl_y hcc, List.length_append] at hp9; have hp8 : ([(e (nn + 1) z4_3.toInt.toNat, e (nn + 2) z4_3.toInt.toNat)] : List pl_P).length = 1 := rfl; have h8 := hb_39.2 L _ h1b h2 (by omega) (by omega) (by rw [List.length_append]; omega) r2; rw [show m15.toInt = z4_3.toInt + 1 by omega, hs9, fl_y hcc, ← List.append_assoc]; rw [en2] at h8; rw [pm_eqI hcc]; exact h8) | (intro L D h1 h2 h3 h4 h5 h6 h7; have hl := h1.1; obtain ⟨r1, r2⟩ := j1_3 L D h1 h2 h3 h4 h5 h6 h7; refine ⟨by omega, ?_⟩; have hn1 := ro_nn; have hd1 := ro_dn; unfold cw_ro at hn1 hd1; have en1 := (j0_3 (nn + 1) (by omega) (by omega)).2; have hcc : ¬ (e (nn + 1) z4_3.toInt.toNat).toInt = x1.toInt := (by rw [← en1]; assumption); have hs9 := si_s h1 h3 r1.1 (show z4_3.toInt < (L.length : Int) by have := congrArg Int32.toInt (j0_3 nn (by omega) (by omega)).1; omega); rw [show m15.toInt = z4_3.toInt + 1 by omega, hs9, fl_n hcc]; exact r2)) (by omega) (by omega) (by omega) (by omega)
          · skip
            have dc14 : ((e4 (nn + 1) (z4_3).toInt.toNat)).toInt = (x1 : Int32).toInt := congrArg Int32.toInt c14
            refine And.intro (Exists.intro _ (cw_o1 hI4.1)) (Exists.intro _ (Exists.intro _ (Exists.intro _ (Exists.intro _ (And.intro (F_X9_keepAs hI4 hs4 z4_3 x1 (by omega)) (And.intro rfl (fun r9 A9 h9 => ?_)))))))
            rcases h9 with ⟨w17, e17, v17, f17, rfl, hI17, hs17, hy17, rfl, by16⟩
            have hx17 : e17 15 = e 15 := hy17.trans hx4
            have zs18 := cw_sz hI17 ro_nn
            have zs19 := cw_sz hI17 ro_dn
            have hb_39 := by16.2
            have sw17_0 : (w17 0).toInt = (w4 0).toInt := by16.1.1
            have sw17_1 : (w17 1).toInt = (w4 1).toInt := by16.1.2.1
            have sw17_3 : (w17 3).toInt = (w4 3).toInt := by16.1.2.2
            clear by16
            refine hC.1 2 42 _ _ rfl _ _ _ _ _ ?_
            intro m20 em_42
            try have e20 : m20.toInt = (z4_3).toInt + (1) := by rw [em_42]; exact pm_addc _ _ (1) rfl (by omega) (by omega)
            exact ih6 m20 w17 e17 v17 f17 hI17 hx17 hs17 (by first | exact fun i9 h91 h92 => ⟨(hb_39.1 i9 h91 h92).1.trans (j0_3 i9 h91 h92).1, (hb_39.1 i9 h91 h92).2.trans (j0_3 i9 h91 h92).2⟩ | exact j0_3) (by first | (intro L D h1 h2 h3 h4 h5 h6 h7; have hl := h1.1; obtain ⟨r1, r2⟩ := j1_3 L D h1 h2 h3 h4 h5 h6 h7; refine ⟨by omega, ?_⟩; have hn1 := ro_nn; have hd1 := ro_dn; unfold cw_ro at hn1 hd1; have en1 := (j0_3 (nn + 1) (by omega) (by omega)).2; have en2 := (j0_3 (nn + 2) (by omega) (by omega)).2; have hcc : (e (nn + 1) z4_3.toInt.toNat).toInt = x1.toInt := (by rw [← en1]; assumption); have hwn := (j0_3 nn (by omega) (by omega)).1; have h1b := rp_fr h1 (congrArg Int32.toInt hwn) en1 en2; have hs9 := si_s h1 h3 r1.1 (show z4_3.toInt < (L.length : Int) by omega); have hp9 := fl_len (L := L) (a := x2.toInt) (z := z4_3.toInt + 1) (b := x3.toInt + 1) (c := x1.toInt) h3 (by omega) (by omega) h5; rw [hs9, fl_y hcc, List.length_append] at hp9; have hp8 : ([(e (nn + 1) z4_3.toInt.toNat, e (nn + 2) z4_3.toInt.toNat)] : List pl_P).length = 1 := rfl; have h8 := hb_39.2 L _ h1b h2 (by omega) (by omega) (by rw [List.length_append]; omega) r2; rw [show m20.toInt = z4_3.toInt + 1 by omega, hs9, fl_y hcc, ← List.append_assoc]; rw [en2] at h8; rw [pm_eqI hcc]; exact h8) | (intro L D h1 h2 h3 h4 h5 h6 h7; have hl := h1.1; obtain ⟨r1, r2⟩ := j1_3 L D h1 h2 h3 h4 h5 h6 h7; refine ⟨by omega, ?_⟩; have hn1 := ro_nn; have hd1 := ro_dn; unfold cw_ro at hn1 hd1; have en1 := (j0_3 (nn + 1) (by omega) (by omega)).2; have hcc : ¬ (e (nn + 1) z4_3.toInt.toNat).toInt = x1.toInt := (by rw [← en1]; assumption); have hs9 := si_s h1 h3 r1.1 (show z4_3.toInt < (L.length : Int) by have := congrArg Int32.toInt (j0_3 nn (by omega) (by omega)).1; omega); rw [show m20.toInt = z4_3.toInt + 1 by omega, hs9, fl_n hcc]; exact r2)) (by omega) (by omega) (by omega) (by omega)
        · skip
          have k0 : (0 : Int32).toInt = 0 := rfl
          refine And.intro (fun _ => ?_) (fun c9 => absurd c9 (by decide))
          refine hC.1 3 48 _ _ rfl _ _ _ _ _ ?_
          exact ⟨rfl, rfl, w4, e4, v4, f4, rfl, hI4, hs4, hx4, rfl, by first | omega | (dsimp only; omega) | trivial, by exact ⟨j0_3, fun L D a b h1 h2 ha hb h3 h4 h5 h6 h7 => (by subst ha; subst hb; have hl := h1.1; obtain ⟨r1, r2⟩ := j1_3 L D h1 h2 h3 h4 h5 h6 h7; have hn1 := ro_nn; have hd1 := ro_dn; unfold cw_ro at hn1 hd1; have hw9 := congrArg Int32.toInt (j0_3 nn (by omega) (by omega)).1; rw [show x3.toInt + 1 = z4_3.toInt by omega]; exact r2)⟩⟩
  exact lp5 (((200 - x2.toInt).toNat : Int)).toNat.succ x2 w e v f hI rfl hs (by exact fun _ _ _ => ⟨rfl, rfl⟩) (by intro L D h1 h2 h3 h4 h5 h6 h7; refine ⟨by omega, ?_⟩; rw [si_n (L := L) (a := x2.toInt) (b := x2.toInt) (Int.le_refl _)]; show rp _ _ _ (D ++ []); rw [List.append_nil]; exact h7) (by omega) (by omega) (by omega) (by omega)
end
