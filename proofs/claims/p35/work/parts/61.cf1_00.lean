section
section
variable {l : Launch} {g : pm_G} {A0 : pm_H} {K nn dn : Nat} {q : Nat → Nat} {w : Nat → Int32} {e : Nat → Nat → Int32} {v : Nat → Int32} {f : Nat → Nat → Int32}
set_option maxRecDepth 100000 in
set_option maxHeartbeats 2000000 in
theorem F_X10_areUnlikeColours (A : pm_H) (x0 : Int32) (x1 : Int32)  : pm_Mt l g 38 1 0 0 [.int x0, .int x1] A (md_Qp A (fun r => (r = 1 ∧ ((0 ≤ x0.toInt ∧ x0.toInt < 24) ∧ (0 ≤ x1.toInt ∧ x1.toInt < 24) ∧ x0.toInt ≠ x1.toInt)) ∨ (r = 0 ∧ (¬ ((0 ≤ x0.toInt ∧ x0.toInt < 24) ∧ (0 ≤ x1.toInt ∧ x1.toInt < 24) ∧ x0.toInt ≠ x1.toInt))))) := by
  refine mt_X10_areUnlikeColours rfl (fun J hC => ?_)
  have rg_x0 := pm_rng x0
  have rg_x1 := pm_rng x1
  refine hC.1 0 0 _ _ rfl _ _ _ _ _ ?_
  refine Exists.intro _ (Exists.intro _ (Exists.intro _ (Exists.intro _ (And.intro (c_X10_isColour A x0 ) (And.intro rfl (fun r9 A1 h9 => ?_))))))
  rcases h9 with ⟨y2, rfl, rfl, ⟨rfl, by2⟩ | ⟨rfl, by2⟩⟩
  · skip
    have k1 : (1 : Int32).toInt = 1 := rfl
    refine And.intro (fun c9 => absurd c9 (by decide)) (fun _ => ?_)
    refine Exists.intro _ (Exists.intro _ (Exists.intro _ (Exists.intro _ (And.intro (c_X10_isColour A1 x1 ) (And.intro rfl (fun r9 A4 h9 => ?_))))))
    rcases h9 with ⟨y5, rfl, rfl, ⟨rfl, by5⟩ | ⟨rfl, by5⟩⟩
    · skip
      refine And.intro (fun c9 => absurd c9 (by decide)) (fun _ => ?_)
      refine And.intro (fun c7 => ?_) (fun c7 => ?_)
      · skip
        have dc7 : (x0).toInt = (x1 : Int32).toInt := congrArg Int32.toInt c7
        refine hC.1 1 23 _ _ rfl _ _ _ _ _ ?_
        have k0 : (0 : Int32).toInt = 0 := rfl
        refine hC.1 2 24 _ _ rfl _ _ _ _ _ ?_
        exact ⟨rfl, fun _ => (by decide), rfl, (0 : Int32), rfl, rfl, Or.inr ⟨rfl, by first | omega | (dsimp only; omega) | trivial⟩⟩
      · skip
        have dc7 := pm_neI c7
        refine hC.1 2 24 _ _ rfl _ _ _ _ _ ?_
        exact ⟨rfl, fun _ => (by decide), rfl, (1 : Int32), rfl, rfl, Or.inl ⟨rfl, by first | omega | (dsimp only; omega) | trivial⟩⟩
    · skip
      have k0 : (0 : Int32).toInt = 0 := rfl
      refine And.intro (fun _ => ?_) (fun c9 => absurd c9 (by decide))
      refine hC.1 1 23 _ _ rfl _ _ _ _ _ ?_
      refine hC.1 2 24 _ _ rfl _ _ _ _ _ ?_
      exact ⟨rfl, fun _ => (by decide), rfl, (0 : Int32), rfl, rfl, Or.inr ⟨rfl, by first | omega | (dsimp only; omega) | trivial⟩⟩
  · skip
    have k0 : (0 : Int32).toInt = 0 := rfl
    refine And.intro (fun _ => ?_) (fun c9 => absurd c9 (by decide))
    refine hC.1 1 23 _ _ rfl _ _ _ _ _ ?_
    refine hC.1 2 24 _ _ rfl _ _ _ _ _ ?_
    exact ⟨rfl, fun _ => (by decide), rfl, (0 : Int32), rfl, rfl, Or.inr ⟨rfl, by first | omega | (dsimp only; omega) | trivial⟩⟩

set_option maxRecDepth 100000 in
set_option maxHeartbeats 2000000 in
theorem F_X9_append (hI : cw_I K nn dn q w e) (hs : cw_S v f) (x1 : Int32) (x2 : Int32) (x3 : Int32) (p0 : 0 ≤ x1.toInt ∧ x1.toInt ≤ 23) : pm_Mt l g 22 0 0 0 [.ref (q 1), .int x1, .int x2, .int x3] (cw A0 g K nn dn q w e v f) (cw_Qt A0 g K nn dn q (fun r w2 e2 => e2 15 = e 15 ∧ (r = none ∧ (((w2 0).toInt = (w 0).toInt ∧ (w2 1).toInt = (w 1).toInt ∧ (w2 3).toInt = (w 3).toInt) ∧ ((∀ i9, 40 ≤ i9 → (i9 < dn ∨ dn + 4 ≤ i9) → w2 i9 = w i9 ∧ e2 i9 = e i9) ∧ ∀ D, rp (w dn) (e (dn + 1)) (e (dn + 2)) (D) → (D.length : Int) < 160 → rp (w2 dn) (e2 (dn + 1)) (e2 (dn + 2)) (D ++ [(x1, x2)])))))) := by
  refine mt_X9_append rfl (fun J hC => ?_)
  have ro_nn : cw_ro K nn := hI.2.1.2.1
  have ro_dn : cw_ro K dn := hI.2.1.2.2.1
  have hu1 := hI.2.1
  unfold cw_W at hu1
  have zs2 := cw_sz hI ro_nn
  have zs3 := cw_sz hI ro_dn
  have rg_x1 := pm_rng x1
  have rg_x2 := pm_rng x2
  have rg_x3 := pm_rng x3
  refine hC.1 0 0 _ _ rfl _ _ _ _ _ ?_
  refine Exists.intro _ (And.intro (cw_o1 hI.1) ?_)
  refine Exists.intro _ (And.intro (cw_ro_o hI.1 ro_dn) ?_)
  have z4 := cw_sz hI ro_dn
  refine And.intro (fun c5 => ?_) (fun c5 => ?_)
  · skip
    refine hC.1 1 22 _ _ rfl _ _ _ _ _ ?_
    exact ⟨rfl, rfl, w, e, v, f, rfl, hI, hs, rfl, rfl, by first | omega | (dsimp only; omega) | trivial, by exact ⟨fun _ _ _ => ⟨rfl, rfl⟩, fun D hD hlen => absurd hD.1 (by omega)⟩⟩
  · skip
    have k160 : (160 : Int32).toInt = 160 := rfl
    refine And.intro (fun c6 => ?_) (fun c6 => ?_)
    · skip
      refine hC.1 2 23 _ _ rfl _ _ _ _ _ ?_
      refine Exists.intro _ (And.intro (cw_o1 hI.1) ?_)
      refine Exists.intro _ (And.intro (cw_ro_o hI.1 ro_dn) ?_)
      have hb7 := ro_dn
      unfold cw_ro at hb7
      refine Exists.intro _ (Exists.intro _ (And.intro (cw_ro_1 hI.1 ro_dn) (And.intro (by omega) ?_)))
      rw [cw_sr_1 hI.1 ro_dn]
      obtain ⟨e8, ee8⟩ : ∃ z9, z9 = va_up e (dn + 1) (upd (e (dn + 1)) ((w dn)).toInt.toNat x1) := ⟨_, rfl⟩
      rw [← ee8]
      have hI8 : cw_I K nn dn q w e8 := ⟨hI.1, hI.2.1, hI.2.2.1, by rw [ee8]; exact cw_E_1 hI.2.2.2 (by omega) _ _ (by omega)⟩
      have hx8 : e8 15 = e 15 := (show e8 15 = e 15 by rw [ee8]; exact if_neg (by omega)).trans rfl
      have pe_33 := ee8
      refine Exists.intro _ (And.intro (cw_o1 hI8.1) ?_)
      refine Exists.intro _ (And.intro (cw_ro_o hI8.1 ro_dn) ?_)
      have hb9 := ro_dn
      unfold cw_ro at hb9
      refine Exists.intro _ (Exists.intro _ (And.intro (cw_ro_2 hI8.1 ro_dn) (And.intro (by omega) ?_)))
      rw [cw_sr_2 hI8.1 ro_dn]
      obtain ⟨e10, ee10⟩ : ∃ z9, z9 = va_up e8 (dn + 2) (upd (e8 (dn + 2)) ((w dn)).toInt.toNat x2) := ⟨_, rfl⟩
      rw [← ee10]
      have hI10 : cw_I K nn dn q w e10 := ⟨hI8.1, hI8.2.1, hI8.2.2.1, by rw [ee10]; exact cw_E_2 hI8.2.2.2 (by omega) _⟩
      have hx10 : e10 15 = e 15 := (show e10 15 = e8 15 by rw [ee10]; exact if_neg (by omega)).trans hx8
      have pe_44 := ee10
      refine Exists.intro _ (And.intro (cw_o1 hI10.1) ?_)
      refine Exists.intro _ (Exists.intro _ (And.intro (cw_a12 hI10.1) (And.intro (by omega) ?_)))
      rw [cw_s12 hI10.1]
      obtain ⟨f11, ef11⟩ : ∃ z9, z9 = va_up f 12 (upd (f 12) ((w dn)).toInt.toNat x3) := ⟨_, rfl⟩
      rw [← ef11]
      have hs11 : cw_S v f11 := by rw [ef11]; exact cw_S_fr hs _ _ (by decide) (by decide)
      refine Exists.intro _ (And.intro (cw_o1 hI10.1) ?_)
      have k1 : (1 : Int32).toInt = 1 := rfl
      intro m12 em_60
      try have e12 : m12.toInt = ((w dn)).toInt + (1) := by rw [em_60]; exact pm_addc _ _ (1) rfl (by omega) (by omega)
      have hb13 := ro_dn
      unfold cw_ro at hb13
      refine Exists.intro _ (And.intro (cw_ro_o hI10.1 ro_dn) (And.intro rfl ?_))
      rw [cw_p_size hI10.1 ro_dn]
      obtain ⟨w14, ew14⟩ : ∃ z9, z9 = upd w dn m12 := ⟨_, rfl⟩
      rw [← ew14]
      have ew14_0 : (w14 0).toInt = (w 0).toInt := by rw [ew14, pk_un (by omega)]
      have ew14_1 : (w14 1).toInt = (w 1).toInt := by rw [ew14, pk_un (by omega)]
      have ew14_2 : (w14 2).toInt = (w 2).toInt := by rw [ew14, pk_un (by omega)]
      have ew14_3 : (w14 3).toInt = (w 3).toInt := by rw [ew14, pk_un (by omega)]
      have pn_61 : w14 dn = m12 := by rw [ew14, pk_us]
      have pw_61 := ew14
      have hZ14 : cw_Z w14 := by rw [ew14]; exact cw_Z_up hI10.2.2.1 _ _ (by omega)
      have hI14 : cw_I K nn dn q w14 e10 := ⟨hI10.1, by unfold cw_W; omega, hZ14, hI10.2.2.2⟩
      exact ⟨rfl, rfl, w14, e10, v, f11, rfl, hI14, hs11, hx10, rfl, by first | omega | (dsimp only; omega) | trivial, by exact ⟨fun i9 h91 h92 => ⟨by rw [pw_61, pk_un (by omega)], by rw [pe_44, va_un (by omega), pe_33, va_un (by omega)]⟩, fun D hD hlen => (by rw [pw_61, pk_us, pe_44, va_un (by omega), va_us, pe_33, va_us, va_un (by omega)]; exact rp_app hD (by omega) _ _)⟩⟩
    · skip
      refine hC.1 1 22 _ _ rfl _ _ _ _ _ ?_
      exact ⟨rfl, rfl, w, e, v, f, rfl, hI, hs, rfl, rfl, by first | omega | (dsimp only; omega) | trivial, by exact ⟨fun _ _ _ => ⟨rfl, rfl⟩, fun D hD hlen => absurd hD.1 (by omega)⟩⟩

set_option maxRecDepth 100000 in
set_option maxHeartbeats 2000000 in
theorem F_X9_keep (hI : cw_I K nn dn q w e) (hs : cw_S v f) (x1 : Int32) (x2 : Int32)  : pm_Mt l g 18 3 0 0 [.ref (q 1), .int x1, .int x2] (cw A0 g K nn dn q w e v f) (cw_Qt A0 g K nn dn q (fun r w2 e2 => e2 15 = e 15 ∧ (r = none ∧ (((w2 0).toInt = (w 0).toInt ∧ (w2 1).toInt = (w 1).toInt ∧ (w2 3).toInt = (w 3).toInt) ∧ ((∀ i9, 40 ≤ i9 → (i9 < dn ∨ dn + 4 ≤ i9) → w2 i9 = w i9 ∧ e2 i9 = e i9) ∧ ∀ (L D : List pl_P) (a b : Int), rp (w nn) (e (nn + 1)) (e (nn + 2)) (L) → nn ≠ dn → x1.toInt = a → x2.toInt + 1 = b → 0 ≤ a → a ≤ b → b ≤ (L.length : Int) → (D.length : Int) + (b - a) ≤ 160 → rp (w dn) (e (dn + 1)) (e (dn + 2)) (D) → rp (w2 dn) (e2 (dn + 1)) (e2 (dn + 2)) (D ++ si L a b)))))) := by
  refine mt_X9_keep rfl (fun J hC => ?_)
  have ro_nn : cw_ro K nn := hI.2.1.2.1
  have ro_dn : cw_ro K dn := hI.2.1.2.2.1
  have hu1 := hI.2.1
  unfold cw_W at hu1
  have zs2 := cw_sz hI ro_nn
  have zs3 := cw_sz hI ro_dn
  have rg_x1 := pm_rng x1
  have rg_x2 := pm_rng x2
  refine hC.1 0 0 _ _ rfl _ _ _ _ _ ?_
  have lp5 : ∀ (n : Nat) (z3_2 : Int32) (w4 : Nat → Int32) (e4 : Nat → Nat → Int32) (v4 : Nat → Int32) (f4 : Nat → Nat → Int32), cw_I K nn dn q w4 e4 → e4 15 = e 15 → cw_S v4 f4 → ((∀ i9, 40 ≤ i9 → (i9 < dn ∨ dn + 4 ≤ i9) → w4 i9 = w i9 ∧ e4 i9 = e i9)) → (∀ L D, rp (w nn) (e (nn + 1)) (e (nn + 2)) (L) → nn ≠ dn → 0 ≤ x1.toInt → x1.toInt ≤ x2.toInt + 1 → x2.toInt + 1 ≤ (L.length : Int) → (D.length : Int) + (x2.toInt + 1 - x1.toInt) ≤ 160 → rp (w dn) (e (dn + 1)) (e (dn + 2)) (D) → (x1.toInt ≤ z3_2.toInt ∧ z3_2.toInt ≤ x2.toInt + 1) ∧ rp (w4 dn) (e4 (dn + 1)) (e4 (dn + 2)) (D ++ si L x1.toInt z3_2.toInt)) → (w4 0).toInt = (w 0).toInt → (w4 1).toInt = (w 1).toInt → (w4 3).toInt = (w 3).toInt → ((200 - z3_2.toInt).toNat : Int) < (n : Int) → J 2 [some (.ref (q 1)), some (.int x1), some (.int x2), some (.int z3_2)] [] (cw A0 g K nn dn q w4 e4 v4 f4) 0 0 := by
    intro n
    induction n with
    | zero =>
      intro z3_2 w4 e4 v4 f4 hI4 hx4 hs4 j0_2 j1_2 j2_2 j3_2 j4_2 j5_2
      omega
    | succ n ih6 =>
      intro z3_2 w4 e4 v4 f4 hI4 hx4 hs4 j0_2 j1_2 j2_2 j3_2 j4_2 j5_2
      have hu7 := hI4.2.1
      unfold cw_W at hu7
      have zs8 := cw_sz hI4 ro_nn
      have zs9 := cw_sz hI4 ro_dn
      refine hC.1 1 2 _ _ rfl _ _ _ _ _ ?_
      refine And.intro (fun c10 => ?_) (fun c10 => ?_)
      · skip
        refine hC.1 2 54 _ _ rfl _ _ _ _ _ ?_
        exact ⟨rfl, rfl, w4, e4, v4, f4, rfl, hI4, hs4, hx4, rfl, by first | omega | (dsimp only; omega) | trivial, by exact ⟨j0_2, fun L D a b h1 h2 ha hb h3 h4 h5 h6 h7 => (by have hl := h1.1; obtain ⟨r1, r2⟩ := j1_2 L D h1 h2 (by omega) (by omega) (by omega) (by omega) h7; have hn1 := ro_nn; have hd1 := ro_dn; unfold cw_ro at hn1 hd1; have hw9 := congrArg Int32.toInt (j0_2 nn (by omega) (by omega)).1; rw [show a = x1.toInt by omega, show b = z3_2.toInt by omega]; exact r2)⟩⟩
      · skip
        refine Exists.intro _ (And.intro (cw_o1 hI4.1) ?_)
        refine And.intro (Exists.intro _ (cw_ro_o hI4.1 ro_nn)) (Exists.intro _ (Exists.intro _ (Exists.intro _ (Exists.intro _ (And.intro (c_X7_has hI4 hs4 ro_nn z3_2 ) (And.intro rfl (fun r9 A9 h9 => ?_)))))))
        rcases h9 with ⟨y11, rfl, rfl, ⟨rfl, by11⟩ | ⟨rfl, by11⟩⟩
        · skip
          have k1 : (1 : Int32).toInt = 1 := rfl
          refine And.intro (fun c9 => absurd c9 (by decide)) (fun _ => ?_)
          refine Exists.intro _ (And.intro (cw_o1 hI4.1) ?_)
          refine Exists.intro _ (And.intro (cw_ro_o hI4.1 ro_nn) ?_)
          refine Exists.intro _ (Exists.intro _ (And.intro (Or.inl (cw_ro_1 hI4.1 ro_nn)) (And.intro (by omega) ?_)))
          have w13 := cw_col hI4 ro_nn (z3_2).toInt.toNat
          refine Exists.intro _ (And.intro (cw_o1 hI4.1) ?_)
          refine Exists.intro _ (And.intro (cw_ro_o hI4.1 ro_nn) ?_)
          refine Exists.intro _ (Exists.intro _ (And.intro (Or.inl (cw_ro_2 hI4.1 ro_nn)) (And.intro (by omega) ?_)))
          refine Exists.intro _ (And.intro (cw_o1 hI4.1) ?_)
          refine And.intro (Exists.intro _ (cw_ro_o hI4.1 ro_nn)) (Exists.intro _ (Exists.intro _ (Exists.intro _ (Exists.intro _ (And.intro (c_X7_bondAt hI4 hs4 ro_nn z3_2 ) (And.intro rfl (fun r9 A9 h9 => ?_)))))))
          obtain ⟨y14, rfl, rfl, by14⟩ := h9
          refine And.intro (Exists.intro _ (cw_o1 hI4.1)) (Exists.intro _ (Exists.intro _ (Exists.intro _ (Exists.intro _ (And.intro (F_X9_append hI4 hs4 (e4 (nn + 1) (z3_2).toInt.toNat) (e4 (nn + 2) (z3_2).toInt.toNat) y14 (by omega)) (And.intro rfl (fun r9 A9 h9 => ?_)))))))
          rcases h9 with ⟨w17, e17, v17, f17, rfl, hI17, hs17, hy17, rfl, by16⟩
          have hx17 : e17 15 = e 15 := hy17.trans hx4
          have hu18 := hI17.2.1
          unfold cw_W at hu18
          have zs19 := cw_sz hI17 ro_nn
          have zs20 := cw_sz hI17 ro_dn
          have hb_45 := by16.2
          intro m21 em_48
          try have e21 : m21.toInt = (z3_2).toInt + (1) := by rw [em_48]; exact pm_addc _ _ (1) rfl (by omega) (by omega)
          exact ih6 m21 w17 e17 v17 f17 hI17 hx17 hs17 (by exact fun i9 h91 h92 => ⟨(hb_45.1 i9 h91 h92).1.trans (j0_2 i9 h91 h92).1, (hb_45.1 i9 h91 h92).2.trans (j0_2 i9 h91 h92).2⟩) (by intro L D h1 h2 h3 h4 h5 h6 h7; have hl := h1.1; obtain ⟨r1, r2⟩ := j1_2 L D h1 h2 h3 h4 h5 h6 h7; have hk := si_len (L := L) (a := x1.toInt) (b := z3_2.toInt) h3 r1.1 (by omega); refine ⟨by omega, ?_⟩; have h8 := hb_45.2 _ r2 (by rw [List.length_append]; omega); rw [show m21.toInt = z3_2.toInt + 1 by omega, si_s h1 h3 r1.1 (by omega), ← List.append_assoc]; have hn1 := ro_nn; have hd1 := ro_dn; unfold cw_ro at hn1 hd1; rw [(j0_2 (nn + 1) (by omega) (by omega)).2, (j0_2 (nn + 2) (by omega) (by omega)).2] at h8; exact h8) (by omega) (by omega) (by omega) (by omega)
        · skip
          have k0 : (0 : Int32).toInt = 0 := rfl
          refine And.intro (fun _ => ?_) (fun c9 => absurd c9 (by decide))
          refine hC.1 2 54 _ _ rfl _ _ _ _ _ ?_
          exact ⟨rfl, rfl, w4, e4, v4, f4, rfl, hI4, hs4, hx4, rfl, by first | omega | (dsimp only; omega) | trivial, by exact ⟨j0_2, fun L D a b h1 h2 ha hb h3 h4 h5 h6 h7 => (by have hl := h1.1; obtain ⟨r1, r2⟩ := j1_2 L D h1 h2 (by omega) (by omega) (by omega) (by omega) h7; have hn1 := ro_nn; have hd1 := ro_dn; unfold cw_ro at hn1 hd1; have hw9 := congrArg Int32.toInt (j0_2 nn (by omega) (by omega)).1; rw [show a = x1.toInt by omega, show b = z3_2.toInt by omega]; exact r2)⟩⟩
  exact lp5 (((200 - x1.toInt).toNat : Int)).toNat.succ x1 w e v f hI rfl hs (by exact fun _ _ _ => ⟨rfl, rfl⟩) (by intro L D h1 h2 h3 h4 h5 h6 h7; refine ⟨by omega, ?_⟩; rw [si_n (L := L) (a := x1.toInt) (b := x1.toInt) (Int.le_refl _), List.append_nil]; exact h7) (by omega) (by omega) (by omega) (by omega)

set_option maxRecDepth 100000 in
set_option maxHeartbeats 2000000 in
theorem F_X9_keepAs (hI : cw_I K nn dn q w e) (hs : cw_S v f) (x1 : Int32) (x2 : Int32) (p0 : 0 ≤ x2.toInt ∧ x2.toInt ≤ 23) : pm_Mt l g 23 3 0 0 [.ref (q 1), .int x1, .int x2] (cw A0 g K nn dn q w e v f) (cw_Qt A0 g K nn dn q (fun r w2 e2 => e2 15 = e 15 ∧ (r = none ∧ (((w2 0).toInt = (w 0).toInt ∧ (w2 1).toInt = (w 1).toInt ∧ (w2 3).toInt = (w 3).toInt) ∧ ((∀ i9, 40 ≤ i9 → (i9 < dn ∨ dn + 4 ≤ i9) → w2 i9 = w i9 ∧ e2 i9 = e i9) ∧ ∀ L D, rp (w nn) (e (nn + 1)) (e (nn + 2)) (L) → nn ≠ dn → 0 ≤ x1.toInt → x1.toInt < (L.length : Int) → (D.length : Int) < 160 → rp (w dn) (e (dn + 1)) (e (dn + 2)) (D) → rp (w2 dn) (e2 (dn + 1)) (e2 (dn + 2)) (D ++ [(x2, e (nn + 2) x1.toInt.toNat)])))))) := by
  refine mt_X9_keepAs rfl (fun J hC => ?_)
  have ro_nn : cw_ro K nn := hI.2.1.2.1
  have ro_dn : cw_ro K dn := hI.2.1.2.2.1
  have hu1 := hI.2.1
  unfold cw_W at hu1
  have zs2 := cw_sz hI ro_nn
  have zs3 := cw_sz hI ro_dn
  have rg_x1 := pm_rng x1
  have rg_x2 := pm_rng x2
  refine hC.1 0 0 _ _ rfl _ _ _ _ _ ?_
  refine Exists.intro _ (And.intro (cw_o1 hI.1) ?_)
  refine And.intro (Exists.intro _ (cw_ro_o hI.1 ro_nn)) (Exists.intro _ (Exists.intro _ (Exists.intro _ (Exists.intro _ (And.intro (c_X7_has hI hs ro_nn x1 ) (And.intro rfl (fun r9 A9 h9 => ?_)))))))
  rcases h9 with ⟨y4, rfl, rfl, ⟨rfl, by4⟩ | ⟨rfl, by4⟩⟩
  · skip
    have k1 : (1 : Int32).toInt = 1 := rfl
    refine And.intro (fun c9 => absurd c9 (by decide)) (fun _ => ?_)
    refine Exists.intro _ (And.intro (cw_o1 hI.1) ?_)
    refine Exists.intro _ (And.intro (cw_ro_o hI.1 ro_nn) ?_)
    refine Exists.intro _ (Exists.intro _ (And.intro (Or.inl (cw_ro_2 hI.1 ro_nn)) (And.intro (by omega) ?_)))
    refine Exists.intro _ (And.intro (cw_o1 hI.1) ?_)
    refine And.intro (Exists.intro _ (cw_ro_o hI.1 ro_nn)) (Exists.intro _ (Exists.intro _ (Exists.intro _ (Exists.intro _ (And.intro (c_X7_bondAt hI hs ro_nn x1 ) (And.intro rfl (fun r9 A9 h9 => ?_)))))))
    obtain ⟨y6, rfl, rfl, by6⟩ := h9
    refine And.intro (Exists.intro _ (cw_o1 hI.1)) (Exists.intro _ (Exists.intro _ (Exists.intro _ (Exists.intro _ (And.intro (F_X9_append hI hs x2 (e (nn + 2) (x1).toInt.toNat) y6 (by omega)) (And.intro rfl (fun r9 A9 h9 => ?_)))))))
    rcases h9 with ⟨w9, e9, v9, f9, rfl, hI9, hs9, hy9, rfl, by8⟩
    have hx9 : e9 15 = e 15 := hy9.trans rfl
    have hu10 := hI9.2.1
    unfold cw_W at hu10
    have zs11 := cw_sz hI9 ro_nn
    have zs12 := cw_sz hI9 ro_dn
    have hb_30 := by8.2
    refine hC.1 1 33 _ _ rfl _ _ _ _ _ ?_
    exact ⟨rfl, rfl, w9, e9, v9, f9, rfl, hI9, hs9, hx9, rfl, by first | omega | (dsimp only; omega) | trivial, by first | exact ⟨hb_30.1, fun L D h1 h2 h3 h4 h5 h6 => hb_30.2 _ h6 h5⟩ | exact ⟨fun _ _ _ => ⟨rfl, rfl⟩, fun L D h1 h2 h3 h4 h5 h6 => absurd h1.1 (by omega)⟩⟩
  · skip
    have k0 : (0 : Int32).toInt = 0 := rfl
    refine And.intro (fun _ => ?_) (fun c9 => absurd c9 (by decide))
    refine hC.1 1 33 _ _ rfl _ _ _ _ _ ?_
    exact ⟨rfl, rfl, w, e, v, f, rfl, hI, hs, rfl, rfl, by first | omega | (dsimp only; omega) | trivial, by first | exact ⟨hb_30.1, fun L D h1 h2 h3 h4 h5 h6 => hb_30.2 _ h6 h5⟩ | exact ⟨fun _ _ _ => ⟨rfl, rfl⟩, fun L D h1 h2 h3 h4 h5 h6 => absurd h1.1 (by omega)⟩⟩

set_option maxRecDepth 100000 in
set_option maxHeartbeats 2000000 in
theorem F_X9_keepThoseOf (hI : cw_I K nn dn q w e) (hs : cw_S v f) (x1 : Int32) (x2 : Int32) (x3 : Int32) (p0 : 0 ≤ x1.toInt ∧ x1.toInt ≤ 23) : pm_Mt l g 33 4 0 0 [.ref (q 1), .int x1, .int x2, .int x3] (cw A0 g K nn dn q w e v f) (cw_Qt A0 g K nn dn q (fun r w2 e2 => e2 15 = e 15 ∧ (r = none ∧ (((w2 0).toInt = (w 0).toInt ∧ (w2 1).toInt = (w 1).toInt ∧ (w2 3).toInt = (w 3).toInt) ∧ ((∀ i9, 40 ≤ i9 → (i9 < dn ∨ dn + 4 ≤ i9) → w2 i9 = w i9 ∧ e2 i9 = e i9) ∧ ∀ (L D : List pl_P) (a b : Int), rp (w nn) (e (nn + 1)) (e (nn + 2)) (L) → nn ≠ dn → x2.toInt = a → x3.toInt + 1 = b → 0 ≤ a → a ≤ b → b ≤ (L.length : Int) → (D.length : Int) + (((si L a b).filter (fun p => decide (p.1.toInt = x1.toInt))).length : Int) ≤ 160 → rp (w dn) (e (dn + 1)) (e (dn + 2)) (D) → rp (w2 dn) (e2 (dn + 1)) (e2 (dn + 2)) (D ++ (si L a b).filter (fun p => decide (p.1.toInt = x1.toInt)))))))) := by
  refine mt_X9_keepThoseOf rfl (fun J hC => ?_)
  have ro_nn : cw_ro K nn := hI.2.1.2.1
  have ro_dn : cw_ro K dn := hI.2.1.2.2.1
  have hu1 := hI.2.1
  unfold cw_W at hu1
  have zs2 := cw_sz hI ro_nn
  have zs3 := cw_sz hI ro_dn
  have rg_x1 := pm_rng x1
  have rg_x2 := pm_rng x2
  have rg_x3 := pm_rng x3
  refine hC.1 0 0 _ _ rfl _ _ _ _ _ ?_
  have lp5 : ∀ (n : Nat) (z4_3 : Int32) (w4 : Nat → Int32) (e4 : Nat → Nat → Int32) (v4 : Nat → Int32) (f4 : Nat → Nat → Int32), cw_I K nn dn q w4 e4 → e4 15 = e 15 → cw_S v4 f4 → ((∀ i9, 40 ≤ i9 → (i9 < dn ∨ dn + 4 ≤ i9) → w4 i9 = w i9 ∧ e4 i9 = e i9)) → (∀ L D, rp (w nn) (e (nn + 1)) (e (nn + 2)) (L) → nn ≠ dn → 0 ≤ x2.toInt → x2.toInt ≤ x3.toInt + 1 → x3.toInt + 1 ≤ (L.length : Int) → (D.length : Int) + (((si L x2.toInt (x3.toInt + 1)).filter (fun p => decide (p.1.toInt = x1.toInt))).length : Int) ≤ 160 → rp (w dn) (e (dn + 1)) (e (dn + 2)) (D) → (x2.toInt ≤ z4_3.toInt ∧ z4_3.toInt ≤ x3.toInt + 1) ∧ rp (w4 dn) (e4 (dn + 1)) (e4 (dn + 2)) (D ++ (si L x2.toInt z4_3.toInt).filter (fun p => decide (p.1.toInt = x1.toInt)))) → (w4 0).toInt = (w 0).toInt → (w4 1).toInt = (w 1).toInt → (w4 3).toInt = (w 3).toInt → ((200 - z4_3.toInt).toNat : Int) < (n : Int) → J 3 [some (.ref (q 1)), some (.int x1), some (.int x2), some (.int x3), some (.int z4_3)] [] (cw A0 g K nn dn q w4 e4 v4 f4) 0 0 := by
    intro n
    induction n with
    | zero =>
      intro z4_3 w4 e4 v4 f4 hI4 hx4 hs4 j0_3 j1_3 j2_3 j3_3 j4_3 j5_3
      omega
    | succ n ih6 =>
      intro z4_3 w4 e4 v4 f4 hI4 hx4 hs4 j0_3 j1_3 j2_3 j3_3 j4_3 j5_3
      have hu7 := hI4.2.1
      unfold cw_W at hu7
      have zs8 := cw_sz hI4 ro_nn
      have zs9 := cw_sz hI4 ro_dn
      refine hC.1 1 3 _ _ rfl _ _ _ _ _ ?_
      refine And.intro (fun c10 => ?_) (fun c10 => ?_)
      · skip
        refine hC.1 3 48 _ _ rfl _ _ _ _ _ ?_
        exact ⟨rfl, rfl, w4, e4, v4, f4, rfl, hI4, hs4, hx4, rfl, by first | omega | (dsimp only; omega) | trivial, by exact ⟨j0_3, fun L D a b h1 h2 ha hb h3 h4 h5 h6 h7 => (by subst ha; subst hb; have hl := h1.1; obtain ⟨r1, r2⟩ := j1_3 L D h1 h2 h3 h4 h5 h6 h7; have hn1 := ro_nn; have hd1 := ro_dn; unfold cw_ro at hn1 hd1; have hw9 := congrArg Int32.toInt (j0_3 nn (by omega) (by omega)).1; rw [show x3.toInt + 1 = z4_3.toInt by omega]; exact r2)⟩⟩
      · skip
        refine Exists.intro _ (And.intro (cw_o1 hI4.1) ?_)
        refine And.intro (Exists.intro _ (cw_ro_o hI4.1 ro_nn)) (Exists.intro _ (Exists.intro _ (Exists.intro _ (Exists.intro _ (And.intro (c_X7_has hI4 hs4 ro_nn z4_3 ) (And.intro rfl (fun r9 A9 h9 => ?_)))))))
        rcases h9 with ⟨y11, rfl, rfl, ⟨rfl, by11⟩ | ⟨rfl, by11⟩⟩
        · skip
          have k1 : (1 : Int32).toInt = 1 := rfl
          refine And.intro (fun c9 => absurd c9 (by decide)) (fun _ => ?_)
          refine Exists.intro _ (And.intro (cw_o1 hI4.1) ?_)
          refine Exists.intro _ (And.intro (cw_ro_o hI4.1 ro_nn) ?_)
          refine Exists.intro _ (Exists.intro _ (And.intro (Or.inl (cw_ro_1 hI4.1 ro_nn)) (And.intro (by omega) ?_)))
          have w13 := cw_col hI4 ro_nn (z4_3).toInt.toNat
          refine And.intro (fun c14 => ?_) (fun c14 => ?_)
          · skip
            have dc14 := pm_neI c14
            refine hC.1 2 42 _ _ rfl _ _ _ _ _ ?_
            intro m15 em_42
            try have e15 : m15.toInt = (z4_3).toInt + (1) := by rw [em_42]; exact pm_addc _ _ (1) rfl (by omega) (by omega)
            exact ih6 m15 w4 e4 v4 f4 hI4 hx4 hs4 (by first | exact fun i9 h91 h92 => ⟨(hb_39.1 i9 h91 h92).1.trans (j0_3 i9 h91 h92).1, (hb_39.1 i9 h91 h92).2.trans (j0_3 i9 h91 h92).2⟩ | exact j0_3) (by first | (intro L D h1 h2 h3 h4 h5 h6 h7; have hl := h1.1; obtain ⟨r1, r2⟩ := j1_3 L D h1 h2 h3 h4 h5 h6 h7; refine ⟨by omega, ?_⟩; have hn1 := ro_nn; have hd1 := ro_dn; unfold cw_ro at hn1 hd1; have en1 := (j0_3 (nn + 1) (by omega) (by omega)).2; have en2 := (j0_3 (nn + 2) (by omega) (by omega)).2; have hcc : (e (nn + 1) z4_3.toInt.toNat).toInt = x1.toInt := (by rw [← en1]; assumption); have hwn := (j0_3 nn (by omega) (by omega)).1; have h1b := rp_fr h1 (congrArg Int32.toInt hwn) en1 en2; have hs9 := si_s h1 h3 r1.1 (show z4_3.toInt < (L.length : Int) by omega); have hp9 := fl_len (L := L) (a := x2.toInt) (z := z4_3.toInt + 1) (b := x3.toInt + 1) (c := x1.toInt) h3 (by omega) (by omega) h5; rw [hs9, fl_y hcc, List.length_append] at hp9; have hp8 : ([(e (nn + 1) z4_3.toInt.toNat, e (nn + 2) z4_3.toInt.toNat)] : List pl_P).length = 1 := rfl; have h8 := hb_39.2 L _ h1b h2 (by omega) (by omega) (by rw [List.length_append]; omega) r2; rw [show m15.toInt = z4_3.toInt + 1 by omega, hs9, fl_y hcc, ← List.append_assoc]; rw [en2] at h8; rw [pm_eqI hcc]; exact h8) | (intro L D h1 h2 h3 h4 h5 h6 h7; have hl := h1.1; obtain ⟨r1, r2⟩ := j1_3 L D h1 h2 h3 h4 h5 h6 h7; refine ⟨by omega, ?_⟩; have hn1 := ro_nn; have hd1 := ro_dn; unfold cw_ro at hn1 hd1; have en1 := (j0_3 (nn + 1) (by omega) (by omega)).2; have hcc : ¬ (e (nn + 1) z4_3.toInt.toNat).toInt = x1.toInt := (by rw [← en1]; assumption); have hs9 := si_s h1 h3 r1.1 (show z4_3.toInt < (L.length : Int) by have := congrArg Int32.toInt (j0_3 nn (by omega) (by omega)).1; omega); rw [show m15.toInt = z4_3.toInt + 1 by omega, hs9, fl_n hcc]; exact r2)) (by omega) (by omega) (by omega) (by omega)
          · skip
            have dc14 : ((e4 (nn + 1) (z4_3).toInt.toNat)).toInt = (x1 : Int32).toInt := congrArg Int32.toInt c14
            refine And.intro (Exists.intro _ (cw_o1 hI4.1)) (Exists.intro _ (Exists.intro _ (Exists.intro _ (Exists.intro _ (And.intro (F_X9_keepAs hI4 hs4 z4_3 x1 (by omega)) (And.intro rfl (fun r9 A9 h9 => ?_)))))))
            rcases h9 with ⟨w17, e17, v17, f17, rfl, hI17, hs17, hy17, rfl, by16⟩
            have hx17 : e17 15 = e 15 := hy17.trans hx4
            have hu18 := hI17.2.1
            unfold cw_W at hu18
            have zs19 := cw_sz hI17 ro_nn
            have zs20 := cw_sz hI17 ro_dn
            have hb_39 := by16.2
            refine hC.1 2 42 _ _ rfl _ _ _ _ _ ?_
            intro m21 em_42
            try have e21 : m21.toInt = (z4_3).toInt + (1) := by rw [em_42]; exact pm_addc _ _ (1) rfl (by omega) (by omega)
            exact ih6 m21 w17 e17 v17 f17 hI17 hx17 hs17 (by first | exact fun i9 h91 h92 => ⟨(hb_39.1 i9 h91 h92).1.trans (j0_3 i9 h91 h92).1, (hb_39.1 i9 h91 h92).2.trans (j0_3 i9 h91 h92).2⟩ | exact j0_3) (by first | (intro L D h1 h2 h3 h4 h5 h6 h7; have hl := h1.1; obtain ⟨r1, r2⟩ := j1_3 L D h1 h2 h3 h4 h5 h6 h7; refine ⟨by omega, ?_⟩; have hn1 := ro_nn; have hd1 := ro_dn; unfold cw_ro at hn1 hd1; have en1 := (j0_3 (nn + 1) (by omega) (by omega)).2; have en2 := (j0_3 (nn + 2) (by omega) (by omega)).2; have hcc : (e (nn + 1) z4_3.toInt.toNat).toInt = x1.toInt := (by rw [← en1]; assumption); have hwn := (j0_3 nn (by omega) (by omega)).1; have h1b := rp_fr h1 (congrArg Int32.toInt hwn) en1 en2; have hs9 := si_s h1 h3 r1.1 (show z4_3.toInt < (L.length : Int) by omega); have hp9 := fl_len (L := L) (a := x2.toInt) (z := z4_3.toInt + 1) (b := x3.toInt + 1) (c := x1.toInt) h3 (by omega) (by omega) h5; rw [hs9, fl_y hcc, List.length_append] at hp9; have hp8 : ([(e (nn + 1) z4_3.toInt.toNat, e (nn + 2) z4_3.toInt.toNat)] : List pl_P).length = 1 := rfl; have h8 := hb_39.2 L _ h1b h2 (by omega) (by omega) (by rw [List.length_append]; omega) r2; rw [show m21.toInt = z4_3.toInt + 1 by omega, hs9, fl_y hcc, ← List.append_assoc]; rw [en2] at h8; rw [pm_eqI hcc]; exact h8) | (intro L D h1 h2 h3 h4 h5 h6 h7; have hl := h1.1; obtain ⟨r1, r2⟩ := j1_3 L D h1 h2 h3 h4 h5 h6 h7; refine ⟨by omega, ?_⟩; have hn1 := ro_nn; have hd1 := ro_dn; unfold cw_ro at hn1 hd1; have en1 := (j0_3 (nn + 1) (by omega) (by omega)).2; have hcc : ¬ (e (nn + 1) z4_3.toInt.toNat).toInt = x1.toInt := (by rw [← en1]; assumption); have hs9 := si_s h1 h3 r1.1 (show z4_3.toInt < (L.length : Int) by have := congrArg Int32.toInt (j0_3 nn (by omega) (by omega)).1; omega); rw [show m21.toInt = z4_3.toInt + 1 by omega, hs9, fl_n hcc]; exact r2)) (by omega) (by omega) (by omega) (by omega)
        · skip
          have k0 : (0 : Int32).toInt = 0 := rfl
          refine And.intro (fun _ => ?_) (fun c9 => absurd c9 (by decide))
          refine hC.1 3 48 _ _ rfl _ _ _ _ _ ?_
          exact ⟨rfl, rfl, w4, e4, v4, f4, rfl, hI4, hs4, hx4, rfl, by first | omega | (dsimp only; omega) | trivial, by exact ⟨j0_3, fun L D a b h1 h2 ha hb h3 h4 h5 h6 h7 => (by subst ha; subst hb; have hl := h1.1; obtain ⟨r1, r2⟩ := j1_3 L D h1 h2 h3 h4 h5 h6 h7; have hn1 := ro_nn; have hd1 := ro_dn; unfold cw_ro at hn1 hd1; have hw9 := congrArg Int32.toInt (j0_3 nn (by omega) (by omega)).1; rw [show x3.toInt + 1 = z4_3.toInt by omega]; exact r2)⟩⟩
  exact lp5 (((200 - x2.toInt).toNat : Int)).toNat.succ x2 w e v f hI rfl hs (by exact fun _ _ _ => ⟨rfl, rfl⟩) (by intro L D h1 h2 h3 h4 h5 h6 h7; refine ⟨by omega, ?_⟩; rw [si_n (L := L) (a := x2.toInt) (b := x2.toInt) (Int.le_refl _)]; show rp _ _ _ (D ++ []); rw [List.append_nil]; exact h7) (by omega) (by omega) (by omega) (by omega)

set_option maxRecDepth 100000 in
set_option maxHeartbeats 2000000 in
theorem F_X9_add (hI : cw_I K nn dn q w e) (hs : cw_S v f) (x1 : Int32) (p0 : 0 ≤ x1.toInt ∧ x1.toInt ≤ 23) (p1 : (w 1).toInt < 10000) : pm_Mt l g 28 1 0 0 [.ref (q 1), .int x1] (cw A0 g K nn dn q w e v f) (cw_Qt A0 g K nn dn q (fun r w2 e2 => e2 15 = e 15 ∧ (r = none ∧ (((w2 0).toInt = (w 0).toInt ∧ (w2 3).toInt = (w 3).toInt ∧ (w2 1).toInt = (w 1).toInt + 1) ∧ ((∀ i9, 40 ≤ i9 → (i9 < dn ∨ dn + 4 ≤ i9) → w2 i9 = w i9 ∧ e2 i9 = e i9) ∧ ∀ D, rp (w dn) (e (dn + 1)) (e (dn + 2)) (D) → (D.length : Int) < 160 → rp (w2 dn) (e2 (dn + 1)) (e2 (dn + 2)) (D ++ [(x1, w 1)])))))) := by
  refine mt_X9_add rfl (fun J hC => ?_)
  have ro_nn : cw_ro K nn := hI.2.1.2.1
  have ro_dn : cw_ro K dn := hI.2.1.2.2.1
  have hu1 := hI.2.1
  unfold cw_W at hu1
  have zs2 := cw_sz hI ro_nn
  have zs3 := cw_sz hI ro_dn
  have rg_x1 := pm_rng x1
  refine hC.1 0 0 _ _ rfl _ _ _ _ _ ?_
  refine Exists.intro _ (And.intro (cw_o1 hI.1) ?_)
  have km2 : (-2 : Int32).toInt = -2 := rfl
  refine And.intro (Exists.intro _ (cw_o1 hI.1)) (Exists.intro _ (Exists.intro _ (Exists.intro _ (Exists.intro _ (And.intro (F_X9_append hI hs x1 (w 1) (-2 : Int32) (by omega)) (And.intro rfl (fun r9 A9 h9 => ?_)))))))
  rcases h9 with ⟨w5, e5, v5, f5, rfl, hI5, hs5, hy5, rfl, by4⟩
  have hx5 : e5 15 = e 15 := hy5.trans rfl
  have hu6 := hI5.2.1
  unfold cw_W at hu6
  have zs7 := cw_sz hI5 ro_nn
  have zs8 := cw_sz hI5 ro_dn
  have hb_8 := by4.2
  refine Exists.intro _ (And.intro (cw_o1 hI5.1) ?_)
  have k1 : (1 : Int32).toInt = 1 := rfl
  intro m9 em_17
  try have e9 : m9.toInt = ((w5 1)).toInt + (1) := by rw [em_17]; exact pm_addc _ _ (1) rfl (by omega) (by omega)
  refine Exists.intro _ (And.intro (cw_o1 hI5.1) (And.intro rfl ?_))
  rw [cw_p_named hI5.1]
  obtain ⟨w10, ew10⟩ : ∃ z9, z9 = upd w5 1 m9 := ⟨_, rfl⟩
  rw [← ew10]
  have ew10_0 : (w10 0).toInt = (w5 0).toInt := by rw [ew10]; rfl
  have ew10_1 : (w10 1).toInt = (m9).toInt := by rw [ew10]; rfl
  have ew10_2 : (w10 2).toInt = (w5 2).toInt := by rw [ew10]; rfl
  have ew10_3 : (w10 3).toInt = (w5 3).toInt := by rw [ew10]; rfl
  have pn_18 : w10 1 = m9 := by rw [ew10, pk_us]
  have pw_18 := ew10
  have hZ10 : cw_Z w10 := by rw [ew10]; exact cw_Z_up hI5.2.2.1 _ _ (by omega)
  have hI10 : cw_I K nn dn q w10 e5 := ⟨hI5.1, by unfold cw_W; omega, hZ10, hI5.2.2.2⟩
  exact ⟨rfl, rfl, w10, e5, v5, f5, rfl, hI10, hs5, hx5, rfl, by first | omega | (dsimp only; omega) | trivial, by exact ⟨fun i9 h91 h92 => ⟨by rw [pw_18, pk_un (by omega)]; exact (hb_8.1 i9 h91 h92).1, (hb_8.1 i9 h91 h92).2⟩, fun D h1 h2 => (by have h3 := hb_8.2 D h1 h2; rw [pw_18, pk_un (by omega)]; exact h3)⟩⟩

end
end
section
section
variable {l : Launch} {g : pm_G} {A0 : pm_H} {K nn dn : Nat} {q : Nat → Nat} {w : Nat → Int32} {e : Nat → Nat → Int32} {v : Nat → Int32} {f : Nat → Nat → Int32}
set_option maxRecDepth 100000 in
set_option maxHeartbeats 2000000 in
theorem F_X7_placeOfNth (hI : cw_I K nn dn q w e) (hs : cw_S v f) {o0 : Nat} (ho0 : cw_ro K o0) (x1 : Int32) (x2 : Int32)  : pm_Mt l g 49 0 0 0 [.ref (q o0), .int x1, .int x2] (cw A0 g K nn dn q w e v f) (md_Qp (cw A0 g K nn dn q w e v f) (fun r => NTH (e (o0 + 1)) (w o0).toInt x1 x2.toInt r.toInt)) := by
  refine mt_X7_placeOfNth rfl (fun J hC => ?_)
  have ro_nn : cw_ro K nn := hI.2.1.2.1
  have ro_dn : cw_ro K dn := hI.2.1.2.2.1
  have hu1 := hI.2.1
  unfold cw_W at hu1
  have rg_x1 := pm_rng x1
  have rg_x2 := pm_rng x2
  have zz0 := cw_sz hI ho0
  refine hC.1 0 0 _ _ rfl _ _ _ _ _ ?_
  have k0 : (0 : Int32).toInt = 0 := rfl
  have lp3 : ∀ (n : Nat) (z3_5 : Int32) (z4_5 : Int32), (0 ≤ z4_5.toInt ∧ z4_5.toInt ≤ (w o0).toInt) → (z3_5.toInt = (cn (e (o0 + 1)) x1 z4_5.toInt.toNat : Int)) → (∀ i9 : Nat, (i9 : Int) < z4_5.toInt → ¬ (e (o0 + 1) i9 = x1 ∧ (cn (e (o0 + 1)) x1 i9 : Int) = x2.toInt)) → 200 - z4_5.toInt < (n : Int) → J 5 [some (.ref (q o0)), some (.int x1), some (.int x2), some (.int z3_5), some (.int z4_5)] [] (cw A0 g K nn dn q w e v f) 0 0 := by
    intro n
    induction n with
    | zero =>
      intro z3_5 z4_5 j0_5 j1_5 j2_5 j3_5
      omega
    | succ n ih4 =>
      intro z3_5 z4_5 j0_5 j1_5 j2_5 j3_5
      have cl9 := cn_le (e (o0 + 1)) x1 z4_5.toInt.toNat
      refine hC.1 1 5 _ _ rfl _ _ _ _ _ ?_
      refine Exists.intro _ (And.intro (cw_ro_o hI.1 ho0) ?_)
      have z5 := cw_sz hI ho0
      refine And.intro (fun c6 => ?_) (fun c6 => ?_)
      · skip
        refine hC.1 4 42 _ _ rfl _ _ _ _ _ ?_
        have km1 : (-1 : Int32).toInt = -1 := rfl
        exact ⟨rfl, fun e9 => absurd e9 (by decide), rfl, (-1 : Int32), rfl, rfl, by first | (exact Or.inr ⟨by omega, by omega, by assumption, by omega⟩) | (exact Or.inl ⟨rfl, fun i9 h9 => j2_5 i9 (by omega)⟩)⟩
      · skip
        refine Exists.intro _ (And.intro (cw_ro_o hI.1 ho0) ?_)
        refine Exists.intro _ (Exists.intro _ (And.intro (Or.inl (cw_ro_1 hI.1 ho0)) (And.intro (by omega) ?_)))
        have w7 := cw_col hI ho0 (z4_5).toInt.toNat
        refine And.intro (fun c8 => ?_) (fun c8 => ?_)
        · skip
          have dc8 := pm_neI c8
          refine hC.1 3 36 _ _ rfl _ _ _ _ _ ?_
          have k1 : (1 : Int32).toInt = 1 := rfl
          intro m9 em_36
          try have e9 : m9.toInt = (z4_5).toInt + (1) := by rw [em_36]; exact pm_addc _ _ (1) rfl (by omega) (by omega)
          exact ih4 z3_5 m9 (by omega) (by first | (rw [show m9.toInt.toNat = z4_5.toInt.toNat + 1 by omega, cn_n (by assumption)]; omega) | (rw [show m9.toInt.toNat = z4_5.toInt.toNat + 1 by omega, cn_y (by assumption)]; omega)) (by intro i9 h9; by_cases h8 : i9 = z4_5.toInt.toNat; (subst h8; intro h7; first | exact absurd h7.1 (by assumption) | omega); (exact j2_5 i9 (by omega))) (by omega)
        · skip
          have dc8 : ((e (o0 + 1) (z4_5).toInt.toNat)).toInt = (x1 : Int32).toInt := congrArg Int32.toInt c8
          refine And.intro (fun c10 => ?_) (fun c10 => ?_)
          · skip
            have dc10 := pm_neI c10
            refine hC.1 2 33 _ _ rfl _ _ _ _ _ ?_
            have k1 : (1 : Int32).toInt = 1 := rfl
            intro m11 em_33
            try have e11 : m11.toInt = (z3_5).toInt + (1) := by rw [em_33]; exact pm_addc _ _ (1) rfl (by omega) (by omega)
            refine hC.1 3 36 _ _ rfl _ _ _ _ _ ?_
            intro m12 em_36
            try have e12 : m12.toInt = (z4_5).toInt + (1) := by rw [em_36]; exact pm_addc _ _ (1) rfl (by omega) (by omega)
            exact ih4 m11 m12 (by omega) (by first | (rw [show m12.toInt.toNat = z4_5.toInt.toNat + 1 by omega, cn_n (by assumption)]; omega) | (rw [show m12.toInt.toNat = z4_5.toInt.toNat + 1 by omega, cn_y (by assumption)]; omega)) (by intro i9 h9; by_cases h8 : i9 = z4_5.toInt.toNat; (subst h8; intro h7; first | exact absurd h7.1 (by assumption) | omega); (exact j2_5 i9 (by omega))) (by omega)
          · skip
            have dc10 : (z3_5).toInt = (x2 : Int32).toInt := congrArg Int32.toInt c10
            exact ⟨rfl, fun e9 => absurd e9 (by decide), rfl, z4_5, rfl, rfl, by first | (exact Or.inr ⟨by omega, by omega, by assumption, by omega⟩) | (exact Or.inl ⟨rfl, fun i9 h9 => j2_5 i9 (by omega)⟩)⟩
  exact lp3 (200 - (0 : Int32).toInt).toNat.succ (0 : Int32) (0 : Int32) (by omega) (by rfl) (by intro i9 h9; omega) (by omega)

set_option maxRecDepth 100000 in
set_option maxHeartbeats 2000000 in
theorem F_X10_nth (hI : cw_I K nn dn q w e) (hs : cw_S v f) (x1 : Int32) (x2 : Int32)  : pm_Mt l g 52 1 0 0 [.ref (q 0), .int x1, .int x2] (cw A0 g K nn dn q w e v f) (md_Qp (cw A0 g K nn dn q w e v f) (fun r => NTH (e (nn + 1)) (w nn).toInt x1 x2.toInt r.toInt)) := by
  refine mt_X10_nth rfl (fun J hC => ?_)
  have ro_nn : cw_ro K nn := hI.2.1.2.1
  have ro_dn : cw_ro K dn := hI.2.1.2.2.1
  have hu1 := hI.2.1
  unfold cw_W at hu1
  have rg_x1 := pm_rng x1
  have rg_x2 := pm_rng x2
  refine hC.1 0 0 _ _ rfl _ _ _ _ _ ?_
  refine Exists.intro _ (And.intro (cw_o0 hI.1) ?_)
  refine Exists.intro _ (And.intro (cw_o1 hI.1) ?_)
  refine And.intro (Exists.intro _ (cw_ro_o hI.1 ro_nn)) (Exists.intro _ (Exists.intro _ (Exists.intro _ (Exists.intro _ (And.intro (F_X7_placeOfNth hI hs ro_nn x1 x2 ) (And.intro rfl (fun r9 A9 h9 => ?_)))))))
  obtain ⟨y2, rfl, rfl, by2⟩ := h9
  exact ⟨rfl, fun e9 => absurd e9 (by decide), rfl, y2, rfl, rfl, by assumption⟩

set_option maxRecDepth 100000 in
set_option maxHeartbeats 2000000 in
theorem F_X7_placeOf (hI : cw_I K nn dn q w e) (hs : cw_S v f) {o0 : Nat} (ho0 : cw_ro K o0) (x1 : Int32)  : pm_Mt l g 46 0 0 0 [.ref (q o0), .int x1] (cw A0 g K nn dn q w e v f) (md_Qp (cw A0 g K nn dn q w e v f) (fun r => (-1 ≤ r.toInt ∧ r.toInt < (w o0).toInt) ∧ FST (e (o0 + 2)) (w o0).toInt x1 r.toInt)) := by
  refine mt_X7_placeOf rfl (fun J hC => ?_)
  have ro_nn : cw_ro K nn := hI.2.1.2.1
  have ro_dn : cw_ro K dn := hI.2.1.2.2.1
  have hu1 := hI.2.1
  unfold cw_W at hu1
  have rg_x1 := pm_rng x1
  have zz0 := cw_sz hI ho0
  refine hC.1 0 0 _ _ rfl _ _ _ _ _ ?_
  have k0 : (0 : Int32).toInt = 0 := rfl
  have lp3 : ∀ (n : Nat) (z2_2 : Int32), (0 ≤ z2_2.toInt ∧ z2_2.toInt ≤ (w o0).toInt) → (∀ i9 : Nat, (i9 : Int) < z2_2.toInt → ¬ e (o0 + 2) i9 = x1) → 200 - z2_2.toInt < (n : Int) → J 2 [some (.ref (q o0)), some (.int x1), some (.int z2_2)] [] (cw A0 g K nn dn q w e v f) 0 0 := by
    intro n
    induction n with
    | zero =>
      intro z2_2 j0_2 j1_2 j2_2
      omega
    | succ n ih4 =>
      intro z2_2 j0_2 j1_2 j2_2
      refine hC.1 1 2 _ _ rfl _ _ _ _ _ ?_
      refine Exists.intro _ (And.intro (cw_ro_o hI.1 ho0) ?_)
      have z5 := cw_sz hI ho0
      refine And.intro (fun c6 => ?_) (fun c6 => ?_)
      · skip
        refine hC.1 3 28 _ _ rfl _ _ _ _ _ ?_
        have km1 : (-1 : Int32).toInt = -1 := rfl
        exact ⟨rfl, fun e9 => absurd e9 (by decide), rfl, (-1 : Int32), rfl, rfl, by first | (exact ⟨by omega, Or.inr ⟨by omega, by omega, by assumption, fun i9 h9 => j1_2 i9 (by omega)⟩⟩) | (exact ⟨by omega, Or.inl ⟨rfl, fun i9 h9 => j1_2 i9 (by omega)⟩⟩)⟩
      · skip
        refine Exists.intro _ (And.intro (cw_ro_o hI.1 ho0) ?_)
        refine Exists.intro _ (Exists.intro _ (And.intro (Or.inl (cw_ro_2 hI.1 ho0)) (And.intro (by omega) ?_)))
        refine And.intro (fun c7 => ?_) (fun c7 => ?_)
        · skip
          have dc7 := pm_neI c7
          refine hC.1 2 22 _ _ rfl _ _ _ _ _ ?_
          have k1 : (1 : Int32).toInt = 1 := rfl
          intro m8 em_22
          try have e8 : m8.toInt = (z2_2).toInt + (1) := by rw [em_22]; exact pm_addc _ _ (1) rfl (by omega) (by omega)
          exact ih4 m8 (by omega) (by intro i9 h9; by_cases h8 : i9 = z2_2.toInt.toNat; (subst h8; assumption); (exact j1_2 i9 (by omega))) (by omega)
        · skip
          have dc7 : ((e (o0 + 2) (z2_2).toInt.toNat)).toInt = (x1 : Int32).toInt := congrArg Int32.toInt c7
          exact ⟨rfl, fun e9 => absurd e9 (by decide), rfl, z2_2, rfl, rfl, by first | (exact ⟨by omega, Or.inr ⟨by omega, by omega, by assumption, fun i9 h9 => j1_2 i9 (by omega)⟩⟩) | (exact ⟨by omega, Or.inl ⟨rfl, fun i9 h9 => j1_2 i9 (by omega)⟩⟩)⟩
  exact lp3 (200 - (0 : Int32).toInt).toNat.succ (0 : Int32) (by omega) (by intro i9 h9; omega) (by omega)

set_option maxRecDepth 100000 in
set_option maxHeartbeats 2000000 in
theorem F_X10_place (hI : cw_I K nn dn q w e) (hs : cw_S v f) (x1 : Int32)  : pm_Mt l g 45 1 0 0 [.ref (q 0), .int x1] (cw A0 g K nn dn q w e v f) (md_Qp (cw A0 g K nn dn q w e v f) (fun r => (-1 ≤ r.toInt ∧ r.toInt < (w nn).toInt) ∧ FST (e (nn + 2)) (w nn).toInt x1 r.toInt)) := by
  refine mt_X10_place rfl (fun J hC => ?_)
  have ro_nn : cw_ro K nn := hI.2.1.2.1
  have ro_dn : cw_ro K dn := hI.2.1.2.2.1
  have hu1 := hI.2.1
  unfold cw_W at hu1
  have rg_x1 := pm_rng x1
  refine hC.1 0 0 _ _ rfl _ _ _ _ _ ?_
  refine Exists.intro _ (And.intro (cw_o0 hI.1) ?_)
  refine Exists.intro _ (And.intro (cw_o1 hI.1) ?_)
  refine And.intro (Exists.intro _ (cw_ro_o hI.1 ro_nn)) (Exists.intro _ (Exists.intro _ (Exists.intro _ (Exists.intro _ (And.intro (F_X7_placeOf hI hs ro_nn x1 ) (And.intro rfl (fun r9 A9 h9 => ?_)))))))
  obtain ⟨y2, rfl, rfl, by2⟩ := h9
  exact ⟨rfl, fun e9 => absurd e9 (by decide), rfl, y2, rfl, rfl, by assumption⟩

set_option maxRecDepth 100000 in
set_option maxHeartbeats 2000000 in
theorem F_X5_add (hI : cw_I K nn dn q w e) (hs : cw_S v f) (x1 : Int32) (x2 : Int32) (x3 : Int32)  : pm_Mt l g 159 0 0 0 [.ref (q 9), .int x1, .int x2, .int x3] (cw A0 g K nn dn q w e v f) (cw_Qt A0 g K nn dn q (fun r w2 e2 => e2 15 = e 15 ∧ (∃ x : Int32, r = some (.int x) ∧ (((w2 0).toInt = (w 0).toInt ∧ (w2 1).toInt = (w 1).toInt) ∧ ((∀ i9, 40 ≤ i9 → w2 i9 = w i9 ∧ e2 i9 = e i9)))))) := by
  refine mt_X5_add rfl (fun J hC => ?_)
  have ro_nn : cw_ro K nn := hI.2.1.2.1
  have ro_dn : cw_ro K dn := hI.2.1.2.2.1
  have hu1 := hI.2.1
  unfold cw_W at hu1
  have rg_x1 := pm_rng x1
  have rg_x2 := pm_rng x2
  have rg_x3 := pm_rng x3
  refine hC.1 0 0 _ _ rfl _ _ _ _ _ ?_
  refine Exists.intro _ (And.intro (cw_o9 hI.1) ?_)
  refine And.intro (fun c2 => ?_) (fun c2 => ?_)
  · skip
    refine hC.1 1 16 _ _ rfl _ _ _ _ _ ?_
    have km1 : (-1 : Int32).toInt = -1 := rfl
    exact ⟨rfl, fun e9 => absurd e9 (by decide), rfl, w, e, v, f, rfl, hI, hs, rfl, (-1 : Int32), rfl, by first | omega | (dsimp only; omega) | trivial, by exact fun _ _ => ⟨rfl, rfl⟩⟩
  · skip
    refine Exists.intro _ (And.intro (cw_o9 hI.1) ?_)
    have k30 : (30 : Int32).toInt = 30 := rfl
    refine And.intro (fun c3 => ?_) (fun c3 => ?_)
    · skip
      refine hC.1 2 18 _ _ rfl _ _ _ _ _ ?_
      refine Exists.intro _ (And.intro (cw_o9 hI.1) ?_)
      refine Exists.intro _ (And.intro (cw_o9 hI.1) ?_)
      refine Exists.intro _ (Exists.intro _ (And.intro (cw_a35 hI.1) (And.intro (by omega) ?_)))
      rw [cw_s35 hI.1]
      obtain ⟨e4, ee4⟩ : ∃ z9, z9 = va_up e 35 (upd (e 35) ((w 3)).toInt.toNat x2) := ⟨_, rfl⟩
      rw [← ee4]
      have hI4 : cw_I K nn dn q w e4 := ⟨hI.1, hI.2.1, hI.2.2.1, by rw [ee4]; exact cw_E_up hI.2.2.2 _ _ (fun h9 _ => absurd h9 (by decide)) (fun h9 _ => absurd h9 (by decide))⟩
      have hx4 : e4 15 = e 15 := (show e4 15 = e 15 by rw [ee4]; exact if_neg (by omega)).trans rfl
      have pe_31 := ee4
      refine Exists.intro _ (And.intro (cw_o9 hI4.1) ?_)
      refine Exists.intro _ (Exists.intro _ (And.intro (cw_a36 hI4.1) (And.intro (by omega) ?_)))
      rw [cw_s36 hI4.1]
      obtain ⟨e5, ee5⟩ : ∃ z9, z9 = va_up e4 36 (upd (e4 36) ((w 3)).toInt.toNat x3) := ⟨_, rfl⟩
      rw [← ee5]
      have hI5 : cw_I K nn dn q w e5 := ⟨hI4.1, hI4.2.1, hI4.2.2.1, by rw [ee5]; exact cw_E_up hI4.2.2.2 _ _ (fun h9 _ => absurd h9 (by decide)) (fun h9 _ => absurd h9 (by decide))⟩
      have hx5 : e5 15 = e 15 := (show e5 15 = e4 15 by rw [ee5]; exact if_neg (by omega)).trans hx4
      have pe_39 := ee5
      refine Exists.intro _ (And.intro (cw_o9 hI5.1) ?_)
      refine Exists.intro _ (Exists.intro _ (And.intro (cw_a39 hI5.1) (And.intro (by omega) ?_)))
      rw [cw_s39 hI5.1]
      obtain ⟨e6, ee6⟩ : ∃ z9, z9 = va_up e5 39 (upd (e5 39) ((w 3)).toInt.toNat x1) := ⟨_, rfl⟩
      rw [← ee6]
      have hI6 : cw_I K nn dn q w e6 := ⟨hI5.1, hI5.2.1, hI5.2.2.1, by rw [ee6]; exact cw_E_up hI5.2.2.2 _ _ (fun h9 _ => absurd h9 (by decide)) (fun h9 _ => absurd h9 (by decide))⟩
      have hx6 : e6 15 = e 15 := (show e6 15 = e5 15 by rw [ee6]; exact if_neg (by omega)).trans hx5
      have pe_47 := ee6
      refine Exists.intro _ (And.intro (cw_o9 hI6.1) ?_)
      have km1 : (-1 : Int32).toInt = -1 := rfl
      refine Exists.intro _ (Exists.intro _ (And.intro (cw_a37 hI6.1) (And.intro (by omega) ?_)))
      rw [cw_s37 hI6.1]
      obtain ⟨e7, ee7⟩ : ∃ z9, z9 = va_up e6 37 (upd (e6 37) ((w 3)).toInt.toNat (-1 : Int32)) := ⟨_, rfl⟩
      rw [← ee7]
      have hI7 : cw_I K nn dn q w e7 := ⟨hI6.1, hI6.2.1, hI6.2.2.1, by rw [ee7]; exact cw_E_up hI6.2.2.2 _ _ (fun h9 _ => absurd h9 (by decide)) (fun h9 _ => absurd h9 (by decide))⟩
      have hx7 : e7 15 = e 15 := (show e7 15 = e6 15 by rw [ee7]; exact if_neg (by omega)).trans hx6
      have pe_55 := ee7
      refine Exists.intro _ (And.intro (cw_o9 hI7.1) ?_)
      refine Exists.intro _ (Exists.intro _ (And.intro (cw_a38 hI7.1) (And.intro (by omega) ?_)))
      rw [cw_s38 hI7.1]
      obtain ⟨e8, ee8⟩ : ∃ z9, z9 = va_up e7 38 (upd (e7 38) ((w 3)).toInt.toNat (-1 : Int32)) := ⟨_, rfl⟩
      rw [← ee8]
      have hI8 : cw_I K nn dn q w e8 := ⟨hI7.1, hI7.2.1, hI7.2.2.1, by rw [ee8]; exact cw_E_up hI7.2.2.2 _ _ (fun h9 _ => absurd h9 (by decide)) (fun h9 _ => absurd h9 (by decide))⟩
      have hx8 : e8 15 = e 15 := (show e8 15 = e7 15 by rw [ee8]; exact if_neg (by omega)).trans hx7
      have pe_63 := ee8
      refine Exists.intro _ (And.intro (cw_o9 hI8.1) ?_)
      have k1 : (1 : Int32).toInt = 1 := rfl
      intro m9 em_70
      try have e9 : m9.toInt = ((w 3)).toInt + (1) := by rw [em_70]; exact pm_addc _ _ (1) rfl (by omega) (by omega)
      refine Exists.intro _ (And.intro (cw_o9 hI8.1) (And.intro rfl ?_))
      rw [cw_p_number hI8.1]
      obtain ⟨w10, ew10⟩ : ∃ z9, z9 = upd w 3 m9 := ⟨_, rfl⟩
      rw [← ew10]
      have ew10_0 : (w10 0).toInt = (w 0).toInt := by rw [ew10]; rfl
      have ew10_1 : (w10 1).toInt = (w 1).toInt := by rw [ew10]; rfl
      have ew10_2 : (w10 2).toInt = (w 2).toInt := by rw [ew10]; rfl
      have ew10_3 : (w10 3).toInt = (m9).toInt := by rw [ew10]; rfl
      have pn_71 : w10 3 = m9 := by rw [ew10, pk_us]
      have pw_71 := ew10
      have hZ10 : cw_Z w10 := by rw [ew10]; exact cw_Z_up hI8.2.2.1 _ _ (by omega)
      have hI10 : cw_I K nn dn q w10 e8 := ⟨hI8.1, by unfold cw_W; omega, hZ10, hI8.2.2.2⟩
      exact ⟨rfl, fun e9 => absurd e9 (by decide), rfl, w10, e8, v, f, rfl, hI10, hs, hx8, (w 3), rfl, by first | omega | (dsimp only; omega) | trivial, by exact fun i9 h9 => ⟨by rw [pw_71, pk_un (by omega)], by rw [pe_63, va_un (by omega), pe_55, va_un (by omega), pe_47, va_un (by omega), pe_39, va_un (by omega), pe_31, va_un (by omega)]⟩⟩
    · skip
      refine hC.1 1 16 _ _ rfl _ _ _ _ _ ?_
      have km1 : (-1 : Int32).toInt = -1 := rfl
      exact ⟨rfl, fun e9 => absurd e9 (by decide), rfl, w, e, v, f, rfl, hI, hs, rfl, (-1 : Int32), rfl, by first | omega | (dsimp only; omega) | trivial, by exact fun _ _ => ⟨rfl, rfl⟩⟩

set_option maxRecDepth 100000 in
set_option maxHeartbeats 2000000 in
theorem F_X10_ask (hI : cw_I K nn dn q w e) (hs : cw_S v f) (x1 : Int32) (x2 : Int32)  : pm_Mt l g 158 2 0 0 [.ref (q 0), .int x1, .int x2] (cw A0 g K nn dn q w e v f) (cw_Qt A0 g K nn dn q (fun r w2 e2 => e2 15 = e 15 ∧ (∃ x : Int32, r = some (.int x) ∧ (((w2 0).toInt = (w 0).toInt ∧ (w2 1).toInt = (w 1).toInt) ∧ ((∀ i9, 40 ≤ i9 → w2 i9 = w i9 ∧ e2 i9 = e i9)))))) := by
  refine mt_X10_ask rfl (fun J hC => ?_)
  have ro_nn : cw_ro K nn := hI.2.1.2.1
  have ro_dn : cw_ro K dn := hI.2.1.2.2.1
  have hu1 := hI.2.1
  unfold cw_W at hu1
  have rg_x1 := pm_rng x1
  have rg_x2 := pm_rng x2
  refine hC.1 0 0 _ _ rfl _ _ _ _ _ ?_
  refine Exists.intro _ (And.intro (cw_o0 hI.1) ?_)
  refine Exists.intro _ (And.intro (cw_o1 hI.1) ?_)
  refine And.intro (Exists.intro _ (cw_ro_o hI.1 ro_nn)) (Exists.intro _ (Exists.intro _ (Exists.intro _ (Exists.intro _ (And.intro (c_X7_hasName hI hs ro_nn x1 ) (And.intro rfl (fun r9 A9 h9 => ?_)))))))
  rcases h9 with ⟨y2, rfl, rfl, ⟨rfl, by2⟩ | ⟨rfl, by2⟩⟩
  · skip
    have k1 : (1 : Int32).toInt = 1 := rfl
    refine And.intro (fun c9 => absurd c9 (by decide)) (fun _ => ?_)
    refine And.intro (Exists.intro _ (cw_ro_o hI.1 ro_nn)) (Exists.intro _ (Exists.intro _ (Exists.intro _ (Exists.intro _ (And.intro (c_X7_hasName hI hs ro_nn x2 ) (And.intro rfl (fun r9 A9 h9 => ?_)))))))
    rcases h9 with ⟨y4, rfl, rfl, ⟨rfl, by4⟩ | ⟨rfl, by4⟩⟩
    · skip
      refine And.intro (fun c9 => absurd c9 (by decide)) (fun _ => ?_)
      refine Exists.intro _ (And.intro (cw_o0 hI.1) ?_)
      have km1 : (-1 : Int32).toInt = -1 := rfl
      refine And.intro (Exists.intro _ (cw_o9 hI.1)) (Exists.intro _ (Exists.intro _ (Exists.intro _ (Exists.intro _ (And.intro (F_X5_add hI hs (-1 : Int32) x1 x2 ) (And.intro rfl (fun r9 A9 h9 => ?_)))))))
      rcases h9 with ⟨w7, e7, v7, f7, rfl, hI7, hs7, hy7, y6, rfl, by6⟩
      have hx7 : e7 15 = e 15 := hy7.trans rfl
      have hu8 := hI7.2.1
      unfold cw_W at hu8
      have hb_31 := by6.2
      refine hC.1 2 38 _ _ rfl _ _ _ _ _ ?_
      exact ⟨rfl, fun e9 => absurd e9 (by decide), rfl, w7, e7, v7, f7, rfl, hI7, hs7, hx7, y6, rfl, by first | omega | (dsimp only; omega) | trivial, by first | (exact hb_31) | (exact fun _ _ => ⟨rfl, rfl⟩)⟩
    · skip
      have k0 : (0 : Int32).toInt = 0 := rfl
      refine And.intro (fun _ => ?_) (fun c9 => absurd c9 (by decide))
      refine hC.1 1 37 _ _ rfl _ _ _ _ _ ?_
      have km1 : (-1 : Int32).toInt = -1 := rfl
      refine hC.1 2 38 _ _ rfl _ _ _ _ _ ?_
      exact ⟨rfl, fun e9 => absurd e9 (by decide), rfl, w, e, v, f, rfl, hI, hs, rfl, (-1 : Int32), rfl, by first | omega | (dsimp only; omega) | trivial, by first | (exact hb_31) | (exact fun _ _ => ⟨rfl, rfl⟩)⟩
  · skip
    have k0 : (0 : Int32).toInt = 0 := rfl
    refine And.intro (fun _ => ?_) (fun c9 => absurd c9 (by decide))
    refine hC.1 1 37 _ _ rfl _ _ _ _ _ ?_
    have km1 : (-1 : Int32).toInt = -1 := rfl
    refine hC.1 2 38 _ _ rfl _ _ _ _ _ ?_
    exact ⟨rfl, fun e9 => absurd e9 (by decide), rfl, w, e, v, f, rfl, hI, hs, rfl, (-1 : Int32), rfl, by first | omega | (dsimp only; omega) | trivial, by first | (exact hb_31) | (exact fun _ _ => ⟨rfl, rfl⟩)⟩

set_option maxRecDepth 100000 in
set_option maxHeartbeats 2000000 in
theorem F_X10_askOf (hI : cw_I K nn dn q w e) (hs : cw_S v f) (x1 : Int32) (x2 : Int32) (x3 : Int32)  : pm_Mt l g 160 2 0 0 [.ref (q 0), .int x1, .int x2, .int x3] (cw A0 g K nn dn q w e v f) (cw_Qt A0 g K nn dn q (fun r w2 e2 => e2 15 = e 15 ∧ (∃ x : Int32, r = some (.int x) ∧ (((w2 0).toInt = (w 0).toInt ∧ (w2 1).toInt = (w 1).toInt) ∧ ((∀ i9, 40 ≤ i9 → w2 i9 = w i9 ∧ e2 i9 = e i9)))))) := by
  refine mt_X10_askOf rfl (fun J hC => ?_)
  have ro_nn : cw_ro K nn := hI.2.1.2.1
  have ro_dn : cw_ro K dn := hI.2.1.2.2.1
  have hu1 := hI.2.1
  unfold cw_W at hu1
  have rg_x1 := pm_rng x1
  have rg_x2 := pm_rng x2
  have rg_x3 := pm_rng x3
  refine hC.1 0 0 _ _ rfl _ _ _ _ _ ?_
  refine Exists.intro _ (And.intro (cw_o0 hI.1) ?_)
  refine And.intro (Exists.intro _ (cw_o1 hI.1)) (Exists.intro _ (Exists.intro _ (Exists.intro _ (Exists.intro _ (And.intro (c_X9_behind hI hs x1 ) (And.intro rfl (fun r9 A9 h9 => ?_)))))))
  rcases h9 with ⟨rfl, rfl | ⟨o3, rfl, ho3⟩⟩
  · skip
    refine hC.1 1 33 _ _ rfl _ _ _ _ _ ?_
    have km1 : (-1 : Int32).toInt = -1 := rfl
    exact ⟨rfl, fun e9 => absurd e9 (by decide), rfl, w, e, v, f, rfl, hI, hs, rfl, (-1 : Int32), rfl, by first | omega | (dsimp only; omega) | trivial, by first | (exact hb_42) | (exact fun _ _ => ⟨rfl, rfl⟩)⟩
  · skip
    refine And.intro (Exists.intro _ (cw_ro_o hI.1 ho3)) (Exists.intro _ (Exists.intro _ (Exists.intro _ (Exists.intro _ (And.intro (c_X7_hasName hI hs ho3 x2 ) (And.intro rfl (fun r9 A9 h9 => ?_)))))))
    rcases h9 with ⟨y4, rfl, rfl, ⟨rfl, by4⟩ | ⟨rfl, by4⟩⟩
    · skip
      have k1 : (1 : Int32).toInt = 1 := rfl
      refine And.intro (fun c9 => absurd c9 (by decide)) (fun _ => ?_)
      refine And.intro (Exists.intro _ (cw_ro_o hI.1 ho3)) (Exists.intro _ (Exists.intro _ (Exists.intro _ (Exists.intro _ (And.intro (c_X7_hasName hI hs ho3 x3 ) (And.intro rfl (fun r9 A9 h9 => ?_)))))))
      rcases h9 with ⟨y6, rfl, rfl, ⟨rfl, by6⟩ | ⟨rfl, by6⟩⟩
      · skip
        refine And.intro (fun _ => ?_) (fun c9 => absurd c9 (by decide))
        refine hC.1 2 35 _ _ rfl _ _ _ _ _ ?_
        refine Exists.intro _ (And.intro (cw_o0 hI.1) ?_)
        refine And.intro (Exists.intro _ (cw_o9 hI.1)) (Exists.intro _ (Exists.intro _ (Exists.intro _ (Exists.intro _ (And.intro (F_X5_add hI hs x1 x2 x3 ) (And.intro rfl (fun r9 A9 h9 => ?_)))))))
        rcases h9 with ⟨w9, e9, v9, f9, rfl, hI9, hs9, hy9, y8, rfl, by8⟩
        have hx9 : e9 15 = e 15 := hy9.trans rfl
        have hu10 := hI9.2.1
        unfold cw_W at hu10
        have hb_42 := by8.2
        exact ⟨rfl, fun e9 => absurd e9 (by decide), rfl, w9, e9, v9, f9, rfl, hI9, hs9, hx9, y8, rfl, by first | omega | (dsimp only; omega) | trivial, by first | (exact hb_42) | (exact fun _ _ => ⟨rfl, rfl⟩)⟩
      · skip
        have k0 : (0 : Int32).toInt = 0 := rfl
        refine And.intro (fun c9 => absurd c9 (by decide)) (fun _ => ?_)
        refine hC.1 1 33 _ _ rfl _ _ _ _ _ ?_
        have km1 : (-1 : Int32).toInt = -1 := rfl
        exact ⟨rfl, fun e9 => absurd e9 (by decide), rfl, w, e, v, f, rfl, hI, hs, rfl, (-1 : Int32), rfl, by first | omega | (dsimp only; omega) | trivial, by first | (exact hb_42) | (exact fun _ _ => ⟨rfl, rfl⟩)⟩
    · skip
      have k0 : (0 : Int32).toInt = 0 := rfl
      refine And.intro (fun _ => ?_) (fun c9 => absurd c9 (by decide))
      refine hC.1 1 33 _ _ rfl _ _ _ _ _ ?_
      have km1 : (-1 : Int32).toInt = -1 := rfl
      exact ⟨rfl, fun e9 => absurd e9 (by decide), rfl, w, e, v, f, rfl, hI, hs, rfl, (-1 : Int32), rfl, by first | omega | (dsimp only; omega) | trivial, by first | (exact hb_42) | (exact fun _ _ => ⟨rfl, rfl⟩)⟩

set_option maxRecDepth 100000 in
set_option maxHeartbeats 2000000 in
theorem F_X10_forget (hI : cw_I K nn dn q w e) (hs : cw_S v f)   : pm_Mt l g 165 0 0 0 [.ref (q 0)] (cw A0 g K nn dn q w e v f) (cw_Qt A0 g K nn dn q (fun r w2 e2 => e2 15 = e 15 ∧ (∃ x : Int32, r = some (.int x) ∧ (((w2 0).toInt = (w 0).toInt ∧ (w2 1).toInt = (w 1).toInt) ∧ ((∀ i9, 40 ≤ i9 → w2 i9 = w i9 ∧ e2 i9 = e i9)))))) := by
  refine mt_X10_forget rfl (fun J hC => ?_)
  have ro_nn : cw_ro K nn := hI.2.1.2.1
  have ro_dn : cw_ro K dn := hI.2.1.2.2.1
  have hu1 := hI.2.1
  unfold cw_W at hu1
  refine hC.1 0 0 _ _ rfl _ _ _ _ _ ?_
  refine Exists.intro _ (And.intro (cw_o0 hI.1) ?_)
  refine Exists.intro _ (And.intro (cw_o9 hI.1) ?_)
  refine Exists.intro _ (And.intro (cw_o0 hI.1) ?_)
  have k0 : (0 : Int32).toInt = 0 := rfl
  refine Exists.intro _ (And.intro (cw_o9 hI.1) (And.intro rfl ?_))
  rw [cw_p_number hI.1]
  obtain ⟨w2, ew2⟩ : ∃ z9, z9 = upd w 3 (0 : Int32) := ⟨_, rfl⟩
  rw [← ew2]
  have ew2_0 : (w2 0).toInt = (w 0).toInt := by rw [ew2]; rfl
  have ew2_1 : (w2 1).toInt = (w 1).toInt := by rw [ew2]; rfl
  have ew2_2 : (w2 2).toInt = (w 2).toInt := by rw [ew2]; rfl
  have ew2_3 : (w2 3).toInt = ((0 : Int32)).toInt := by rw [ew2]; rfl
  have pn_13 : w2 3 = (0 : Int32) := by rw [ew2, pk_us]
  have pw_13 := ew2
  have hZ2 : cw_Z w2 := by rw [ew2]; exact cw_Z_up hI.2.2.1 _ _ (by omega)
  have hI2 : cw_I K nn dn q w2 e := ⟨hI.1, by unfold cw_W; omega, hZ2, hI.2.2.2⟩
  exact ⟨rfl, fun e9 => absurd e9 (by decide), rfl, w2, e, v, f, rfl, hI2, hs, rfl, (w 3), rfl, by first | omega | (dsimp only; omega) | trivial, by exact fun i9 h9 => ⟨by rw [pw_13, pk_un (by omega)], rfl⟩⟩

end
end
section
section
variable {l : Launch} {g : pm_G} {A0 : pm_H} {K nn dn : Nat} {q : Nat → Nat} {w : Nat → Int32} {e : Nat → Nat → Int32} {v : Nat → Int32} {f : Nat → Nat → Int32}
set_option maxRecDepth 100000 in
set_option maxHeartbeats 2000000 in
theorem F_X5_answer (hI : cw_I K nn dn q w e) (hs : cw_S v f) (x1 : Int32) {o2 : Nat} (ho2 : cw_ro K o2) (p0 : 0 ≤ x1.toInt ∧ x1.toInt < 30) : pm_Mt l g 162 3 0 0 [.ref (q 9), .int x1, .ref (q o2), .ref (q 2)] (cw A0 g K nn dn q w e v f) (cw_Qt A0 g K nn dn q (fun r w2 e2 => e2 15 = e 15 ∧ ((r = some (.int 1) ∧ (((w2 0).toInt = (w 0).toInt ∧ (w2 1).toInt = (w 1).toInt ∧ (w2 3).toInt = (w 3).toInt) ∧ ((∀ i9, 40 ≤ i9 → w2 i9 = w i9 ∧ e2 i9 = e i9)))) ∨ (r = some (.int 0) ∧ (((w2 0).toInt = (w 0).toInt ∧ (w2 1).toInt = (w 1).toInt ∧ (w2 3).toInt = (w 3).toInt) ∧ ((∀ i9, 40 ≤ i9 → w2 i9 = w i9 ∧ e2 i9 = e i9))))))) := by
  refine mt_X5_answer rfl (fun J hC => ?_)
  have ro_nn : cw_ro K nn := hI.2.1.2.1
  have ro_dn : cw_ro K dn := hI.2.1.2.2.1
  have hu1 := hI.2.1
  unfold cw_W at hu1
  have rg_x1 := pm_rng x1
  refine hC.1 0 0 _ _ rfl _ _ _ _ _ ?_
  refine Exists.intro _ (And.intro (cw_o9 hI.1) ?_)
  have km1 : (-1 : Int32).toInt = -1 := rfl
  refine Exists.intro _ (Exists.intro _ (And.intro (cw_a37 hI.1) (And.intro (by omega) ?_)))
  rw [cw_s37 hI.1]
  obtain ⟨e2, ee2⟩ : ∃ z9, z9 = va_up e 37 (upd (e 37) (x1).toInt.toNat (-1 : Int32)) := ⟨_, rfl⟩
  rw [← ee2]
  have hI2 : cw_I K nn dn q w e2 := ⟨hI.1, hI.2.1, hI.2.2.1, by rw [ee2]; exact cw_E_up hI.2.2.2 _ _ (fun h9 _ => absurd h9 (by decide)) (fun h9 _ => absurd h9 (by decide))⟩
  have hx2 : e2 15 = e 15 := (show e2 15 = e 15 by rw [ee2]; exact if_neg (by omega)).trans rfl
  have pe_6 := ee2
  refine Exists.intro _ (And.intro (cw_o9 hI2.1) ?_)
  refine Exists.intro _ (Exists.intro _ (And.intro (cw_a38 hI2.1) (And.intro (by omega) ?_)))
  rw [cw_s38 hI2.1]
  obtain ⟨e3, ee3⟩ : ∃ z9, z9 = va_up e2 38 (upd (e2 38) (x1).toInt.toNat (-1 : Int32)) := ⟨_, rfl⟩
  rw [← ee3]
  have hI3 : cw_I K nn dn q w e3 := ⟨hI2.1, hI2.2.1, hI2.2.2.1, by rw [ee3]; exact cw_E_up hI2.2.2.2 _ _ (fun h9 _ => absurd h9 (by decide)) (fun h9 _ => absurd h9 (by decide))⟩
  have hx3 : e3 15 = e 15 := (show e3 15 = e2 15 by rw [ee3]; exact if_neg (by omega)).trans hx2
  have pe_13 := ee3
  refine hC.1 1 20 _ _ rfl _ _ _ _ _ ?_
  refine Exists.intro _ (And.intro (cw_o9 hI3.1) ?_)
  refine Exists.intro _ (Exists.intro _ (And.intro (Or.inl (cw_a35 hI3.1)) (And.intro (by omega) ?_)))
  refine And.intro (Exists.intro _ (cw_ro_o hI3.1 ho2)) (Exists.intro _ (Exists.intro _ (Exists.intro _ (Exists.intro _ (And.intro (F_X7_placeOf hI3 hs ho2 (e3 35 (x1).toInt.toNat) ) (And.intro rfl (fun r9 A9 h9 => ?_)))))))
  obtain ⟨y4, rfl, rfl, by4⟩ := h9
  refine Exists.intro _ (And.intro (cw_o9 hI3.1) ?_)
  refine Exists.intro _ (Exists.intro _ (And.intro (Or.inl (cw_a36 hI3.1)) (And.intro (by omega) ?_)))
  refine And.intro (Exists.intro _ (cw_ro_o hI3.1 ho2)) (Exists.intro _ (Exists.intro _ (Exists.intro _ (Exists.intro _ (And.intro (F_X7_placeOf hI3 hs ho2 (e3 36 (x1).toInt.toNat) ) (And.intro rfl (fun r9 A9 h9 => ?_)))))))
  obtain ⟨y6, rfl, rfl, by6⟩ := h9
  refine And.intro (fun c8 => ?_) (fun c8 => ?_)
  · skip
    have dc8 : (y4).toInt = ((-1 : Int32) : Int32).toInt := congrArg Int32.toInt c8
    refine hC.1 2 56 _ _ rfl _ _ _ _ _ ?_
    have k0 : (0 : Int32).toInt = 0 := rfl
    exact ⟨rfl, fun _ => (by decide), rfl, w, e3, v, f, rfl, hI3, hs, hx3, Or.inr ⟨rfl, by first | omega | (dsimp only; omega) | trivial, by exact fun i9 h9 => ⟨rfl, by rw [pe_13, va_un (by omega), pe_6, va_un (by omega)]⟩⟩⟩
  · skip
    have dc8 := pm_neI c8
    refine And.intro (fun c9 => ?_) (fun c9 => ?_)
    · skip
      have dc9 := pm_neI c9
      refine hC.1 3 58 _ _ rfl _ _ _ _ _ ?_
      refine Exists.intro _ (Exists.intro _ (Exists.intro _ (Exists.intro _ (And.intro (c_J9_min_7cf53 (cw A0 g K nn dn q w e3 v f) y4 y6 ) (And.intro rfl (fun r9 A9 h9 => ?_))))))
      obtain ⟨y10, rfl, rfl, by10⟩ := h9
      refine Exists.intro _ (Exists.intro _ (Exists.intro _ (Exists.intro _ (And.intro (c_J9_max_7cf53 (cw A0 g K nn dn q w e3 v f) y4 y6 ) (And.intro rfl (fun r9 A9 h9 => ?_))))))
      obtain ⟨y12, rfl, rfl, by12⟩ := h9
      refine And.intro (Exists.intro _ (cw_o2 hI3.1)) (Exists.intro _ (Exists.intro _ (Exists.intro _ (Exists.intro _ (And.intro (c_X2_read hI3 hs ho2 y10 y12 ) (And.intro rfl (fun r9 A9 h9 => ?_)))))))
      rcases h9 with ⟨v15, f15, rfl, hs15, rfl, by14⟩
      refine Exists.intro _ (And.intro (cw_o9 hI3.1) ?_)
      refine Exists.intro _ (And.intro (cw_o2 hI3.1) ?_)
      refine Exists.intro _ (Exists.intro _ (And.intro (cw_a37 hI3.1) (And.intro (by omega) ?_)))
      rw [cw_s37 hI3.1]
      obtain ⟨e16, ee16⟩ : ∃ z9, z9 = va_up e3 37 (upd (e3 37) (x1).toInt.toNat (v15 2)) := ⟨_, rfl⟩
      rw [← ee16]
      have hI16 : cw_I K nn dn q w e16 := ⟨hI3.1, hI3.2.1, hI3.2.2.1, by rw [ee16]; exact cw_E_up hI3.2.2.2 _ _ (fun h9 _ => absurd h9 (by decide)) (fun h9 _ => absurd h9 (by decide))⟩
      have hx16 : e16 15 = e 15 := (show e16 15 = e3 15 by rw [ee16]; exact if_neg (by omega)).trans hx3
      have pe_86 := ee16
      refine Exists.intro _ (And.intro (cw_o9 hI16.1) ?_)
      refine Exists.intro _ (And.intro (cw_o2 hI16.1) ?_)
      refine Exists.intro _ (Exists.intro _ (And.intro (cw_a38 hI16.1) (And.intro (by omega) ?_)))
      rw [cw_s38 hI16.1]
      obtain ⟨e17, ee17⟩ : ∃ z9, z9 = va_up e16 38 (upd (e16 38) (x1).toInt.toNat (v15 4)) := ⟨_, rfl⟩
      rw [← ee17]
      have hI17 : cw_I K nn dn q w e17 := ⟨hI16.1, hI16.2.1, hI16.2.2.1, by rw [ee17]; exact cw_E_up hI16.2.2.2 _ _ (fun h9 _ => absurd h9 (by decide)) (fun h9 _ => absurd h9 (by decide))⟩
      have hx17 : e17 15 = e 15 := (show e17 15 = e16 15 by rw [ee17]; exact if_neg (by omega)).trans hx16
      have pe_96 := ee17
      have k1 : (1 : Int32).toInt = 1 := rfl
      exact ⟨rfl, fun _ => (by decide), rfl, w, e17, v15, f15, rfl, hI17, hs15, hx17, Or.inl ⟨rfl, by first | omega | (dsimp only; omega) | trivial, by exact fun i9 h9 => ⟨rfl, by rw [pe_96, va_un (by omega), pe_86, va_un (by omega), pe_13, va_un (by omega), pe_6, va_un (by omega)]⟩⟩⟩
    · skip
      have dc9 : (y6).toInt = ((-1 : Int32) : Int32).toInt := congrArg Int32.toInt c9
      refine hC.1 2 56 _ _ rfl _ _ _ _ _ ?_
      have k0 : (0 : Int32).toInt = 0 := rfl
      exact ⟨rfl, fun _ => (by decide), rfl, w, e3, v, f, rfl, hI3, hs, hx3, Or.inr ⟨rfl, by first | omega | (dsimp only; omega) | trivial, by exact fun i9 h9 => ⟨rfl, by rw [pe_13, va_un (by omega), pe_6, va_un (by omega)]⟩⟩⟩

set_option maxRecDepth 100000 in
set_option maxHeartbeats 2000000 in
theorem F_X5_answer__n (hI : cw_I K nn dn q w e) (hs : cw_S v f) (x1 : Int32) (p0 : 0 ≤ x1.toInt ∧ x1.toInt < 30) : pm_Mt l g 162 3 0 0 [.ref (q 9), .int x1, .null, .ref (q 2)] (cw A0 g K nn dn q w e v f) (cw_Qt A0 g K nn dn q (fun r w2 e2 => e2 15 = e 15 ∧ ((r = some (.int 1) ∧ (((w2 0).toInt = (w 0).toInt ∧ (w2 1).toInt = (w 1).toInt ∧ (w2 3).toInt = (w 3).toInt) ∧ ((∀ i9, 40 ≤ i9 → w2 i9 = w i9 ∧ e2 i9 = e i9)))) ∨ (r = some (.int 0) ∧ (((w2 0).toInt = (w 0).toInt ∧ (w2 1).toInt = (w 1).toInt ∧ (w2 3).toInt = (w 3).toInt) ∧ ((∀ i9, 40 ≤ i9 → w2 i9 = w i9 ∧ e2 i9 = e i9))))))) := by
  refine mt_X5_answer rfl (fun J hC => ?_)
  have ro_nn : cw_ro K nn := hI.2.1.2.1
  have ro_dn : cw_ro K dn := hI.2.1.2.2.1
  have hu1 := hI.2.1
  unfold cw_W at hu1
  have rg_x1 := pm_rng x1
  refine hC.1 0 0 _ _ rfl _ _ _ _ _ ?_
  refine Exists.intro _ (And.intro (cw_o9 hI.1) ?_)
  have km1 : (-1 : Int32).toInt = -1 := rfl
  refine Exists.intro _ (Exists.intro _ (And.intro (cw_a37 hI.1) (And.intro (by omega) ?_)))
  rw [cw_s37 hI.1]
  obtain ⟨e2, ee2⟩ : ∃ z9, z9 = va_up e 37 (upd (e 37) (x1).toInt.toNat (-1 : Int32)) := ⟨_, rfl⟩
  rw [← ee2]
  have hI2 : cw_I K nn dn q w e2 := ⟨hI.1, hI.2.1, hI.2.2.1, by rw [ee2]; exact cw_E_up hI.2.2.2 _ _ (fun h9 _ => absurd h9 (by decide)) (fun h9 _ => absurd h9 (by decide))⟩
  have hx2 : e2 15 = e 15 := (show e2 15 = e 15 by rw [ee2]; exact if_neg (by omega)).trans rfl
  have pe_6 := ee2
  refine Exists.intro _ (And.intro (cw_o9 hI2.1) ?_)
  refine Exists.intro _ (Exists.intro _ (And.intro (cw_a38 hI2.1) (And.intro (by omega) ?_)))
  rw [cw_s38 hI2.1]
  obtain ⟨e3, ee3⟩ : ∃ z9, z9 = va_up e2 38 (upd (e2 38) (x1).toInt.toNat (-1 : Int32)) := ⟨_, rfl⟩
  rw [← ee3]
  have hI3 : cw_I K nn dn q w e3 := ⟨hI2.1, hI2.2.1, hI2.2.2.1, by rw [ee3]; exact cw_E_up hI2.2.2.2 _ _ (fun h9 _ => absurd h9 (by decide)) (fun h9 _ => absurd h9 (by decide))⟩
  have hx3 : e3 15 = e 15 := (show e3 15 = e2 15 by rw [ee3]; exact if_neg (by omega)).trans hx2
  have pe_13 := ee3
  have k0 : (0 : Int32).toInt = 0 := rfl
  exact ⟨rfl, fun _ => (by decide), rfl, w, e3, v, f, rfl, hI3, hs, hx3, Or.inr ⟨rfl, by first | omega | (dsimp only; omega) | trivial, by exact fun i9 h9 => ⟨rfl, by rw [pe_13, va_un (by omega), pe_6, va_un (by omega)]⟩⟩⟩

set_option maxRecDepth 100000 in
set_option maxHeartbeats 2000000 in
theorem F_X10_solve (hI : cw_I K nn dn q w e) (hs : cw_S v f)   : pm_Mt l g 161 4 0 0 [.ref (q 0)] (cw A0 g K nn dn q w e v f) (cw_Qt A0 g K nn dn q (fun r w2 e2 => e2 15 = e 15 ∧ (∃ x : Int32, r = some (.int x) ∧ (((w2 0).toInt = (w 0).toInt ∧ (w2 1).toInt = (w 1).toInt ∧ (w2 3).toInt = (w 3).toInt) ∧ ((∀ i9, 40 ≤ i9 → w2 i9 = w i9 ∧ e2 i9 = e i9)))))) := by
  refine mt_X10_solve rfl (fun J hC => ?_)
  have ro_nn : cw_ro K nn := hI.2.1.2.1
  have ro_dn : cw_ro K dn := hI.2.1.2.2.1
  have hu1 := hI.2.1
  unfold cw_W at hu1
  refine hC.1 0 0 _ _ rfl _ _ _ _ _ ?_
  have k0 : (0 : Int32).toInt = 0 := rfl
  have lp3 : ∀ (n : Nat) (z1_4 : Int32) (z2_4 : Int32) (w2 : Nat → Int32) (e2 : Nat → Nat → Int32) (v2 : Nat → Int32) (f2 : Nat → Nat → Int32), cw_I K nn dn q w2 e2 → e2 15 = e 15 → cw_S v2 f2 → (0 ≤ z2_4.toInt ∧ z2_4.toInt ≤ 30) → ((∀ i9, 40 ≤ i9 → w2 i9 = w i9 ∧ e2 i9 = e i9)) → (w2 0).toInt = (w 0).toInt → (w2 1).toInt = (w 1).toInt → (w2 3).toInt = (w 3).toInt → 200 - z2_4.toInt < (n : Int) → J 4 [some (.ref (q 0)), some (.int z1_4), some (.int z2_4), none, none] [] (cw A0 g K nn dn q w2 e2 v2 f2) 0 0 := by
    intro n
    induction n with
    | zero =>
      intro z1_4 z2_4 w2 e2 v2 f2 hI2 hx2 hs2 j0_4 j1_4 j2_4 j3_4 j4_4 j5_4
      omega
    | succ n ih4 =>
      intro z1_4 z2_4 w2 e2 v2 f2 hI2 hx2 hs2 j0_4 j1_4 j2_4 j3_4 j4_4 j5_4
      have hu5 := hI2.2.1
      unfold cw_W at hu5
      refine hC.1 1 4 _ _ rfl _ _ _ _ _ ?_
      refine Exists.intro _ (And.intro (cw_o0 hI2.1) ?_)
      refine Exists.intro _ (And.intro (cw_o9 hI2.1) ?_)
      refine And.intro (fun c6 => ?_) (fun c6 => ?_)
      · skip
        refine hC.1 5 76 _ _ rfl _ _ _ _ _ ?_
        exact ⟨rfl, fun e9 => absurd e9 (by decide), rfl, w2, e2, v2, f2, rfl, hI2, hs2, hx2, z1_4, rfl, by first | omega | (dsimp only; omega) | trivial, by exact j1_4⟩
      · skip
        refine Exists.intro _ (And.intro (cw_o0 hI2.1) ?_)
        refine Exists.intro _ (And.intro (cw_o9 hI2.1) ?_)
        refine Exists.intro _ (Exists.intro _ (And.intro (Or.inl (cw_a39 hI2.1)) (And.intro (by omega) ?_)))
        have km1 : (-1 : Int32).toInt = -1 := rfl
        refine And.intro (fun c7 => ?_) (fun c7 => ?_)
        · skip
          have dc7 := pm_neI c7
          refine hC.1 2 40 _ _ rfl _ _ _ _ _ ?_
          refine Exists.intro _ (And.intro (cw_o0 hI2.1) ?_)
          refine And.intro (Exists.intro _ (cw_o1 hI2.1)) (Exists.intro _ (Exists.intro _ (Exists.intro _ (Exists.intro _ (And.intro (c_X9_behind hI2 hs2 (e2 39 (z2_4).toInt.toNat) ) (And.intro rfl (fun r9 A9 h9 => ?_)))))))
          rcases h9 with ⟨rfl, rfl | ⟨o9, rfl, ho9⟩⟩
          · skip
            refine hC.1 3 48 _ _ rfl _ _ _ _ _ ?_
            refine Exists.intro _ (And.intro (cw_o0 hI2.1) ?_)
            refine Exists.intro _ (And.intro (cw_o0 hI2.1) ?_)
            refine And.intro (Exists.intro _ (cw_o9 hI2.1)) (Exists.intro _ (Exists.intro _ (Exists.intro _ (Exists.intro _ (And.intro (F_X5_answer__n hI2 hs2 z2_4 (by omega)) (And.intro rfl (fun r9 A9 h9 => ?_)))))))
            rcases h9 with ⟨w11, e11, v11, f11, rfl, hI11, hs11, hy11, hzy10⟩
            have hx11 : e11 15 = e 15 := hy11.trans hx2
            have hu12 := hI11.2.1
            unfold cw_W at hu12
            rcases hzy10 with ⟨rfl, by10⟩ | ⟨rfl, by10⟩
            · skip
              have k1 : (1 : Int32).toInt = 1 := rfl
              have hb_61 := by10.2
              refine And.intro (fun c9 => absurd c9 (by decide)) (fun _ => ?_)
              intro m13 em_67
              try have e13 : m13.toInt = (z1_4).toInt + (1) := by rw [em_67]; exact pm_addc _ _ (1) rfl (by omega) (by omega)
              refine hC.1 4 70 _ _ rfl _ _ _ _ _ ?_
              intro m14 em_70
              try have e14 : m14.toInt = (z2_4).toInt + (1) := by rw [em_70]; exact pm_addc _ _ (1) rfl (by omega) (by omega)
              exact hC.2 [false, false, false, true, true] _ _ _ _ _ _ (ih4 m13 m14 w11 e11 v11 f11 hI11 hx11 hs11 (by omega) (by exact fun i9 h9 => ⟨(hb_61 i9 h9).1.trans (j1_4 i9 h9).1, (hb_61 i9 h9).2.trans (j1_4 i9 h9).2⟩) (by omega) (by omega) (by omega) (by omega))
            · skip
              have hb_61 := by10.2
              refine And.intro (fun _ => ?_) (fun c9 => absurd c9 (by decide))
              refine hC.1 4 70 _ _ rfl _ _ _ _ _ ?_
              have k1 : (1 : Int32).toInt = 1 := rfl
              intro m15 em_70
              try have e15 : m15.toInt = (z2_4).toInt + (1) := by rw [em_70]; exact pm_addc _ _ (1) rfl (by omega) (by omega)
              exact hC.2 [false, false, false, true, true] _ _ _ _ _ _ (ih4 z1_4 m15 w11 e11 v11 f11 hI11 hx11 hs11 (by omega) (by exact fun i9 h9 => ⟨(hb_61 i9 h9).1.trans (j1_4 i9 h9).1, (hb_61 i9 h9).2.trans (j1_4 i9 h9).2⟩) (by omega) (by omega) (by omega) (by omega))
          · skip
            refine hC.1 3 48 _ _ rfl _ _ _ _ _ ?_
            refine Exists.intro _ (And.intro (cw_o0 hI2.1) ?_)
            refine Exists.intro _ (And.intro (cw_o0 hI2.1) ?_)
            refine And.intro (Exists.intro _ (cw_o9 hI2.1)) (Exists.intro _ (Exists.intro _ (Exists.intro _ (Exists.intro _ (And.intro (F_X5_answer hI2 hs2 z2_4 ho9 (by omega)) (And.intro rfl (fun r9 A9 h9 => ?_)))))))
            rcases h9 with ⟨w17, e17, v17, f17, rfl, hI17, hs17, hy17, hzy16⟩
            have hx17 : e17 15 = e 15 := hy17.trans hx2
            have hu18 := hI17.2.1
            unfold cw_W at hu18
            rcases hzy16 with ⟨rfl, by16⟩ | ⟨rfl, by16⟩
            · skip
              have k1 : (1 : Int32).toInt = 1 := rfl
              have hb_61 := by16.2
              refine And.intro (fun c9 => absurd c9 (by decide)) (fun _ => ?_)
              intro m19 em_67
              try have e19 : m19.toInt = (z1_4).toInt + (1) := by rw [em_67]; exact pm_addc _ _ (1) rfl (by omega) (by omega)
              refine hC.1 4 70 _ _ rfl _ _ _ _ _ ?_
              intro m20 em_70
              try have e20 : m20.toInt = (z2_4).toInt + (1) := by rw [em_70]; exact pm_addc _ _ (1) rfl (by omega) (by omega)
              exact hC.2 [false, false, false, true, true] _ _ _ _ _ _ (ih4 m19 m20 w17 e17 v17 f17 hI17 hx17 hs17 (by omega) (by exact fun i9 h9 => ⟨(hb_61 i9 h9).1.trans (j1_4 i9 h9).1, (hb_61 i9 h9).2.trans (j1_4 i9 h9).2⟩) (by omega) (by omega) (by omega) (by omega))
            · skip
              have hb_61 := by16.2
              refine And.intro (fun _ => ?_) (fun c9 => absurd c9 (by decide))
              refine hC.1 4 70 _ _ rfl _ _ _ _ _ ?_
              have k1 : (1 : Int32).toInt = 1 := rfl
              intro m21 em_70
              try have e21 : m21.toInt = (z2_4).toInt + (1) := by rw [em_70]; exact pm_addc _ _ (1) rfl (by omega) (by omega)
              exact hC.2 [false, false, false, true, true] _ _ _ _ _ _ (ih4 z1_4 m21 w17 e17 v17 f17 hI17 hx17 hs17 (by omega) (by exact fun i9 h9 => ⟨(hb_61 i9 h9).1.trans (j1_4 i9 h9).1, (hb_61 i9 h9).2.trans (j1_4 i9 h9).2⟩) (by omega) (by omega) (by omega) (by omega))
        · skip
          have dc7 : ((e2 39 (z2_4).toInt.toNat)).toInt = ((-1 : Int32) : Int32).toInt := congrArg Int32.toInt c7
          refine Exists.intro _ (And.intro (cw_o0 hI2.1) ?_)
          refine Exists.intro _ (And.intro (cw_o1 hI2.1) ?_)
          refine hC.1 3 48 _ _ rfl _ _ _ _ _ ?_
          refine Exists.intro _ (And.intro (cw_o0 hI2.1) ?_)
          refine Exists.intro _ (And.intro (cw_o0 hI2.1) ?_)
          refine And.intro (Exists.intro _ (cw_o9 hI2.1)) (Exists.intro _ (Exists.intro _ (Exists.intro _ (Exists.intro _ (And.intro (F_X5_answer hI2 hs2 z2_4 ro_nn (by omega)) (And.intro rfl (fun r9 A9 h9 => ?_)))))))
          rcases h9 with ⟨w23, e23, v23, f23, rfl, hI23, hs23, hy23, hzy22⟩
          have hx23 : e23 15 = e 15 := hy23.trans hx2
          have hu24 := hI23.2.1
          unfold cw_W at hu24
          rcases hzy22 with ⟨rfl, by22⟩ | ⟨rfl, by22⟩
          · skip
            have k1 : (1 : Int32).toInt = 1 := rfl
            have hb_61 := by22.2
            refine And.intro (fun c9 => absurd c9 (by decide)) (fun _ => ?_)
            intro m25 em_67
            try have e25 : m25.toInt = (z1_4).toInt + (1) := by rw [em_67]; exact pm_addc _ _ (1) rfl (by omega) (by omega)
            refine hC.1 4 70 _ _ rfl _ _ _ _ _ ?_
            intro m26 em_70
            try have e26 : m26.toInt = (z2_4).toInt + (1) := by rw [em_70]; exact pm_addc _ _ (1) rfl (by omega) (by omega)
            exact hC.2 [false, false, false, true, true] _ _ _ _ _ _ (ih4 m25 m26 w23 e23 v23 f23 hI23 hx23 hs23 (by omega) (by exact fun i9 h9 => ⟨(hb_61 i9 h9).1.trans (j1_4 i9 h9).1, (hb_61 i9 h9).2.trans (j1_4 i9 h9).2⟩) (by omega) (by omega) (by omega) (by omega))
          · skip
            have hb_61 := by22.2
            refine And.intro (fun _ => ?_) (fun c9 => absurd c9 (by decide))
            refine hC.1 4 70 _ _ rfl _ _ _ _ _ ?_
            have k1 : (1 : Int32).toInt = 1 := rfl
            intro m27 em_70
            try have e27 : m27.toInt = (z2_4).toInt + (1) := by rw [em_70]; exact pm_addc _ _ (1) rfl (by omega) (by omega)
            exact hC.2 [false, false, false, true, true] _ _ _ _ _ _ (ih4 z1_4 m27 w23 e23 v23 f23 hI23 hx23 hs23 (by omega) (by exact fun i9 h9 => ⟨(hb_61 i9 h9).1.trans (j1_4 i9 h9).1, (hb_61 i9 h9).2.trans (j1_4 i9 h9).2⟩) (by omega) (by omega) (by omega) (by omega))
  exact lp3 (200 - (0 : Int32).toInt).toNat.succ (0 : Int32) (0 : Int32) w e v f hI rfl hs (by omega) (by exact fun _ _ => ⟨rfl, rfl⟩) (by omega) (by omega) (by omega) (by omega)

end
end
section
/-! every name is 0 or more, kept by each edit -/
def nm0 (L : List pl_P) : Prop := ∀ p ∈ L, 0 ≤ p.2.toInt
theorem nm_si {L : List pl_P} (h : nm0 L) (a b : Int) : nm0 (si L a b) := fun p hp => h p (List.mem_of_mem_drop (List.mem_of_mem_take hp))
theorem nm_app {A B : List pl_P} (hA : nm0 A) (hB : nm0 B) : nm0 (A ++ B) := fun p hp => (List.mem_append.mp hp).elim (hA p) (hB p)
theorem nm_rev {A : List pl_P} (h : nm0 A) : nm0 A.reverse := fun p hp => h p (List.mem_reverse.mp hp)
theorem nm_flt {A : List pl_P} (h : nm0 A) (g : pl_P → Bool) : nm0 (A.filter g) := fun p hp => h p (List.mem_filter.mp hp).1
theorem nm_map {A : List pl_P} (h : nm0 A) (g : Int32 → Int32) : nm0 (A.map (fun p => (g p.1, p.2))) := fun p hp => by
  obtain ⟨q, hq, rfl⟩ := List.mem_map.mp hp
  exact h q hq
theorem nm_st {A : List pl_P} (h : nm0 A) : ∀ c, nm0 (st_l A c)
  | 0 => fun _ hp => absurd hp List.not_mem_nil
  | c + 1 => nm_app (nm_st h c) (nm_flt h _)
theorem nm_nw : ∀ (cs : List Int32) (g : Int32), 0 ≤ g.toInt → g.toInt + (cs.length : Int) < 2147483647 → nm0 (nw_l g cs)
  | [], _, _, _ => fun _ hp => absurd hp List.not_mem_nil
  | c :: r, g, h0, hb => by
    have h1 : ((c :: r).length : Int) = (r.length : Int) + 1 := by simp
    have h2 : (g + 1).toInt = g.toInt + 1 := pm_addc g 1 1 rfl (by omega) (by omega)
    intro p hp
    rcases List.mem_cons.mp hp with h | h
    · rw [h]; exact h0
    · exact nm_nw r (g + 1) (by omega) (by omega) p h
theorem nm_cut {L : List pl_P} {l r : Int32} (h : nm0 L) : nm0 ((ed_cut L l r).getD L) := by
  unfold ed_cut
  split
  · exact nm_app (nm_si h _ _) (nm_si h _ _)
  · exact h
theorem nm_insert {L : List pl_P} {g p c : Int32} (h : nm0 L) (hg : 0 ≤ g.toInt) : nm0 ((ed_insert L g p c).getD L) := by
  unfold ed_insert
  split
  · exact nm_app (nm_app (nm_si h _ _) (fun q hq => by rw [List.mem_singleton.mp hq]; exact hg)) (nm_si h _ _)
  · exact h
theorem nm_shift {L : List pl_P} {l r n : Int32} (h : nm0 L) : nm0 ((ed_shift L l r n).getD L) := by
  unfold ed_shift
  split
  · exact nm_app (nm_app (nm_app (nm_si h _ _) (nm_si h _ _)) (nm_si h _ _)) (nm_si h _ _)
  · exact h
theorem nm_swap {L : List pl_P} {l r f t : Int32} (h : nm0 L) : nm0 ((ed_swap L l r f t).getD L) := by
  have k : ∀ a b c d : Int, nm0 (sw_l L a b c d) := fun a b c d => nm_app (nm_app (nm_app (nm_app (nm_si h _ _) (nm_si h _ _)) (nm_si h _ _)) (nm_si h _ _)) (nm_si h _ _)
  unfold ed_swap
  split
  · show nm0 (if _ then _ else _)
    split
    · exact k _ _ _ _
    · exact k _ _ _ _
  · exact h
theorem nm_turn {L : List pl_P} {l r : Int32} (h : nm0 L) : nm0 ((ed_turn L l r).getD L) := by
  unfold ed_turn
  split
  · exact nm_app (nm_app (nm_si h _ _) (nm_rev (nm_si h _ _))) (nm_si h _ _)
  · exact h
theorem nm_copy {L : List pl_P} {g l r p : Int32} (h : nm0 L) (hg : 0 ≤ g.toInt) : nm0 ((ed_copy L g l r p).getD L) := by
  unfold ed_copy
  split
  · rename_i hc
    exact nm_app (nm_app (nm_si h _ _) (nm_nw _ _ hg (by rw [List.length_map, si_len (by omega) (by omega) (by omega)]; omega))) (nm_si h _ _)
  · exact h
theorem nm_draw {L : List pl_P} {g s n k : Int32} (h : nm0 L) (hg : 0 ≤ g.toInt) : nm0 ((ed_draw L g s n k).getD L) := by
  unfold ed_draw
  split
  · rename_i hc
    exact nm_app h (nm_nw _ _ hg (by rw [dr_len]; omega))
  · exact h
theorem nm_sort {L : List pl_P} {l r : Int32} (h : nm0 L) : nm0 ((ed_sort L l r).getD L) := by
  unfold ed_sort
  split
  · exact nm_app (nm_app (nm_si h _ _) (nm_st (nm_si h _ _) _)) (nm_si h _ _)
  · exact h
theorem nm_paint {L : List pl_P} {l r c : Int32} (h : nm0 L) : nm0 ((ed_paint L l r c).getD L) := by
  unfold ed_paint
  split
  · have k : nm0 (rc_l L l.toInt r.toInt (fun _ => c)) := by
      unfold rc_l
      exact nm_app (nm_app (nm_si h _ _) (nm_map (nm_si h _ _) (fun _ => c))) (nm_si h _ _)
    exact k
  · exact h
theorem nm_merge {L : List pl_P} {a b : Int32} (h : nm0 L) : nm0 ((ed_merge L a b).getD L) := by
  unfold ed_merge
  split
  · exact nm_map h (fun c => if c = a then b else c)
  · exact h
theorem nm_exch {L : List pl_P} {a b : Int32} (h : nm0 L) : nm0 ((ed_exch L a b).getD L) := by
  unfold ed_exch
  split
  · exact nm_map h (fun c => if c = a then b else if c = b then a else c)
  · exact h
end
section
section
variable {l : Launch} {g : pm_G} {A0 : pm_H} {h : Nat} {q : Nat → Nat}
set_option maxRecDepth 100000 in
set_option maxHeartbeats 2000000 in
theorem F_X11_place (D : md_D h q) (v : Nat → Int32) (f : Nat → Nat → Int32) (hv : md_V v) (hf : md_F f) (x1 : Int32)  : pm_Mt l g 197 1 0 0 [.ref h, .int x1] (md A0 g h q v f) (md_Qp (md A0 g h q v f) (fun r => (-1 ≤ r.toInt ∧ r.toInt < (v 0).toInt) ∧ ((x1.toInt < 0 ∧ r.toInt = -1) ∨ (0 ≤ x1.toInt ∧ FST (f 1) (v 0).toInt x1 r.toInt)))) := by
  refine mt_X11_place rfl (fun J hC => ?_)
  have hv9 := hv
  unfold md_V at hv9
  have rg_x1 := pm_rng x1
  refine hC.1 0 0 _ _ rfl _ _ _ _ _ ?_
  refine And.intro (fun c1 => ?_) (fun c1 => ?_)
  · skip
    refine hC.1 1 8 _ _ rfl _ _ _ _ _ ?_
    refine And.intro (Exists.intro _ md_o) (Exists.intro _ (Exists.intro _ (Exists.intro _ (Exists.intro _ (And.intro (F_X11_placeOf D v f hv hf x1 ) (And.intro rfl (fun r9 A9 h9 => ?_)))))))
    obtain ⟨y2, rfl, rfl, by2⟩ := h9
    have bp9 := by2.2
    refine hC.1 2 13 _ _ rfl _ _ _ _ _ ?_
    exact ⟨rfl, fun e9 => absurd e9 (by decide), rfl, y2, rfl, rfl, by first | (exact ⟨by omega, Or.inl ⟨by omega, by omega⟩⟩) | (exact ⟨by omega, Or.inr ⟨by omega, bp9⟩⟩)⟩
  · skip
    have km1 : (-1 : Int32).toInt = -1 := rfl
    refine hC.1 2 13 _ _ rfl _ _ _ _ _ ?_
    exact ⟨rfl, fun e9 => absurd e9 (by decide), rfl, (-1 : Int32), rfl, rfl, by first | (exact ⟨by omega, Or.inl ⟨by omega, by omega⟩⟩) | (exact ⟨by omega, Or.inr ⟨by omega, bp9⟩⟩)⟩

end
end
section
/-- the bonds of a row -/
def bd (n : Int32) (c a : Nat → Int32) : Prop := ∀ j : Nat, (j : Int) < n.toInt → (a j).toInt = lastEq c (c j) j
theorem bd_fr {n n2 : Int32} {c a c2 a2 : Nat → Int32} (h : bd n c a) (h2 : n2.toInt = n.toInt) (hc : c2 = c) (ha : a2 = a) : bd n2 c2 a2 := by
  subst hc; subst ha
  exact fun j hj => h j (by omega)
end
section
section
variable {l : Launch} {g : pm_G} {A0 : pm_H} {K nn dn : Nat} {q : Nat → Nat} {w : Nat → Int32} {e : Nat → Nat → Int32} {v : Nat → Int32} {f : Nat → Nat → Int32}
set_option maxRecDepth 100000 in
set_option maxHeartbeats 2000000 in
theorem G_X9_finish (hI : cw_I K nn dn q w e) (hs : cw_S v f)  (p0 : (w 0).toInt + 2 ≤ K ∨ K = 41) (p1 : (w 0).toInt < 100000) : pm_Mt l g 24 3 0 0 [.ref (q 1)] (cw A0 g K nn dn q w e v f) (cw_Qt A0 g K dn dn q (fun r w2 e2 => e2 15 = e 15 ∧ (∃ x : Int32, r = some (.int x) ∧ (((w2 1).toInt = (w 1).toInt ∧ (w2 3).toInt = (w 3).toInt ∧ (w2 0).toInt = (w 0).toInt + 1) ∧ ((∀ i9, 40 ≤ i9 → (i9 < dn ∨ dn + 4 ≤ i9) → w2 i9 = w i9 ∧ e2 i9 = e i9) ∧ (∀ D, rp (w dn) (e (dn + 1)) (e (dn + 2)) (D) → rp (w2 dn) (e2 (dn + 1)) (e2 (dn + 2)) (D)) ∧ bd (w2 dn) (e2 (dn + 1)) (e2 (dn + 3))))))) := by
  refine mt_X9_finish rfl (fun J hC => ?_)
  have ro_nn : cw_ro K nn := hI.2.1.2.1
  have ro_dn : cw_ro K dn := hI.2.1.2.2.1
  have hu1 := hI.2.1
  unfold cw_W at hu1
  have zs2 := cw_sz hI ro_nn
  have zs3 := cw_sz hI ro_dn
  refine hC.1 0 0 _ _ rfl _ _ _ _ _ ?_
  refine Exists.intro _ (And.intro (cw_o1 hI.1) ?_)
  have km1 : (-1 : Int32).toInt = -1 := rfl
  refine Exists.intro _ (Exists.intro _ (Exists.intro _ (Exists.intro _ (And.intro (c_fill (cw_a13 hI.1) (by decide) (-1 : Int32)) (And.intro rfl (fun r9 A9 h9 => ?_))))))
  obtain ⟨rfl, rfl⟩ := h9
  rw [cw_s13 hI.1]
  obtain ⟨f4, ef4⟩ : ∃ z9, z9 = va_up f 13 (fun j => if j < 24 then (-1 : Int32) else f 13 j) := ⟨_, rfl⟩
  rw [← ef4]
  have hs4 : cw_S v f4 := by rw [ef4]; exact cw_S_fl hs _ _ (by decide)
  have pf_5 := ef4
  have k0 : (0 : Int32).toInt = 0 := rfl
  have lp6 : ∀ (n : Nat) (z1_12 : Int32) (z2_12 : Int32) (w5 : Nat → Int32) (e5 : Nat → Nat → Int32) (v5 : Nat → Int32) (f5 : Nat → Nat → Int32), cw_I K nn dn q w5 e5 → e5 15 = e 15 → cw_S v5 f5 → (0 ≤ z2_12.toInt ∧ z2_12.toInt ≤ 160) → ((w5 0).toInt = (w 0).toInt) → (w5 = w ∧ ∀ i9, i9 ≠ dn + 3 → e5 i9 = e i9) → (∀ j : Nat, (j : Int) < z2_12.toInt → (e5 (dn + 3) j).toInt = lastEq (e (dn + 1)) (e (dn + 1) j) j) → (∀ c9 : Int32, 0 ≤ c9.toInt → c9.toInt ≤ 23 → (f5 13 c9.toInt.toNat).toInt = lastEq (e (dn + 1)) c9 z2_12.toInt.toNat) → (w5 1).toInt = (w 1).toInt → (w5 3).toInt = (w 3).toInt → 200 - z2_12.toInt < (n : Int) → J 12 [some (.ref (q 1)), some (.int z1_12), some (.int z2_12), none] [] (cw A0 g K nn dn q w5 e5 v5 f5) 0 0 := by
    intro n
    induction n with
    | zero =>
      intro z1_12 z2_12 w5 e5 v5 f5 hI5 hx5 hs5 j0_12 j1_12 j2_12 j3_12 j4_12 j5_12 j6_12 j7_12
      omega
    | succ n ih7 =>
      intro z1_12 z2_12 w5 e5 v5 f5 hI5 hx5 hs5 j0_12 j1_12 j2_12 j3_12 j4_12 j5_12 j6_12 j7_12
      have hu8 := hI5.2.1
      unfold cw_W at hu8
      have zs9 := cw_sz hI5 ro_nn
      have zs10 := cw_sz hI5 ro_dn
      refine hC.1 1 12 _ _ rfl _ _ _ _ _ ?_
      refine Exists.intro _ (And.intro (cw_o1 hI5.1) ?_)
      refine Exists.intro _ (And.intro (cw_ro_o hI5.1 ro_dn) ?_)
      have z11 := cw_sz hI5 ro_dn
      refine And.intro (fun c12 => ?_) (fun c12 => ?_)
      · skip
        refine hC.1 3 92 _ _ rfl _ _ _ _ _ ?_
        refine Exists.intro _ (And.intro (cw_o1 hI5.1) ?_)
        have hb13 := ro_dn
        unfold cw_ro at hb13
        refine Exists.intro _ (And.intro (cw_ro_o hI5.1 ro_dn) (And.intro rfl ?_))
        rw [cw_p_touches hI5.1 ro_dn]
        obtain ⟨w14, ew14⟩ : ∃ z9, z9 = upd w5 (dn + 1) z1_12 := ⟨_, rfl⟩
        rw [← ew14]
        have ew14_0 : (w14 0).toInt = (w5 0).toInt := by rw [ew14, pk_un (by omega)]
        have ew14_1 : (w14 1).toInt = (w5 1).toInt := by rw [ew14, pk_un (by omega)]
        have ew14_2 : (w14 2).toInt = (w5 2).toInt := by rw [ew14, pk_un (by omega)]
        have ew14_3 : (w14 3).toInt = (w5 3).toInt := by rw [ew14, pk_un (by omega)]
        have pn_97 : w14 (dn + 1) = z1_12 := by rw [ew14, pk_us]
        have pw_97 := ew14
        have hZ14 : cw_Z w14 := by rw [ew14]; exact cw_Z_up hI5.2.2.1 _ _ (by omega)
        have hI14 : cw_I K nn dn q w14 e5 := ⟨hI5.1, by unfold cw_W; omega, hZ14, hI5.2.2.2⟩
        refine Exists.intro _ (And.intro (cw_o1 hI14.1) ?_)
        refine Exists.intro _ (And.intro (cw_o1 hI14.1) (And.intro rfl ?_))
        rw [cw_p_now hI14.1]
        have hI15 : cw_I K dn dn q w14 e5 := ⟨hI14.1, by have hu9 := hI14.2.1; unfold cw_W at hu9 ⊢; omega, hI14.2.2.1, hI14.2.2.2⟩
        refine Exists.intro _ (And.intro (cw_o1 hI15.1) ?_)
        have k1 : (1 : Int32).toInt = 1 := rfl
        intro m16 em_114
        try have e16 : m16.toInt = ((w14 0)).toInt + (1) := by rw [em_114]; exact pm_addc _ _ (1) rfl (by omega) (by omega)
        refine Exists.intro _ (And.intro (cw_o1 hI15.1) (And.intro rfl ?_))
        rw [cw_p_edits hI15.1]
        obtain ⟨w17, ew17⟩ : ∃ z9, z9 = upd w14 0 m16 := ⟨_, rfl⟩
        rw [← ew17]
        have ew17_0 : (w17 0).toInt = (m16).toInt := by rw [ew17]; rfl
        have ew17_1 : (w17 1).toInt = (w14 1).toInt := by rw [ew17]; rfl
        have ew17_2 : (w17 2).toInt = (w14 2).toInt := by rw [ew17]; rfl
        have ew17_3 : (w17 3).toInt = (w14 3).toInt := by rw [ew17]; rfl
        have pn_115 : w17 0 = m16 := by rw [ew17, pk_us]
        have pw_115 := ew17
        have hZ17 : cw_Z w17 := by rw [ew17]; exact cw_Z_up hI15.2.2.1 _ _ (by omega)
        have hI17 : cw_I K dn dn q w17 e5 := ⟨hI15.1, by unfold cw_W; omega, hZ17, hI15.2.2.2⟩
        refine Exists.intro _ (And.intro (cw_o1 hI17.1) ?_)
        intro m18 em_124
        try have e18 : m18.toInt = ((w17 2)).toInt + (z1_12).toInt := by rw [em_124]; exact pm_add _ _ (by omega) (by omega)
        refine Exists.intro _ (And.intro (cw_o1 hI17.1) (And.intro rfl ?_))
        rw [cw_p_touchedInAll hI17.1]
        obtain ⟨w19, ew19⟩ : ∃ z9, z9 = upd w17 2 m18 := ⟨_, rfl⟩
        rw [← ew19]
        have ew19_0 : (w19 0).toInt = (w17 0).toInt := by rw [ew19]; rfl
        have ew19_1 : (w19 1).toInt = (w17 1).toInt := by rw [ew19]; rfl
        have ew19_2 : (w19 2).toInt = (m18).toInt := by rw [ew19]; rfl
        have ew19_3 : (w19 3).toInt = (w17 3).toInt := by rw [ew19]; rfl
        have pn_125 : w19 2 = m18 := by rw [ew19, pk_us]
        have pw_125 := ew19
        have hZ19 : cw_Z w19 := by rw [ew19]; exact cw_Z_up hI17.2.2.1 _ _ (by omega)
        have hI19 : cw_I K dn dn q w19 e5 := ⟨hI17.1, by unfold cw_W; omega, hZ19, hI17.2.2.2⟩
        exact ⟨rfl, fun e9 => absurd e9 (by decide), rfl, w19, e5, v5, f5, rfl, hI19, hs5, hx5, z1_12, rfl, by first | omega | (dsimp only; omega) | trivial, by exact ⟨fun i9 h91 h92 => ⟨by rw [pw_125, pk_un (by omega), pw_115, pk_un (by omega), pw_97, pk_un (by omega), j2_12.1], j2_12.2 i9 (by omega)⟩, fun D h1 => (by rw [pw_125, pk_un (by omega), pw_115, pk_un (by omega), pw_97, pk_un (by omega), j2_12.1, j2_12.2 (dn + 1) (by omega), j2_12.2 (dn + 2) (by omega)]; exact h1), fun j hj => (by rw [pw_125, pk_un (by omega), pw_115, pk_un (by omega), pw_97, pk_un (by omega), j2_12.1] at hj; rw [j2_12.2 (dn + 1) (by omega)]; exact j3_12 j (by rw [← j2_12.1] at hj; omega))⟩⟩
      · skip
        refine Exists.intro _ (And.intro (cw_o1 hI5.1) ?_)
        refine Exists.intro _ (And.intro (cw_ro_o hI5.1 ro_dn) ?_)
        refine Exists.intro _ (Exists.intro _ (And.intro (Or.inl (cw_ro_1 hI5.1 ro_dn)) (And.intro (by omega) ?_)))
        have w20 := cw_col hI5 ro_dn (z2_12).toInt.toNat
        obtain ⟨k9, hk9⟩ : ∃ z9, z9 = (e5 (dn + 1) (z2_12).toInt.toNat) := ⟨_, rfl⟩
        have hk8 : k9 = e (dn + 1) z2_12.toInt.toNat := by rw [hk9, j2_12.2 (dn + 1) (by omega)]
        have hk7 := hk8 ▸ cw_col hI ro_dn z2_12.toInt.toNat
        refine Exists.intro _ (And.intro (cw_o1 hI5.1) ?_)
        refine Exists.intro _ (And.intro (cw_ro_o hI5.1 ro_dn) ?_)
        refine Exists.intro _ (And.intro (cw_o1 hI5.1) ?_)
        refine Exists.intro _ (Exists.intro _ (And.intro (Or.inl (cw_a13 hI5.1)) (And.intro (by omega) ?_)))
        have w21 := hs5.2.2 ((e5 (dn + 1) (z2_12).toInt.toNat)).toInt.toNat
        have hb22 := ro_dn
        unfold cw_ro at hb22
        refine Exists.intro _ (Exists.intro _ (And.intro (cw_ro_3 hI5.1 ro_dn) (And.intro (by omega) ?_)))
        rw [cw_sr_3 hI5.1 ro_dn]
        obtain ⟨e23, ee23⟩ : ∃ z9, z9 = va_up e5 (dn + 3) (upd (e5 (dn + 3)) (z2_12).toInt.toNat (f5 13 ((e5 (dn + 1) (z2_12).toInt.toNat)).toInt.toNat)) := ⟨_, rfl⟩
        rw [← ee23]
        have hI23 : cw_I K nn dn q w5 e23 := ⟨hI5.1, hI5.2.1, hI5.2.2.1, by rw [ee23]; exact cw_E_3 hI5.2.2.2 (by omega) _ _ (by omega)⟩
        have hx23 : e23 15 = e 15 := (show e23 15 = e5 15 by rw [ee23]; exact if_neg (by omega)).trans hx5
        have pe_47 := ee23
        refine Exists.intro _ (And.intro (cw_o1 hI23.1) ?_)
        refine Exists.intro _ (Exists.intro _ (And.intro (cw_a13 hI23.1) (And.intro (by omega) ?_)))
        rw [cw_s13 hI23.1]
        obtain ⟨f24, ef24⟩ : ∃ z9, z9 = va_up f5 13 (upd (f5 13) ((e5 (dn + 1) (z2_12).toInt.toNat)).toInt.toNat z2_12) := ⟨_, rfl⟩
        rw [← ef24]
        have hs24 : cw_S v5 f24 := by rw [ef24]; exact cw_S_f13 hs5 _ _ (by omega)
        have pf_54 := ef24
        refine Exists.intro _ (And.intro (cw_o1 hI23.1) ?_)
        refine Exists.intro _ (Exists.intro _ (And.intro (Or.inl (cw_a12 hI23.1)) (And.intro (by omega) ?_)))
        have km2 : (-2 : Int32).toInt = -2 := rfl
        refine And.intro (fun c25 => ?_) (fun c25 => ?_)
        · skip
          have dc25 : ((f24 12 (z2_12).toInt.toNat)).toInt = ((-2 : Int32) : Int32).toInt := congrArg Int32.toInt c25
          refine hC.1 2 86 _ _ rfl _ _ _ _ _ ?_
          have k1 : (1 : Int32).toInt = 1 := rfl
          intro m26 em_86
          try have e26 : m26.toInt = (z2_12).toInt + (1) := by rw [em_86]; exact pm_addc _ _ (1) rfl (by omega) (by omega)
          exact hC.2 [false, false, false, true] _ _ _ _ _ _ (ih7 z1_12 m26 w5 e23 v5 f24 hI23 hx23 hs24 (by omega) (by omega) (by exact ⟨j2_12.1, fun i9 h91 => (by rw [pe_47, va_un h91]; exact j2_12.2 i9 h91)⟩) (by intro j hj; rw [pe_47, va_us]; by_cases h8 : j = z2_12.toInt.toNat; (subst h8; rw [pk_us, ← hk9, ← hk8]; exact j4_12 k9 (by omega) (by omega)); (rw [pk_un h8]; exact j3_12 j (by omega))) (by intro c9 h1 h2; rw [pf_54, va_us, ← hk9, show m26.toInt.toNat = z2_12.toInt.toNat + 1 by omega]; by_cases h8 : c9 = k9; (subst h8; rw [pk_us, lastEq_y hk8.symm]; omega); (rw [pk_un (fun h7 => h8 (pm_eqI (by omega))), lastEq_n (fun h7 => h8 (by rw [hk8]; exact h7.symm))]; exact j4_12 c9 h1 h2)) (by omega) (by omega) (by omega))
        · skip
          have dc25 := pm_neI c25
          refine Exists.intro _ (And.intro (cw_o1 hI23.1) ?_)
          refine Exists.intro _ (Exists.intro _ (And.intro (Or.inl (cw_a12 hI23.1)) (And.intro (by omega) ?_)))
          refine Exists.intro _ (And.intro (cw_o1 hI23.1) ?_)
          refine And.intro (Exists.intro _ (cw_ro_o hI23.1 ro_dn)) (Exists.intro _ (Exists.intro _ (Exists.intro _ (Exists.intro _ (And.intro (c_X7_bondAt hI23 hs24 ro_dn z2_12 ) (And.intro rfl (fun r9 A9 h9 => ?_)))))))
          obtain ⟨y27, rfl, rfl, by27⟩ := h9
          refine And.intro (fun c29 => ?_) (fun c29 => ?_)
          · skip
            have dc29 : ((f24 12 (z2_12).toInt.toNat)).toInt = (y27 : Int32).toInt := congrArg Int32.toInt c29
            refine hC.1 2 86 _ _ rfl _ _ _ _ _ ?_
            have k1 : (1 : Int32).toInt = 1 := rfl
            intro m30 em_86
            try have e30 : m30.toInt = (z2_12).toInt + (1) := by rw [em_86]; exact pm_addc _ _ (1) rfl (by omega) (by omega)
            exact hC.2 [false, false, false, true] _ _ _ _ _ _ (ih7 z1_12 m30 w5 e23 v5 f24 hI23 hx23 hs24 (by omega) (by omega) (by exact ⟨j2_12.1, fun i9 h91 => (by rw [pe_47, va_un h91]; exact j2_12.2 i9 h91)⟩) (by intro j hj; rw [pe_47, va_us]; by_cases h8 : j = z2_12.toInt.toNat; (subst h8; rw [pk_us, ← hk9, ← hk8]; exact j4_12 k9 (by omega) (by omega)); (rw [pk_un h8]; exact j3_12 j (by omega))) (by intro c9 h1 h2; rw [pf_54, va_us, ← hk9, show m30.toInt.toNat = z2_12.toInt.toNat + 1 by omega]; by_cases h8 : c9 = k9; (subst h8; rw [pk_us, lastEq_y hk8.symm]; omega); (rw [pk_un (fun h7 => h8 (pm_eqI (by omega))), lastEq_n (fun h7 => h8 (by rw [hk8]; exact h7.symm))]; exact j4_12 c9 h1 h2)) (by omega) (by omega) (by omega))
          · skip
            have dc29 := pm_neI c29
            have k1 : (1 : Int32).toInt = 1 := rfl
            intro m31 em_83
            try have e31 : m31.toInt = (z1_12).toInt + (1) := by rw [em_83]; exact pm_addc _ _ (1) rfl (by omega) (by omega)
            refine hC.1 2 86 _ _ rfl _ _ _ _ _ ?_
            intro m32 em_86
            try have e32 : m32.toInt = (z2_12).toInt + (1) := by rw [em_86]; exact pm_addc _ _ (1) rfl (by omega) (by omega)
            exact hC.2 [false, false, false, true] _ _ _ _ _ _ (ih7 m31 m32 w5 e23 v5 f24 hI23 hx23 hs24 (by omega) (by omega) (by exact ⟨j2_12.1, fun i9 h91 => (by rw [pe_47, va_un h91]; exact j2_12.2 i9 h91)⟩) (by intro j hj; rw [pe_47, va_us]; by_cases h8 : j = z2_12.toInt.toNat; (subst h8; rw [pk_us, ← hk9, ← hk8]; exact j4_12 k9 (by omega) (by omega)); (rw [pk_un h8]; exact j3_12 j (by omega))) (by intro c9 h1 h2; rw [pf_54, va_us, ← hk9, show m32.toInt.toNat = z2_12.toInt.toNat + 1 by omega]; by_cases h8 : c9 = k9; (subst h8; rw [pk_us, lastEq_y hk8.symm]; omega); (rw [pk_un (fun h7 => h8 (pm_eqI (by omega))), lastEq_n (fun h7 => h8 (by rw [hk8]; exact h7.symm))]; exact j4_12 c9 h1 h2)) (by omega) (by omega) (by omega))
  exact lp6 (200 - (0 : Int32).toInt).toNat.succ (0 : Int32) (0 : Int32) w e v f4 hI rfl hs4 (by omega) (by omega) (by exact ⟨rfl, fun _ _ => rfl⟩) (by intro j hj; omega) (by intro c9 h1 h2; rw [pf_5, va_us, if_pos (by omega)]; rfl) (by omega) (by omega) (by omega)

end
end
section
section
variable {l : Launch} {g : pm_G} {A0 : pm_H} {K nn dn : Nat} {q : Nat → Nat} {w : Nat → Int32} {e : Nat → Nat → Int32} {v : Nat → Int32} {f : Nat → Nat → Int32}
set_option maxRecDepth 100000 in
set_option maxHeartbeats 2000000 in
theorem H_X10_cut (hI : cw_I K nn dn q w e) (hs : cw_S v f) (x1 : Int32) (x2 : Int32) (p0 : (w 0).toInt < 100000) : pm_Mt l g 29 4 4 485 [.ref (q 0), .int x1, .int x2] (cw A0 g K nn dn q w e v f) (cw_Qb A0 g K nn q (fun r K2 nn2 dn2 w2 e2 => e2 15 = e 15 ∧ (∃ x : Int32, r = some (.int x) ∧ (((w2 0).toInt ≤ (w 0).toInt + 1 ∧ (w 0).toInt ≤ (w2 0).toInt) ∧ (∀ L, rp (w nn) (e (nn + 1)) (e (nn + 2)) L → (nn : Int) = 40 + 4 * ((w 0).toInt % 41) → rp (w2 nn2) (e2 (nn2 + 1)) (e2 (nn2 + 2)) ((ed_cut L x1 x2).getD L) ∧ (w2 0).toInt = (w 0).toInt + edn (ed_cut L x1 x2) ∧ (w2 1).toInt = (w 1).toInt + edn (ed_cut L x1 x2) * (0) ∧ (nn2 : Int) = 40 + 4 * ((w2 0).toInt % 41) ∧ (bd (w nn) (e (nn + 1)) (e (nn + 3)) → bd (w2 nn2) (e2 (nn2 + 1)) (e2 (nn2 + 3)))))))) := by
  refine mt_X10_cut rfl (fun J hC => ?_)
  have ro_nn : cw_ro K nn := hI.2.1.2.1
  have ro_dn : cw_ro K dn := hI.2.1.2.2.1
  have hu1 := hI.2.1
  unfold cw_W at hu1
  have zs2 := cw_sz hI ro_nn
  have zs3 := cw_sz hI ro_dn
  have rg_x1 := pm_rng x1
  have rg_x2 := pm_rng x2
  refine hC.1 0 0 _ _ rfl _ _ _ _ _ ?_
  refine Exists.intro _ (And.intro (cw_o0 hI.1) ?_)
  refine Exists.intro _ (And.intro (cw_o1 hI.1) ?_)
  refine And.intro (Exists.intro _ (cw_ro_o hI.1 ro_nn)) (Exists.intro _ (Exists.intro _ (Exists.intro _ (Exists.intro _ (And.intro (c_X7_isSpan hI hs ro_nn x1 x2 ) (And.intro rfl (fun r9 A9 h9 => ?_)))))))
  rcases h9 with ⟨y4, rfl, rfl, ⟨rfl, by4⟩ | ⟨rfl, by4⟩⟩
  · skip
    have k1 : (1 : Int32).toInt = 1 := rfl
    refine And.intro (fun _ => ?_) (fun c9 => absurd c9 (by decide))
    refine hC.1 1 19 _ _ rfl _ _ _ _ _ ?_
    refine Exists.intro _ (And.intro (cw_o0 hI.1) ?_)
    refine And.intro (Exists.intro _ (cw_o1 hI.1)) (Exists.intro _ (Exists.intro _ (Exists.intro _ (Exists.intro _ (And.intro (F_X9_begin hI hs  (by omega)) (And.intro rfl (fun r9 A9 h9 => ?_)))))))
    obtain ⟨K7, dn7, q7, w7, e7, rfl, rfl, hI7, hX7, hk7, hw7, hy7, hdn7, hfm7, hz7⟩ := h9
    have hq7_0 : q 0 = q7 0 := (hX7.2.1 0 (by omega)).symm
    have hq7_nn : q nn = q7 nn := (hX7.2.1 nn (by omega)).symm
    rw [hq7_0, hq7_nn]
    have hw7_0 := congrArg Int32.toInt hw7.1
    have hw7_1 := congrArg Int32.toInt hw7.2.1
    have hw7_3 := congrArg Int32.toInt hw7.2.2.2
    have ro7 : cw_ro K7 dn7 := hI7.2.1.2.2.1
    have rn7 : cw_ro K7 nn := hI7.2.1.2.1
    have hx7 : e7 15 = e 15 := hy7.trans rfl
    have hu8 := hI7.2.1
    unfold cw_W at hu8
    have zs9 := cw_sz hI7 rn7
    have zs10 := cw_sz hI7 ro7
    have hz9 := hz7
    have hL7 : ∀ L, rp (w nn) (e (nn + 1)) (e (nn + 2)) L → (nn : Int) = 40 + 4 * ((w 0).toInt % 41) → nn ≠ dn7 ∧ rp (w7 nn) (e7 (nn + 1)) (e7 (nn + 2)) L := hL_b ro_nn ro7 hdn7 hfm7
    refine Exists.intro _ (And.intro (cw_o0 hI7.1) ?_)
    have k0 : (0 : Int32).toInt = 0 := rfl
    intro m11 em_33
    try have e11 : m11.toInt = (x1).toInt - (1) := by rw [em_33]; exact pm_subc _ _ (1) rfl (by omega) (by omega)
    have hp_34 := hL7
    refine And.intro (Exists.intro _ (cw_o1 hI7.1)) (Exists.intro _ (Exists.intro _ (Exists.intro _ (Exists.intro _ (And.intro (F_X9_keep hI7 hs (0 : Int32) m11 ) (And.intro rfl (fun r9 A9 h9 => ?_)))))))
    rcases h9 with ⟨w13, e13, v13, f13, rfl, hI13, hs13, hy13, rfl, by12⟩
    have hx13 : e13 15 = e 15 := hy13.trans hx7
    have hu14 := hI13.2.1
    unfold cw_W at hu14
    have zs15 := cw_sz hI13 rn7
    have zs16 := cw_sz hI13 ro7
    clear hu8 zs9 zs10
    have hb_34 := by12.2
    have hL13 : ∀ L, rp (w nn) (e (nn + 1)) (e (nn + 2)) L → (nn : Int) = 40 + 4 * ((w 0).toInt % 41) → nn ≠ dn7 ∧ rp (w13 nn) (e13 (nn + 1)) (e13 (nn + 2)) L := hL_k hL7 rn7 ro7 hb_34.1
    refine Exists.intro _ (And.intro (cw_o0 hI13.1) ?_)
    intro m17 em_43
    try have e17 : m17.toInt = (x2).toInt + (1) := by rw [em_43]; exact pm_addc _ _ (1) rfl (by omega) (by omega)
    refine Exists.intro _ (And.intro (cw_ro_o hI13.1 rn7) ?_)
    have z18 := cw_sz hI13 rn7
    intro m19 em_49
    try have e19 : m19.toInt = ((w13 nn)).toInt - (1) := by rw [em_49]; exact pm_subc _ _ (1) rfl (by omega) (by omega)
    have hp_50 := hL13
    refine And.intro (Exists.intro _ (cw_o1 hI13.1)) (Exists.intro _ (Exists.intro _ (Exists.intro _ (Exists.intro _ (And.intro (F_X9_keep hI13 hs13 m17 m19 ) (And.intro rfl (fun r9 A9 h9 => ?_)))))))
    rcases h9 with ⟨w21, e21, v21, f21, rfl, hI21, hs21, hy21, rfl, by20⟩
    have hx21 : e21 15 = e 15 := hy21.trans hx13
    have hu22 := hI21.2.1
    unfold cw_W at hu22
    have zs23 := cw_sz hI21 rn7
    have zs24 := cw_sz hI21 ro7
    clear hu14 zs15 zs16
    have hb_50 := by20.2
    have hL21 : ∀ L, rp (w nn) (e (nn + 1)) (e (nn + 2)) L → (nn : Int) = 40 + 4 * ((w 0).toInt % 41) → nn ≠ dn7 ∧ rp (w21 nn) (e21 (nn + 1)) (e21 (nn + 2)) L := hL_k hL13 rn7 ro7 hb_50.1
    refine Exists.intro _ (And.intro (cw_o0 hI21.1) ?_)
    have hp_57 := hL21
    refine And.intro (Exists.intro _ (cw_o1 hI21.1)) (Exists.intro _ (Exists.intro _ (Exists.intro _ (Exists.intro _ (And.intro (G_X9_finish hI21 hs21  (by omega) (by omega)) (And.intro rfl (fun r9 A9 h9 => ?_)))))))
    rcases h9 with ⟨w26, e26, v26, f26, rfl, hI26, hs26, hy26, y25, rfl, by25⟩
    have hx26 : e26 15 = e 15 := hy26.trans hx21
    have hu27 := hI26.2.1
    unfold cw_W at hu27
    have zs28 := cw_sz hI26 ro7
    have zs29 := cw_sz hI26 ro7
    clear hu22 zs23 zs24
    have hb_57 := by25.2
    exact ⟨rfl, fun e9 => absurd e9 (by decide), rfl, K7, dn7, dn7, q7, w26, e26, v26, f26, rfl, hI26, hs26, hX7, hx26, y25, rfl, by first | omega | (dsimp only; omega) | trivial, by intro L hL hN; have hl := hL.1; rw [ed_cut, if_pos (by omega)]; have q1 := hp_34 L hL hN; have z1 := q1.2.1; have t1 := hb_34.2 L ([]) (0) (x1.toInt) q1.2 q1.1 (by omega) (by omega) (by omega) (by omega) (by omega) (by first | omega | (simp only [List.length_append, List.length_nil, List.length_cons, List.length_map, List.length_reverse, nw_len, dr_len]; omega)) (rp_0 hz9); have k1 := si_len (L := L) (a := 0) (b := x1.toInt) (by omega) (by omega) (by omega); rw [List.nil_append] at t1; have q2 := hp_50 L hL hN; have z2 := q2.2.1; have t2 := hb_50.2 L (_) (x2.toInt + 1) (L.length) q2.2 q2.1 (by omega) (by omega) (by omega) (by omega) (by omega) (by first | omega | (simp only [List.length_append, List.length_nil, List.length_cons, List.length_map, List.length_reverse, nw_len, dr_len]; omega)) t1; have k2 := si_len (L := L) (a := x2.toInt + 1) (b := L.length) (by omega) (by omega) (by omega); exact ⟨hb_57.2.1 _ t2, by show _ = _ + (1 : Int); omega, by show _ = _ + (1 : Int) * _; omega, by omega, fun _ => hb_57.2.2⟩⟩
  · skip
    have k0 : (0 : Int32).toInt = 0 := rfl
    refine And.intro (fun c9 => absurd c9 (by decide)) (fun _ => ?_)
    have km1 : (-1 : Int32).toInt = -1 := rfl
    exact ⟨rfl, fun e9 => absurd e9 (by decide), rfl, K, nn, dn, q, w, e, v, f, rfl, hI, hs, cw_X_r, rfl, (-1 : Int32), rfl, by first | omega | (dsimp only; omega) | trivial, by intro L hL hN; have hl := hL.1; rw [ed_cut, if_neg (by omega)]; exact ⟨hL, by show _ = _ + (0 : Int); omega, by show _ = _ + (0 : Int) * _; omega, hN, fun h8 => h8⟩⟩

set_option maxRecDepth 100000 in
set_option maxHeartbeats 2000000 in
theorem H_X10_insert (hI : cw_I K nn dn q w e) (hs : cw_S v f) (x1 : Int32) (x2 : Int32) (p0 : (w 0).toInt < 100000) : pm_Mt l g 25 4 4 485 [.ref (q 0), .int x1, .int x2] (cw A0 g K nn dn q w e v f) (cw_Qb A0 g K nn q (fun r K2 nn2 dn2 w2 e2 => e2 15 = e 15 ∧ (∃ x : Int32, r = some (.int x) ∧ (((w2 0).toInt ≤ (w 0).toInt + 1 ∧ (w 0).toInt ≤ (w2 0).toInt) ∧ (∀ L, rp (w nn) (e (nn + 1)) (e (nn + 2)) L → (nn : Int) = 40 + 4 * ((w 0).toInt % 41) → rp (w2 nn2) (e2 (nn2 + 1)) (e2 (nn2 + 2)) ((ed_insert L (w 1) x1 x2).getD L) ∧ (w2 0).toInt = (w 0).toInt + edn (ed_insert L (w 1) x1 x2) ∧ (w2 1).toInt = (w 1).toInt + edn (ed_insert L (w 1) x1 x2) * (1) ∧ (nn2 : Int) = 40 + 4 * ((w2 0).toInt % 41) ∧ (bd (w nn) (e (nn + 1)) (e (nn + 3)) → bd (w2 nn2) (e2 (nn2 + 1)) (e2 (nn2 + 3)))))))) := by
  refine mt_X10_insert rfl (fun J hC => ?_)
  have ro_nn : cw_ro K nn := hI.2.1.2.1
  have ro_dn : cw_ro K dn := hI.2.1.2.2.1
  have hu1 := hI.2.1
  unfold cw_W at hu1
  have zs2 := cw_sz hI ro_nn
  have zs3 := cw_sz hI ro_dn
  have rg_x1 := pm_rng x1
  have rg_x2 := pm_rng x2
  refine hC.1 0 0 _ _ rfl _ _ _ _ _ ?_
  refine Exists.intro _ (And.intro (cw_o0 hI.1) ?_)
  refine Exists.intro _ (And.intro (cw_o1 hI.1) ?_)
  refine And.intro (Exists.intro _ (cw_ro_o hI.1 ro_nn)) (Exists.intro _ (Exists.intro _ (Exists.intro _ (Exists.intro _ (And.intro (c_X7_isGap hI hs ro_nn x1 ) (And.intro rfl (fun r9 A9 h9 => ?_)))))))
  rcases h9 with ⟨y4, rfl, rfl, ⟨rfl, by4⟩ | ⟨rfl, by4⟩⟩
  · skip
    have k1 : (1 : Int32).toInt = 1 := rfl
    refine And.intro (fun c9 => absurd c9 (by decide)) (fun _ => ?_)
    refine Exists.intro _ (Exists.intro _ (Exists.intro _ (Exists.intro _ (And.intro (c_X10_isColour (cw A0 g K nn dn q w e v f) x2 ) (And.intro rfl (fun r9 A9 h9 => ?_))))))
    rcases h9 with ⟨y6, rfl, rfl, ⟨rfl, by6⟩ | ⟨rfl, by6⟩⟩
    · skip
      refine And.intro (fun c9 => absurd c9 (by decide)) (fun _ => ?_)
      refine Exists.intro _ (And.intro (cw_o0 hI.1) ?_)
      refine And.intro (Exists.intro _ (cw_o1 hI.1)) (Exists.intro _ (Exists.intro _ (Exists.intro _ (Exists.intro _ (And.intro (c_X9_hasRoomFor hI hs (1 : Int32) (by omega)) (And.intro rfl (fun r9 A9 h9 => ?_)))))))
      rcases h9 with ⟨y8, rfl, rfl, ⟨rfl, by8⟩ | ⟨rfl, by8⟩⟩
      · skip
        refine And.intro (fun _ => ?_) (fun c9 => absurd c9 (by decide))
        refine hC.1 2 36 _ _ rfl _ _ _ _ _ ?_
        refine Exists.intro _ (And.intro (cw_o0 hI.1) ?_)
        refine And.intro (Exists.intro _ (cw_o1 hI.1)) (Exists.intro _ (Exists.intro _ (Exists.intro _ (Exists.intro _ (And.intro (F_X9_begin hI hs  (by omega)) (And.intro rfl (fun r9 A9 h9 => ?_)))))))
        obtain ⟨K11, dn11, q11, w11, e11, rfl, rfl, hI11, hX11, hk11, hw11, hy11, hdn11, hfm11, hz11⟩ := h9
        have hq11_0 : q 0 = q11 0 := (hX11.2.1 0 (by omega)).symm
        have hq11_nn : q nn = q11 nn := (hX11.2.1 nn (by omega)).symm
        rw [hq11_0, hq11_nn]
        have hw11_0 := congrArg Int32.toInt hw11.1
        have hw11_1 := congrArg Int32.toInt hw11.2.1
        have hw11_3 := congrArg Int32.toInt hw11.2.2.2
        have ro11 : cw_ro K11 dn11 := hI11.2.1.2.2.1
        have rn11 : cw_ro K11 nn := hI11.2.1.2.1
        have hx11 : e11 15 = e 15 := hy11.trans rfl
        have hu12 := hI11.2.1
        unfold cw_W at hu12
        have zs13 := cw_sz hI11 rn11
        have zs14 := cw_sz hI11 ro11
        have hz9 := hz11
        have hL11 : ∀ L, rp (w nn) (e (nn + 1)) (e (nn + 2)) L → (nn : Int) = 40 + 4 * ((w 0).toInt % 41) → nn ≠ dn11 ∧ rp (w11 nn) (e11 (nn + 1)) (e11 (nn + 2)) L := hL_b ro_nn ro11 hdn11 hfm11
        refine Exists.intro _ (And.intro (cw_o0 hI11.1) ?_)
        have k0 : (0 : Int32).toInt = 0 := rfl
        intro m15 em_50
        try have e15 : m15.toInt = (x1).toInt - (1) := by rw [em_50]; exact pm_subc _ _ (1) rfl (by omega) (by omega)
        have hp_51 := hL11
        refine And.intro (Exists.intro _ (cw_o1 hI11.1)) (Exists.intro _ (Exists.intro _ (Exists.intro _ (Exists.intro _ (And.intro (F_X9_keep hI11 hs (0 : Int32) m15 ) (And.intro rfl (fun r9 A9 h9 => ?_)))))))
        rcases h9 with ⟨w17, e17, v17, f17, rfl, hI17, hs17, hy17, rfl, by16⟩
        have hx17 : e17 15 = e 15 := hy17.trans hx11
        have hu18 := hI17.2.1
        unfold cw_W at hu18
        have zs19 := cw_sz hI17 rn11
        have zs20 := cw_sz hI17 ro11
        clear hu12 zs13 zs14
        have hb_51 := by16.2
        have hL17 : ∀ L, rp (w nn) (e (nn + 1)) (e (nn + 2)) L → (nn : Int) = 40 + 4 * ((w 0).toInt % 41) → nn ≠ dn11 ∧ rp (w17 nn) (e17 (nn + 1)) (e17 (nn + 2)) L := hL_k hL11 rn11 ro11 hb_51.1
        refine Exists.intro _ (And.intro (cw_o0 hI17.1) ?_)
        have wn9 : w17 1 = w 1 := pm_eqI (by omega)
        have hp_59 := hL17
        refine And.intro (Exists.intro _ (cw_o1 hI17.1)) (Exists.intro _ (Exists.intro _ (Exists.intro _ (Exists.intro _ (And.intro (F_X9_add hI17 hs17 x2 (by omega) (by omega)) (And.intro rfl (fun r9 A9 h9 => ?_)))))))
        rcases h9 with ⟨w22, e22, v22, f22, rfl, hI22, hs22, hy22, rfl, by21⟩
        have hx22 : e22 15 = e 15 := hy22.trans hx17
        have hu23 := hI22.2.1
        unfold cw_W at hu23
        have zs24 := cw_sz hI22 rn11
        have zs25 := cw_sz hI22 ro11
        clear hu18 zs19 zs20
        have hb_59 := by21.2
        have hL22 : ∀ L, rp (w nn) (e (nn + 1)) (e (nn + 2)) L → (nn : Int) = 40 + 4 * ((w 0).toInt % 41) → nn ≠ dn11 ∧ rp (w22 nn) (e22 (nn + 1)) (e22 (nn + 2)) L := hL_k hL17 rn11 ro11 hb_59.1
        refine Exists.intro _ (And.intro (cw_o0 hI22.1) ?_)
        refine Exists.intro _ (And.intro (cw_ro_o hI22.1 rn11) ?_)
        have z26 := cw_sz hI22 rn11
        intro m27 em_72
        try have e27 : m27.toInt = ((w22 nn)).toInt - (1) := by rw [em_72]; exact pm_subc _ _ (1) rfl (by omega) (by omega)
        have hp_73 := hL22
        refine And.intro (Exists.intro _ (cw_o1 hI22.1)) (Exists.intro _ (Exists.intro _ (Exists.intro _ (Exists.intro _ (And.intro (F_X9_keep hI22 hs22 x1 m27 ) (And.intro rfl (fun r9 A9 h9 => ?_)))))))
        rcases h9 with ⟨w29, e29, v29, f29, rfl, hI29, hs29, hy29, rfl, by28⟩
        have hx29 : e29 15 = e 15 := hy29.trans hx22
        have hu30 := hI29.2.1
        unfold cw_W at hu30
        have zs31 := cw_sz hI29 rn11
        have zs32 := cw_sz hI29 ro11
        clear hu23 zs24 zs25
        have hb_73 := by28.2
        have hL29 : ∀ L, rp (w nn) (e (nn + 1)) (e (nn + 2)) L → (nn : Int) = 40 + 4 * ((w 0).toInt % 41) → nn ≠ dn11 ∧ rp (w29 nn) (e29 (nn + 1)) (e29 (nn + 2)) L := hL_k hL22 rn11 ro11 hb_73.1
        refine Exists.intro _ (And.intro (cw_o0 hI29.1) ?_)
        have hp_80 := hL29
        refine And.intro (Exists.intro _ (cw_o1 hI29.1)) (Exists.intro _ (Exists.intro _ (Exists.intro _ (Exists.intro _ (And.intro (G_X9_finish hI29 hs29  (by omega) (by omega)) (And.intro rfl (fun r9 A9 h9 => ?_)))))))
        rcases h9 with ⟨w34, e34, v34, f34, rfl, hI34, hs34, hy34, y33, rfl, by33⟩
        have hx34 : e34 15 = e 15 := hy34.trans hx29
        have hu35 := hI34.2.1
        unfold cw_W at hu35
        have zs36 := cw_sz hI34 ro11
        have zs37 := cw_sz hI34 ro11
        clear hu30 zs31 zs32
        have hb_80 := by33.2
        exact ⟨rfl, fun e9 => absurd e9 (by decide), rfl, K11, dn11, dn11, q11, w34, e34, v34, f34, rfl, hI34, hs34, hX11, hx34, y33, rfl, by first | omega | (dsimp only; omega) | trivial, by intro L hL hN; have hl := hL.1; rw [ed_insert, if_pos (by omega)]; have q1 := hp_51 L hL hN; have z1 := q1.2.1; have t1 := hb_51.2 L ([]) (0) (x1.toInt) q1.2 q1.1 (by omega) (by omega) (by omega) (by omega) (by omega) (by first | omega | (simp only [List.length_append, List.length_nil, List.length_cons, List.length_map, List.length_reverse, nw_len, dr_len]; omega)) (rp_0 hz9); have k1 := si_len (L := L) (a := 0) (b := x1.toInt) (by omega) (by omega) (by omega); rw [List.nil_append] at t1; have t2 := hb_59.2 _ t1 (by first | omega | (simp only [List.length_append, List.length_nil, List.length_cons, List.length_map, List.length_reverse, nw_len, dr_len]; omega)); rw [wn9] at t2; have q3 := hp_73 L hL hN; have z3 := q3.2.1; have t3 := hb_73.2 L (_) (x1.toInt) (L.length) q3.2 q3.1 (by omega) (by omega) (by omega) (by omega) (by omega) (by first | omega | (simp only [List.length_append, List.length_nil, List.length_cons, List.length_map, List.length_reverse, nw_len, dr_len]; omega)) t2; have k3 := si_len (L := L) (a := x1.toInt) (b := L.length) (by omega) (by omega) (by omega); exact ⟨hb_80.2.1 _ t3, by show _ = _ + (1 : Int); omega, by show _ = _ + (1 : Int) * _; omega, by omega, fun _ => hb_80.2.2⟩⟩
      · skip
        have k0 : (0 : Int32).toInt = 0 := rfl
        refine And.intro (fun c9 => absurd c9 (by decide)) (fun _ => ?_)
        refine hC.1 1 34 _ _ rfl _ _ _ _ _ ?_
        have km1 : (-1 : Int32).toInt = -1 := rfl
        exact ⟨rfl, fun e9 => absurd e9 (by decide), rfl, K, nn, dn, q, w, e, v, f, rfl, hI, hs, cw_X_r, rfl, (-1 : Int32), rfl, by first | omega | (dsimp only; omega) | trivial, by intro L hL hN; have hl := hL.1; rw [ed_insert, if_neg (by omega)]; exact ⟨hL, by show _ = _ + (0 : Int); omega, by show _ = _ + (0 : Int) * _; omega, hN, fun h8 => h8⟩⟩
    · skip
      have k0 : (0 : Int32).toInt = 0 := rfl
      refine And.intro (fun _ => ?_) (fun c9 => absurd c9 (by decide))
      refine hC.1 1 34 _ _ rfl _ _ _ _ _ ?_
      have km1 : (-1 : Int32).toInt = -1 := rfl
      exact ⟨rfl, fun e9 => absurd e9 (by decide), rfl, K, nn, dn, q, w, e, v, f, rfl, hI, hs, cw_X_r, rfl, (-1 : Int32), rfl, by first | omega | (dsimp only; omega) | trivial, by intro L hL hN; have hl := hL.1; rw [ed_insert, if_neg (by omega)]; exact ⟨hL, by show _ = _ + (0 : Int); omega, by show _ = _ + (0 : Int) * _; omega, hN, fun h8 => h8⟩⟩
  · skip
    have k0 : (0 : Int32).toInt = 0 := rfl
    refine And.intro (fun _ => ?_) (fun c9 => absurd c9 (by decide))
    refine hC.1 1 34 _ _ rfl _ _ _ _ _ ?_
    have km1 : (-1 : Int32).toInt = -1 := rfl
    exact ⟨rfl, fun e9 => absurd e9 (by decide), rfl, K, nn, dn, q, w, e, v, f, rfl, hI, hs, cw_X_r, rfl, (-1 : Int32), rfl, by first | omega | (dsimp only; omega) | trivial, by intro L hL hN; have hl := hL.1; rw [ed_insert, if_neg (by omega)]; exact ⟨hL, by show _ = _ + (0 : Int); omega, by show _ = _ + (0 : Int) * _; omega, hN, fun h8 => h8⟩⟩

set_option maxRecDepth 100000 in
set_option maxHeartbeats 2000000 in
theorem H_X10_shift (hI : cw_I K nn dn q w e) (hs : cw_S v f) (x1 : Int32) (x2 : Int32) (x3 : Int32) (p0 : (w 0).toInt < 100000) : pm_Mt l g 31 4 4 485 [.ref (q 0), .int x1, .int x2, .int x3] (cw A0 g K nn dn q w e v f) (cw_Qb A0 g K nn q (fun r K2 nn2 dn2 w2 e2 => e2 15 = e 15 ∧ (∃ x : Int32, r = some (.int x) ∧ (((w2 0).toInt ≤ (w 0).toInt + 1 ∧ (w 0).toInt ≤ (w2 0).toInt) ∧ (∀ L, rp (w nn) (e (nn + 1)) (e (nn + 2)) L → (nn : Int) = 40 + 4 * ((w 0).toInt % 41) → rp (w2 nn2) (e2 (nn2 + 1)) (e2 (nn2 + 2)) ((ed_shift L x1 x2 x3).getD L) ∧ (w2 0).toInt = (w 0).toInt + edn (ed_shift L x1 x2 x3) ∧ (w2 1).toInt = (w 1).toInt + edn (ed_shift L x1 x2 x3) * (0) ∧ (nn2 : Int) = 40 + 4 * ((w2 0).toInt % 41) ∧ (bd (w nn) (e (nn + 1)) (e (nn + 3)) → bd (w2 nn2) (e2 (nn2 + 1)) (e2 (nn2 + 3)))))))) := by
  refine mt_X10_shift rfl (fun J hC => ?_)
  have ro_nn : cw_ro K nn := hI.2.1.2.1
  have ro_dn : cw_ro K dn := hI.2.1.2.2.1
  have hu1 := hI.2.1
  unfold cw_W at hu1
  have zs2 := cw_sz hI ro_nn
  have zs3 := cw_sz hI ro_dn
  have rg_x1 := pm_rng x1
  have rg_x2 := pm_rng x2
  have rg_x3 := pm_rng x3
  refine hC.1 0 0 _ _ rfl _ _ _ _ _ ?_
  refine Exists.intro _ (And.intro (cw_o0 hI.1) ?_)
  refine Exists.intro _ (And.intro (cw_o1 hI.1) ?_)
  refine And.intro (Exists.intro _ (cw_ro_o hI.1 ro_nn)) (Exists.intro _ (Exists.intro _ (Exists.intro _ (Exists.intro _ (And.intro (c_X7_isSpan hI hs ro_nn x1 x2 ) (And.intro rfl (fun r9 A9 h9 => ?_)))))))
  rcases h9 with ⟨y4, rfl, rfl, ⟨rfl, by4⟩ | ⟨rfl, by4⟩⟩
  · skip
    have k1 : (1 : Int32).toInt = 1 := rfl
    refine And.intro (fun c9 => absurd c9 (by decide)) (fun _ => ?_)
    refine And.intro (fun c6 => ?_) (fun c6 => ?_)
    · skip
      refine hC.1 1 32 _ _ rfl _ _ _ _ _ ?_
      have km1 : (-1 : Int32).toInt = -1 := rfl
      exact ⟨rfl, fun e9 => absurd e9 (by decide), rfl, K, nn, dn, q, w, e, v, f, rfl, hI, hs, cw_X_r, rfl, (-1 : Int32), rfl, by first | omega | (dsimp only; omega) | trivial, by intro L hL hN; have hl := hL.1; rw [ed_shift, if_neg (by omega)]; exact ⟨hL, by show _ = _ + (0 : Int); omega, by show _ = _ + (0 : Int) * _; omega, hN, fun h8 => h8⟩⟩
    · skip
      intro m7 em_26
      try have e7 : m7.toInt = (x2).toInt - (x1).toInt := by rw [em_26]; exact pm_sub _ _ (by omega) (by omega)
      intro m8 em_28
      try have e8 : m8.toInt = (m7).toInt + (1) := by rw [em_28]; exact pm_addc _ _ (1) rfl (by omega) (by omega)
      refine And.intro (fun c9 => ?_) (fun c9 => ?_)
      · skip
        refine hC.1 2 34 _ _ rfl _ _ _ _ _ ?_
        refine Exists.intro _ (And.intro (cw_o0 hI.1) ?_)
        refine And.intro (Exists.intro _ (cw_o1 hI.1)) (Exists.intro _ (Exists.intro _ (Exists.intro _ (Exists.intro _ (And.intro (F_X9_begin hI hs  (by omega)) (And.intro rfl (fun r9 A9 h9 => ?_)))))))
        obtain ⟨K11, dn11, q11, w11, e11, rfl, rfl, hI11, hX11, hk11, hw11, hy11, hdn11, hfm11, hz11⟩ := h9
        have hq11_0 : q 0 = q11 0 := (hX11.2.1 0 (by omega)).symm
        have hq11_nn : q nn = q11 nn := (hX11.2.1 nn (by omega)).symm
        rw [hq11_0, hq11_nn]
        have hw11_0 := congrArg Int32.toInt hw11.1
        have hw11_1 := congrArg Int32.toInt hw11.2.1
        have hw11_3 := congrArg Int32.toInt hw11.2.2.2
        have ro11 : cw_ro K11 dn11 := hI11.2.1.2.2.1
        have rn11 : cw_ro K11 nn := hI11.2.1.2.1
        have hx11 : e11 15 = e 15 := hy11.trans rfl
        have hu12 := hI11.2.1
        unfold cw_W at hu12
        have zs13 := cw_sz hI11 rn11
        have zs14 := cw_sz hI11 ro11
        have hz9 := hz11
        have hL11 : ∀ L, rp (w nn) (e (nn + 1)) (e (nn + 2)) L → (nn : Int) = 40 + 4 * ((w 0).toInt % 41) → nn ≠ dn11 ∧ rp (w11 nn) (e11 (nn + 1)) (e11 (nn + 2)) L := hL_b ro_nn ro11 hdn11 hfm11
        refine Exists.intro _ (And.intro (cw_o0 hI11.1) ?_)
        have k0 : (0 : Int32).toInt = 0 := rfl
        intro m15 em_48
        try have e15 : m15.toInt = (x1).toInt - (1) := by rw [em_48]; exact pm_subc _ _ (1) rfl (by omega) (by omega)
        have hp_49 := hL11
        refine And.intro (Exists.intro _ (cw_o1 hI11.1)) (Exists.intro _ (Exists.intro _ (Exists.intro _ (Exists.intro _ (And.intro (F_X9_keep hI11 hs (0 : Int32) m15 ) (And.intro rfl (fun r9 A9 h9 => ?_)))))))
        rcases h9 with ⟨w17, e17, v17, f17, rfl, hI17, hs17, hy17, rfl, by16⟩
        have hx17 : e17 15 = e 15 := hy17.trans hx11
        have hu18 := hI17.2.1
        unfold cw_W at hu18
        have zs19 := cw_sz hI17 rn11
        have zs20 := cw_sz hI17 ro11
        clear hu12 zs13 zs14
        have hb_49 := by16.2
        have hL17 : ∀ L, rp (w nn) (e (nn + 1)) (e (nn + 2)) L → (nn : Int) = 40 + 4 * ((w 0).toInt % 41) → nn ≠ dn11 ∧ rp (w17 nn) (e17 (nn + 1)) (e17 (nn + 2)) L := hL_k hL11 rn11 ro11 hb_49.1
        refine Exists.intro _ (And.intro (cw_o0 hI17.1) ?_)
        intro m21 em_58
        try have e21 : m21.toInt = (x1).toInt + (x3).toInt := by rw [em_58]; exact pm_add _ _ (by omega) (by omega)
        have hp_60 := hL17
        refine And.intro (Exists.intro _ (cw_o1 hI17.1)) (Exists.intro _ (Exists.intro _ (Exists.intro _ (Exists.intro _ (And.intro (F_X9_keep hI17 hs17 m21 x2 ) (And.intro rfl (fun r9 A9 h9 => ?_)))))))
        rcases h9 with ⟨w23, e23, v23, f23, rfl, hI23, hs23, hy23, rfl, by22⟩
        have hx23 : e23 15 = e 15 := hy23.trans hx17
        have hu24 := hI23.2.1
        unfold cw_W at hu24
        have zs25 := cw_sz hI23 rn11
        have zs26 := cw_sz hI23 ro11
        clear hu18 zs19 zs20
        have hb_60 := by22.2
        have hL23 : ∀ L, rp (w nn) (e (nn + 1)) (e (nn + 2)) L → (nn : Int) = 40 + 4 * ((w 0).toInt % 41) → nn ≠ dn11 ∧ rp (w23 nn) (e23 (nn + 1)) (e23 (nn + 2)) L := hL_k hL17 rn11 ro11 hb_60.1
        refine Exists.intro _ (And.intro (cw_o0 hI23.1) ?_)
        intro m27 em_70
        try have e27 : m27.toInt = (x1).toInt + (x3).toInt := by rw [em_70]; exact pm_add _ _ (by omega) (by omega)
        intro m28 em_72
        try have e28 : m28.toInt = (m27).toInt - (1) := by rw [em_72]; exact pm_subc _ _ (1) rfl (by omega) (by omega)
        have hp_73 := hL23
        refine And.intro (Exists.intro _ (cw_o1 hI23.1)) (Exists.intro _ (Exists.intro _ (Exists.intro _ (Exists.intro _ (And.intro (F_X9_keep hI23 hs23 x1 m28 ) (And.intro rfl (fun r9 A9 h9 => ?_)))))))
        rcases h9 with ⟨w30, e30, v30, f30, rfl, hI30, hs30, hy30, rfl, by29⟩
        have hx30 : e30 15 = e 15 := hy30.trans hx23
        have hu31 := hI30.2.1
        unfold cw_W at hu31
        have zs32 := cw_sz hI30 rn11
        have zs33 := cw_sz hI30 ro11
        clear hu24 zs25 zs26
        have hb_73 := by29.2
        have hL30 : ∀ L, rp (w nn) (e (nn + 1)) (e (nn + 2)) L → (nn : Int) = 40 + 4 * ((w 0).toInt % 41) → nn ≠ dn11 ∧ rp (w30 nn) (e30 (nn + 1)) (e30 (nn + 2)) L := hL_k hL23 rn11 ro11 hb_73.1
        refine Exists.intro _ (And.intro (cw_o0 hI30.1) ?_)
        intro m34 em_82
        try have e34 : m34.toInt = (x2).toInt + (1) := by rw [em_82]; exact pm_addc _ _ (1) rfl (by omega) (by omega)
        refine Exists.intro _ (And.intro (cw_ro_o hI30.1 rn11) ?_)
        have z35 := cw_sz hI30 rn11
        intro m36 em_89
        try have e36 : m36.toInt = ((w30 nn)).toInt - (1) := by rw [em_89]; exact pm_subc _ _ (1) rfl (by omega) (by omega)
        have hp_90 := hL30
        refine And.intro (Exists.intro _ (cw_o1 hI30.1)) (Exists.intro _ (Exists.intro _ (Exists.intro _ (Exists.intro _ (And.intro (F_X9_keep hI30 hs30 m34 m36 ) (And.intro rfl (fun r9 A9 h9 => ?_)))))))
        rcases h9 with ⟨w38, e38, v38, f38, rfl, hI38, hs38, hy38, rfl, by37⟩
        have hx38 : e38 15 = e 15 := hy38.trans hx30
        have hu39 := hI38.2.1
        unfold cw_W at hu39
        have zs40 := cw_sz hI38 rn11
        have zs41 := cw_sz hI38 ro11
        clear hu31 zs32 zs33
        have hb_90 := by37.2
        have hL38 : ∀ L, rp (w nn) (e (nn + 1)) (e (nn + 2)) L → (nn : Int) = 40 + 4 * ((w 0).toInt % 41) → nn ≠ dn11 ∧ rp (w38 nn) (e38 (nn + 1)) (e38 (nn + 2)) L := hL_k hL30 rn11 ro11 hb_90.1
        refine Exists.intro _ (And.intro (cw_o0 hI38.1) ?_)
        have hp_97 := hL38
        refine And.intro (Exists.intro _ (cw_o1 hI38.1)) (Exists.intro _ (Exists.intro _ (Exists.intro _ (Exists.intro _ (And.intro (G_X9_finish hI38 hs38  (by omega) (by omega)) (And.intro rfl (fun r9 A9 h9 => ?_)))))))
        rcases h9 with ⟨w43, e43, v43, f43, rfl, hI43, hs43, hy43, y42, rfl, by42⟩
        have hx43 : e43 15 = e 15 := hy43.trans hx38
        have hu44 := hI43.2.1
        unfold cw_W at hu44
        have zs45 := cw_sz hI43 ro11
        have zs46 := cw_sz hI43 ro11
        clear hu39 zs40 zs41
        have hb_97 := by42.2
        exact ⟨rfl, fun e9 => absurd e9 (by decide), rfl, K11, dn11, dn11, q11, w43, e43, v43, f43, rfl, hI43, hs43, hX11, hx43, y42, rfl, by first | omega | (dsimp only; omega) | trivial, by intro L hL hN; have hl := hL.1; rw [ed_shift, if_pos (by omega)]; have q1 := hp_49 L hL hN; have z1 := q1.2.1; have t1 := hb_49.2 L ([]) (0) (x1.toInt) q1.2 q1.1 (by omega) (by omega) (by omega) (by omega) (by omega) (by first | omega | (simp only [List.length_append, List.length_nil, List.length_cons, List.length_map, List.length_reverse, nw_len, dr_len]; omega)) (rp_0 hz9); have k1 := si_len (L := L) (a := 0) (b := x1.toInt) (by omega) (by omega) (by omega); rw [List.nil_append] at t1; have q2 := hp_60 L hL hN; have z2 := q2.2.1; have t2 := hb_60.2 L (_) (x1.toInt + x3.toInt) (x2.toInt + 1) q2.2 q2.1 (by omega) (by omega) (by omega) (by omega) (by omega) (by first | omega | (simp only [List.length_append, List.length_nil, List.length_cons, List.length_map, List.length_reverse, nw_len, dr_len]; omega)) t1; have k2 := si_len (L := L) (a := x1.toInt + x3.toInt) (b := x2.toInt + 1) (by omega) (by omega) (by omega); have q3 := hp_73 L hL hN; have z3 := q3.2.1; have t3 := hb_73.2 L (_) (x1.toInt) (x1.toInt + x3.toInt) q3.2 q3.1 (by omega) (by omega) (by omega) (by omega) (by omega) (by first | omega | (simp only [List.length_append, List.length_nil, List.length_cons, List.length_map, List.length_reverse, nw_len, dr_len]; omega)) t2; have k3 := si_len (L := L) (a := x1.toInt) (b := x1.toInt + x3.toInt) (by omega) (by omega) (by omega); have q4 := hp_90 L hL hN; have z4 := q4.2.1; have t4 := hb_90.2 L (_) (x2.toInt + 1) (L.length) q4.2 q4.1 (by omega) (by omega) (by omega) (by omega) (by omega) (by first | omega | (simp only [List.length_append, List.length_nil, List.length_cons, List.length_map, List.length_reverse, nw_len, dr_len]; omega)) t3; have k4 := si_len (L := L) (a := x2.toInt + 1) (b := L.length) (by omega) (by omega) (by omega); exact ⟨hb_97.2.1 _ t4, by show _ = _ + (1 : Int); omega, by show _ = _ + (1 : Int) * _; omega, by omega, fun _ => hb_97.2.2⟩⟩
      · skip
        refine hC.1 1 32 _ _ rfl _ _ _ _ _ ?_
        have km1 : (-1 : Int32).toInt = -1 := rfl
        exact ⟨rfl, fun e9 => absurd e9 (by decide), rfl, K, nn, dn, q, w, e, v, f, rfl, hI, hs, cw_X_r, rfl, (-1 : Int32), rfl, by first | omega | (dsimp only; omega) | trivial, by intro L hL hN; have hl := hL.1; rw [ed_shift, if_neg (by omega)]; exact ⟨hL, by show _ = _ + (0 : Int); omega, by show _ = _ + (0 : Int) * _; omega, hN, fun h8 => h8⟩⟩
  · skip
    have k0 : (0 : Int32).toInt = 0 := rfl
    refine And.intro (fun _ => ?_) (fun c9 => absurd c9 (by decide))
    refine hC.1 1 32 _ _ rfl _ _ _ _ _ ?_
    have km1 : (-1 : Int32).toInt = -1 := rfl
    exact ⟨rfl, fun e9 => absurd e9 (by decide), rfl, K, nn, dn, q, w, e, v, f, rfl, hI, hs, cw_X_r, rfl, (-1 : Int32), rfl, by first | omega | (dsimp only; omega) | trivial, by intro L hL hN; have hl := hL.1; rw [ed_shift, if_neg (by omega)]; exact ⟨hL, by show _ = _ + (0 : Int); omega, by show _ = _ + (0 : Int) * _; omega, hN, fun h8 => h8⟩⟩

end
end
section
section
variable {l : Launch} {g : pm_G} {A0 : pm_H} {K nn dn : Nat} {q : Nat → Nat} {w : Nat → Int32} {e : Nat → Nat → Int32} {v : Nat → Int32} {f : Nat → Nat → Int32}
set_option maxRecDepth 100000 in
set_option maxHeartbeats 2000000 in
theorem H_X10_swapInOrder (hI : cw_I K nn dn q w e) (hs : cw_S v f) (x1 : Int32) (x2 : Int32) (x3 : Int32) (x4 : Int32) (p0 : (w 0).toInt < 100000) (p1 : 0 ≤ x1.toInt ∧ x1.toInt ≤ x2.toInt ∧ x2.toInt < x3.toInt ∧ x3.toInt ≤ x4.toInt ∧ x4.toInt < 160) : pm_Mt l g 35 4 4 485 [.ref (q 0), .int x1, .int x2, .int x3, .int x4] (cw A0 g K nn dn q w e v f) (cw_Qb A0 g K nn q (fun r K2 nn2 dn2 w2 e2 => e2 15 = e 15 ∧ (∃ x : Int32, r = some (.int x) ∧ (((w2 0).toInt ≤ (w 0).toInt + 1 ∧ (w 0).toInt ≤ (w2 0).toInt) ∧ (∀ L, rp (w nn) (e (nn + 1)) (e (nn + 2)) L → (nn : Int) = 40 + 4 * ((w 0).toInt % 41) → x4.toInt < (L.length : Int) → rp (w2 nn2) (e2 (nn2 + 1)) (e2 (nn2 + 2)) (sw_l L x1.toInt x2.toInt x3.toInt x4.toInt) ∧ (w2 0).toInt = (w 0).toInt + 1 ∧ (w2 1).toInt = (w 1).toInt ∧ (nn2 : Int) = 40 + 4 * ((w2 0).toInt % 41) ∧ (bd (w nn) (e (nn + 1)) (e (nn + 3)) → bd (w2 nn2) (e2 (nn2 + 1)) (e2 (nn2 + 3)))))))) := by
  refine mt_X10_swapInOrder rfl (fun J hC => ?_)
  have ro_nn : cw_ro K nn := hI.2.1.2.1
  have ro_dn : cw_ro K dn := hI.2.1.2.2.1
  have hu1 := hI.2.1
  unfold cw_W at hu1
  have zs2 := cw_sz hI ro_nn
  have zs3 := cw_sz hI ro_dn
  have rg_x1 := pm_rng x1
  have rg_x2 := pm_rng x2
  have rg_x3 := pm_rng x3
  have rg_x4 := pm_rng x4
  refine hC.1 0 0 _ _ rfl _ _ _ _ _ ?_
  refine Exists.intro _ (And.intro (cw_o0 hI.1) ?_)
  refine And.intro (Exists.intro _ (cw_o1 hI.1)) (Exists.intro _ (Exists.intro _ (Exists.intro _ (Exists.intro _ (And.intro (F_X9_begin hI hs  (by omega)) (And.intro rfl (fun r9 A9 h9 => ?_)))))))
  obtain ⟨K5, dn5, q5, w5, e5, rfl, rfl, hI5, hX5, hk5, hw5, hy5, hdn5, hfm5, hz5⟩ := h9
  have hq5_0 : q 0 = q5 0 := (hX5.2.1 0 (by omega)).symm
  rw [hq5_0]
  have hw5_0 := congrArg Int32.toInt hw5.1
  have hw5_1 := congrArg Int32.toInt hw5.2.1
  have hw5_3 := congrArg Int32.toInt hw5.2.2.2
  have ro5 : cw_ro K5 dn5 := hI5.2.1.2.2.1
  have rn5 : cw_ro K5 nn := hI5.2.1.2.1
  have hx5 : e5 15 = e 15 := hy5.trans rfl
  have hu6 := hI5.2.1
  unfold cw_W at hu6
  have zs7 := cw_sz hI5 rn5
  have zs8 := cw_sz hI5 ro5
  have hz9 := hz5
  have hL5 : ∀ L, rp (w nn) (e (nn + 1)) (e (nn + 2)) L → (nn : Int) = 40 + 4 * ((w 0).toInt % 41) → nn ≠ dn5 ∧ rp (w5 nn) (e5 (nn + 1)) (e5 (nn + 2)) L := hL_b ro_nn ro5 hdn5 hfm5
  refine Exists.intro _ (And.intro (cw_o0 hI5.1) ?_)
  have k0 : (0 : Int32).toInt = 0 := rfl
  have k1 : (1 : Int32).toInt = 1 := rfl
  intro m9 em_14
  try have e9 : m9.toInt = (x1).toInt - (1) := by rw [em_14]; exact pm_subc _ _ (1) rfl (by omega) (by omega)
  have hp_15 := hL5
  refine And.intro (Exists.intro _ (cw_o1 hI5.1)) (Exists.intro _ (Exists.intro _ (Exists.intro _ (Exists.intro _ (And.intro (F_X9_keep hI5 hs (0 : Int32) m9 ) (And.intro rfl (fun r9 A9 h9 => ?_)))))))
  rcases h9 with ⟨w11, e11, v11, f11, rfl, hI11, hs11, hy11, rfl, by10⟩
  have hx11 : e11 15 = e 15 := hy11.trans hx5
  have hu12 := hI11.2.1
  unfold cw_W at hu12
  have zs13 := cw_sz hI11 rn5
  have zs14 := cw_sz hI11 ro5
  clear hu6 zs7 zs8
  have hb_15 := by10.2
  have hL11 : ∀ L, rp (w nn) (e (nn + 1)) (e (nn + 2)) L → (nn : Int) = 40 + 4 * ((w 0).toInt % 41) → nn ≠ dn5 ∧ rp (w11 nn) (e11 (nn + 1)) (e11 (nn + 2)) L := hL_k hL5 rn5 ro5 hb_15.1
  refine Exists.intro _ (And.intro (cw_o0 hI11.1) ?_)
  have hp_25 := hL11
  refine And.intro (Exists.intro _ (cw_o1 hI11.1)) (Exists.intro _ (Exists.intro _ (Exists.intro _ (Exists.intro _ (And.intro (F_X9_keep hI11 hs11 x3 x4 ) (And.intro rfl (fun r9 A9 h9 => ?_)))))))
  rcases h9 with ⟨w16, e16, v16, f16, rfl, hI16, hs16, hy16, rfl, by15⟩
  have hx16 : e16 15 = e 15 := hy16.trans hx11
  have hu17 := hI16.2.1
  unfold cw_W at hu17
  have zs18 := cw_sz hI16 rn5
  have zs19 := cw_sz hI16 ro5
  clear hu12 zs13 zs14
  have hb_25 := by15.2
  have hL16 : ∀ L, rp (w nn) (e (nn + 1)) (e (nn + 2)) L → (nn : Int) = 40 + 4 * ((w 0).toInt % 41) → nn ≠ dn5 ∧ rp (w16 nn) (e16 (nn + 1)) (e16 (nn + 2)) L := hL_k hL11 rn5 ro5 hb_25.1
  refine Exists.intro _ (And.intro (cw_o0 hI16.1) ?_)
  intro m20 em_34
  try have e20 : m20.toInt = (x2).toInt + (1) := by rw [em_34]; exact pm_addc _ _ (1) rfl (by omega) (by omega)
  intro m21 em_37
  try have e21 : m21.toInt = (x3).toInt - (1) := by rw [em_37]; exact pm_subc _ _ (1) rfl (by omega) (by omega)
  have hp_38 := hL16
  refine And.intro (Exists.intro _ (cw_o1 hI16.1)) (Exists.intro _ (Exists.intro _ (Exists.intro _ (Exists.intro _ (And.intro (F_X9_keep hI16 hs16 m20 m21 ) (And.intro rfl (fun r9 A9 h9 => ?_)))))))
  rcases h9 with ⟨w23, e23, v23, f23, rfl, hI23, hs23, hy23, rfl, by22⟩
  have hx23 : e23 15 = e 15 := hy23.trans hx16
  have hu24 := hI23.2.1
  unfold cw_W at hu24
  have zs25 := cw_sz hI23 rn5
  have zs26 := cw_sz hI23 ro5
  clear hu17 zs18 zs19
  have hb_38 := by22.2
  have hL23 : ∀ L, rp (w nn) (e (nn + 1)) (e (nn + 2)) L → (nn : Int) = 40 + 4 * ((w 0).toInt % 41) → nn ≠ dn5 ∧ rp (w23 nn) (e23 (nn + 1)) (e23 (nn + 2)) L := hL_k hL16 rn5 ro5 hb_38.1
  refine Exists.intro _ (And.intro (cw_o0 hI23.1) ?_)
  have hp_47 := hL23
  refine And.intro (Exists.intro _ (cw_o1 hI23.1)) (Exists.intro _ (Exists.intro _ (Exists.intro _ (Exists.intro _ (And.intro (F_X9_keep hI23 hs23 x1 x2 ) (And.intro rfl (fun r9 A9 h9 => ?_)))))))
  rcases h9 with ⟨w28, e28, v28, f28, rfl, hI28, hs28, hy28, rfl, by27⟩
  have hx28 : e28 15 = e 15 := hy28.trans hx23
  have hu29 := hI28.2.1
  unfold cw_W at hu29
  have zs30 := cw_sz hI28 rn5
  have zs31 := cw_sz hI28 ro5
  clear hu24 zs25 zs26
  have hb_47 := by27.2
  have hL28 : ∀ L, rp (w nn) (e (nn + 1)) (e (nn + 2)) L → (nn : Int) = 40 + 4 * ((w 0).toInt % 41) → nn ≠ dn5 ∧ rp (w28 nn) (e28 (nn + 1)) (e28 (nn + 2)) L := hL_k hL23 rn5 ro5 hb_47.1
  refine Exists.intro _ (And.intro (cw_o0 hI28.1) ?_)
  intro m32 em_57
  try have e32 : m32.toInt = (x4).toInt + (1) := by rw [em_57]; exact pm_addc _ _ (1) rfl (by omega) (by omega)
  refine Exists.intro _ (And.intro (cw_o0 hI28.1) ?_)
  refine Exists.intro _ (And.intro (cw_o1 hI28.1) ?_)
  refine Exists.intro _ (And.intro (cw_ro_o hI28.1 rn5) ?_)
  have z33 := cw_sz hI28 rn5
  intro m34 em_69
  try have e34 : m34.toInt = ((w28 nn)).toInt - (1) := by rw [em_69]; exact pm_subc _ _ (1) rfl (by omega) (by omega)
  have hp_70 := hL28
  refine And.intro (Exists.intro _ (cw_o1 hI28.1)) (Exists.intro _ (Exists.intro _ (Exists.intro _ (Exists.intro _ (And.intro (F_X9_keep hI28 hs28 m32 m34 ) (And.intro rfl (fun r9 A9 h9 => ?_)))))))
  rcases h9 with ⟨w36, e36, v36, f36, rfl, hI36, hs36, hy36, rfl, by35⟩
  have hx36 : e36 15 = e 15 := hy36.trans hx28
  have hu37 := hI36.2.1
  unfold cw_W at hu37
  have zs38 := cw_sz hI36 rn5
  have zs39 := cw_sz hI36 ro5
  clear hu29 zs30 zs31
  have hb_70 := by35.2
  have hL36 : ∀ L, rp (w nn) (e (nn + 1)) (e (nn + 2)) L → (nn : Int) = 40 + 4 * ((w 0).toInt % 41) → nn ≠ dn5 ∧ rp (w36 nn) (e36 (nn + 1)) (e36 (nn + 2)) L := hL_k hL28 rn5 ro5 hb_70.1
  refine Exists.intro _ (And.intro (cw_o0 hI36.1) ?_)
  have hp_77 := hL36
  refine And.intro (Exists.intro _ (cw_o1 hI36.1)) (Exists.intro _ (Exists.intro _ (Exists.intro _ (Exists.intro _ (And.intro (G_X9_finish hI36 hs36  (by omega) (by omega)) (And.intro rfl (fun r9 A9 h9 => ?_)))))))
  rcases h9 with ⟨w41, e41, v41, f41, rfl, hI41, hs41, hy41, y40, rfl, by40⟩
  have hx41 : e41 15 = e 15 := hy41.trans hx36
  have hu42 := hI41.2.1
  unfold cw_W at hu42
  have zs43 := cw_sz hI41 ro5
  have zs44 := cw_sz hI41 ro5
  clear hu37 zs38 zs39
  have hb_77 := by40.2
  exact ⟨rfl, fun e9 => absurd e9 (by decide), rfl, K5, dn5, dn5, q5, w41, e41, v41, f41, rfl, hI41, hs41, hX5, hx41, y40, rfl, by first | omega | (dsimp only; omega) | trivial, by intro L hL hN h4; have hl := hL.1; unfold sw_l; have q1 := hp_15 L hL hN; have z1 := q1.2.1; have t1 := hb_15.2 L ([]) (0) (x1.toInt) q1.2 q1.1 (by omega) (by omega) (by omega) (by omega) (by omega) (by first | omega | (simp only [List.length_append, List.length_nil, List.length_cons, List.length_map, List.length_reverse, nw_len, dr_len]; omega)) (rp_0 hz9); have k1 := si_len (L := L) (a := 0) (b := x1.toInt) (by omega) (by omega) (by omega); rw [List.nil_append] at t1; have q2 := hp_25 L hL hN; have z2 := q2.2.1; have t2 := hb_25.2 L (_) (x3.toInt) (x4.toInt + 1) q2.2 q2.1 (by omega) (by omega) (by omega) (by omega) (by omega) (by first | omega | (simp only [List.length_append, List.length_nil, List.length_cons, List.length_map, List.length_reverse, nw_len, dr_len]; omega)) t1; have k2 := si_len (L := L) (a := x3.toInt) (b := x4.toInt + 1) (by omega) (by omega) (by omega); have q3 := hp_38 L hL hN; have z3 := q3.2.1; have t3 := hb_38.2 L (_) (x2.toInt + 1) (x3.toInt) q3.2 q3.1 (by omega) (by omega) (by omega) (by omega) (by omega) (by first | omega | (simp only [List.length_append, List.length_nil, List.length_cons, List.length_map, List.length_reverse, nw_len, dr_len]; omega)) t2; have k3 := si_len (L := L) (a := x2.toInt + 1) (b := x3.toInt) (by omega) (by omega) (by omega); have q4 := hp_47 L hL hN; have z4 := q4.2.1; have t4 := hb_47.2 L (_) (x1.toInt) (x2.toInt + 1) q4.2 q4.1 (by omega) (by omega) (by omega) (by omega) (by omega) (by first | omega | (simp only [List.length_append, List.length_nil, List.length_cons, List.length_map, List.length_reverse, nw_len, dr_len]; omega)) t3; have k4 := si_len (L := L) (a := x1.toInt) (b := x2.toInt + 1) (by omega) (by omega) (by omega); have q5 := hp_70 L hL hN; have z5 := q5.2.1; have t5 := hb_70.2 L (_) (x4.toInt + 1) (L.length) q5.2 q5.1 (by omega) (by omega) (by omega) (by omega) (by omega) (by first | omega | (simp only [List.length_append, List.length_nil, List.length_cons, List.length_map, List.length_reverse, nw_len, dr_len]; omega)) t4; have k5 := si_len (L := L) (a := x4.toInt + 1) (b := L.length) (by omega) (by omega) (by omega); exact ⟨hb_77.2.1 _ t5, by omega, by omega, by omega, fun _ => hb_77.2.2⟩⟩

set_option maxRecDepth 100000 in
set_option maxHeartbeats 2000000 in
theorem H_X10_swap (hI : cw_I K nn dn q w e) (hs : cw_S v f) (x1 : Int32) (x2 : Int32) (x3 : Int32) (x4 : Int32) (p0 : (w 0).toInt < 100000) : pm_Mt l g 34 5 4 485 [.ref (q 0), .int x1, .int x2, .int x3, .int x4] (cw A0 g K nn dn q w e v f) (cw_Qb A0 g K nn q (fun r K2 nn2 dn2 w2 e2 => e2 15 = e 15 ∧ (∃ x : Int32, r = some (.int x) ∧ (((w2 0).toInt ≤ (w 0).toInt + 1 ∧ (w 0).toInt ≤ (w2 0).toInt) ∧ (∀ L, rp (w nn) (e (nn + 1)) (e (nn + 2)) L → (nn : Int) = 40 + 4 * ((w 0).toInt % 41) → rp (w2 nn2) (e2 (nn2 + 1)) (e2 (nn2 + 2)) ((ed_swap L x1 x2 x3 x4).getD L) ∧ (w2 0).toInt = (w 0).toInt + edn (ed_swap L x1 x2 x3 x4) ∧ (w2 1).toInt = (w 1).toInt + edn (ed_swap L x1 x2 x3 x4) * (0) ∧ (nn2 : Int) = 40 + 4 * ((w2 0).toInt % 41) ∧ (bd (w nn) (e (nn + 1)) (e (nn + 3)) → bd (w2 nn2) (e2 (nn2 + 1)) (e2 (nn2 + 3)))))))) := by
  refine mt_X10_swap rfl (fun J hC => ?_)
  have ro_nn : cw_ro K nn := hI.2.1.2.1
  have ro_dn : cw_ro K dn := hI.2.1.2.2.1
  have hu1 := hI.2.1
  unfold cw_W at hu1
  have zs2 := cw_sz hI ro_nn
  have zs3 := cw_sz hI ro_dn
  have rg_x1 := pm_rng x1
  have rg_x2 := pm_rng x2
  have rg_x3 := pm_rng x3
  have rg_x4 := pm_rng x4
  refine hC.1 0 0 _ _ rfl _ _ _ _ _ ?_
  refine Exists.intro _ (And.intro (cw_o0 hI.1) ?_)
  refine Exists.intro _ (And.intro (cw_o1 hI.1) ?_)
  refine And.intro (Exists.intro _ (cw_ro_o hI.1 ro_nn)) (Exists.intro _ (Exists.intro _ (Exists.intro _ (Exists.intro _ (And.intro (c_X7_isSpan hI hs ro_nn x1 x2 ) (And.intro rfl (fun r9 A9 h9 => ?_)))))))
  rcases h9 with ⟨y4, rfl, rfl, ⟨rfl, by4⟩ | ⟨rfl, by4⟩⟩
  · skip
    have k1 : (1 : Int32).toInt = 1 := rfl
    refine And.intro (fun c9 => absurd c9 (by decide)) (fun _ => ?_)
    refine And.intro (Exists.intro _ (cw_ro_o hI.1 ro_nn)) (Exists.intro _ (Exists.intro _ (Exists.intro _ (Exists.intro _ (And.intro (c_X7_isSpan hI hs ro_nn x3 x4 ) (And.intro rfl (fun r9 A9 h9 => ?_)))))))
    rcases h9 with ⟨y6, rfl, rfl, ⟨rfl, by6⟩ | ⟨rfl, by6⟩⟩
    · skip
      refine And.intro (fun _ => ?_) (fun c9 => absurd c9 (by decide))
      refine hC.1 2 32 _ _ rfl _ _ _ _ _ ?_
      refine And.intro (fun c8 => ?_) (fun c8 => ?_)
      · skip
        refine hC.1 3 47 _ _ rfl _ _ _ _ _ ?_
        refine And.intro (fun c9 => ?_) (fun c9 => ?_)
        · skip
          refine hC.1 4 65 _ _ rfl _ _ _ _ _ ?_
          have km1 : (-1 : Int32).toInt = -1 := rfl
          refine hC.1 5 66 _ _ rfl _ _ _ _ _ ?_
          exact ⟨rfl, fun e9 => absurd e9 (by decide), rfl, K, nn, dn, q, w, e, v, f, rfl, hI, hs, cw_X_r, rfl, (-1 : Int32), rfl, by first | omega | (dsimp only; omega) | trivial, by first | (intro L hL hN; have hl := hL.1; rw [ed_swap, if_pos (by omega), if_neg (by omega)]; have t1 := hb_59 L hL hN (by omega); exact ⟨t1.1, by show _ = _ + (1 : Int); omega, by show _ = _ + (1 : Int) * _; omega, t1.2.2.2.1, t1.2.2.2.2⟩) | (intro L hL hN; have hl := hL.1; rw [ed_swap, if_neg (by omega)]; exact ⟨hL, by show _ = _ + (0 : Int); omega, by show _ = _ + (0 : Int) * _; omega, hN, fun h8 => h8⟩)⟩
        · skip
          refine And.intro (Exists.intro _ (cw_o0 hI.1)) (Exists.intro _ (Exists.intro _ (Exists.intro _ (Exists.intro _ (And.intro (H_X10_swapInOrder hI hs x3 x4 x1 x2 (by omega) (by omega)) (And.intro rfl (fun r9 A9 h9 => ?_)))))))
          obtain ⟨K11, nn11, dn11, q11, w11, e11, v11, f11, rfl, hI11, hs11, hX11, hy11, y10, rfl, by10⟩ := h9
          have hq11_0 : q 0 = q11 0 := (hX11.2.1 0 (by omega)).symm
          have hq11_nn : q nn = q11 nn := (hX11.2.1 nn (by omega)).symm
          rw [hq11_0, hq11_nn]
          have hx11 : e11 15 = e 15 := hy11.trans rfl
          have hu12 := hI11.2.1
          unfold cw_W at hu12
          have hb_59 := by10.2
          refine hC.1 5 66 _ _ rfl _ _ _ _ _ ?_
          exact ⟨rfl, fun e9 => absurd e9 (by decide), rfl, K11, nn11, dn11, q11, w11, e11, v11, f11, rfl, hI11, hs11, hX11, hx11, y10, rfl, by first | omega | (dsimp only; omega) | trivial, by first | (intro L hL hN; have hl := hL.1; rw [ed_swap, if_pos (by omega), if_neg (by omega)]; have t1 := hb_59 L hL hN (by omega); exact ⟨t1.1, by show _ = _ + (1 : Int); omega, by show _ = _ + (1 : Int) * _; omega, t1.2.2.2.1, t1.2.2.2.2⟩) | (intro L hL hN; have hl := hL.1; rw [ed_swap, if_neg (by omega)]; exact ⟨hL, by show _ = _ + (0 : Int); omega, by show _ = _ + (0 : Int) * _; omega, hN, fun h8 => h8⟩)⟩
      · skip
        refine And.intro (Exists.intro _ (cw_o0 hI.1)) (Exists.intro _ (Exists.intro _ (Exists.intro _ (Exists.intro _ (And.intro (H_X10_swapInOrder hI hs x1 x2 x3 x4 (by omega) (by omega)) (And.intro rfl (fun r9 A9 h9 => ?_)))))))
        obtain ⟨K14, nn14, dn14, q14, w14, e14, v14, f14, rfl, hI14, hs14, hX14, hy14, y13, rfl, by13⟩ := h9
        have hq14_0 : q 0 = q14 0 := (hX14.2.1 0 (by omega)).symm
        have hq14_nn : q nn = q14 nn := (hX14.2.1 nn (by omega)).symm
        rw [hq14_0, hq14_nn]
        have hx14 : e14 15 = e 15 := hy14.trans rfl
        have hu15 := hI14.2.1
        unfold cw_W at hu15
        have hb_43 := by13.2
        exact ⟨rfl, fun e9 => absurd e9 (by decide), rfl, K14, nn14, dn14, q14, w14, e14, v14, f14, rfl, hI14, hs14, hX14, hx14, y13, rfl, by first | omega | (dsimp only; omega) | trivial, by intro L hL hN; have hl := hL.1; rw [ed_swap, if_pos (by omega), if_pos (by omega)]; have t1 := hb_43 L hL hN (by omega); exact ⟨t1.1, by show _ = _ + (1 : Int); omega, by show _ = _ + (1 : Int) * _; omega, t1.2.2.2.1, t1.2.2.2.2⟩⟩
    · skip
      have k0 : (0 : Int32).toInt = 0 := rfl
      refine And.intro (fun c9 => absurd c9 (by decide)) (fun _ => ?_)
      refine hC.1 1 30 _ _ rfl _ _ _ _ _ ?_
      have km1 : (-1 : Int32).toInt = -1 := rfl
      exact ⟨rfl, fun e9 => absurd e9 (by decide), rfl, K, nn, dn, q, w, e, v, f, rfl, hI, hs, cw_X_r, rfl, (-1 : Int32), rfl, by first | omega | (dsimp only; omega) | trivial, by intro L hL hN; have hl := hL.1; rw [ed_swap, if_neg (by omega)]; exact ⟨hL, by show _ = _ + (0 : Int); omega, by show _ = _ + (0 : Int) * _; omega, hN, fun h8 => h8⟩⟩
  · skip
    have k0 : (0 : Int32).toInt = 0 := rfl
    refine And.intro (fun _ => ?_) (fun c9 => absurd c9 (by decide))
    refine hC.1 1 30 _ _ rfl _ _ _ _ _ ?_
    have km1 : (-1 : Int32).toInt = -1 := rfl
    exact ⟨rfl, fun e9 => absurd e9 (by decide), rfl, K, nn, dn, q, w, e, v, f, rfl, hI, hs, cw_X_r, rfl, (-1 : Int32), rfl, by first | omega | (dsimp only; omega) | trivial, by intro L hL hN; have hl := hL.1; rw [ed_swap, if_neg (by omega)]; exact ⟨hL, by show _ = _ + (0 : Int); omega, by show _ = _ + (0 : Int) * _; omega, hN, fun h8 => h8⟩⟩

set_option maxRecDepth 100000 in
set_option maxHeartbeats 2000000 in
theorem H_X10_paint (hI : cw_I K nn dn q w e) (hs : cw_S v f) (x1 : Int32) (x2 : Int32) (x3 : Int32) (p0 : (w 0).toInt < 100000) : pm_Mt l g 13 4 4 485 [.ref (q 0), .int x1, .int x2, .int x3] (cw A0 g K nn dn q w e v f) (cw_Qb A0 g K nn q (fun r K2 nn2 dn2 w2 e2 => e2 15 = e 15 ∧ (∃ x : Int32, r = some (.int x) ∧ (((w2 0).toInt ≤ (w 0).toInt + 1 ∧ (w 0).toInt ≤ (w2 0).toInt) ∧ (∀ L, rp (w nn) (e (nn + 1)) (e (nn + 2)) L → (nn : Int) = 40 + 4 * ((w 0).toInt % 41) → rp (w2 nn2) (e2 (nn2 + 1)) (e2 (nn2 + 2)) ((ed_paint L x1 x2 x3).getD L) ∧ (w2 0).toInt = (w 0).toInt + edn (ed_paint L x1 x2 x3) ∧ (w2 1).toInt = (w 1).toInt + edn (ed_paint L x1 x2 x3) * (0) ∧ (nn2 : Int) = 40 + 4 * ((w2 0).toInt % 41) ∧ (bd (w nn) (e (nn + 1)) (e (nn + 3)) → bd (w2 nn2) (e2 (nn2 + 1)) (e2 (nn2 + 3)))))))) := by
  refine mt_X10_paint rfl (fun J hC => ?_)
  have ro_nn : cw_ro K nn := hI.2.1.2.1
  have ro_dn : cw_ro K dn := hI.2.1.2.2.1
  have hu1 := hI.2.1
  unfold cw_W at hu1
  have zs2 := cw_sz hI ro_nn
  have zs3 := cw_sz hI ro_dn
  have rg_x1 := pm_rng x1
  have rg_x2 := pm_rng x2
  have rg_x3 := pm_rng x3
  refine hC.1 0 0 _ _ rfl _ _ _ _ _ ?_
  refine Exists.intro _ (And.intro (cw_o0 hI.1) ?_)
  refine Exists.intro _ (And.intro (cw_o1 hI.1) ?_)
  refine And.intro (Exists.intro _ (cw_ro_o hI.1 ro_nn)) (Exists.intro _ (Exists.intro _ (Exists.intro _ (Exists.intro _ (And.intro (c_X7_isSpan hI hs ro_nn x1 x2 ) (And.intro rfl (fun r9 A9 h9 => ?_)))))))
  rcases h9 with ⟨y4, rfl, rfl, ⟨rfl, by4⟩ | ⟨rfl, by4⟩⟩
  · skip
    have k1 : (1 : Int32).toInt = 1 := rfl
    refine And.intro (fun c9 => absurd c9 (by decide)) (fun _ => ?_)
    refine Exists.intro _ (Exists.intro _ (Exists.intro _ (Exists.intro _ (And.intro (c_X10_isColour (cw A0 g K nn dn q w e v f) x3 ) (And.intro rfl (fun r9 A9 h9 => ?_))))))
    rcases h9 with ⟨y6, rfl, rfl, ⟨rfl, by6⟩ | ⟨rfl, by6⟩⟩
    · skip
      refine And.intro (fun _ => ?_) (fun c9 => absurd c9 (by decide))
      refine hC.1 2 28 _ _ rfl _ _ _ _ _ ?_
      refine Exists.intro _ (And.intro (cw_o0 hI.1) ?_)
      refine And.intro (Exists.intro _ (cw_o1 hI.1)) (Exists.intro _ (Exists.intro _ (Exists.intro _ (Exists.intro _ (And.intro (F_X9_begin hI hs  (by omega)) (And.intro rfl (fun r9 A9 h9 => ?_)))))))
      obtain ⟨K9, dn9, q9, w9, e9, rfl, rfl, hI9, hX9, hk9, hw9, hy9, hdn9, hfm9, hz9⟩ := h9
      have hq9_0 : q 0 = q9 0 := (hX9.2.1 0 (by omega)).symm
      have hq9_nn : q nn = q9 nn := (hX9.2.1 nn (by omega)).symm
      rw [hq9_0, hq9_nn]
      have hw9_0 := congrArg Int32.toInt hw9.1
      have hw9_1 := congrArg Int32.toInt hw9.2.1
      have hw9_3 := congrArg Int32.toInt hw9.2.2.2
      have ro9 : cw_ro K9 dn9 := hI9.2.1.2.2.1
      have rn9 : cw_ro K9 nn := hI9.2.1.2.1
      have hx9 : e9 15 = e 15 := hy9.trans rfl
      have hu10 := hI9.2.1
      unfold cw_W at hu10
      have zs11 := cw_sz hI9 rn9
      have zs12 := cw_sz hI9 ro9
      have hz9 := hz9
      have hL9 : ∀ L, rp (w nn) (e (nn + 1)) (e (nn + 2)) L → (nn : Int) = 40 + 4 * ((w 0).toInt % 41) → nn ≠ dn9 ∧ rp (w9 nn) (e9 (nn + 1)) (e9 (nn + 2)) L := hL_b ro_nn ro9 hdn9 hfm9
      refine Exists.intro _ (And.intro (cw_o0 hI9.1) ?_)
      have k0 : (0 : Int32).toInt = 0 := rfl
      intro m13 em_42
      try have e13 : m13.toInt = (x1).toInt - (1) := by rw [em_42]; exact pm_subc _ _ (1) rfl (by omega) (by omega)
      have hp_43 := hL9
      refine And.intro (Exists.intro _ (cw_o1 hI9.1)) (Exists.intro _ (Exists.intro _ (Exists.intro _ (Exists.intro _ (And.intro (F_X9_keep hI9 hs (0 : Int32) m13 ) (And.intro rfl (fun r9 A9 h9 => ?_)))))))
      rcases h9 with ⟨w15, e15, v15, f15, rfl, hI15, hs15, hy15, rfl, by14⟩
      have hx15 : e15 15 = e 15 := hy15.trans hx9
      have hu16 := hI15.2.1
      unfold cw_W at hu16
      have zs17 := cw_sz hI15 rn9
      have zs18 := cw_sz hI15 ro9
      clear hu10 zs11 zs12
      have hb_43 := by14.2
      have hL15 : ∀ L, rp (w nn) (e (nn + 1)) (e (nn + 2)) L → (nn : Int) = 40 + 4 * ((w 0).toInt % 41) → nn ≠ dn9 ∧ rp (w15 nn) (e15 (nn + 1)) (e15 (nn + 2)) L := hL_k hL9 rn9 ro9 hb_43.1
      have lp20 : ∀ (n : Nat) (z5_49 : Int32) (w19 : Nat → Int32) (e19 : Nat → Nat → Int32) (v19 : Nat → Int32) (f19 : Nat → Nat → Int32), cw_I K9 nn dn9 q9 w19 e19 → e19 15 = e 15 → (∀ L, rp (w nn) (e (nn + 1)) (e (nn + 2)) L → (nn : Int) = 40 + 4 * ((w 0).toInt % 41) → nn ≠ dn9 ∧ rp (w19 nn) (e19 (nn + 1)) (e19 (nn + 2)) L) → cw_S v19 f19 → (x1.toInt ≤ z5_49.toInt ∧ z5_49.toInt ≤ x2.toInt + 1) → (∀ L, rp (w nn) (e (nn + 1)) (e (nn + 2)) L → (nn : Int) = 40 + 4 * ((w 0).toInt % 41) → rp (w19 dn9) (e19 (dn9 + 1)) (e19 (dn9 + 2)) (si L 0 x1.toInt ++ (si L x1.toInt z5_49.toInt).map (fun p => (x3, p.2)))) → (w19 0).toInt = (w 0).toInt → (w19 1).toInt = (w 1).toInt → (w19 3).toInt = (w 3).toInt → 200 - z5_49.toInt < (n : Int) → J 49 [some (.ref (q9 0)), some (.int x1), some (.int x2), some (.int x3), some (.ref (q9 nn)), some (.int z5_49)] [] (cw A0 g K9 nn dn9 q9 w19 e19 v19 f19) 4 485 := by
        intro n
        induction n with
        | zero =>
          intro z5_49 w19 e19 v19 f19 hI19 hx19 hL19 hs19 j0_49 j1_49 j2_49 j3_49 j4_49 j5_49
          omega
        | succ n ih21 =>
          intro z5_49 w19 e19 v19 f19 hI19 hx19 hL19 hs19 j0_49 j1_49 j2_49 j3_49 j4_49 j5_49
          have hu22 := hI19.2.1
          unfold cw_W at hu22
          have zs23 := cw_sz hI19 rn9
          have zs24 := cw_sz hI19 ro9
          clear hu16 zs17 zs18
          refine hC.1 3 49 _ _ rfl _ _ _ _ _ ?_
          refine And.intro (fun c25 => ?_) (fun c25 => ?_)
          · skip
            refine hC.1 4 71 _ _ rfl _ _ _ _ _ ?_
            refine Exists.intro _ (And.intro (cw_o0 hI19.1) ?_)
            intro m26 em_77
            try have e26 : m26.toInt = (x2).toInt + (1) := by rw [em_77]; exact pm_addc _ _ (1) rfl (by omega) (by omega)
            refine Exists.intro _ (And.intro (cw_ro_o hI19.1 rn9) ?_)
            have z27 := cw_sz hI19 rn9
            intro m28 em_84
            try have e28 : m28.toInt = ((w19 nn)).toInt - (1) := by rw [em_84]; exact pm_subc _ _ (1) rfl (by omega) (by omega)
            have hp_85 := hL19
            refine And.intro (Exists.intro _ (cw_o1 hI19.1)) (Exists.intro _ (Exists.intro _ (Exists.intro _ (Exists.intro _ (And.intro (F_X9_keep hI19 hs19 m26 m28 ) (And.intro rfl (fun r9 A9 h9 => ?_)))))))
            rcases h9 with ⟨w30, e30, v30, f30, rfl, hI30, hs30, hy30, rfl, by29⟩
            have hx30 : e30 15 = e 15 := hy30.trans hx19
            have hu31 := hI30.2.1
            unfold cw_W at hu31
            have zs32 := cw_sz hI30 rn9
            have zs33 := cw_sz hI30 ro9
            clear hu22 zs23 zs24
            have hb_85 := by29.2
            have hL30 : ∀ L, rp (w nn) (e (nn + 1)) (e (nn + 2)) L → (nn : Int) = 40 + 4 * ((w 0).toInt % 41) → nn ≠ dn9 ∧ rp (w30 nn) (e30 (nn + 1)) (e30 (nn + 2)) L := hL_k hL19 rn9 ro9 hb_85.1
            refine Exists.intro _ (And.intro (cw_o0 hI30.1) ?_)
            have hp_92 := hL30
            refine And.intro (Exists.intro _ (cw_o1 hI30.1)) (Exists.intro _ (Exists.intro _ (Exists.intro _ (Exists.intro _ (And.intro (G_X9_finish hI30 hs30  (by omega) (by omega)) (And.intro rfl (fun r9 A9 h9 => ?_)))))))
            rcases h9 with ⟨w35, e35, v35, f35, rfl, hI35, hs35, hy35, y34, rfl, by34⟩
            have hx35 : e35 15 = e 15 := hy35.trans hx30
            have hu36 := hI35.2.1
            unfold cw_W at hu36
            have zs37 := cw_sz hI35 ro9
            have zs38 := cw_sz hI35 ro9
            clear hu31 zs32 zs33
            have hb_92 := by34.2
            exact ⟨rfl, fun e9 => absurd e9 (by decide), rfl, K9, dn9, dn9, q9, w35, e35, v35, f35, rfl, hI35, hs35, hX9, hx35, y34, rfl, by first | omega | (dsimp only; omega) | trivial, by intro L hL hN; have hl := hL.1; rw [ed_paint, if_pos (by omega)]; have t2 := j1_49 L hL hN; rw [show z5_49.toInt = x2.toInt + 1 by omega] at t2; have s1 := si_len (L := L) (a := 0) (b := x1.toInt) (by omega) (by omega) (by omega); have s2 := si_len (L := L) (a := x1.toInt) (b := x2.toInt + 1) (by omega) (by omega) (by omega); have q3 := hp_85 L hL hN; have z3 := q3.2.1; have t3 := hb_85.2 L (_) (x2.toInt + 1) (L.length) q3.2 q3.1 (by omega) (by omega) (by omega) (by omega) (by omega) (by first | omega | (simp only [List.length_append, List.length_nil, List.length_cons, List.length_map, List.length_reverse, nw_len, dr_len]; omega)) t2; have k3 := si_len (L := L) (a := x2.toInt + 1) (b := L.length) (by omega) (by omega) (by omega); exact ⟨hb_92.2.1 _ t3, by show _ = _ + (1 : Int); omega, by show _ = _ + (1 : Int) * _; omega, by omega, fun _ => hb_92.2.2⟩⟩
          · skip
            refine Exists.intro _ (And.intro (cw_o0 hI19.1) ?_)
            have hp_62 := hL19
            refine And.intro (Exists.intro _ (cw_o1 hI19.1)) (Exists.intro _ (Exists.intro _ (Exists.intro _ (Exists.intro _ (And.intro (F_X9_keepAs hI19 hs19 z5_49 x3 (by omega)) (And.intro rfl (fun r9 A9 h9 => ?_)))))))
            rcases h9 with ⟨w40, e40, v40, f40, rfl, hI40, hs40, hy40, rfl, by39⟩
            have hx40 : e40 15 = e 15 := hy40.trans hx19
            have hu41 := hI40.2.1
            unfold cw_W at hu41
            have zs42 := cw_sz hI40 rn9
            have zs43 := cw_sz hI40 ro9
            clear hu22 zs23 zs24
            have hb_62 := by39.2
            have hL40 : ∀ L, rp (w nn) (e (nn + 1)) (e (nn + 2)) L → (nn : Int) = 40 + 4 * ((w 0).toInt % 41) → nn ≠ dn9 ∧ rp (w40 nn) (e40 (nn + 1)) (e40 (nn + 2)) L := hL_k hL19 rn9 ro9 hb_62.1
            intro m44 em_65
            try have e44 : m44.toInt = (z5_49).toInt + (1) := by rw [em_65]; exact pm_addc _ _ (1) rfl (by omega) (by omega)
            exact ih21 m44 w40 e40 v40 f40 hI40 hx40 hL40 hs40 (by omega) (by intro L hL hN; have hl := hL.1; have q2 := hp_62 L hL hN; have z2 := q2.2.1; have s2 := si_len (L := L) (a := 0) (b := x1.toInt) (by omega) (by omega) (by omega); have s3 := si_len (L := L) (a := x1.toInt) (b := z5_49.toInt) (by omega) (by omega) (by omega); have t2 := hb_62.2 L _ q2.2 q2.1 (by omega) (by omega) (by first | omega | (simp only [List.length_append, List.length_nil, List.length_cons, List.length_map, List.length_reverse, nw_len, dr_len]; omega)) (j1_49 L hL hN); rw [show m44.toInt = z5_49.toInt + 1 by omega, si_s q2.2 (a := x1.toInt) (z := z5_49.toInt) (by omega) (by omega) (by omega), List.map_append, List.map_cons, List.map_nil, ← List.append_assoc]; exact t2) (by omega) (by omega) (by omega) (by omega)
      exact lp20 (200 - x1.toInt).toNat.succ x1 w15 e15 v15 f15 hI15 hx15 hL15 hs15 (by omega) (by intro L hL hN; have hl := hL.1; have q1 := hp_43 L hL hN; have z1 := q1.2.1; have t1 := hb_43.2 L ([]) (0) (x1.toInt) q1.2 q1.1 (by omega) (by omega) (by omega) (by omega) (by omega) (by first | omega | (simp only [List.length_append, List.length_nil, List.length_cons, List.length_map, List.length_reverse, nw_len, dr_len]; omega)) (rp_0 hz9); have k1 := si_len (L := L) (a := 0) (b := x1.toInt) (by omega) (by omega) (by omega); rw [List.nil_append] at t1; rw [si_n (L := L) (a := x1.toInt) (b := x1.toInt) (Int.le_refl _)]; show rp _ _ _ (_ ++ []); rw [List.append_nil]; exact t1) (by omega) (by omega) (by omega) (by omega)
    · skip
      have k0 : (0 : Int32).toInt = 0 := rfl
      refine And.intro (fun c9 => absurd c9 (by decide)) (fun _ => ?_)
      refine hC.1 1 26 _ _ rfl _ _ _ _ _ ?_
      have km1 : (-1 : Int32).toInt = -1 := rfl
      exact ⟨rfl, fun e9 => absurd e9 (by decide), rfl, K, nn, dn, q, w, e, v, f, rfl, hI, hs, cw_X_r, rfl, (-1 : Int32), rfl, by first | omega | (dsimp only; omega) | trivial, by intro L hL hN; have hl := hL.1; rw [ed_paint, if_neg (by omega)]; exact ⟨hL, by show _ = _ + (0 : Int); omega, by show _ = _ + (0 : Int) * _; omega, hN, fun h8 => h8⟩⟩
  · skip
    have k0 : (0 : Int32).toInt = 0 := rfl
    refine And.intro (fun _ => ?_) (fun c9 => absurd c9 (by decide))
    refine hC.1 1 26 _ _ rfl _ _ _ _ _ ?_
    have km1 : (-1 : Int32).toInt = -1 := rfl
    exact ⟨rfl, fun e9 => absurd e9 (by decide), rfl, K, nn, dn, q, w, e, v, f, rfl, hI, hs, cw_X_r, rfl, (-1 : Int32), rfl, by first | omega | (dsimp only; omega) | trivial, by intro L hL hN; have hl := hL.1; rw [ed_paint, if_neg (by omega)]; exact ⟨hL, by show _ = _ + (0 : Int); omega, by show _ = _ + (0 : Int) * _; omega, hN, fun h8 => h8⟩⟩

set_option maxRecDepth 100000 in
set_option maxHeartbeats 2000000 in
theorem H_X10_put (hI : cw_I K nn dn q w e) (hs : cw_S v f) (x1 : Int32) (x2 : Int32) (p0 : (w 0).toInt < 100000) : pm_Mt l g 12 5 4 485 [.ref (q 0), .int x1, .int x2] (cw A0 g K nn dn q w e v f) (cw_Qb A0 g K nn q (fun r K2 nn2 dn2 w2 e2 => e2 15 = e 15 ∧ (∃ x : Int32, r = some (.int x) ∧ (((w2 0).toInt ≤ (w 0).toInt + 1 ∧ (w 0).toInt ≤ (w2 0).toInt) ∧ (∀ L, rp (w nn) (e (nn + 1)) (e (nn + 2)) L → (nn : Int) = 40 + 4 * ((w 0).toInt % 41) → rp (w2 nn2) (e2 (nn2 + 1)) (e2 (nn2 + 2)) ((ed_paint L x1 x1 x2).getD L) ∧ (w2 0).toInt = (w 0).toInt + edn (ed_paint L x1 x1 x2) ∧ (w2 1).toInt = (w 1).toInt + edn (ed_paint L x1 x1 x2) * (0) ∧ (nn2 : Int) = 40 + 4 * ((w2 0).toInt % 41) ∧ (bd (w nn) (e (nn + 1)) (e (nn + 3)) → bd (w2 nn2) (e2 (nn2 + 1)) (e2 (nn2 + 3)))))))) := by
  refine mt_X10_put rfl (fun J hC => ?_)
  have ro_nn : cw_ro K nn := hI.2.1.2.1
  have ro_dn : cw_ro K dn := hI.2.1.2.2.1
  have hu1 := hI.2.1
  unfold cw_W at hu1
  have zs2 := cw_sz hI ro_nn
  have zs3 := cw_sz hI ro_dn
  have rg_x1 := pm_rng x1
  have rg_x2 := pm_rng x2
  refine hC.1 0 0 _ _ rfl _ _ _ _ _ ?_
  refine And.intro (Exists.intro _ (cw_o0 hI.1)) (Exists.intro _ (Exists.intro _ (Exists.intro _ (Exists.intro _ (And.intro (H_X10_paint hI hs x1 x1 x2 (by omega)) (And.intro rfl (fun r9 A9 h9 => ?_)))))))
  obtain ⟨K5, nn5, dn5, q5, w5, e5, v5, f5, rfl, hI5, hs5, hX5, hy5, y4, rfl, by4⟩ := h9
  have hq5_0 : q 0 = q5 0 := (hX5.2.1 0 (by omega)).symm
  rw [hq5_0]
  have hx5 : e5 15 = e 15 := hy5.trans rfl
  have hu6 := hI5.2.1
  unfold cw_W at hu6
  have hb_4 := by4.2
  exact ⟨rfl, fun e9 => absurd e9 (by decide), rfl, K5, nn5, dn5, q5, w5, e5, v5, f5, rfl, hI5, hs5, hX5, hx5, y4, rfl, by first | omega | (dsimp only; omega) | trivial, by exact hb_4⟩

end
end
section
section
variable {l : Launch} {g : pm_G} {A0 : pm_H} {K nn dn : Nat} {q : Nat → Nat} {w : Nat → Int32} {e : Nat → Nat → Int32} {v : Nat → Int32} {f : Nat → Nat → Int32}
set_option maxRecDepth 100000 in
set_option maxHeartbeats 2000000 in
theorem H_X10_turn (hI : cw_I K nn dn q w e) (hs : cw_S v f) (x1 : Int32) (x2 : Int32) (p0 : (w 0).toInt < 100000) : pm_Mt l g 30 4 4 485 [.ref (q 0), .int x1, .int x2] (cw A0 g K nn dn q w e v f) (cw_Qb A0 g K nn q (fun r K2 nn2 dn2 w2 e2 => e2 15 = e 15 ∧ (∃ x : Int32, r = some (.int x) ∧ (((w2 0).toInt ≤ (w 0).toInt + 1 ∧ (w 0).toInt ≤ (w2 0).toInt) ∧ (∀ L, rp (w nn) (e (nn + 1)) (e (nn + 2)) L → (nn : Int) = 40 + 4 * ((w 0).toInt % 41) → rp (w2 nn2) (e2 (nn2 + 1)) (e2 (nn2 + 2)) ((ed_turn L x1 x2).getD L) ∧ (w2 0).toInt = (w 0).toInt + edn (ed_turn L x1 x2) ∧ (w2 1).toInt = (w 1).toInt + edn (ed_turn L x1 x2) * (0) ∧ (nn2 : Int) = 40 + 4 * ((w2 0).toInt % 41) ∧ (bd (w nn) (e (nn + 1)) (e (nn + 3)) → bd (w2 nn2) (e2 (nn2 + 1)) (e2 (nn2 + 3)))))))) := by
  refine mt_X10_turn rfl (fun J hC => ?_)
  have ro_nn : cw_ro K nn := hI.2.1.2.1
  have ro_dn : cw_ro K dn := hI.2.1.2.2.1
  have hu1 := hI.2.1
  unfold cw_W at hu1
  have zs2 := cw_sz hI ro_nn
  have zs3 := cw_sz hI ro_dn
  have rg_x1 := pm_rng x1
  have rg_x2 := pm_rng x2
  refine hC.1 0 0 _ _ rfl _ _ _ _ _ ?_
  refine Exists.intro _ (And.intro (cw_o0 hI.1) ?_)
  refine Exists.intro _ (And.intro (cw_o1 hI.1) ?_)
  refine And.intro (Exists.intro _ (cw_ro_o hI.1 ro_nn)) (Exists.intro _ (Exists.intro _ (Exists.intro _ (Exists.intro _ (And.intro (c_X7_isSpan hI hs ro_nn x1 x2 ) (And.intro rfl (fun r9 A9 h9 => ?_)))))))
  rcases h9 with ⟨y4, rfl, rfl, ⟨rfl, by4⟩ | ⟨rfl, by4⟩⟩
  · skip
    have k1 : (1 : Int32).toInt = 1 := rfl
    refine And.intro (fun _ => ?_) (fun c9 => absurd c9 (by decide))
    refine hC.1 1 19 _ _ rfl _ _ _ _ _ ?_
    refine Exists.intro _ (And.intro (cw_o0 hI.1) ?_)
    refine And.intro (Exists.intro _ (cw_o1 hI.1)) (Exists.intro _ (Exists.intro _ (Exists.intro _ (Exists.intro _ (And.intro (F_X9_begin hI hs  (by omega)) (And.intro rfl (fun r9 A9 h9 => ?_)))))))
    obtain ⟨K7, dn7, q7, w7, e7, rfl, rfl, hI7, hX7, hk7, hw7, hy7, hdn7, hfm7, hz7⟩ := h9
    have hq7_0 : q 0 = q7 0 := (hX7.2.1 0 (by omega)).symm
    have hq7_nn : q nn = q7 nn := (hX7.2.1 nn (by omega)).symm
    rw [hq7_0, hq7_nn]
    have hw7_0 := congrArg Int32.toInt hw7.1
    have hw7_1 := congrArg Int32.toInt hw7.2.1
    have hw7_3 := congrArg Int32.toInt hw7.2.2.2
    have ro7 : cw_ro K7 dn7 := hI7.2.1.2.2.1
    have rn7 : cw_ro K7 nn := hI7.2.1.2.1
    have hx7 : e7 15 = e 15 := hy7.trans rfl
    have hu8 := hI7.2.1
    unfold cw_W at hu8
    have zs9 := cw_sz hI7 rn7
    have zs10 := cw_sz hI7 ro7
    have hz9 := hz7
    have hL7 : ∀ L, rp (w nn) (e (nn + 1)) (e (nn + 2)) L → (nn : Int) = 40 + 4 * ((w 0).toInt % 41) → nn ≠ dn7 ∧ rp (w7 nn) (e7 (nn + 1)) (e7 (nn + 2)) L := hL_b ro_nn ro7 hdn7 hfm7
    refine Exists.intro _ (And.intro (cw_o0 hI7.1) ?_)
    have k0 : (0 : Int32).toInt = 0 := rfl
    intro m11 em_33
    try have e11 : m11.toInt = (x1).toInt - (1) := by rw [em_33]; exact pm_subc _ _ (1) rfl (by omega) (by omega)
    have hp_34 := hL7
    refine And.intro (Exists.intro _ (cw_o1 hI7.1)) (Exists.intro _ (Exists.intro _ (Exists.intro _ (Exists.intro _ (And.intro (F_X9_keep hI7 hs (0 : Int32) m11 ) (And.intro rfl (fun r9 A9 h9 => ?_)))))))
    rcases h9 with ⟨w13, e13, v13, f13, rfl, hI13, hs13, hy13, rfl, by12⟩
    have hx13 : e13 15 = e 15 := hy13.trans hx7
    have hu14 := hI13.2.1
    unfold cw_W at hu14
    have zs15 := cw_sz hI13 rn7
    have zs16 := cw_sz hI13 ro7
    clear hu8 zs9 zs10
    have hb_34 := by12.2
    have hL13 : ∀ L, rp (w nn) (e (nn + 1)) (e (nn + 2)) L → (nn : Int) = 40 + 4 * ((w 0).toInt % 41) → nn ≠ dn7 ∧ rp (w13 nn) (e13 (nn + 1)) (e13 (nn + 2)) L := hL_k hL7 rn7 ro7 hb_34.1
    have lp18 : ∀ (n : Nat) (z4_40 : Int32) (w17 : Nat → Int32) (e17 : Nat → Nat → Int32) (v17 : Nat → Int32) (f17 : Nat → Nat → Int32), cw_I K7 nn dn7 q7 w17 e17 → e17 15 = e 15 → (∀ L, rp (w nn) (e (nn + 1)) (e (nn + 2)) L → (nn : Int) = 40 + 4 * ((w 0).toInt % 41) → nn ≠ dn7 ∧ rp (w17 nn) (e17 (nn + 1)) (e17 (nn + 2)) L) → cw_S v17 f17 → (x1.toInt - 1 ≤ z4_40.toInt ∧ z4_40.toInt ≤ x2.toInt) → (∀ L, rp (w nn) (e (nn + 1)) (e (nn + 2)) L → (nn : Int) = 40 + 4 * ((w 0).toInt % 41) → rp (w17 dn7) (e17 (dn7 + 1)) (e17 (dn7 + 2)) (si L 0 x1.toInt ++ (si L (z4_40.toInt + 1) (x2.toInt + 1)).reverse)) → (w17 0).toInt = (w 0).toInt → (w17 1).toInt = (w 1).toInt → (w17 3).toInt = (w 3).toInt → z4_40.toInt + 1 < (n : Int) → J 40 [some (.ref (q7 0)), some (.int x1), some (.int x2), some (.ref (q7 nn)), some (.int z4_40)] [] (cw A0 g K7 nn dn7 q7 w17 e17 v17 f17) 4 485 := by
      intro n
      induction n with
      | zero =>
        intro z4_40 w17 e17 v17 f17 hI17 hx17 hL17 hs17 j0_40 j1_40 j2_40 j3_40 j4_40 j5_40
        omega
      | succ n ih19 =>
        intro z4_40 w17 e17 v17 f17 hI17 hx17 hL17 hs17 j0_40 j1_40 j2_40 j3_40 j4_40 j5_40
        have hu20 := hI17.2.1
        unfold cw_W at hu20
        have zs21 := cw_sz hI17 rn7
        have zs22 := cw_sz hI17 ro7
        clear hu14 zs15 zs16
        refine hC.1 2 40 _ _ rfl _ _ _ _ _ ?_
        refine And.intro (fun c23 => ?_) (fun c23 => ?_)
        · skip
          refine hC.1 3 63 _ _ rfl _ _ _ _ _ ?_
          refine Exists.intro _ (And.intro (cw_o0 hI17.1) ?_)
          intro m24 em_69
          try have e24 : m24.toInt = (x2).toInt + (1) := by rw [em_69]; exact pm_addc _ _ (1) rfl (by omega) (by omega)
          refine Exists.intro _ (And.intro (cw_ro_o hI17.1 rn7) ?_)
          have z25 := cw_sz hI17 rn7
          intro m26 em_75
          try have e26 : m26.toInt = ((w17 nn)).toInt - (1) := by rw [em_75]; exact pm_subc _ _ (1) rfl (by omega) (by omega)
          have hp_76 := hL17
          refine And.intro (Exists.intro _ (cw_o1 hI17.1)) (Exists.intro _ (Exists.intro _ (Exists.intro _ (Exists.intro _ (And.intro (F_X9_keep hI17 hs17 m24 m26 ) (And.intro rfl (fun r9 A9 h9 => ?_)))))))
          rcases h9 with ⟨w28, e28, v28, f28, rfl, hI28, hs28, hy28, rfl, by27⟩
          have hx28 : e28 15 = e 15 := hy28.trans hx17
          have hu29 := hI28.2.1
          unfold cw_W at hu29
          have zs30 := cw_sz hI28 rn7
          have zs31 := cw_sz hI28 ro7
          clear hu20 zs21 zs22
          have hb_76 := by27.2
          have hL28 : ∀ L, rp (w nn) (e (nn + 1)) (e (nn + 2)) L → (nn : Int) = 40 + 4 * ((w 0).toInt % 41) → nn ≠ dn7 ∧ rp (w28 nn) (e28 (nn + 1)) (e28 (nn + 2)) L := hL_k hL17 rn7 ro7 hb_76.1
          refine Exists.intro _ (And.intro (cw_o0 hI28.1) ?_)
          have hp_83 := hL28
          refine And.intro (Exists.intro _ (cw_o1 hI28.1)) (Exists.intro _ (Exists.intro _ (Exists.intro _ (Exists.intro _ (And.intro (G_X9_finish hI28 hs28  (by omega) (by omega)) (And.intro rfl (fun r9 A9 h9 => ?_)))))))
          rcases h9 with ⟨w33, e33, v33, f33, rfl, hI33, hs33, hy33, y32, rfl, by32⟩
          have hx33 : e33 15 = e 15 := hy33.trans hx28
          have hu34 := hI33.2.1
          unfold cw_W at hu34
          have zs35 := cw_sz hI33 ro7
          have zs36 := cw_sz hI33 ro7
          clear hu29 zs30 zs31
          have hb_83 := by32.2
          exact ⟨rfl, fun e9 => absurd e9 (by decide), rfl, K7, dn7, dn7, q7, w33, e33, v33, f33, rfl, hI33, hs33, hX7, hx33, y32, rfl, by first | omega | (dsimp only; omega) | trivial, by intro L hL hN; have hl := hL.1; rw [ed_turn, if_pos (by omega)]; have t2 := j1_40 L hL hN; rw [show z4_40.toInt + 1 = x1.toInt by omega] at t2; have s1 := si_len (L := L) (a := 0) (b := x1.toInt) (by omega) (by omega) (by omega); have s2 := si_len (L := L) (a := x1.toInt) (b := x2.toInt + 1) (by omega) (by omega) (by omega); have q3 := hp_76 L hL hN; have z3 := q3.2.1; have t3 := hb_76.2 L (_) (x2.toInt + 1) (L.length) q3.2 q3.1 (by omega) (by omega) (by omega) (by omega) (by omega) (by first | omega | (simp only [List.length_append, List.length_nil, List.length_cons, List.length_map, List.length_reverse, nw_len, dr_len]; omega)) t2; have k3 := si_len (L := L) (a := x2.toInt + 1) (b := L.length) (by omega) (by omega) (by omega); exact ⟨hb_83.2.1 _ t3, by show _ = _ + (1 : Int); omega, by show _ = _ + (1 : Int) * _; omega, by omega, fun _ => hb_83.2.2⟩⟩
        · skip
          refine Exists.intro _ (And.intro (cw_o0 hI17.1) ?_)
          have hp_54 := hL17
          refine And.intro (Exists.intro _ (cw_o1 hI17.1)) (Exists.intro _ (Exists.intro _ (Exists.intro _ (Exists.intro _ (And.intro (F_X9_keep hI17 hs17 z4_40 z4_40 ) (And.intro rfl (fun r9 A9 h9 => ?_)))))))
          rcases h9 with ⟨w38, e38, v38, f38, rfl, hI38, hs38, hy38, rfl, by37⟩
          have hx38 : e38 15 = e 15 := hy38.trans hx17
          have hu39 := hI38.2.1
          unfold cw_W at hu39
          have zs40 := cw_sz hI38 rn7
          have zs41 := cw_sz hI38 ro7
          clear hu20 zs21 zs22
          have hb_54 := by37.2
          have hL38 : ∀ L, rp (w nn) (e (nn + 1)) (e (nn + 2)) L → (nn : Int) = 40 + 4 * ((w 0).toInt % 41) → nn ≠ dn7 ∧ rp (w38 nn) (e38 (nn + 1)) (e38 (nn + 2)) L := hL_k hL17 rn7 ro7 hb_54.1
          have km1 : (-1 : Int32).toInt = -1 := rfl
          intro m42 em_57
          try have e42 : m42.toInt = (z4_40).toInt + (-1) := by rw [em_57]; exact pm_addc _ _ (-1) rfl (by omega) (by omega)
          exact ih19 m42 w38 e38 v38 f38 hI38 hx38 hL38 hs38 (by omega) (by intro L hL hN; have hl := hL.1; have q2 := hp_54 L hL hN; have z2 := q2.2.1; have s2 := si_len (L := L) (a := 0) (b := x1.toInt) (by omega) (by omega) (by omega); have s3 := si_len (L := L) (a := z4_40.toInt + 1) (b := x2.toInt + 1) (by omega) (by omega) (by omega); have t2 := hb_54.2 L _ z4_40.toInt (z4_40.toInt + 1) q2.2 q2.1 rfl rfl (by omega) (by omega) (by omega) (by first | omega | (simp only [List.length_append, List.length_nil, List.length_cons, List.length_map, List.length_reverse, nw_len, dr_len]; omega)) (j1_40 L hL hN); rw [show m42.toInt + 1 = z4_40.toInt by omega, si_app (L := L) (a := z4_40.toInt) (m := z4_40.toInt + 1) (b := x2.toInt + 1) (by omega) (by omega) (by omega), List.reverse_append, si_r1 q2.2 (by omega) (by omega), ← List.append_assoc]; exact t2) (by omega) (by omega) (by omega) (by omega)
    exact lp18 (x2.toInt + 1).toNat.succ x2 w13 e13 v13 f13 hI13 hx13 hL13 hs13 (by omega) (by intro L hL hN; have hl := hL.1; have q1 := hp_34 L hL hN; have z1 := q1.2.1; have t1 := hb_34.2 L ([]) (0) (x1.toInt) q1.2 q1.1 (by omega) (by omega) (by omega) (by omega) (by omega) (by first | omega | (simp only [List.length_append, List.length_nil, List.length_cons, List.length_map, List.length_reverse, nw_len, dr_len]; omega)) (rp_0 hz9); have k1 := si_len (L := L) (a := 0) (b := x1.toInt) (by omega) (by omega) (by omega); rw [List.nil_append] at t1; rw [si_n (L := L) (a := x2.toInt + 1) (b := x2.toInt + 1) (Int.le_refl _)]; show rp _ _ _ (_ ++ []); rw [List.append_nil]; exact t1) (by omega) (by omega) (by omega) (by omega)
  · skip
    have k0 : (0 : Int32).toInt = 0 := rfl
    refine And.intro (fun c9 => absurd c9 (by decide)) (fun _ => ?_)
    have km1 : (-1 : Int32).toInt = -1 := rfl
    exact ⟨rfl, fun e9 => absurd e9 (by decide), rfl, K, nn, dn, q, w, e, v, f, rfl, hI, hs, cw_X_r, rfl, (-1 : Int32), rfl, by first | omega | (dsimp only; omega) | trivial, by intro L hL hN; have hl := hL.1; rw [ed_turn, if_neg (by omega)]; exact ⟨hL, by show _ = _ + (0 : Int); omega, by show _ = _ + (0 : Int) * _; omega, hN, fun h8 => h8⟩⟩

set_option maxRecDepth 100000 in
set_option maxHeartbeats 2000000 in
theorem H_X10_copy (hI : cw_I K nn dn q w e) (hs : cw_S v f) (x1 : Int32) (x2 : Int32) (x3 : Int32) (p0 : (w 0).toInt < 100000) : pm_Mt l g 36 4 4 485 [.ref (q 0), .int x1, .int x2, .int x3] (cw A0 g K nn dn q w e v f) (cw_Qb A0 g K nn q (fun r K2 nn2 dn2 w2 e2 => e2 15 = e 15 ∧ (∃ x : Int32, r = some (.int x) ∧ (((w2 0).toInt ≤ (w 0).toInt + 1 ∧ (w 0).toInt ≤ (w2 0).toInt) ∧ (∀ L, rp (w nn) (e (nn + 1)) (e (nn + 2)) L → (nn : Int) = 40 + 4 * ((w 0).toInt % 41) → rp (w2 nn2) (e2 (nn2 + 1)) (e2 (nn2 + 2)) ((ed_copy L (w 1) x1 x2 x3).getD L) ∧ (w2 0).toInt = (w 0).toInt + edn (ed_copy L (w 1) x1 x2 x3) ∧ (w2 1).toInt = (w 1).toInt + edn (ed_copy L (w 1) x1 x2 x3) * (x2.toInt - x1.toInt + 1) ∧ (nn2 : Int) = 40 + 4 * ((w2 0).toInt % 41) ∧ (bd (w nn) (e (nn + 1)) (e (nn + 3)) → bd (w2 nn2) (e2 (nn2 + 1)) (e2 (nn2 + 3)))))))) := by
  refine mt_X10_copy rfl (fun J hC => ?_)
  have ro_nn : cw_ro K nn := hI.2.1.2.1
  have ro_dn : cw_ro K dn := hI.2.1.2.2.1
  have hu1 := hI.2.1
  unfold cw_W at hu1
  have zs2 := cw_sz hI ro_nn
  have zs3 := cw_sz hI ro_dn
  have rg_x1 := pm_rng x1
  have rg_x2 := pm_rng x2
  have rg_x3 := pm_rng x3
  refine hC.1 0 0 _ _ rfl _ _ _ _ _ ?_
  refine Exists.intro _ (And.intro (cw_o0 hI.1) ?_)
  refine Exists.intro _ (And.intro (cw_o1 hI.1) ?_)
  refine And.intro (Exists.intro _ (cw_ro_o hI.1 ro_nn)) (Exists.intro _ (Exists.intro _ (Exists.intro _ (Exists.intro _ (And.intro (c_X7_isSpan hI hs ro_nn x1 x2 ) (And.intro rfl (fun r9 A9 h9 => ?_)))))))
  rcases h9 with ⟨y4, rfl, rfl, ⟨rfl, by4⟩ | ⟨rfl, by4⟩⟩
  · skip
    have k1 : (1 : Int32).toInt = 1 := rfl
    refine And.intro (fun c9 => absurd c9 (by decide)) (fun _ => ?_)
    refine And.intro (Exists.intro _ (cw_ro_o hI.1 ro_nn)) (Exists.intro _ (Exists.intro _ (Exists.intro _ (Exists.intro _ (And.intro (c_X7_isGap hI hs ro_nn x3 ) (And.intro rfl (fun r9 A9 h9 => ?_)))))))
    rcases h9 with ⟨y6, rfl, rfl, ⟨rfl, by6⟩ | ⟨rfl, by6⟩⟩
    · skip
      refine And.intro (fun c9 => absurd c9 (by decide)) (fun _ => ?_)
      refine Exists.intro _ (And.intro (cw_o0 hI.1) ?_)
      intro m8 em_34
      try have e8 : m8.toInt = (x2).toInt - (x1).toInt := by rw [em_34]; exact pm_sub _ _ (by omega) (by omega)
      intro m9 em_36
      try have e9 : m9.toInt = (m8).toInt + (1) := by rw [em_36]; exact pm_addc _ _ (1) rfl (by omega) (by omega)
      refine And.intro (Exists.intro _ (cw_o1 hI.1)) (Exists.intro _ (Exists.intro _ (Exists.intro _ (Exists.intro _ (And.intro (c_X9_hasRoomFor hI hs m9 (by omega)) (And.intro rfl (fun r9 A9 h9 => ?_)))))))
      rcases h9 with ⟨y10, rfl, rfl, ⟨rfl, by10⟩ | ⟨rfl, by10⟩⟩
      · skip
        refine And.intro (fun _ => ?_) (fun c9 => absurd c9 (by decide))
        refine hC.1 2 45 _ _ rfl _ _ _ _ _ ?_
        refine Exists.intro _ (And.intro (cw_o0 hI.1) ?_)
        refine And.intro (Exists.intro _ (cw_o1 hI.1)) (Exists.intro _ (Exists.intro _ (Exists.intro _ (Exists.intro _ (And.intro (F_X9_begin hI hs  (by omega)) (And.intro rfl (fun r9 A9 h9 => ?_)))))))
        obtain ⟨K13, dn13, q13, w13, e13, rfl, rfl, hI13, hX13, hk13, hw13, hy13, hdn13, hfm13, hz13⟩ := h9
        have hq13_0 : q 0 = q13 0 := (hX13.2.1 0 (by omega)).symm
        have hq13_nn : q nn = q13 nn := (hX13.2.1 nn (by omega)).symm
        rw [hq13_0, hq13_nn]
        have hw13_0 := congrArg Int32.toInt hw13.1
        have hw13_1 := congrArg Int32.toInt hw13.2.1
        have hw13_3 := congrArg Int32.toInt hw13.2.2.2
        have ro13 : cw_ro K13 dn13 := hI13.2.1.2.2.1
        have rn13 : cw_ro K13 nn := hI13.2.1.2.1
        have hx13 : e13 15 = e 15 := hy13.trans rfl
        have hu14 := hI13.2.1
        unfold cw_W at hu14
        have zs15 := cw_sz hI13 rn13
        have zs16 := cw_sz hI13 ro13
        have hz9 := hz13
        have hL13 : ∀ L, rp (w nn) (e (nn + 1)) (e (nn + 2)) L → (nn : Int) = 40 + 4 * ((w 0).toInt % 41) → nn ≠ dn13 ∧ rp (w13 nn) (e13 (nn + 1)) (e13 (nn + 2)) L := hL_b ro_nn ro13 hdn13 hfm13
        refine Exists.intro _ (And.intro (cw_o0 hI13.1) ?_)
        have k0 : (0 : Int32).toInt = 0 := rfl
        intro m17 em_59
        try have e17 : m17.toInt = (x3).toInt - (1) := by rw [em_59]; exact pm_subc _ _ (1) rfl (by omega) (by omega)
        have hp_60 := hL13
        refine And.intro (Exists.intro _ (cw_o1 hI13.1)) (Exists.intro _ (Exists.intro _ (Exists.intro _ (Exists.intro _ (And.intro (F_X9_keep hI13 hs (0 : Int32) m17 ) (And.intro rfl (fun r9 A9 h9 => ?_)))))))
        rcases h9 with ⟨w19, e19, v19, f19, rfl, hI19, hs19, hy19, rfl, by18⟩
        have hx19 : e19 15 = e 15 := hy19.trans hx13
        have hu20 := hI19.2.1
        unfold cw_W at hu20
        have zs21 := cw_sz hI19 rn13
        have zs22 := cw_sz hI19 ro13
        clear hu14 zs15 zs16
        have hb_60 := by18.2
        have hL19 : ∀ L, rp (w nn) (e (nn + 1)) (e (nn + 2)) L → (nn : Int) = 40 + 4 * ((w 0).toInt % 41) → nn ≠ dn13 ∧ rp (w19 nn) (e19 (nn + 1)) (e19 (nn + 2)) L := hL_k hL13 rn13 ro13 hb_60.1
        have lp24 : ∀ (n : Nat) (z5_66 : Int32) (w23 : Nat → Int32) (e23 : Nat → Nat → Int32) (v23 : Nat → Int32) (f23 : Nat → Nat → Int32), cw_I K13 nn dn13 q13 w23 e23 → e23 15 = e 15 → (∀ L, rp (w nn) (e (nn + 1)) (e (nn + 2)) L → (nn : Int) = 40 + 4 * ((w 0).toInt % 41) → nn ≠ dn13 ∧ rp (w23 nn) (e23 (nn + 1)) (e23 (nn + 2)) L) → cw_S v23 f23 → (x1.toInt ≤ z5_66.toInt ∧ z5_66.toInt ≤ x2.toInt + 1) → ((w23 1).toInt = (w 1).toInt + (z5_66.toInt - x1.toInt)) → (∀ L, rp (w nn) (e (nn + 1)) (e (nn + 2)) L → (nn : Int) = 40 + 4 * ((w 0).toInt % 41) → rp (w23 dn13) (e23 (dn13 + 1)) (e23 (dn13 + 2)) (si L 0 x3.toInt ++ nw_l (w 1) ((si L x1.toInt z5_66.toInt).map Prod.fst))) → (w23 0).toInt = (w 0).toInt → (w23 3).toInt = (w 3).toInt → 200 - z5_66.toInt < (n : Int) → J 66 [some (.ref (q13 0)), some (.int x1), some (.int x2), some (.int x3), some (.ref (q13 nn)), some (.int z5_66)] [] (cw A0 g K13 nn dn13 q13 w23 e23 v23 f23) 4 485 := by
          intro n
          induction n with
          | zero =>
            intro z5_66 w23 e23 v23 f23 hI23 hx23 hL23 hs23 j0_66 j1_66 j2_66 j3_66 j4_66 j5_66
            omega
          | succ n ih25 =>
            intro z5_66 w23 e23 v23 f23 hI23 hx23 hL23 hs23 j0_66 j1_66 j2_66 j3_66 j4_66 j5_66
            obtain ⟨g66, eg66⟩ : ∃ z9, z9 = w23 1 := ⟨_, rfl⟩
            have hu26 := hI23.2.1
            unfold cw_W at hu26
            have zs27 := cw_sz hI23 rn13
            have zs28 := cw_sz hI23 ro13
            clear hu20 zs21 zs22
            refine hC.1 3 66 _ _ rfl _ _ _ _ _ ?_
            refine And.intro (fun c29 => ?_) (fun c29 => ?_)
            · skip
              refine hC.1 4 93 _ _ rfl _ _ _ _ _ ?_
              refine Exists.intro _ (And.intro (cw_o0 hI23.1) ?_)
              refine Exists.intro _ (And.intro (cw_ro_o hI23.1 rn13) ?_)
              have z30 := cw_sz hI23 rn13
              intro m31 em_104
              try have e31 : m31.toInt = ((w23 nn)).toInt - (1) := by rw [em_104]; exact pm_subc _ _ (1) rfl (by omega) (by omega)
              have hp_105 := hL23
              refine And.intro (Exists.intro _ (cw_o1 hI23.1)) (Exists.intro _ (Exists.intro _ (Exists.intro _ (Exists.intro _ (And.intro (F_X9_keep hI23 hs23 x3 m31 ) (And.intro rfl (fun r9 A9 h9 => ?_)))))))
              rcases h9 with ⟨w33, e33, v33, f33, rfl, hI33, hs33, hy33, rfl, by32⟩
              have hx33 : e33 15 = e 15 := hy33.trans hx23
              have hu34 := hI33.2.1
              unfold cw_W at hu34
              have zs35 := cw_sz hI33 rn13
              have zs36 := cw_sz hI33 ro13
              clear hu26 zs27 zs28
              have hb_105 := by32.2
              have hL33 : ∀ L, rp (w nn) (e (nn + 1)) (e (nn + 2)) L → (nn : Int) = 40 + 4 * ((w 0).toInt % 41) → nn ≠ dn13 ∧ rp (w33 nn) (e33 (nn + 1)) (e33 (nn + 2)) L := hL_k hL23 rn13 ro13 hb_105.1
              refine Exists.intro _ (And.intro (cw_o0 hI33.1) ?_)
              have hp_112 := hL33
              refine And.intro (Exists.intro _ (cw_o1 hI33.1)) (Exists.intro _ (Exists.intro _ (Exists.intro _ (Exists.intro _ (And.intro (G_X9_finish hI33 hs33  (by omega) (by omega)) (And.intro rfl (fun r9 A9 h9 => ?_)))))))
              rcases h9 with ⟨w38, e38, v38, f38, rfl, hI38, hs38, hy38, y37, rfl, by37⟩
              have hx38 : e38 15 = e 15 := hy38.trans hx33
              have hu39 := hI38.2.1
              unfold cw_W at hu39
              have zs40 := cw_sz hI38 ro13
              have zs41 := cw_sz hI38 ro13
              clear hu34 zs35 zs36
              have hb_112 := by37.2
              exact ⟨rfl, fun e9 => absurd e9 (by decide), rfl, K13, dn13, dn13, q13, w38, e38, v38, f38, rfl, hI38, hs38, hX13, hx38, y37, rfl, by first | omega | (dsimp only; omega) | trivial, by intro L hL hN; have hl := hL.1; rw [ed_copy, if_pos (by omega)]; have t2 := j2_66 L hL hN; rw [show z5_66.toInt = x2.toInt + 1 by omega] at t2; have s1 := si_len (L := L) (a := 0) (b := x3.toInt) (by omega) (by omega) (by omega); have s2 := si_len (L := L) (a := x1.toInt) (b := x2.toInt + 1) (by omega) (by omega) (by omega); have q3 := hp_105 L hL hN; have z3 := q3.2.1; have t3 := hb_105.2 L (_) (x3.toInt) (L.length) q3.2 q3.1 (by omega) (by omega) (by omega) (by omega) (by omega) (by first | omega | (simp only [List.length_append, List.length_nil, List.length_cons, List.length_map, List.length_reverse, nw_len, dr_len]; omega)) t2; have k3 := si_len (L := L) (a := x3.toInt) (b := L.length) (by omega) (by omega) (by omega); exact ⟨hb_112.2.1 _ t3, by show _ = _ + (1 : Int); omega, by show _ = _ + (1 : Int) * _; omega, by omega, fun _ => hb_112.2.2⟩⟩
            · skip
              refine Exists.intro _ (And.intro (cw_o0 hI23.1) ?_)
              refine Exists.intro _ (And.intro (cw_ro_o hI23.1 rn13) ?_)
              refine Exists.intro _ (Exists.intro _ (And.intro (Or.inl (cw_ro_1 hI23.1 rn13)) (And.intro (by omega) ?_)))
              have w42 := cw_col hI23 rn13 (z5_66).toInt.toNat
              have hp_84 := hL23
              refine And.intro (Exists.intro _ (cw_o1 hI23.1)) (Exists.intro _ (Exists.intro _ (Exists.intro _ (Exists.intro _ (And.intro (F_X9_add hI23 hs23 (e23 (nn + 1) (z5_66).toInt.toNat) (by omega) (by omega)) (And.intro rfl (fun r9 A9 h9 => ?_)))))))
              rcases h9 with ⟨w44, e44, v44, f44, rfl, hI44, hs44, hy44, rfl, by43⟩
              have hx44 : e44 15 = e 15 := hy44.trans hx23
              have hu45 := hI44.2.1
              unfold cw_W at hu45
              have zs46 := cw_sz hI44 rn13
              have zs47 := cw_sz hI44 ro13
              clear hu26 zs27 zs28
              have hb_84 := by43.2
              have hL44 : ∀ L, rp (w nn) (e (nn + 1)) (e (nn + 2)) L → (nn : Int) = 40 + 4 * ((w 0).toInt % 41) → nn ≠ dn13 ∧ rp (w44 nn) (e44 (nn + 1)) (e44 (nn + 2)) L := hL_k hL23 rn13 ro13 hb_84.1
              intro m48 em_87
              try have e48 : m48.toInt = (z5_66).toInt + (1) := by rw [em_87]; exact pm_addc _ _ (1) rfl (by omega) (by omega)
              exact ih25 m48 w44 e44 v44 f44 hI44 hx44 hL44 hs44 (by omega) (by omega) (by intro L hL hN; have hl := hL.1; have q2 := hp_84 L hL hN; have z2 := q2.2.1; have s2 := si_len (L := L) (a := 0) (b := x3.toInt) (by omega) (by omega) (by omega); have s3 := si_len (L := L) (a := x1.toInt) (b := z5_66.toInt) (by omega) (by omega) (by omega); have t2 := hb_84.2 _ (j2_66 L hL hN) (by first | omega | (simp only [List.length_append, List.length_nil, List.length_cons, List.length_map, List.length_reverse, nw_len, dr_len]; omega)); rw [← eg66] at t2; rw [show m48.toInt = z5_66.toInt + 1 by omega, si_s q2.2 (a := x1.toInt) (z := z5_66.toInt) (by omega) (by omega) (by omega), List.map_append, List.map_cons, List.map_nil, nw_app (g2 := g66) (by rw [eg66, List.length_map]; omega) (by rw [List.length_map]; omega), ← List.append_assoc]; exact t2) (by omega) (by omega) (by omega)
        exact lp24 (200 - x1.toInt).toNat.succ x1 w19 e19 v19 f19 hI19 hx19 hL19 hs19 (by omega) (by omega) (by intro L hL hN; have hl := hL.1; have q1 := hp_60 L hL hN; have z1 := q1.2.1; have t1 := hb_60.2 L ([]) (0) (x3.toInt) q1.2 q1.1 (by omega) (by omega) (by omega) (by omega) (by omega) (by first | omega | (simp only [List.length_append, List.length_nil, List.length_cons, List.length_map, List.length_reverse, nw_len, dr_len]; omega)) (rp_0 hz9); have k1 := si_len (L := L) (a := 0) (b := x3.toInt) (by omega) (by omega) (by omega); rw [List.nil_append] at t1; rw [si_n (L := L) (a := x1.toInt) (b := x1.toInt) (Int.le_refl _)]; show rp _ _ _ (_ ++ []); rw [List.append_nil]; exact t1) (by omega) (by omega) (by omega)
      · skip
        have k0 : (0 : Int32).toInt = 0 := rfl
        refine And.intro (fun c9 => absurd c9 (by decide)) (fun _ => ?_)
        refine hC.1 1 43 _ _ rfl _ _ _ _ _ ?_
        have km1 : (-1 : Int32).toInt = -1 := rfl
        exact ⟨rfl, fun e9 => absurd e9 (by decide), rfl, K, nn, dn, q, w, e, v, f, rfl, hI, hs, cw_X_r, rfl, (-1 : Int32), rfl, by first | omega | (dsimp only; omega) | trivial, by intro L hL hN; have hl := hL.1; rw [ed_copy, if_neg (by omega)]; exact ⟨hL, by show _ = _ + (0 : Int); omega, by show _ = _ + (0 : Int) * _; omega, hN, fun h8 => h8⟩⟩
    · skip
      have k0 : (0 : Int32).toInt = 0 := rfl
      refine And.intro (fun _ => ?_) (fun c9 => absurd c9 (by decide))
      refine hC.1 1 43 _ _ rfl _ _ _ _ _ ?_
      have km1 : (-1 : Int32).toInt = -1 := rfl
      exact ⟨rfl, fun e9 => absurd e9 (by decide), rfl, K, nn, dn, q, w, e, v, f, rfl, hI, hs, cw_X_r, rfl, (-1 : Int32), rfl, by first | omega | (dsimp only; omega) | trivial, by intro L hL hN; have hl := hL.1; rw [ed_copy, if_neg (by omega)]; exact ⟨hL, by show _ = _ + (0 : Int); omega, by show _ = _ + (0 : Int) * _; omega, hN, fun h8 => h8⟩⟩
  · skip
    have k0 : (0 : Int32).toInt = 0 := rfl
    refine And.intro (fun _ => ?_) (fun c9 => absurd c9 (by decide))
    refine hC.1 1 43 _ _ rfl _ _ _ _ _ ?_
    have km1 : (-1 : Int32).toInt = -1 := rfl
    exact ⟨rfl, fun e9 => absurd e9 (by decide), rfl, K, nn, dn, q, w, e, v, f, rfl, hI, hs, cw_X_r, rfl, (-1 : Int32), rfl, by first | omega | (dsimp only; omega) | trivial, by intro L hL hN; have hl := hL.1; rw [ed_copy, if_neg (by omega)]; exact ⟨hL, by show _ = _ + (0 : Int); omega, by show _ = _ + (0 : Int) * _; omega, hN, fun h8 => h8⟩⟩

set_option maxRecDepth 100000 in
set_option maxHeartbeats 2000000 in
theorem H_X10_merge (hI : cw_I K nn dn q w e) (hs : cw_S v f) (x1 : Int32) (x2 : Int32) (p0 : (w 0).toInt < 100000) : pm_Mt l g 37 4 4 485 [.ref (q 0), .int x1, .int x2] (cw A0 g K nn dn q w e v f) (cw_Qb A0 g K nn q (fun r K2 nn2 dn2 w2 e2 => e2 15 = e 15 ∧ (∃ x : Int32, r = some (.int x) ∧ (((w2 0).toInt ≤ (w 0).toInt + 1 ∧ (w 0).toInt ≤ (w2 0).toInt) ∧ (∀ L, rp (w nn) (e (nn + 1)) (e (nn + 2)) L → (nn : Int) = 40 + 4 * ((w 0).toInt % 41) → rp (w2 nn2) (e2 (nn2 + 1)) (e2 (nn2 + 2)) ((ed_merge L x1 x2).getD L) ∧ (w2 0).toInt = (w 0).toInt + edn (ed_merge L x1 x2) ∧ (w2 1).toInt = (w 1).toInt + edn (ed_merge L x1 x2) * (0) ∧ (nn2 : Int) = 40 + 4 * ((w2 0).toInt % 41) ∧ (bd (w nn) (e (nn + 1)) (e (nn + 3)) → bd (w2 nn2) (e2 (nn2 + 1)) (e2 (nn2 + 3)))))))) := by
  refine mt_X10_merge rfl (fun J hC => ?_)
  have ro_nn : cw_ro K nn := hI.2.1.2.1
  have ro_dn : cw_ro K dn := hI.2.1.2.2.1
  have hu1 := hI.2.1
  unfold cw_W at hu1
  have zs2 := cw_sz hI ro_nn
  have zs3 := cw_sz hI ro_dn
  have rg_x1 := pm_rng x1
  have rg_x2 := pm_rng x2
  refine hC.1 0 0 _ _ rfl _ _ _ _ _ ?_
  refine Exists.intro _ (Exists.intro _ (Exists.intro _ (Exists.intro _ (And.intro (F_X10_areUnlikeColours (cw A0 g K nn dn q w e v f) x1 x2 ) (And.intro rfl (fun r9 A9 h9 => ?_))))))
  rcases h9 with ⟨y4, rfl, rfl, ⟨rfl, by4⟩ | ⟨rfl, by4⟩⟩
  · skip
    have k1 : (1 : Int32).toInt = 1 := rfl
    refine And.intro (fun _ => ?_) (fun c9 => absurd c9 (by decide))
    refine hC.1 1 10 _ _ rfl _ _ _ _ _ ?_
    refine Exists.intro _ (And.intro (cw_o0 hI.1) ?_)
    refine Exists.intro _ (And.intro (cw_o1 hI.1) ?_)
    refine Exists.intro _ (And.intro (cw_o0 hI.1) ?_)
    refine And.intro (Exists.intro _ (cw_o1 hI.1)) (Exists.intro _ (Exists.intro _ (Exists.intro _ (Exists.intro _ (And.intro (F_X9_begin hI hs  (by omega)) (And.intro rfl (fun r9 A9 h9 => ?_)))))))
    obtain ⟨K7, dn7, q7, w7, e7, rfl, rfl, hI7, hX7, hk7, hw7, hy7, hdn7, hfm7, hz7⟩ := h9
    have hq7_0 : q 0 = q7 0 := (hX7.2.1 0 (by omega)).symm
    have hq7_nn : q nn = q7 nn := (hX7.2.1 nn (by omega)).symm
    rw [hq7_0, hq7_nn]
    have hw7_0 := congrArg Int32.toInt hw7.1
    have hw7_1 := congrArg Int32.toInt hw7.2.1
    have hw7_3 := congrArg Int32.toInt hw7.2.2.2
    have ro7 : cw_ro K7 dn7 := hI7.2.1.2.2.1
    have rn7 : cw_ro K7 nn := hI7.2.1.2.1
    have hx7 : e7 15 = e 15 := hy7.trans rfl
    have hu8 := hI7.2.1
    unfold cw_W at hu8
    have zs9 := cw_sz hI7 rn7
    have zs10 := cw_sz hI7 ro7
    have hz9 := hz7
    have hL7 : ∀ L, rp (w nn) (e (nn + 1)) (e (nn + 2)) L → (nn : Int) = 40 + 4 * ((w 0).toInt % 41) → nn ≠ dn7 ∧ rp (w7 nn) (e7 (nn + 1)) (e7 (nn + 2)) L := hL_b ro_nn ro7 hdn7 hfm7
    have k0 : (0 : Int32).toInt = 0 := rfl
    have lp12 : ∀ (n : Nat) (z4_28 : Int32) (w11 : Nat → Int32) (e11 : Nat → Nat → Int32) (v11 : Nat → Int32) (f11 : Nat → Nat → Int32), cw_I K7 nn dn7 q7 w11 e11 → e11 15 = e 15 → (∀ L, rp (w nn) (e (nn + 1)) (e (nn + 2)) L → (nn : Int) = 40 + 4 * ((w 0).toInt % 41) → nn ≠ dn7 ∧ rp (w11 nn) (e11 (nn + 1)) (e11 (nn + 2)) L) → cw_S v11 f11 → (0 ≤ z4_28.toInt ∧ z4_28.toInt ≤ 160) → (∀ L, rp (w nn) (e (nn + 1)) (e (nn + 2)) L → (nn : Int) = 40 + 4 * ((w 0).toInt % 41) → rp (w11 dn7) (e11 (dn7 + 1)) (e11 (dn7 + 2)) ((si L 0 z4_28.toInt).map (fun p => (if p.1 = x1 then x2 else p.1, p.2)))) → (∀ L, rp (w nn) (e (nn + 1)) (e (nn + 2)) L → (nn : Int) = 40 + 4 * ((w 0).toInt % 41) → z4_28.toInt ≤ (L.length : Int)) → (w11 0).toInt = (w 0).toInt → (w11 1).toInt = (w 1).toInt → (w11 3).toInt = (w 3).toInt → 200 - z4_28.toInt < (n : Int) → J 28 [some (.ref (q7 0)), some (.int x1), some (.int x2), some (.ref (q7 nn)), some (.int z4_28)] [] (cw A0 g K7 nn dn7 q7 w11 e11 v11 f11) 4 485 := by
      intro n
      induction n with
      | zero =>
        intro z4_28 w11 e11 v11 f11 hI11 hx11 hL11 hs11 j0_28 j1_28 j2_28 j3_28 j4_28 j5_28 j6_28
        omega
      | succ n ih13 =>
        intro z4_28 w11 e11 v11 f11 hI11 hx11 hL11 hs11 j0_28 j1_28 j2_28 j3_28 j4_28 j5_28 j6_28
        have lh9 := hL11
        have hu14 := hI11.2.1
        unfold cw_W at hu14
        have zs15 := cw_sz hI11 rn7
        have zs16 := cw_sz hI11 ro7
        clear hu8 zs9 zs10
        refine hC.1 2 28 _ _ rfl _ _ _ _ _ ?_
        refine Exists.intro _ (And.intro (cw_ro_o hI11.1 rn7) ?_)
        have z17 := cw_sz hI11 rn7
        refine And.intro (fun c18 => ?_) (fun c18 => ?_)
        · skip
          refine hC.1 5 74 _ _ rfl _ _ _ _ _ ?_
          refine Exists.intro _ (And.intro (cw_o0 hI11.1) ?_)
          have hp_78 := hL11
          refine And.intro (Exists.intro _ (cw_o1 hI11.1)) (Exists.intro _ (Exists.intro _ (Exists.intro _ (Exists.intro _ (And.intro (G_X9_finish hI11 hs11  (by omega) (by omega)) (And.intro rfl (fun r9 A9 h9 => ?_)))))))
          rcases h9 with ⟨w20, e20, v20, f20, rfl, hI20, hs20, hy20, y19, rfl, by19⟩
          have hx20 : e20 15 = e 15 := hy20.trans hx11
          have hu21 := hI20.2.1
          unfold cw_W at hu21
          have zs22 := cw_sz hI20 ro7
          have zs23 := cw_sz hI20 ro7
          clear hu14 zs15 zs16
          have hb_78 := by19.2
          exact ⟨rfl, fun e9 => absurd e9 (by decide), rfl, K7, dn7, dn7, q7, w20, e20, v20, f20, rfl, hI20, hs20, hX7, hx20, y19, rfl, by first | omega | (dsimp only; omega) | trivial, by intro L hL hN; have hl := hL.1; rw [ed_merge, if_pos (by omega)]; have t2 := j1_28 L hL hN; have h8 := (lh9 L hL hN).2.1; have h7 := j2_28 L hL hN; rw [show z4_28.toInt = (L.length : Int) by omega, si_all] at t2; exact ⟨hb_78.2.1 _ t2, by show _ = _ + (1 : Int); omega, by show _ = _ + (1 : Int) * _; omega, by omega, fun _ => hb_78.2.2⟩⟩
        · skip
          refine Exists.intro _ (And.intro (cw_o0 hI11.1) ?_)
          refine Exists.intro _ (And.intro (cw_ro_o hI11.1 rn7) ?_)
          refine Exists.intro _ (Exists.intro _ (And.intro (Or.inl (cw_ro_1 hI11.1 rn7)) (And.intro (by omega) ?_)))
          have w24 := cw_col hI11 rn7 (z4_28).toInt.toNat
          refine And.intro (fun c25 => ?_) (fun c25 => ?_)
          · skip
            have dc25 := pm_neI c25
            refine hC.1 3 58 _ _ rfl _ _ _ _ _ ?_
            refine Exists.intro _ (And.intro (cw_ro_o hI11.1 rn7) ?_)
            refine Exists.intro _ (Exists.intro _ (And.intro (Or.inl (cw_ro_1 hI11.1 rn7)) (And.intro (by omega) ?_)))
            have w26 := cw_col hI11 rn7 (z4_28).toInt.toNat
            refine hC.1 4 65 _ _ rfl _ _ _ _ _ ?_
            have hp_65 := hL11
            refine And.intro (Exists.intro _ (cw_o1 hI11.1)) (Exists.intro _ (Exists.intro _ (Exists.intro _ (Exists.intro _ (And.intro (F_X9_keepAs hI11 hs11 z4_28 (e11 (nn + 1) (z4_28).toInt.toNat) (by omega)) (And.intro rfl (fun r9 A9 h9 => ?_)))))))
            rcases h9 with ⟨w28, e28, v28, f28, rfl, hI28, hs28, hy28, rfl, by27⟩
            have hx28 : e28 15 = e 15 := hy28.trans hx11
            have hu29 := hI28.2.1
            unfold cw_W at hu29
            have zs30 := cw_sz hI28 rn7
            have zs31 := cw_sz hI28 ro7
            clear hu14 zs15 zs16
            have hb_65 := by27.2
            have hL28 : ∀ L, rp (w nn) (e (nn + 1)) (e (nn + 2)) L → (nn : Int) = 40 + 4 * ((w 0).toInt % 41) → nn ≠ dn7 ∧ rp (w28 nn) (e28 (nn + 1)) (e28 (nn + 2)) L := hL_k hL11 rn7 ro7 hb_65.1
            intro m32 em_68
            try have e32 : m32.toInt = (z4_28).toInt + (1) := by rw [em_68]; exact pm_addc _ _ (1) rfl (by omega) (by omega)
            exact ih13 m32 w28 e28 v28 f28 hI28 hx28 hL28 hs28 (by omega) (by intro L hL hN; have hl := hL.1; have q2 := hp_65 L hL hN; have z2 := q2.2.1; have s2 := si_len (L := L) (a := 0) (b := z4_28.toInt) (by omega) (by omega) (by omega); have t2 := hb_65.2 L _ q2.2 q2.1 (by omega) (by omega) (by first | omega | (simp only [List.length_append, List.length_nil, List.length_cons, List.length_map, List.length_reverse, nw_len, dr_len]; omega)) (j1_28 L hL hN); rw [show m32.toInt = z4_28.toInt + 1 by omega, si_s q2.2 (a := 0) (z := z4_28.toInt) (by omega) (by omega) (by omega), List.map_append, List.map_cons, List.map_nil]; first | (rw [if_pos (by assumption)]; exact t2) | (rw [if_neg (by assumption)]; exact t2)) (by intro L hL hN; have h8 := (lh9 L hL hN).2.1; omega) (by omega) (by omega) (by omega) (by omega)
          · skip
            have dc25 : ((e11 (nn + 1) (z4_28).toInt.toNat)).toInt = (x1 : Int32).toInt := congrArg Int32.toInt c25
            refine hC.1 4 65 _ _ rfl _ _ _ _ _ ?_
            have hp_65 := hL11
            refine And.intro (Exists.intro _ (cw_o1 hI11.1)) (Exists.intro _ (Exists.intro _ (Exists.intro _ (Exists.intro _ (And.intro (F_X9_keepAs hI11 hs11 z4_28 x2 (by omega)) (And.intro rfl (fun r9 A9 h9 => ?_)))))))
            rcases h9 with ⟨w34, e34, v34, f34, rfl, hI34, hs34, hy34, rfl, by33⟩
            have hx34 : e34 15 = e 15 := hy34.trans hx11
            have hu35 := hI34.2.1
            unfold cw_W at hu35
            have zs36 := cw_sz hI34 rn7
            have zs37 := cw_sz hI34 ro7
            clear hu14 zs15 zs16
            have hb_65 := by33.2
            have hL34 : ∀ L, rp (w nn) (e (nn + 1)) (e (nn + 2)) L → (nn : Int) = 40 + 4 * ((w 0).toInt % 41) → nn ≠ dn7 ∧ rp (w34 nn) (e34 (nn + 1)) (e34 (nn + 2)) L := hL_k hL11 rn7 ro7 hb_65.1
            intro m38 em_68
            try have e38 : m38.toInt = (z4_28).toInt + (1) := by rw [em_68]; exact pm_addc _ _ (1) rfl (by omega) (by omega)
            exact ih13 m38 w34 e34 v34 f34 hI34 hx34 hL34 hs34 (by omega) (by intro L hL hN; have hl := hL.1; have q2 := hp_65 L hL hN; have z2 := q2.2.1; have s2 := si_len (L := L) (a := 0) (b := z4_28.toInt) (by omega) (by omega) (by omega); have t2 := hb_65.2 L _ q2.2 q2.1 (by omega) (by omega) (by first | omega | (simp only [List.length_append, List.length_nil, List.length_cons, List.length_map, List.length_reverse, nw_len, dr_len]; omega)) (j1_28 L hL hN); rw [show m38.toInt = z4_28.toInt + 1 by omega, si_s q2.2 (a := 0) (z := z4_28.toInt) (by omega) (by omega) (by omega), List.map_append, List.map_cons, List.map_nil]; first | (rw [if_pos (by assumption)]; exact t2) | (rw [if_neg (by assumption)]; exact t2)) (by intro L hL hN; have h8 := (lh9 L hL hN).2.1; omega) (by omega) (by omega) (by omega) (by omega)
    exact lp12 (200 - (0 : Int32).toInt).toNat.succ (0 : Int32) w7 e7 v f hI7 hx7 hL7 hs (by omega) (by intro L hL hN; have hl := hL.1; rw [si_n (L := L) (a := 0) (b := (0 : Int32).toInt) (by decide)]; exact rp_0 hz9) (by intro L hL hN; have := hL.1; omega) (by omega) (by omega) (by omega) (by omega)
  · skip
    have k0 : (0 : Int32).toInt = 0 := rfl
    refine And.intro (fun c9 => absurd c9 (by decide)) (fun _ => ?_)
    have km1 : (-1 : Int32).toInt = -1 := rfl
    exact ⟨rfl, fun e9 => absurd e9 (by decide), rfl, K, nn, dn, q, w, e, v, f, rfl, hI, hs, cw_X_r, rfl, (-1 : Int32), rfl, by first | omega | (dsimp only; omega) | trivial, by intro L hL hN; have hl := hL.1; rw [ed_merge, if_neg (by omega)]; exact ⟨hL, by show _ = _ + (0 : Int); omega, by show _ = _ + (0 : Int) * _; omega, hN, fun h8 => h8⟩⟩

end
end
section
section
variable {l : Launch} {g : pm_G} {A0 : pm_H} {K nn dn : Nat} {q : Nat → Nat} {w : Nat → Int32} {e : Nat → Nat → Int32} {v : Nat → Int32} {f : Nat → Nat → Int32}
set_option maxRecDepth 100000 in
set_option maxHeartbeats 2000000 in
theorem H_X10_exchange (hI : cw_I K nn dn q w e) (hs : cw_S v f) (x1 : Int32) (x2 : Int32) (p0 : (w 0).toInt < 100000) : pm_Mt l g 39 4 4 485 [.ref (q 0), .int x1, .int x2] (cw A0 g K nn dn q w e v f) (cw_Qb A0 g K nn q (fun r K2 nn2 dn2 w2 e2 => e2 15 = e 15 ∧ (∃ x : Int32, r = some (.int x) ∧ (((w2 0).toInt ≤ (w 0).toInt + 1 ∧ (w 0).toInt ≤ (w2 0).toInt) ∧ (∀ L, rp (w nn) (e (nn + 1)) (e (nn + 2)) L → (nn : Int) = 40 + 4 * ((w 0).toInt % 41) → rp (w2 nn2) (e2 (nn2 + 1)) (e2 (nn2 + 2)) ((ed_exch L x1 x2).getD L) ∧ (w2 0).toInt = (w 0).toInt + edn (ed_exch L x1 x2) ∧ (w2 1).toInt = (w 1).toInt + edn (ed_exch L x1 x2) * (0) ∧ (nn2 : Int) = 40 + 4 * ((w2 0).toInt % 41) ∧ (bd (w nn) (e (nn + 1)) (e (nn + 3)) → bd (w2 nn2) (e2 (nn2 + 1)) (e2 (nn2 + 3)))))))) := by
  refine mt_X10_exchange rfl (fun J hC => ?_)
  have ro_nn : cw_ro K nn := hI.2.1.2.1
  have ro_dn : cw_ro K dn := hI.2.1.2.2.1
  have hu1 := hI.2.1
  unfold cw_W at hu1
  have zs2 := cw_sz hI ro_nn
  have zs3 := cw_sz hI ro_dn
  have rg_x1 := pm_rng x1
  have rg_x2 := pm_rng x2
  refine hC.1 0 0 _ _ rfl _ _ _ _ _ ?_
  refine Exists.intro _ (Exists.intro _ (Exists.intro _ (Exists.intro _ (And.intro (F_X10_areUnlikeColours (cw A0 g K nn dn q w e v f) x1 x2 ) (And.intro rfl (fun r9 A9 h9 => ?_))))))
  rcases h9 with ⟨y4, rfl, rfl, ⟨rfl, by4⟩ | ⟨rfl, by4⟩⟩
  · skip
    have k1 : (1 : Int32).toInt = 1 := rfl
    refine And.intro (fun _ => ?_) (fun c9 => absurd c9 (by decide))
    refine hC.1 1 10 _ _ rfl _ _ _ _ _ ?_
    refine Exists.intro _ (And.intro (cw_o0 hI.1) ?_)
    refine Exists.intro _ (And.intro (cw_o1 hI.1) ?_)
    refine Exists.intro _ (And.intro (cw_o0 hI.1) ?_)
    refine And.intro (Exists.intro _ (cw_o1 hI.1)) (Exists.intro _ (Exists.intro _ (Exists.intro _ (Exists.intro _ (And.intro (F_X9_begin hI hs  (by omega)) (And.intro rfl (fun r9 A9 h9 => ?_)))))))
    obtain ⟨K7, dn7, q7, w7, e7, rfl, rfl, hI7, hX7, hk7, hw7, hy7, hdn7, hfm7, hz7⟩ := h9
    have hq7_0 : q 0 = q7 0 := (hX7.2.1 0 (by omega)).symm
    have hq7_nn : q nn = q7 nn := (hX7.2.1 nn (by omega)).symm
    rw [hq7_0, hq7_nn]
    have hw7_0 := congrArg Int32.toInt hw7.1
    have hw7_1 := congrArg Int32.toInt hw7.2.1
    have hw7_3 := congrArg Int32.toInt hw7.2.2.2
    have ro7 : cw_ro K7 dn7 := hI7.2.1.2.2.1
    have rn7 : cw_ro K7 nn := hI7.2.1.2.1
    have hx7 : e7 15 = e 15 := hy7.trans rfl
    have hu8 := hI7.2.1
    unfold cw_W at hu8
    have zs9 := cw_sz hI7 rn7
    have zs10 := cw_sz hI7 ro7
    have hz9 := hz7
    have hL7 : ∀ L, rp (w nn) (e (nn + 1)) (e (nn + 2)) L → (nn : Int) = 40 + 4 * ((w 0).toInt % 41) → nn ≠ dn7 ∧ rp (w7 nn) (e7 (nn + 1)) (e7 (nn + 2)) L := hL_b ro_nn ro7 hdn7 hfm7
    have k0 : (0 : Int32).toInt = 0 := rfl
    have lp12 : ∀ (n : Nat) (z4_28 : Int32) (w11 : Nat → Int32) (e11 : Nat → Nat → Int32) (v11 : Nat → Int32) (f11 : Nat → Nat → Int32), cw_I K7 nn dn7 q7 w11 e11 → e11 15 = e 15 → (∀ L, rp (w nn) (e (nn + 1)) (e (nn + 2)) L → (nn : Int) = 40 + 4 * ((w 0).toInt % 41) → nn ≠ dn7 ∧ rp (w11 nn) (e11 (nn + 1)) (e11 (nn + 2)) L) → cw_S v11 f11 → (0 ≤ z4_28.toInt ∧ z4_28.toInt ≤ 160) → (∀ L, rp (w nn) (e (nn + 1)) (e (nn + 2)) L → (nn : Int) = 40 + 4 * ((w 0).toInt % 41) → rp (w11 dn7) (e11 (dn7 + 1)) (e11 (dn7 + 2)) ((si L 0 z4_28.toInt).map (fun p => (if p.1 = x1 then x2 else if p.1 = x2 then x1 else p.1, p.2)))) → (∀ L, rp (w nn) (e (nn + 1)) (e (nn + 2)) L → (nn : Int) = 40 + 4 * ((w 0).toInt % 41) → z4_28.toInt ≤ (L.length : Int)) → (w11 0).toInt = (w 0).toInt → (w11 1).toInt = (w 1).toInt → (w11 3).toInt = (w 3).toInt → 200 - z4_28.toInt < (n : Int) → J 28 [some (.ref (q7 0)), some (.int x1), some (.int x2), some (.ref (q7 nn)), some (.int z4_28), none] [] (cw A0 g K7 nn dn7 q7 w11 e11 v11 f11) 4 485 := by
      intro n
      induction n with
      | zero =>
        intro z4_28 w11 e11 v11 f11 hI11 hx11 hL11 hs11 j0_28 j1_28 j2_28 j3_28 j4_28 j5_28 j6_28
        omega
      | succ n ih13 =>
        intro z4_28 w11 e11 v11 f11 hI11 hx11 hL11 hs11 j0_28 j1_28 j2_28 j3_28 j4_28 j5_28 j6_28
        have lh9 := hL11
        have hu14 := hI11.2.1
        unfold cw_W at hu14
        have zs15 := cw_sz hI11 rn7
        have zs16 := cw_sz hI11 ro7
        clear hu8 zs9 zs10
        refine hC.1 2 28 _ _ rfl _ _ _ _ _ ?_
        refine Exists.intro _ (And.intro (cw_ro_o hI11.1 rn7) ?_)
        have z17 := cw_sz hI11 rn7
        refine And.intro (fun c18 => ?_) (fun c18 => ?_)
        · skip
          refine hC.1 6 83 _ _ rfl _ _ _ _ _ ?_
          refine Exists.intro _ (And.intro (cw_o0 hI11.1) ?_)
          have hp_87 := hL11
          refine And.intro (Exists.intro _ (cw_o1 hI11.1)) (Exists.intro _ (Exists.intro _ (Exists.intro _ (Exists.intro _ (And.intro (G_X9_finish hI11 hs11  (by omega) (by omega)) (And.intro rfl (fun r9 A9 h9 => ?_)))))))
          rcases h9 with ⟨w20, e20, v20, f20, rfl, hI20, hs20, hy20, y19, rfl, by19⟩
          have hx20 : e20 15 = e 15 := hy20.trans hx11
          have hu21 := hI20.2.1
          unfold cw_W at hu21
          have zs22 := cw_sz hI20 ro7
          have zs23 := cw_sz hI20 ro7
          clear hu14 zs15 zs16
          have hb_87 := by19.2
          exact ⟨rfl, fun e9 => absurd e9 (by decide), rfl, K7, dn7, dn7, q7, w20, e20, v20, f20, rfl, hI20, hs20, hX7, hx20, y19, rfl, by first | omega | (dsimp only; omega) | trivial, by intro L hL hN; have hl := hL.1; rw [ed_exch, if_pos (by omega)]; have t2 := j1_28 L hL hN; have h8 := (lh9 L hL hN).2.1; have h7 := j2_28 L hL hN; rw [show z4_28.toInt = (L.length : Int) by omega, si_all] at t2; exact ⟨hb_87.2.1 _ t2, by show _ = _ + (1 : Int); omega, by show _ = _ + (1 : Int) * _; omega, by omega, fun _ => hb_87.2.2⟩⟩
        · skip
          refine Exists.intro _ (And.intro (cw_ro_o hI11.1 rn7) ?_)
          refine Exists.intro _ (Exists.intro _ (And.intro (Or.inl (cw_ro_1 hI11.1 rn7)) (And.intro (by omega) ?_)))
          have w24 := cw_col hI11 rn7 (z4_28).toInt.toNat
          refine Exists.intro _ (And.intro (cw_o0 hI11.1) ?_)
          refine And.intro (fun c25 => ?_) (fun c25 => ?_)
          · skip
            have dc25 := pm_neI c25
            refine hC.1 3 62 _ _ rfl _ _ _ _ _ ?_
            refine And.intro (fun c26 => ?_) (fun c26 => ?_)
            · skip
              have dc26 := pm_neI c26
              refine hC.1 4 72 _ _ rfl _ _ _ _ _ ?_
              refine hC.1 5 74 _ _ rfl _ _ _ _ _ ?_
              have hp_74 := hL11
              refine And.intro (Exists.intro _ (cw_o1 hI11.1)) (Exists.intro _ (Exists.intro _ (Exists.intro _ (Exists.intro _ (And.intro (F_X9_keepAs hI11 hs11 z4_28 (e11 (nn + 1) (z4_28).toInt.toNat) (by omega)) (And.intro rfl (fun r9 A9 h9 => ?_)))))))
              rcases h9 with ⟨w28, e28, v28, f28, rfl, hI28, hs28, hy28, rfl, by27⟩
              have hx28 : e28 15 = e 15 := hy28.trans hx11
              have hu29 := hI28.2.1
              unfold cw_W at hu29
              have zs30 := cw_sz hI28 rn7
              have zs31 := cw_sz hI28 ro7
              clear hu14 zs15 zs16
              have hb_74 := by27.2
              have hL28 : ∀ L, rp (w nn) (e (nn + 1)) (e (nn + 2)) L → (nn : Int) = 40 + 4 * ((w 0).toInt % 41) → nn ≠ dn7 ∧ rp (w28 nn) (e28 (nn + 1)) (e28 (nn + 2)) L := hL_k hL11 rn7 ro7 hb_74.1
              intro m32 em_77
              try have e32 : m32.toInt = (z4_28).toInt + (1) := by rw [em_77]; exact pm_addc _ _ (1) rfl (by omega) (by omega)
              exact hC.2 [false, false, false, false, false, true] _ _ _ _ _ _ (ih13 m32 w28 e28 v28 f28 hI28 hx28 hL28 hs28 (by omega) (by intro L hL hN; have hl := hL.1; have q2 := hp_74 L hL hN; have z2 := q2.2.1; have s2 := si_len (L := L) (a := 0) (b := z4_28.toInt) (by omega) (by omega) (by omega); have t2 := hb_74.2 L _ q2.2 q2.1 (by omega) (by omega) (by first | omega | (simp only [List.length_append, List.length_nil, List.length_cons, List.length_map, List.length_reverse, nw_len, dr_len]; omega)) (j1_28 L hL hN); rw [show m32.toInt = z4_28.toInt + 1 by omega, si_s q2.2 (a := 0) (z := z4_28.toInt) (by omega) (by omega) (by omega), List.map_append, List.map_cons, List.map_nil]; first | (rw [if_pos (by assumption)]; exact t2) | (rw [if_neg (by assumption), if_pos (by assumption)]; exact t2) | (rw [if_neg (by assumption), if_neg (by assumption)]; exact t2)) (by intro L hL hN; have h8 := (lh9 L hL hN).2.1; omega) (by omega) (by omega) (by omega) (by omega))
            · skip
              have dc26 : ((e11 (nn + 1) (z4_28).toInt.toNat)).toInt = (x2 : Int32).toInt := congrArg Int32.toInt c26
              refine hC.1 5 74 _ _ rfl _ _ _ _ _ ?_
              have hp_74 := hL11
              refine And.intro (Exists.intro _ (cw_o1 hI11.1)) (Exists.intro _ (Exists.intro _ (Exists.intro _ (Exists.intro _ (And.intro (F_X9_keepAs hI11 hs11 z4_28 x1 (by omega)) (And.intro rfl (fun r9 A9 h9 => ?_)))))))
              rcases h9 with ⟨w34, e34, v34, f34, rfl, hI34, hs34, hy34, rfl, by33⟩
              have hx34 : e34 15 = e 15 := hy34.trans hx11
              have hu35 := hI34.2.1
              unfold cw_W at hu35
              have zs36 := cw_sz hI34 rn7
              have zs37 := cw_sz hI34 ro7
              clear hu14 zs15 zs16
              have hb_74 := by33.2
              have hL34 : ∀ L, rp (w nn) (e (nn + 1)) (e (nn + 2)) L → (nn : Int) = 40 + 4 * ((w 0).toInt % 41) → nn ≠ dn7 ∧ rp (w34 nn) (e34 (nn + 1)) (e34 (nn + 2)) L := hL_k hL11 rn7 ro7 hb_74.1
              intro m38 em_77
              try have e38 : m38.toInt = (z4_28).toInt + (1) := by rw [em_77]; exact pm_addc _ _ (1) rfl (by omega) (by omega)
              exact hC.2 [false, false, false, false, false, true] _ _ _ _ _ _ (ih13 m38 w34 e34 v34 f34 hI34 hx34 hL34 hs34 (by omega) (by intro L hL hN; have hl := hL.1; have q2 := hp_74 L hL hN; have z2 := q2.2.1; have s2 := si_len (L := L) (a := 0) (b := z4_28.toInt) (by omega) (by omega) (by omega); have t2 := hb_74.2 L _ q2.2 q2.1 (by omega) (by omega) (by first | omega | (simp only [List.length_append, List.length_nil, List.length_cons, List.length_map, List.length_reverse, nw_len, dr_len]; omega)) (j1_28 L hL hN); rw [show m38.toInt = z4_28.toInt + 1 by omega, si_s q2.2 (a := 0) (z := z4_28.toInt) (by omega) (by omega) (by omega), List.map_append, List.map_cons, List.map_nil]; first | (rw [if_pos (by assumption)]; exact t2) | (rw [if_neg (by assumption), if_pos (by assumption)]; exact t2) | (rw [if_neg (by assumption), if_neg (by assumption)]; exact t2)) (by intro L hL hN; have h8 := (lh9 L hL hN).2.1; omega) (by omega) (by omega) (by omega) (by omega))
          · skip
            have dc25 : ((e11 (nn + 1) (z4_28).toInt.toNat)).toInt = (x1 : Int32).toInt := congrArg Int32.toInt c25
            refine hC.1 5 74 _ _ rfl _ _ _ _ _ ?_
            have hp_74 := hL11
            refine And.intro (Exists.intro _ (cw_o1 hI11.1)) (Exists.intro _ (Exists.intro _ (Exists.intro _ (Exists.intro _ (And.intro (F_X9_keepAs hI11 hs11 z4_28 x2 (by omega)) (And.intro rfl (fun r9 A9 h9 => ?_)))))))
            rcases h9 with ⟨w40, e40, v40, f40, rfl, hI40, hs40, hy40, rfl, by39⟩
            have hx40 : e40 15 = e 15 := hy40.trans hx11
            have hu41 := hI40.2.1
            unfold cw_W at hu41
            have zs42 := cw_sz hI40 rn7
            have zs43 := cw_sz hI40 ro7
            clear hu14 zs15 zs16
            have hb_74 := by39.2
            have hL40 : ∀ L, rp (w nn) (e (nn + 1)) (e (nn + 2)) L → (nn : Int) = 40 + 4 * ((w 0).toInt % 41) → nn ≠ dn7 ∧ rp (w40 nn) (e40 (nn + 1)) (e40 (nn + 2)) L := hL_k hL11 rn7 ro7 hb_74.1
            intro m44 em_77
            try have e44 : m44.toInt = (z4_28).toInt + (1) := by rw [em_77]; exact pm_addc _ _ (1) rfl (by omega) (by omega)
            exact hC.2 [false, false, false, false, false, true] _ _ _ _ _ _ (ih13 m44 w40 e40 v40 f40 hI40 hx40 hL40 hs40 (by omega) (by intro L hL hN; have hl := hL.1; have q2 := hp_74 L hL hN; have z2 := q2.2.1; have s2 := si_len (L := L) (a := 0) (b := z4_28.toInt) (by omega) (by omega) (by omega); have t2 := hb_74.2 L _ q2.2 q2.1 (by omega) (by omega) (by first | omega | (simp only [List.length_append, List.length_nil, List.length_cons, List.length_map, List.length_reverse, nw_len, dr_len]; omega)) (j1_28 L hL hN); rw [show m44.toInt = z4_28.toInt + 1 by omega, si_s q2.2 (a := 0) (z := z4_28.toInt) (by omega) (by omega) (by omega), List.map_append, List.map_cons, List.map_nil]; first | (rw [if_pos (by assumption)]; exact t2) | (rw [if_neg (by assumption), if_pos (by assumption)]; exact t2) | (rw [if_neg (by assumption), if_neg (by assumption)]; exact t2)) (by intro L hL hN; have h8 := (lh9 L hL hN).2.1; omega) (by omega) (by omega) (by omega) (by omega))
    exact lp12 (200 - (0 : Int32).toInt).toNat.succ (0 : Int32) w7 e7 v f hI7 hx7 hL7 hs (by omega) (by intro L hL hN; have hl := hL.1; rw [si_n (L := L) (a := 0) (b := (0 : Int32).toInt) (by decide)]; exact rp_0 hz9) (by intro L hL hN; have := hL.1; omega) (by omega) (by omega) (by omega) (by omega)
  · skip
    have k0 : (0 : Int32).toInt = 0 := rfl
    refine And.intro (fun c9 => absurd c9 (by decide)) (fun _ => ?_)
    have km1 : (-1 : Int32).toInt = -1 := rfl
    exact ⟨rfl, fun e9 => absurd e9 (by decide), rfl, K, nn, dn, q, w, e, v, f, rfl, hI, hs, cw_X_r, rfl, (-1 : Int32), rfl, by first | omega | (dsimp only; omega) | trivial, by intro L hL hN; have hl := hL.1; rw [ed_exch, if_neg (by omega)]; exact ⟨hL, by show _ = _ + (0 : Int); omega, by show _ = _ + (0 : Int) * _; omega, hN, fun h8 => h8⟩⟩

set_option maxRecDepth 100000 in
set_option maxHeartbeats 2000000 in
theorem H_X10_sort (hI : cw_I K nn dn q w e) (hs : cw_S v f) (x1 : Int32) (x2 : Int32) (p0 : (w 0).toInt < 100000) : pm_Mt l g 32 5 4 485 [.ref (q 0), .int x1, .int x2] (cw A0 g K nn dn q w e v f) (cw_Qb A0 g K nn q (fun r K2 nn2 dn2 w2 e2 => e2 15 = e 15 ∧ (∃ x : Int32, r = some (.int x) ∧ (((w2 0).toInt ≤ (w 0).toInt + 1 ∧ (w 0).toInt ≤ (w2 0).toInt) ∧ (∀ L, rp (w nn) (e (nn + 1)) (e (nn + 2)) L → (nn : Int) = 40 + 4 * ((w 0).toInt % 41) → rp (w2 nn2) (e2 (nn2 + 1)) (e2 (nn2 + 2)) ((ed_sort L x1 x2).getD L) ∧ (w2 0).toInt = (w 0).toInt + edn (ed_sort L x1 x2) ∧ (w2 1).toInt = (w 1).toInt + edn (ed_sort L x1 x2) * (0) ∧ (nn2 : Int) = 40 + 4 * ((w2 0).toInt % 41) ∧ (bd (w nn) (e (nn + 1)) (e (nn + 3)) → bd (w2 nn2) (e2 (nn2 + 1)) (e2 (nn2 + 3)))))))) := by
  refine mt_X10_sort rfl (fun J hC => ?_)
  have ro_nn : cw_ro K nn := hI.2.1.2.1
  have ro_dn : cw_ro K dn := hI.2.1.2.2.1
  have hu1 := hI.2.1
  unfold cw_W at hu1
  have zs2 := cw_sz hI ro_nn
  have zs3 := cw_sz hI ro_dn
  have rg_x1 := pm_rng x1
  have rg_x2 := pm_rng x2
  refine hC.1 0 0 _ _ rfl _ _ _ _ _ ?_
  refine Exists.intro _ (And.intro (cw_o0 hI.1) ?_)
  refine Exists.intro _ (And.intro (cw_o1 hI.1) ?_)
  refine And.intro (Exists.intro _ (cw_ro_o hI.1 ro_nn)) (Exists.intro _ (Exists.intro _ (Exists.intro _ (Exists.intro _ (And.intro (c_X7_isSpan hI hs ro_nn x1 x2 ) (And.intro rfl (fun r9 A9 h9 => ?_)))))))
  rcases h9 with ⟨y4, rfl, rfl, ⟨rfl, by4⟩ | ⟨rfl, by4⟩⟩
  · skip
    have k1 : (1 : Int32).toInt = 1 := rfl
    refine And.intro (fun _ => ?_) (fun c9 => absurd c9 (by decide))
    refine hC.1 1 19 _ _ rfl _ _ _ _ _ ?_
    refine Exists.intro _ (And.intro (cw_o0 hI.1) ?_)
    refine And.intro (Exists.intro _ (cw_o1 hI.1)) (Exists.intro _ (Exists.intro _ (Exists.intro _ (Exists.intro _ (And.intro (F_X9_begin hI hs  (by omega)) (And.intro rfl (fun r9 A9 h9 => ?_)))))))
    obtain ⟨K7, dn7, q7, w7, e7, rfl, rfl, hI7, hX7, hk7, hw7, hy7, hdn7, hfm7, hz7⟩ := h9
    have hq7_0 : q 0 = q7 0 := (hX7.2.1 0 (by omega)).symm
    have hq7_nn : q nn = q7 nn := (hX7.2.1 nn (by omega)).symm
    rw [hq7_0, hq7_nn]
    have hw7_0 := congrArg Int32.toInt hw7.1
    have hw7_1 := congrArg Int32.toInt hw7.2.1
    have hw7_3 := congrArg Int32.toInt hw7.2.2.2
    have ro7 : cw_ro K7 dn7 := hI7.2.1.2.2.1
    have rn7 : cw_ro K7 nn := hI7.2.1.2.1
    have hx7 : e7 15 = e 15 := hy7.trans rfl
    have hu8 := hI7.2.1
    unfold cw_W at hu8
    have zs9 := cw_sz hI7 rn7
    have zs10 := cw_sz hI7 ro7
    have hz9 := hz7
    have hL7 : ∀ L, rp (w nn) (e (nn + 1)) (e (nn + 2)) L → (nn : Int) = 40 + 4 * ((w 0).toInt % 41) → nn ≠ dn7 ∧ rp (w7 nn) (e7 (nn + 1)) (e7 (nn + 2)) L := hL_b ro_nn ro7 hdn7 hfm7
    refine Exists.intro _ (And.intro (cw_o0 hI7.1) ?_)
    have k0 : (0 : Int32).toInt = 0 := rfl
    intro m11 em_33
    try have e11 : m11.toInt = (x1).toInt - (1) := by rw [em_33]; exact pm_subc _ _ (1) rfl (by omega) (by omega)
    have hp_34 := hL7
    refine And.intro (Exists.intro _ (cw_o1 hI7.1)) (Exists.intro _ (Exists.intro _ (Exists.intro _ (Exists.intro _ (And.intro (F_X9_keep hI7 hs (0 : Int32) m11 ) (And.intro rfl (fun r9 A9 h9 => ?_)))))))
    rcases h9 with ⟨w13, e13, v13, f13, rfl, hI13, hs13, hy13, rfl, by12⟩
    have hx13 : e13 15 = e 15 := hy13.trans hx7
    have hu14 := hI13.2.1
    unfold cw_W at hu14
    have zs15 := cw_sz hI13 rn7
    have zs16 := cw_sz hI13 ro7
    clear hu8 zs9 zs10
    have hb_34 := by12.2
    have hL13 : ∀ L, rp (w nn) (e (nn + 1)) (e (nn + 2)) L → (nn : Int) = 40 + 4 * ((w 0).toInt % 41) → nn ≠ dn7 ∧ rp (w13 nn) (e13 (nn + 1)) (e13 (nn + 2)) L := hL_k hL7 rn7 ro7 hb_34.1
    have lp18 : ∀ (n : Nat) (z4_40 : Int32) (w17 : Nat → Int32) (e17 : Nat → Nat → Int32) (v17 : Nat → Int32) (f17 : Nat → Nat → Int32), cw_I K7 nn dn7 q7 w17 e17 → e17 15 = e 15 → (∀ L, rp (w nn) (e (nn + 1)) (e (nn + 2)) L → (nn : Int) = 40 + 4 * ((w 0).toInt % 41) → nn ≠ dn7 ∧ rp (w17 nn) (e17 (nn + 1)) (e17 (nn + 2)) L) → cw_S v17 f17 → (0 ≤ z4_40.toInt ∧ z4_40.toInt ≤ 24) → (∀ L, rp (w nn) (e (nn + 1)) (e (nn + 2)) L → (nn : Int) = 40 + 4 * ((w 0).toInt % 41) → rp (w17 dn7) (e17 (dn7 + 1)) (e17 (dn7 + 2)) (si L 0 x1.toInt ++ st_l (si L x1.toInt (x2.toInt + 1)) z4_40.toInt.toNat)) → (w17 0).toInt = (w 0).toInt → (w17 1).toInt = (w 1).toInt → (w17 3).toInt = (w 3).toInt → 200 - z4_40.toInt < (n : Int) → J 40 [some (.ref (q7 0)), some (.int x1), some (.int x2), some (.ref (q7 nn)), some (.int z4_40)] [] (cw A0 g K7 nn dn7 q7 w17 e17 v17 f17) 4 485 := by
      intro n
      induction n with
      | zero =>
        intro z4_40 w17 e17 v17 f17 hI17 hx17 hL17 hs17 j0_40 j1_40 j2_40 j3_40 j4_40 j5_40
        omega
      | succ n ih19 =>
        intro z4_40 w17 e17 v17 f17 hI17 hx17 hL17 hs17 j0_40 j1_40 j2_40 j3_40 j4_40 j5_40
        have hu20 := hI17.2.1
        unfold cw_W at hu20
        have zs21 := cw_sz hI17 rn7
        have zs22 := cw_sz hI17 ro7
        clear hu14 zs15 zs16
        refine hC.1 2 40 _ _ rfl _ _ _ _ _ ?_
        have k24 : (24 : Int32).toInt = 24 := rfl
        refine And.intro (fun c23 => ?_) (fun c23 => ?_)
        · skip
          refine hC.1 3 64 _ _ rfl _ _ _ _ _ ?_
          refine Exists.intro _ (And.intro (cw_o0 hI17.1) ?_)
          intro m24 em_70
          try have e24 : m24.toInt = (x2).toInt + (1) := by rw [em_70]; exact pm_addc _ _ (1) rfl (by omega) (by omega)
          refine Exists.intro _ (And.intro (cw_ro_o hI17.1 rn7) ?_)
          have z25 := cw_sz hI17 rn7
          intro m26 em_76
          try have e26 : m26.toInt = ((w17 nn)).toInt - (1) := by rw [em_76]; exact pm_subc _ _ (1) rfl (by omega) (by omega)
          have hp_77 := hL17
          refine And.intro (Exists.intro _ (cw_o1 hI17.1)) (Exists.intro _ (Exists.intro _ (Exists.intro _ (Exists.intro _ (And.intro (F_X9_keep hI17 hs17 m24 m26 ) (And.intro rfl (fun r9 A9 h9 => ?_)))))))
          rcases h9 with ⟨w28, e28, v28, f28, rfl, hI28, hs28, hy28, rfl, by27⟩
          have hx28 : e28 15 = e 15 := hy28.trans hx17
          have hu29 := hI28.2.1
          unfold cw_W at hu29
          have zs30 := cw_sz hI28 rn7
          have zs31 := cw_sz hI28 ro7
          clear hu20 zs21 zs22
          have hb_77 := by27.2
          have hL28 : ∀ L, rp (w nn) (e (nn + 1)) (e (nn + 2)) L → (nn : Int) = 40 + 4 * ((w 0).toInt % 41) → nn ≠ dn7 ∧ rp (w28 nn) (e28 (nn + 1)) (e28 (nn + 2)) L := hL_k hL17 rn7 ro7 hb_77.1
          refine Exists.intro _ (And.intro (cw_o0 hI28.1) ?_)
          have hp_84 := hL28
          refine And.intro (Exists.intro _ (cw_o1 hI28.1)) (Exists.intro _ (Exists.intro _ (Exists.intro _ (Exists.intro _ (And.intro (G_X9_finish hI28 hs28  (by omega) (by omega)) (And.intro rfl (fun r9 A9 h9 => ?_)))))))
          rcases h9 with ⟨w33, e33, v33, f33, rfl, hI33, hs33, hy33, y32, rfl, by32⟩
          have hx33 : e33 15 = e 15 := hy33.trans hx28
          have hu34 := hI33.2.1
          unfold cw_W at hu34
          have zs35 := cw_sz hI33 ro7
          have zs36 := cw_sz hI33 ro7
          clear hu29 zs30 zs31
          have hb_84 := by32.2
          exact ⟨rfl, fun e9 => absurd e9 (by decide), rfl, K7, dn7, dn7, q7, w33, e33, v33, f33, rfl, hI33, hs33, hX7, hx33, y32, rfl, by first | omega | (dsimp only; omega) | trivial, by intro L hL hN; have hl := hL.1; rw [ed_sort, if_pos (by omega)]; have t2 := j1_40 L hL hN; rw [show z4_40.toInt.toNat = 24 by omega] at t2; have h6 := st_len (si L x1.toInt (x2.toInt + 1)) 24; have s1 := si_len (L := L) (a := 0) (b := x1.toInt) (by omega) (by omega) (by omega); have s2 := si_len (L := L) (a := x1.toInt) (b := x2.toInt + 1) (by omega) (by omega) (by omega); have q3 := hp_77 L hL hN; have z3 := q3.2.1; have t3 := hb_77.2 L (_) (x2.toInt + 1) (L.length) q3.2 q3.1 (by omega) (by omega) (by omega) (by omega) (by omega) (by first | omega | (simp only [List.length_append, List.length_nil, List.length_cons, List.length_map, List.length_reverse, nw_len, dr_len]; omega)) t2; have k3 := si_len (L := L) (a := x2.toInt + 1) (b := L.length) (by omega) (by omega) (by omega); exact ⟨hb_84.2.1 _ t3, by show _ = _ + (1 : Int); omega, by show _ = _ + (1 : Int) * _; omega, by omega, fun _ => hb_84.2.2⟩⟩
        · skip
          refine Exists.intro _ (And.intro (cw_o0 hI17.1) ?_)
          have hp_55 := hL17
          refine And.intro (Exists.intro _ (cw_o1 hI17.1)) (Exists.intro _ (Exists.intro _ (Exists.intro _ (Exists.intro _ (And.intro (F_X9_keepThoseOf hI17 hs17 z4_40 x1 x2 (by omega)) (And.intro rfl (fun r9 A9 h9 => ?_)))))))
          rcases h9 with ⟨w38, e38, v38, f38, rfl, hI38, hs38, hy38, rfl, by37⟩
          have hx38 : e38 15 = e 15 := hy38.trans hx17
          have hu39 := hI38.2.1
          unfold cw_W at hu39
          have zs40 := cw_sz hI38 rn7
          have zs41 := cw_sz hI38 ro7
          clear hu20 zs21 zs22
          have hb_55 := by37.2
          have hL38 : ∀ L, rp (w nn) (e (nn + 1)) (e (nn + 2)) L → (nn : Int) = 40 + 4 * ((w 0).toInt % 41) → nn ≠ dn7 ∧ rp (w38 nn) (e38 (nn + 1)) (e38 (nn + 2)) L := hL_k hL17 rn7 ro7 hb_55.1
          intro m42 em_58
          try have e42 : m42.toInt = (z4_40).toInt + (1) := by rw [em_58]; exact pm_addc _ _ (1) rfl (by omega) (by omega)
          exact ih19 m42 w38 e38 v38 f38 hI38 hx38 hL38 hs38 (by omega) (by intro L hL hN; have hl := hL.1; have q2 := hp_55 L hL hN; have z2 := q2.2.1; have s2 := si_len (L := L) (a := 0) (b := x1.toInt) (by omega) (by omega) (by omega); have s3 := si_len (L := L) (a := x1.toInt) (b := x2.toInt + 1) (by omega) (by omega) (by omega); have h6 := st_len (si L x1.toInt (x2.toInt + 1)) (z4_40.toInt.toNat + 1); have h7 : st_l (si L x1.toInt (x2.toInt + 1)) (z4_40.toInt.toNat + 1) = st_l (si L x1.toInt (x2.toInt + 1)) z4_40.toInt.toNat ++ (si L x1.toInt (x2.toInt + 1)).filter (fun p => decide (p.1.toInt = z4_40.toInt)) := (by show _ ++ List.filter (fun p : pl_P => decide (p.1.toInt = ((z4_40.toInt.toNat : Nat) : Int))) _ = _; rw [show ((z4_40.toInt.toNat : Nat) : Int) = z4_40.toInt by omega]); rw [h7, List.length_append] at h6; have t2 := hb_55.2 L _ x1.toInt (x2.toInt + 1) q2.2 q2.1 rfl rfl (by omega) (by omega) (by omega) (by first | omega | (simp only [List.length_append, List.length_nil, List.length_cons, List.length_map, List.length_reverse, nw_len, dr_len]; omega)) (j1_40 L hL hN); rw [show m42.toInt.toNat = z4_40.toInt.toNat + 1 by omega, h7, ← List.append_assoc]; exact t2) (by omega) (by omega) (by omega) (by omega)
    exact lp18 (200 - (0 : Int32).toInt).toNat.succ (0 : Int32) w13 e13 v13 f13 hI13 hx13 hL13 hs13 (by omega) (by intro L hL hN; have hl := hL.1; have q1 := hp_34 L hL hN; have z1 := q1.2.1; have t1 := hb_34.2 L ([]) (0) (x1.toInt) q1.2 q1.1 (by omega) (by omega) (by omega) (by omega) (by omega) (by first | omega | (simp only [List.length_append, List.length_nil, List.length_cons, List.length_map, List.length_reverse, nw_len, dr_len]; omega)) (rp_0 hz9); have k1 := si_len (L := L) (a := 0) (b := x1.toInt) (by omega) (by omega) (by omega); rw [List.nil_append] at t1; show rp _ _ _ (_ ++ []); rw [List.append_nil]; exact t1) (by omega) (by omega) (by omega) (by omega)
  · skip
    have k0 : (0 : Int32).toInt = 0 := rfl
    refine And.intro (fun c9 => absurd c9 (by decide)) (fun _ => ?_)
    have km1 : (-1 : Int32).toInt = -1 := rfl
    exact ⟨rfl, fun e9 => absurd e9 (by decide), rfl, K, nn, dn, q, w, e, v, f, rfl, hI, hs, cw_X_r, rfl, (-1 : Int32), rfl, by first | omega | (dsimp only; omega) | trivial, by intro L hL hN; have hl := hL.1; rw [ed_sort, if_neg (by omega)]; exact ⟨hL, by show _ = _ + (0 : Int); omega, by show _ = _ + (0 : Int) * _; omega, hN, fun h8 => h8⟩⟩

end
end
section
section
variable {l : Launch} {g : pm_G} {A0 : pm_H} {K nn dn : Nat} {q : Nat → Nat} {w : Nat → Int32} {e : Nat → Nat → Int32} {v : Nat → Int32} {f : Nat → Nat → Int32}
set_option maxRecDepth 100000 in
set_option maxHeartbeats 2000000 in
theorem H_X10_draw (hI : cw_I K nn dn q w e) (hs : cw_S v f) (x1 : Int32) (x2 : Int32) (x3 : Int32) (p0 : (w 0).toInt < 100000) : pm_Mt l g 40 4 4 485 [.ref (q 0), .int x1, .int x2, .int x3] (cw A0 g K nn dn q w e v f) (cw_Qb A0 g K nn q (fun r K2 nn2 dn2 w2 e2 => e2 15 = e 15 ∧ (∃ x : Int32, r = some (.int x) ∧ (((w2 0).toInt ≤ (w 0).toInt + 1 ∧ (w 0).toInt ≤ (w2 0).toInt) ∧ (∀ L, rp (w nn) (e (nn + 1)) (e (nn + 2)) L → (nn : Int) = 40 + 4 * ((w 0).toInt % 41) → rp (w2 nn2) (e2 (nn2 + 1)) (e2 (nn2 + 2)) ((ed_draw L (w 1) x1 x2 x3).getD L) ∧ (w2 0).toInt = (w 0).toInt + edn (ed_draw L (w 1) x1 x2 x3) ∧ (w2 1).toInt = (w 1).toInt + edn (ed_draw L (w 1) x1 x2 x3) * (x2.toInt) ∧ (nn2 : Int) = 40 + 4 * ((w2 0).toInt % 41) ∧ (bd (w nn) (e (nn + 1)) (e (nn + 3)) → bd (w2 nn2) (e2 (nn2 + 1)) (e2 (nn2 + 3)))))))) := by
  refine mt_X10_draw rfl (fun J hC => ?_)
  have ro_nn : cw_ro K nn := hI.2.1.2.1
  have ro_dn : cw_ro K dn := hI.2.1.2.2.1
  have hu1 := hI.2.1
  unfold cw_W at hu1
  have zs2 := cw_sz hI ro_nn
  have zs3 := cw_sz hI ro_dn
  have rg_x1 := pm_rng x1
  have rg_x2 := pm_rng x2
  have rg_x3 := pm_rng x3
  refine hC.1 0 0 _ _ rfl _ _ _ _ _ ?_
  refine And.intro (fun c4 => ?_) (fun c4 => ?_)
  · skip
    refine hC.1 1 27 _ _ rfl _ _ _ _ _ ?_
    have k0 : (0 : Int32).toInt = 0 := rfl
    refine hC.1 2 28 _ _ rfl _ _ _ _ _ ?_
    refine And.intro (fun _ => ?_) (fun c9 => absurd c9 (by decide))
    refine hC.1 3 57 _ _ rfl _ _ _ _ _ ?_
    have km1 : (-1 : Int32).toInt = -1 := rfl
    exact ⟨rfl, fun e9 => absurd e9 (by decide), rfl, K, nn, dn, q, w, e, v, f, rfl, hI, hs, cw_X_r, rfl, (-1 : Int32), rfl, by first | omega | (dsimp only; omega) | trivial, by intro L hL hN; have hl := hL.1; rw [ed_draw, if_neg (by omega)]; exact ⟨hL, by show _ = _ + (0 : Int); omega, by show _ = _ + (0 : Int) * _; omega, hN, fun h8 => h8⟩⟩
  · skip
    have k9999 : (9999 : Int32).toInt = 9999 := rfl
    refine And.intro (fun c5 => ?_) (fun c5 => ?_)
    · skip
      refine hC.1 1 27 _ _ rfl _ _ _ _ _ ?_
      have k0 : (0 : Int32).toInt = 0 := rfl
      refine hC.1 2 28 _ _ rfl _ _ _ _ _ ?_
      refine And.intro (fun _ => ?_) (fun c9 => absurd c9 (by decide))
      refine hC.1 3 57 _ _ rfl _ _ _ _ _ ?_
      have km1 : (-1 : Int32).toInt = -1 := rfl
      exact ⟨rfl, fun e9 => absurd e9 (by decide), rfl, K, nn, dn, q, w, e, v, f, rfl, hI, hs, cw_X_r, rfl, (-1 : Int32), rfl, by first | omega | (dsimp only; omega) | trivial, by intro L hL hN; have hl := hL.1; rw [ed_draw, if_neg (by omega)]; exact ⟨hL, by show _ = _ + (0 : Int); omega, by show _ = _ + (0 : Int) * _; omega, hN, fun h8 => h8⟩⟩
    · skip
      have k1 : (1 : Int32).toInt = 1 := rfl
      refine And.intro (fun c6 => ?_) (fun c6 => ?_)
      · skip
        refine hC.1 1 27 _ _ rfl _ _ _ _ _ ?_
        have k0 : (0 : Int32).toInt = 0 := rfl
        refine hC.1 2 28 _ _ rfl _ _ _ _ _ ?_
        refine And.intro (fun _ => ?_) (fun c9 => absurd c9 (by decide))
        refine hC.1 3 57 _ _ rfl _ _ _ _ _ ?_
        have km1 : (-1 : Int32).toInt = -1 := rfl
        exact ⟨rfl, fun e9 => absurd e9 (by decide), rfl, K, nn, dn, q, w, e, v, f, rfl, hI, hs, cw_X_r, rfl, (-1 : Int32), rfl, by first | omega | (dsimp only; omega) | trivial, by intro L hL hN; have hl := hL.1; rw [ed_draw, if_neg (by omega)]; exact ⟨hL, by show _ = _ + (0 : Int); omega, by show _ = _ + (0 : Int) * _; omega, hN, fun h8 => h8⟩⟩
      · skip
        have k160 : (160 : Int32).toInt = 160 := rfl
        refine And.intro (fun c7 => ?_) (fun c7 => ?_)
        · skip
          refine hC.1 1 27 _ _ rfl _ _ _ _ _ ?_
          have k0 : (0 : Int32).toInt = 0 := rfl
          refine hC.1 2 28 _ _ rfl _ _ _ _ _ ?_
          refine And.intro (fun _ => ?_) (fun c9 => absurd c9 (by decide))
          refine hC.1 3 57 _ _ rfl _ _ _ _ _ ?_
          have km1 : (-1 : Int32).toInt = -1 := rfl
          exact ⟨rfl, fun e9 => absurd e9 (by decide), rfl, K, nn, dn, q, w, e, v, f, rfl, hI, hs, cw_X_r, rfl, (-1 : Int32), rfl, by first | omega | (dsimp only; omega) | trivial, by intro L hL hN; have hl := hL.1; rw [ed_draw, if_neg (by omega)]; exact ⟨hL, by show _ = _ + (0 : Int); omega, by show _ = _ + (0 : Int) * _; omega, hN, fun h8 => h8⟩⟩
        · skip
          refine hC.1 2 28 _ _ rfl _ _ _ _ _ ?_
          refine And.intro (fun c9 => absurd c9 (by decide)) (fun _ => ?_)
          refine And.intro (fun c8 => ?_) (fun c8 => ?_)
          · skip
            refine hC.1 3 57 _ _ rfl _ _ _ _ _ ?_
            have km1 : (-1 : Int32).toInt = -1 := rfl
            exact ⟨rfl, fun e9 => absurd e9 (by decide), rfl, K, nn, dn, q, w, e, v, f, rfl, hI, hs, cw_X_r, rfl, (-1 : Int32), rfl, by first | omega | (dsimp only; omega) | trivial, by intro L hL hN; have hl := hL.1; rw [ed_draw, if_neg (by omega)]; exact ⟨hL, by show _ = _ + (0 : Int); omega, by show _ = _ + (0 : Int) * _; omega, hN, fun h8 => h8⟩⟩
          · skip
            have k24 : (24 : Int32).toInt = 24 := rfl
            refine And.intro (fun c9 => ?_) (fun c9 => ?_)
            · skip
              refine hC.1 3 57 _ _ rfl _ _ _ _ _ ?_
              have km1 : (-1 : Int32).toInt = -1 := rfl
              exact ⟨rfl, fun e9 => absurd e9 (by decide), rfl, K, nn, dn, q, w, e, v, f, rfl, hI, hs, cw_X_r, rfl, (-1 : Int32), rfl, by first | omega | (dsimp only; omega) | trivial, by intro L hL hN; have hl := hL.1; rw [ed_draw, if_neg (by omega)]; exact ⟨hL, by show _ = _ + (0 : Int); omega, by show _ = _ + (0 : Int) * _; omega, hN, fun h8 => h8⟩⟩
            · skip
              refine Exists.intro _ (And.intro (cw_o0 hI.1) ?_)
              refine And.intro (Exists.intro _ (cw_o1 hI.1)) (Exists.intro _ (Exists.intro _ (Exists.intro _ (Exists.intro _ (And.intro (c_X9_hasRoomFor hI hs x2 (by omega)) (And.intro rfl (fun r9 A9 h9 => ?_)))))))
              rcases h9 with ⟨y10, rfl, rfl, ⟨rfl, by10⟩ | ⟨rfl, by10⟩⟩
              · skip
                refine And.intro (fun _ => ?_) (fun c9 => absurd c9 (by decide))
                refine hC.1 4 59 _ _ rfl _ _ _ _ _ ?_
                refine Exists.intro _ (And.intro (cw_o0 hI.1) ?_)
                refine And.intro (Exists.intro _ (cw_o1 hI.1)) (Exists.intro _ (Exists.intro _ (Exists.intro _ (Exists.intro _ (And.intro (F_X9_begin hI hs  (by omega)) (And.intro rfl (fun r9 A9 h9 => ?_)))))))
                obtain ⟨K13, dn13, q13, w13, e13, rfl, rfl, hI13, hX13, hk13, hw13, hy13, hdn13, hfm13, hz13⟩ := h9
                have hq13_0 : q 0 = q13 0 := (hX13.2.1 0 (by omega)).symm
                rw [hq13_0]
                have hw13_0 := congrArg Int32.toInt hw13.1
                have hw13_1 := congrArg Int32.toInt hw13.2.1
                have hw13_3 := congrArg Int32.toInt hw13.2.2.2
                have ro13 : cw_ro K13 dn13 := hI13.2.1.2.2.1
                have rn13 : cw_ro K13 nn := hI13.2.1.2.1
                have hx13 : e13 15 = e 15 := hy13.trans rfl
                have hu14 := hI13.2.1
                unfold cw_W at hu14
                have zs15 := cw_sz hI13 rn13
                have zs16 := cw_sz hI13 ro13
                have hz9 := hz13
                have hL13 : ∀ L, rp (w nn) (e (nn + 1)) (e (nn + 2)) L → (nn : Int) = 40 + 4 * ((w 0).toInt % 41) → nn ≠ dn13 ∧ rp (w13 nn) (e13 (nn + 1)) (e13 (nn + 2)) L := hL_b ro_nn ro13 hdn13 hfm13
                refine Exists.intro _ (And.intro (cw_o0 hI13.1) ?_)
                have k0 : (0 : Int32).toInt = 0 := rfl
                refine Exists.intro _ (And.intro (cw_o0 hI13.1) ?_)
                refine Exists.intro _ (And.intro (cw_o1 hI13.1) ?_)
                refine Exists.intro _ (And.intro (cw_ro_o hI13.1 rn13) ?_)
                have z17 := cw_sz hI13 rn13
                intro m18 em_82
                try have e18 : m18.toInt = ((w13 nn)).toInt - (1) := by rw [em_82]; exact pm_subc _ _ (1) rfl (by omega) (by omega)
                have hp_83 := hL13
                refine And.intro (Exists.intro _ (cw_o1 hI13.1)) (Exists.intro _ (Exists.intro _ (Exists.intro _ (Exists.intro _ (And.intro (F_X9_keep hI13 hs (0 : Int32) m18 ) (And.intro rfl (fun r9 A9 h9 => ?_)))))))
                rcases h9 with ⟨w20, e20, v20, f20, rfl, hI20, hs20, hy20, rfl, by19⟩
                have hx20 : e20 15 = e 15 := hy20.trans hx13
                have hu21 := hI20.2.1
                unfold cw_W at hu21
                have zs22 := cw_sz hI20 rn13
                have zs23 := cw_sz hI20 ro13
                clear hu14 zs15 zs16
                have hb_83 := by19.2
                have hL20 : ∀ L, rp (w nn) (e (nn + 1)) (e (nn + 2)) L → (nn : Int) = 40 + 4 * ((w 0).toInt % 41) → nn ≠ dn13 ∧ rp (w20 nn) (e20 (nn + 1)) (e20 (nn + 2)) L := hL_k hL13 rn13 ro13 hb_83.1
                have lp25 : ∀ (n : Nat) (z5_92 : Int32) (z6_92 : Int32) (w24 : Nat → Int32) (e24 : Nat → Nat → Int32) (v24 : Nat → Int32) (f24 : Nat → Nat → Int32), cw_I K13 nn dn13 q13 w24 e24 → e24 15 = e 15 → (∀ L, rp (w nn) (e (nn + 1)) (e (nn + 2)) L → (nn : Int) = 40 + 4 * ((w 0).toInt % 41) → nn ≠ dn13 ∧ rp (w24 nn) (e24 (nn + 1)) (e24 (nn + 2)) L) → cw_S v24 f24 → (0 ≤ z6_92.toInt ∧ z6_92.toInt ≤ x2.toInt) → (0 ≤ z5_92.toInt ∧ z5_92.toInt ≤ 10006) → ((w24 1).toInt = (w 1).toInt + z6_92.toInt) → (z5_92.toInt = ds x1.toInt z6_92.toInt.toNat) → (∀ L, rp (w nn) (e (nn + 1)) (e (nn + 2)) L → (nn : Int) = 40 + 4 * ((w 0).toInt % 41) → rp (w24 dn13) (e24 (dn13 + 1)) (e24 (dn13 + 2)) (L ++ nw_l (w 1) (dr_l x1.toInt x3.toInt z6_92.toInt.toNat))) → (w24 0).toInt = (w 0).toInt → (w24 3).toInt = (w 3).toInt → 200 - z6_92.toInt < (n : Int) → J 92 [some (.ref (q13 0)), some (.int x1), some (.int x2), some (.int x3), some (.int (1 : Int32)), some (.int z5_92), some (.int z6_92)] [] (cw A0 g K13 nn dn13 q13 w24 e24 v24 f24) 4 485 := by
                  intro n
                  induction n with
                  | zero =>
                    intro z5_92 z6_92 w24 e24 v24 f24 hI24 hx24 hL24 hs24 j0_92 j1_92 j2_92 j3_92 j4_92 j5_92 j6_92 j7_92
                    omega
                  | succ n ih26 =>
                    intro z5_92 z6_92 w24 e24 v24 f24 hI24 hx24 hL24 hs24 j0_92 j1_92 j2_92 j3_92 j4_92 j5_92 j6_92 j7_92
                    obtain ⟨g92, eg92⟩ : ∃ z9, z9 = w24 1 := ⟨_, rfl⟩
                    have hu27 := hI24.2.1
                    unfold cw_W at hu27
                    have zs28 := cw_sz hI24 rn13
                    have zs29 := cw_sz hI24 ro13
                    clear hu21 zs22 zs23
                    refine hC.1 5 92 _ _ rfl _ _ _ _ _ ?_
                    refine And.intro (fun c30 => ?_) (fun c30 => ?_)
                    · skip
                      refine hC.1 6 130 _ _ rfl _ _ _ _ _ ?_
                      refine Exists.intro _ (And.intro (cw_o0 hI24.1) ?_)
                      have hp_134 := hL24
                      refine And.intro (Exists.intro _ (cw_o1 hI24.1)) (Exists.intro _ (Exists.intro _ (Exists.intro _ (Exists.intro _ (And.intro (G_X9_finish hI24 hs24  (by omega) (by omega)) (And.intro rfl (fun r9 A9 h9 => ?_)))))))
                      rcases h9 with ⟨w32, e32, v32, f32, rfl, hI32, hs32, hy32, y31, rfl, by31⟩
                      have hx32 : e32 15 = e 15 := hy32.trans hx24
                      have hu33 := hI32.2.1
                      unfold cw_W at hu33
                      have zs34 := cw_sz hI32 ro13
                      have zs35 := cw_sz hI32 ro13
                      clear hu27 zs28 zs29
                      have hb_134 := by31.2
                      exact ⟨rfl, fun e9 => absurd e9 (by decide), rfl, K13, dn13, dn13, q13, w32, e32, v32, f32, rfl, hI32, hs32, hX13, hx32, y31, rfl, by first | omega | (dsimp only; omega) | trivial, by intro L hL hN; have hl := hL.1; rw [ed_draw, if_pos (by omega)]; have t2 := j4_92 L hL hN; rw [show z6_92.toInt.toNat = x2.toInt.toNat by omega] at t2; exact ⟨hb_134.2.1 _ t2, by show _ = _ + (1 : Int); omega, by show _ = _ + (1 : Int) * _; omega, by omega, fun _ => hb_134.2.2⟩⟩
                    · skip
                      have k137 : (137 : Int32).toInt = 137 := rfl
                      intro m36 em_103
                      try have e36 : m36.toInt = (z5_92).toInt * (137) := by rw [em_103]; exact pm_mulc _ _ (137) rfl (by omega) (by omega)
                      have k71 : (71 : Int32).toInt = 71 := rfl
                      intro m37 em_106
                      try have e37 : m37.toInt = (m36).toInt + (71) := by rw [em_106]; exact pm_addc _ _ (71) rfl (by omega) (by omega)
                      have k10007 : (10007 : Int32).toInt = 10007 := rfl
                      refine And.intro (by decide) ?_
                      intro m38 em_110
                      have e38 : 0 ≤ m38.toInt ∧ m38.toInt < 10007 ∧ m38.toInt = (m37).toInt % 10007 := by rw [em_110]; exact pm_remc _ _ 10007 rfl (by omega) (by decide)
                      have hd1 : ds x1.toInt (z6_92.toInt.toNat + 1) = m38.toInt := by show (137 * ds x1.toInt z6_92.toInt.toNat + 71) % 10007 = _; rw [← j3_92]; omega
                      refine Exists.intro _ (And.intro (cw_o0 hI24.1) ?_)
                      refine And.intro (fun e9 => by have e8 := congrArg Int32.toInt e9; have e7 : (0 : Int32).toInt = 0 := rfl; omega) ?_
                      intro m39 em_120
                      try have e39 := pm_rem m38 x3 (by omega) (by omega)
                      try rw [← em_120] at e39
                      obtain ⟨cc9, hcc9⟩ : ∃ z9, z9 = m39 := ⟨_, rfl⟩
                      have ecc := pm_rem m38 x3 (by omega) (by omega)
                      rw [← em_120, ← hcc9] at ecc
                      have hp_121 := hL24
                      refine And.intro (Exists.intro _ (cw_o1 hI24.1)) (Exists.intro _ (Exists.intro _ (Exists.intro _ (Exists.intro _ (And.intro (F_X9_add hI24 hs24 m39 (by omega) (by omega)) (And.intro rfl (fun r9 A9 h9 => ?_)))))))
                      rcases h9 with ⟨w41, e41, v41, f41, rfl, hI41, hs41, hy41, rfl, by40⟩
                      have hx41 : e41 15 = e 15 := hy41.trans hx24
                      have hu42 := hI41.2.1
                      unfold cw_W at hu42
                      have zs43 := cw_sz hI41 rn13
                      have zs44 := cw_sz hI41 ro13
                      clear hu27 zs28 zs29
                      have hb_121 := by40.2
                      have hL41 : ∀ L, rp (w nn) (e (nn + 1)) (e (nn + 2)) L → (nn : Int) = 40 + 4 * ((w 0).toInt % 41) → nn ≠ dn13 ∧ rp (w41 nn) (e41 (nn + 1)) (e41 (nn + 2)) L := hL_k hL24 rn13 ro13 hb_121.1
                      intro m45 em_124
                      try have e45 : m45.toInt = (z6_92).toInt + (1) := by rw [em_124]; exact pm_addc _ _ (1) rfl (by omega) (by omega)
                      exact ih26 m38 m45 w41 e41 v41 f41 hI41 hx41 hL41 hs41 (by omega) (by omega) (by omega) (by rw [show m45.toInt.toNat = z6_92.toInt.toNat + 1 by omega, hd1]) (by intro L hL hN; have hl := hL.1; have t2 := hb_121.2 _ (j4_92 L hL hN) (by first | omega | (simp only [List.length_append, List.length_nil, List.length_cons, List.length_map, List.length_reverse, nw_len, dr_len]; omega)); rw [← eg92] at t2; have h5 : Int32.ofInt (m38.toInt % x3.toInt) = cc9 := (by rw [← ecc.2.2, Int32.ofInt_toInt]); rw [show m45.toInt.toNat = z6_92.toInt.toNat + 1 by omega, dr_s, hd1, nw_app (g2 := g92) (by rw [eg92, dr_len]; omega) (by rw [dr_len]; omega), ← List.append_assoc, h5, hcc9]; exact t2) (by omega) (by omega) (by omega)
                exact lp25 (200 - (0 : Int32).toInt).toNat.succ x1 (0 : Int32) w20 e20 v20 f20 hI20 hx20 hL20 hs20 (by omega) (by omega) (by omega) (by rfl) (by intro L hL hN; have hl := hL.1; have q1 := hp_83 L hL hN; have z1 := q1.2.1; have t1 := hb_83.2 L ([]) (0) (L.length) q1.2 q1.1 (by omega) (by omega) (by omega) (by omega) (by omega) (by first | omega | (simp only [List.length_append, List.length_nil, List.length_cons, List.length_map, List.length_reverse, nw_len, dr_len]; omega)) (rp_0 hz9); have k1 := si_len (L := L) (a := 0) (b := L.length) (by omega) (by omega) (by omega); rw [List.nil_append] at t1; rw [si_all] at t1; show rp _ _ _ (L ++ []); rw [List.append_nil]; exact t1) (by omega) (by omega) (by omega)
              · skip
                have k0 : (0 : Int32).toInt = 0 := rfl
                refine And.intro (fun c9 => absurd c9 (by decide)) (fun _ => ?_)
                refine hC.1 3 57 _ _ rfl _ _ _ _ _ ?_
                have km1 : (-1 : Int32).toInt = -1 := rfl
                exact ⟨rfl, fun e9 => absurd e9 (by decide), rfl, K, nn, dn, q, w, e, v, f, rfl, hI, hs, cw_X_r, rfl, (-1 : Int32), rfl, by first | omega | (dsimp only; omega) | trivial, by intro L hL hN; have hl := hL.1; rw [ed_draw, if_neg (by omega)]; exact ⟨hL, by show _ = _ + (0 : Int); omega, by show _ = _ + (0 : Int) * _; omega, hN, fun h8 => h8⟩⟩

end
end
section
/-! what is told of a row, as functions of its colours c, names m, number n: at, colour, close -/
def ct (c : Nat → Int32) (x : Int32) (l : Nat) : Nat → Nat
  | 0 => 0
  | k + 1 => ct c x l k + if c (l + k) = x then 1 else 0
theorem ct_y {c : Nat → Int32} {x : Int32} {l k : Nat} (h : c (l + k) = x) : ct c x l (k + 1) = ct c x l k + 1 := by rw [ct, if_pos h]
theorem ct_n {c : Nat → Int32} {x : Int32} {l k : Nat} (h : ¬ c (l + k) = x) : ct c x l (k + 1) = ct c x l k := by rw [ct, if_neg h, Nat.add_zero]
theorem ct_le (c : Nat → Int32) (x : Int32) (l : Nat) : ∀ k, ct c x l k ≤ k
  | 0 => Nat.le_refl _
  | k + 1 => by
    have ih := ct_le c x l k
    rw [ct]
    split <;> omega
end
section
/-! bits counted; counts of a span's colours; the palette -/
theorem cntB_clr {x y : Int32} {i : Nat} (hx : bt x i = true) (h : ∀ j, bt y j = (decide (j ≠ i) && bt x j)) : ∀ k, cntB y k + (if i < k then 1 else 0) = cntB x k
  | 0 => by rw [if_neg (by omega)]; rfl
  | k + 1 => by
    have ih := cntB_clr hx h k
    rw [cntB, cntB]
    by_cases e : k = i
    · have hy : bt y k = false := by rw [h k, decide_eq_false (fun h9 => h9 e)]; rfl
      rw [hy, show bt x k = true by rw [e]; exact hx, if_neg (by decide), if_pos rfl, if_pos (by omega)]
      rw [if_neg (by omega)] at ih
      omega
    · have hy : bt y k = bt x k := by rw [h k, decide_eq_true e]; rfl
      rw [hy]
      obtain ⟨z, hz⟩ : ∃ z : Nat, z = (if bt x k = true then 1 else 0) := ⟨_, rfl⟩
      rw [← hz]
      by_cases e2 : i < k
      · rw [if_pos e2] at ih; rw [if_pos (by omega)]; omega
      · rw [if_neg e2] at ih; rw [if_neg (by omega)]; omega
theorem cntB_z : ∀ k, cntB 0 k = 0
  | 0 => rfl
  | k + 1 => by rw [cntB, cntB_z k, b_0, if_neg (by decide)]
def msB (W : Nat → Int32) (x : Int32) : Nat → Int32
  | 0 => 0
  | k + 1 => msB W x k + if bt x k = true then W k else 0
theorem msB_z (W : Nat → Int32) : ∀ k, msB W 0 k = 0
  | 0 => rfl
  | k + 1 => by rw [msB, msB_z W k, b_0, if_neg (by decide)]; rfl
theorem ad_r (a b c : Int32) : a + b + c = a + c + b := by rw [Int32.add_assoc, Int32.add_comm b c, ← Int32.add_assoc]
theorem msB_up {W : Nat → Int32} {x y : Int32} {i : Nat} (hx : bt x i = false) (hy : bt y i = true) (h : ∀ j, j ≠ i → bt y j = bt x j) : ∀ k, msB W y k = msB W x k + (if i < k then W i else 0)
  | 0 => by rw [if_neg (by omega)]; rfl
  | k + 1 => by
    have ih := msB_up (W := W) hx hy h k
    rw [msB, msB, ih]
    by_cases e : k = i
    · rw [e, hy, hx, if_neg (by omega), if_pos rfl, if_neg (by decide), if_pos (by omega), Int32.add_zero]
    · rw [h k e]
      by_cases e2 : i < k
      · rw [if_pos e2, if_pos (show i < k + 1 by omega), ad_r]
      · rw [if_neg e2, if_neg (show ¬ i < k + 1 by omega), ad_r]
theorem cntB_up {x y : Int32} {i : Nat} (hx : bt x i = false) (hy : bt y i = true) (h : ∀ j, j ≠ i → bt y j = bt x j) (k : Nat) : cntB y k = cntB x k + (if i < k then 1 else 0) := by
  refine (cntB_clr (x := y) (y := x) hy (fun j => ?_) k).symm
  by_cases e : j = i
  · rw [e, hx, decide_eq_false (fun h9 => h9 rfl)]; rfl
  · rw [h j e, decide_eq_true e]; rfl
def upN (N : Nat → Nat) (c : Nat) : Nat → Nat := fun x => if x = c then N x + 1 else N x
theorem upN_s (N : Nat → Nat) (c : Nat) : upN N c c = N c + 1 := if_pos rfl
theorem upN_n {N : Nat → Nat} {c x : Nat} (h : x ≠ c) : upN N c x = N x := if_neg h
def nc (c : Nat → Int32) (l : Nat) : Nat → (Nat → Nat)
  | 0 => fun _ => 0
  | k + 1 => upN (nc c l k) (c (l + k)).toInt.toNat
def ok24 (c : Nat → Int32) : Prop := ∀ j, 0 ≤ (c j).toInt ∧ (c j).toInt ≤ 23
theorem nc_ct {c : Nat → Int32} {l : Nat} {x : Int32} (hc : ok24 c) (hx : 0 ≤ x.toInt) : ∀ k, nc c l k x.toInt.toNat = ct c x l k
  | 0 => rfl
  | k + 1 => by
    have ih := nc_ct (l := l) hc hx k
    have h0 := hc (l + k)
    by_cases h : c (l + k) = x
    · rw [ct_y h, nc, h, upN_s, ih]
    · rw [ct_n h, nc, upN_n (fun e => h (pm_eqI (by omega))), ih]
theorem nc_eq {c d : Nat → Int32} {l : Nat} : ∀ k, (∀ j, l ≤ j → j < l + k → c j = d j) → nc c l k = nc d l k
  | 0, _ => rfl
  | k + 1, h => by rw [nc, nc, nc_eq k (fun j hi hj => h j hi (by omega)), h (l + k) (by omega) (by omega)]
def PAL (v k W : Nat → Int32) (N : Nat → Nat) (n : Int) : Prop := (∀ x, x < 24 → (k x).toInt = (N x : Int)) ∧ (v 1).toInt = n ∧ (v 2).toInt = (cntB (v 3) 24 : Int) ∧ (∀ i, i < 32 → bt (v 3) i = decide (0 < N i)) ∧ v 4 = msB W (v 3) 24 ∧ (∀ x, (N x : Int) ≤ n) ∧ n ≤ 1000 ∧ (∀ x, 24 ≤ x → N x = 0)
theorem PAL_0 {v k W : Nat → Int32} (hk : ∀ x, x < 24 → k x = 0) (h1 : v 1 = 0) (h2 : v 2 = 0) (h3 : v 3 = 0) (h4 : v 4 = 0) : PAL v k W (fun _ => 0) 0 := by
  refine ⟨fun x hx => by rw [hk x hx]; rfl, by rw [h1]; rfl, by rw [h2, h3, cntB_z]; rfl, fun i hi => by rw [h3, b_0]; rfl, by rw [h4, h3, msB_z], fun x => by simp, by decide, fun _ _ => rfl⟩
theorem PAL_new {v v2 k k2 W : Nat → Int32} {N : Nat → Nat} {n : Int} {c : Int32} (h : PAL v k W N n) (hc : 0 ≤ c.toInt ∧ c.toInt ≤ 23) (hn : n < 1000) (hk0 : ∀ x, x ≠ c.toInt.toNat → k2 x = k x) (hk : (k2 c.toInt.toNat).toInt = (k c.toInt.toNat).toInt + 1) (h0 : (k2 c.toInt.toNat).toInt = 1) (h1 : (v2 1).toInt = (v 1).toInt + 1) (h2 : (v2 2).toInt = (v 2).toInt + 1) (h3 : v2 3 = v 3 ||| ((1 : Int32) <<< (c &&& 31))) (h4 : v2 4 = v 4 + W c.toInt.toNat) : PAL v2 k2 W (upN N c.toInt.toNat) (n + 1) := by
  obtain ⟨p1, p2, p3, p4, p5, p6, p7, p8⟩ := h
  have q1 := p1 c.toInt.toNat (by omega)
  have hN : N c.toInt.toNat = 0 := by omega
  have b1 : bt (v 3) c.toInt.toNat = false := by rw [p4 _ (by omega), hN]; rfl
  have b2 : ∀ i, i < 32 → bt (v2 3) i = (bt (v 3) i || decide (i = c.toInt.toNat)) := fun i hi => by rw [h3, b_or, b_one (by omega) hi]
  have b3 : bt (v2 3) c.toInt.toNat = true := by rw [b2 _ (by omega), decide_eq_true rfl, Bool.or_true]
  have b4 : ∀ j, j ≠ c.toInt.toNat → bt (v2 3) j = bt (v 3) j := fun j hj => by
    by_cases h9 : j < 32
    · rw [b2 j h9, decide_eq_false hj, Bool.or_false]
    · rw [b_big (by omega), b_big (by omega)]
  refine ⟨fun x hx => ?_, by omega, ?_, fun i hi => ?_, ?_, fun x => ?_, by omega, fun x hx => ?_⟩
  · by_cases e : x = c.toInt.toNat
    · rw [e, upN_s]; omega
    · rw [upN_n e, hk0 x e]; exact p1 x hx
  · rw [cntB_up b1 b3 b4 24, if_pos (by omega)]; omega
  · by_cases e : i = c.toInt.toNat
    · rw [e, upN_s, b3, decide_eq_true (by omega)]
    · rw [upN_n e, b4 i e, p4 i hi]
  · rw [h4, p5, msB_up b1 b3 b4 24, if_pos (by omega)]
  · have := p6 x
    unfold upN; split <;> omega
  · rw [upN_n (by omega)]; exact p8 x hx
theorem PAL_old {v v2 k k2 W : Nat → Int32} {N : Nat → Nat} {n : Int} {c : Int32} (h : PAL v k W N n) (hc : 0 ≤ c.toInt ∧ c.toInt ≤ 23) (hn : n < 1000) (hk0 : ∀ x, x ≠ c.toInt.toNat → k2 x = k x) (hk : (k2 c.toInt.toNat).toInt = (k c.toInt.toNat).toInt + 1) (h0 : ¬ (k2 c.toInt.toNat).toInt = 1) (h1 : (v2 1).toInt = (v 1).toInt + 1) (h2 : v2 2 = v 2) (h3 : v2 3 = v 3) (h4 : v2 4 = v 4) : PAL v2 k2 W (upN N c.toInt.toNat) (n + 1) := by
  obtain ⟨p1, p2, p3, p4, p5, p6, p7, p8⟩ := h
  have q1 := p1 c.toInt.toNat (by omega)
  refine ⟨fun x hx => ?_, by omega, by rw [h2, h3]; exact p3, fun i hi => ?_, by rw [h3, h4]; exact p5, fun x => ?_, by omega, fun x hx => ?_⟩
  · by_cases e : x = c.toInt.toNat
    · rw [e, upN_s]; omega
    · rw [upN_n e, hk0 x e]; exact p1 x hx
  · rw [h3, p4 i hi]
    by_cases e : i = c.toInt.toNat
    · rw [e, upN_s, decide_eq_true (by omega), decide_eq_true (by omega)]
    · rw [upN_n e]
  · have := p6 x
    unfold upN; split <;> omega
  · rw [upN_n (by omega)]; exact p8 x hx
theorem PAL_t1 {v v1 v2 v3 v4 k k1 W : Nat → Int32} {m6 m18 m36 m63 c : Int32} (hc : 0 ≤ c.toInt ∧ c.toInt ≤ 23) (e7 : v1 = upd v 1 m6) (e6 : m6 = v 1 + 1) (e19 : k1 = upd k c.toInt.toNat m18) (e18 : m18 = k c.toInt.toNat + 1) (d : (k1 c.toInt.toNat).toInt = 1) (e37 : v2 = upd v1 2 m36) (e36 : m36 = v1 2 + 1) (e49 : v3 = upd v2 3 (v2 3 ||| ((1 : Int32) <<< (c &&& 31)))) (e64 : v4 = upd v3 4 m63) (e63 : m63 = v3 4 + W c.toInt.toNat) : (∀ N n, PAL v k W N n → n < 1000 → PAL v4 k1 W (upN N c.toInt.toNat) (n + 1)) ∧ (∀ i, i = 0 ∨ 5 ≤ i → v4 i = v i) := by
  have a2 : v1 2 = v 2 := by rw [e7, pk_un (by decide)]
  have a3 : v2 3 = v 3 := by rw [e37, pk_un (by decide), e7, pk_un (by decide)]
  have a4 : v3 4 = v 4 := by rw [e49, pk_un (by decide), e37, pk_un (by decide), e7, pk_un (by decide)]
  refine ⟨fun N n h hn => ?_, fun i hi => by rw [e64, pk_un (by omega), e49, pk_un (by omega), e37, pk_un (by omega), e7, pk_un (by omega)]⟩
  have h1 := h
  obtain ⟨p1, p2, p3, p4, p5, p6, p7, p8⟩ := h1
  have q1 := p1 c.toInt.toNat (by omega)
  have q2 := p6 c.toInt.toNat
  have q3 := cntB_le (v 3) 24
  have q4 := p6 0
  refine PAL_new h hc hn (fun x hx => by rw [e19, pk_un hx]) (by rw [e19, pk_us, e18]; exact pm_addc _ _ 1 rfl (by omega) (by omega)) d ?_ ?_ ?_ ?_
  · rw [e64, pk_un (by decide), e49, pk_un (by decide), e37, pk_un (by decide), e7, pk_us, e6]; exact pm_addc _ _ 1 rfl (by omega) (by omega)
  · rw [e64, pk_un (by decide), e49, pk_un (by decide), e37, pk_us, e36, a2]; exact pm_addc _ _ 1 rfl (by omega) (by omega)
  · rw [e64, pk_un (by decide), e49, pk_us, a3]
  · rw [e64, pk_us, e63, a4]
theorem PAL_t2 {v v1 k k1 W : Nat → Int32} {m6 m18 c : Int32} (hc : 0 ≤ c.toInt ∧ c.toInt ≤ 23) (e7 : v1 = upd v 1 m6) (e6 : m6 = v 1 + 1) (e19 : k1 = upd k c.toInt.toNat m18) (e18 : m18 = k c.toInt.toNat + 1) (d : ¬ (k1 c.toInt.toNat).toInt = 1) : (∀ N n, PAL v k W N n → n < 1000 → PAL v1 k1 W (upN N c.toInt.toNat) (n + 1)) ∧ (∀ i, i = 0 ∨ 5 ≤ i → v1 i = v i) := by
  refine ⟨fun N n h hn => ?_, fun i hi => by rw [e7, pk_un (by omega)]⟩
  have h1 := h
  obtain ⟨p1, p2, p3, p4, p5, p6, p7, p8⟩ := h1
  have q1 := p1 c.toInt.toNat (by omega)
  have q2 := p6 c.toInt.toNat
  have q4 := p6 0
  refine PAL_old h hc hn (fun x hx => by rw [e19, pk_un hx]) (by rw [e19, pk_us, e18]; exact pm_addc _ _ 1 rfl (by omega) (by omega)) d ?_ ?_ ?_ ?_
  · rw [e7, pk_us, e6]; exact pm_addc _ _ 1 rfl (by omega) (by omega)
  · rw [e7, pk_un (by decide)]
  · rw [e7, pk_un (by decide)]
  · rw [e7, pk_un (by decide)]
def nS (c : Nat → Int32) (l r : Int) : Nat → Nat := nc c l.toNat (r + 1 - l).toNat
theorem nS_eq {c d : Nat → Int32} {n l r : Int} (hc : ∀ j : Nat, (j : Int) < n → c j = d j) (h : 0 ≤ l ∧ r < n) : nS c l r = nS d l r := nc_eq _ (fun j hi hj => hc j (by omega))
end
section
/-! colours by their bits: the k-th, those with more than a part -/
theorem lc_le (x y : Int64) : (lg_cmp x y).toInt ≤ 0 ↔ x.toInt ≤ y.toInt := by
  unfold lg_cmp
  by_cases h : x > y
  · rw [if_pos h]
    have h1 := Int64.lt_iff_toInt_lt.mp h
    have k1 : (1 : Int32).toInt = 1 := rfl
    omega
  · rw [if_neg h]
    have h1 : ¬ y.toInt < x.toInt := fun h2 => h (Int64.lt_iff_toInt_lt.mpr h2)
    by_cases h2 : x = y
    · rw [if_pos h2]
      have k0 : (0 : Int32).toInt = 0 := rfl
      omega
    · rw [if_neg h2]
      have km : (-1 : Int32).toInt = -1 := rfl
      omega
theorem lm_ok {a b : Int32} (ha : 0 ≤ a.toInt ∧ a.toInt ≤ 1000) (hb : 0 ≤ b.toInt) : (a.toInt64 * b.toInt64).toInt = a.toInt * b.toInt := by
  have hr := pm_rng b
  have h1 := Int.mul_nonneg ha.1 hb
  have h2 : a.toInt * b.toInt ≤ 1000 * b.toInt := Int.mul_le_mul_of_nonneg_right ha.2 hb
  rw [Int64.toInt_mul, Int32.toInt_toInt64, Int32.toInt_toInt64]
  exact Int.bmod_eq_of_le (by omega) (by omega)
theorem lp_ok {a b c : Int32} (ha : 0 ≤ a.toInt ∧ a.toInt ≤ 1000) (hb : 0 ≤ b.toInt) : (lg_cmp (a.toInt64 * b.toInt64) c.toInt64).toInt ≤ 0 ↔ a.toInt * b.toInt ≤ c.toInt := by
  rw [lc_le, lm_ok ha hb, Int32.toInt_toInt64]
def bf (s : Int32) (j : Nat) : Int32 := if bt s j = true then 1 else 0
theorem bf_1 {s : Int32} {j : Nat} : bf s j = 1 ↔ bt s j = true := by
  unfold bf
  by_cases h : bt s j = true
  · rw [if_pos h]; exact ⟨fun _ => h, fun _ => rfl⟩
  · rw [if_neg h]; exact ⟨fun e => absurd e (by decide), fun e => absurd e h⟩
theorem an_1 {s c : Int32} (h : 0 ≤ c.toInt ∧ c.toInt ≤ 31) : s &&& ((1 : Int32) <<< (c &&& 31)) = 0 ↔ bt s c.toInt.toNat = false := by
  constructor
  · intro e
    have h1 := b_and s ((1 : Int32) <<< (c &&& 31)) c.toInt.toNat
    rw [e, b_0, b_one h (by omega), decide_eq_true rfl, Bool.and_true] at h1
    exact h1.symm
  · intro e
    refine b_ext (fun i hi => ?_)
    rw [b_and, b_one h hi, b_0]
    by_cases q : i = c.toInt.toNat
    · rw [q, e]; rfl
    · rw [decide_eq_false q, Bool.and_false]
def frB (N : Nat → Nat) (m len : Int) : Nat → Int32
  | 0 => 0
  | k + 1 => frB N m len k ||| (if len < (N k : Int) * m then (1 : Int32) <<< (Int32.ofInt (k : Int) &&& 31) else 0)
theorem or_z (x : Int32) : x ||| 0 = x := b_ext (fun i _ => by rw [b_or, b_0, Bool.or_false])
theorem frB_y {N : Nat → Nat} {m len : Int} {z : Int32} (h0 : 0 ≤ z.toInt) (h : len < (N z.toInt.toNat : Int) * m) : frB N m len (z.toInt.toNat + 1) = frB N m len z.toInt.toNat ||| ((1 : Int32) <<< (z &&& 31)) := by
  rw [frB, if_pos h, show ((z.toInt.toNat : Nat) : Int) = z.toInt by omega, Int32.ofInt_toInt]
theorem frB_n {N : Nat → Nat} {m len : Int} {k : Nat} (h : ¬ len < (N k : Int) * m) : frB N m len (k + 1) = frB N m len k := by rw [frB, if_neg h, or_z]
def FAI (c : Nat → Int32) (n l r m : Int) : Int32 := if (0 ≤ l ∧ l ≤ r ∧ r < n) ∧ 1 ≤ m then frB (nS c l r) m (r + 1 - l) 24 else -1
theorem FAI_y {c : Nat → Int32} {n l r m : Int} (h : (0 ≤ l ∧ l ≤ r ∧ r < n) ∧ 1 ≤ m) : FAI c n l r m = frB (nS c l r) m (r + 1 - l) 24 := if_pos h
theorem FAI_n {c : Nat → Int32} {n l r m : Int} (h : ¬ ((0 ≤ l ∧ l ≤ r ∧ r < n) ∧ 1 ≤ m)) : FAI c n l r m = -1 := if_neg h
theorem FAI_eq {c d : Nat → Int32} {n l r m : Int} (hc : ∀ j : Nat, (j : Int) < n → c j = d j) : FAI c n l r m = FAI d n l r m := by
  by_cases h : (0 ≤ l ∧ l ≤ r ∧ r < n) ∧ 1 ≤ m
  · rw [FAI_y h, FAI_y h, nS_eq hc ⟨h.1.1, h.1.2.2⟩]
  · rw [FAI_n h, FAI_n h]
theorem by1 {s c : Int32} (h : 0 ≤ c.toInt ∧ c.toInt ≤ 31) (e : ¬ s &&& ((1 : Int32) <<< (c &&& 31)) = 0) : bf s c.toInt.toNat = 1 := by
  refine bf_1.mpr ?_
  cases q : bt s c.toInt.toNat with
  | true => rfl
  | false => exact absurd ((an_1 h).mpr q) e
end
section
section
variable {l : Launch} {g : pm_G} {A0 : pm_H} {h : Nat} {q : Nat → Nat}
set_option maxRecDepth 100000 in
set_option maxHeartbeats 2000000 in
theorem F_X11_timesIn (D : md_D h q) (v : Nat → Int32) (f : Nat → Nat → Int32) (hv : md_V v) (hf : md_F f) (x1 : Int32) (x2 : Int32) (x3 : Int32) (p0 : 0 ≤ x1.toInt ∧ x1.toInt ≤ 160) (p1 : -1 ≤ x2.toInt ∧ x2.toInt < 160) : pm_Mt l g 200 0 0 0 [.ref h, .int x1, .int x2, .int x3] (md A0 g h q v f) (md_Qp (md A0 g h q v f) (fun r => r.toInt = (ct (f 0) x3 x1.toInt.toNat (x2.toInt + 1 - x1.toInt).toNat : Int))) := by
  refine mt_X11_timesIn rfl (fun J hC => ?_)
  have hv9 := hv
  unfold md_V at hv9
  have rg_x1 := pm_rng x1
  have rg_x2 := pm_rng x2
  have rg_x3 := pm_rng x3
  refine hC.1 0 0 _ _ rfl _ _ _ _ _ ?_
  have k0 : (0 : Int32).toInt = 0 := rfl
  have lp1 : ∀ (n : Nat) (z4_6 : Int32) (z5_6 : Int32), (x1.toInt ≤ z5_6.toInt ∧ z5_6.toInt ≤ 161 ∧ (z5_6.toInt ≤ x2.toInt + 1 ∨ z5_6.toInt = x1.toInt)) → (z4_6.toInt = (ct (f 0) x3 x1.toInt.toNat (z5_6.toInt - x1.toInt).toNat : Int)) → 200 - z5_6.toInt < (n : Int) → J 6 [some (.ref h), some (.int x1), some (.int x2), some (.int x3), some (.int z4_6), some (.int z5_6)] [] (md A0 g h q v f) 0 0 := by
    intro n
    induction n with
    | zero =>
      intro z4_6 z5_6 j0_6 j1_6 j2_6
      omega
    | succ n ih2 =>
      intro z4_6 z5_6 j0_6 j1_6 j2_6
      have cl9 := ct_le (f 0) x3 x1.toInt.toNat (z5_6.toInt - x1.toInt).toNat
      refine hC.1 1 6 _ _ rfl _ _ _ _ _ ?_
      refine And.intro (fun c3 => ?_) (fun c3 => ?_)
      · skip
        refine hC.1 4 39 _ _ rfl _ _ _ _ _ ?_
        exact ⟨rfl, fun e9 => absurd e9 (by decide), rfl, z4_6, rfl, rfl, by refine Eq.trans j1_6 ?_; congr 2; omega⟩
      · skip
        refine Exists.intro _ (And.intro md_o ?_)
        refine Exists.intro _ (Exists.intro _ (And.intro (Or.inl (md_a_colours D)) (And.intro (by omega) ?_)))
        have w4 : (0 : Int) ≤ (f 0 (z5_6).toInt.toNat).toInt ∧ (f 0 (z5_6).toInt.toNat).toInt ≤ (23 : Int) := hf 0 _
        refine And.intro (fun c5 => ?_) (fun c5 => ?_)
        · skip
          have dc5 := pm_neI c5
          refine hC.1 2 29 _ _ rfl _ _ _ _ _ ?_
          refine hC.1 3 30 _ _ rfl _ _ _ _ _ ?_
          intro m6 em_30
          try have e6 : m6.toInt = (z4_6).toInt + (0) := by rw [em_30]; exact pm_addc _ _ (0) rfl (by omega) (by omega)
          have k1 : (1 : Int32).toInt = 1 := rfl
          intro m7 em_33
          try have e7 : m7.toInt = (z5_6).toInt + (1) := by rw [em_33]; exact pm_addc _ _ (1) rfl (by omega) (by omega)
          exact ih2 m6 m7 (by omega) (by rw [show (m7.toInt - x1.toInt).toNat = (z5_6.toInt - x1.toInt).toNat + 1 by omega]; first | (rw [ct_y (by rw [show x1.toInt.toNat + (z5_6.toInt - x1.toInt).toNat = z5_6.toInt.toNat by omega]; assumption)]; omega) | (rw [ct_n (by rw [show x1.toInt.toNat + (z5_6.toInt - x1.toInt).toNat = z5_6.toInt.toNat by omega]; assumption)]; omega)) (by omega)
        · skip
          have dc5 : ((f 0 (z5_6).toInt.toNat)).toInt = (x3 : Int32).toInt := congrArg Int32.toInt c5
          have k1 : (1 : Int32).toInt = 1 := rfl
          refine hC.1 3 30 _ _ rfl _ _ _ _ _ ?_
          intro m8 em_30
          try have e8 : m8.toInt = (z4_6).toInt + (1) := by rw [em_30]; exact pm_addc _ _ (1) rfl (by omega) (by omega)
          intro m9 em_33
          try have e9 : m9.toInt = (z5_6).toInt + (1) := by rw [em_33]; exact pm_addc _ _ (1) rfl (by omega) (by omega)
          exact ih2 m8 m9 (by omega) (by rw [show (m9.toInt - x1.toInt).toNat = (z5_6.toInt - x1.toInt).toNat + 1 by omega]; first | (rw [ct_y (by rw [show x1.toInt.toNat + (z5_6.toInt - x1.toInt).toNat = z5_6.toInt.toNat by omega]; assumption)]; omega) | (rw [ct_n (by rw [show x1.toInt.toNat + (z5_6.toInt - x1.toInt).toNat = z5_6.toInt.toNat by omega]; assumption)]; omega)) (by omega)
  exact lp1 (200 - x1.toInt).toNat.succ (0 : Int32) x1 (by omega) (by rw [show (x1.toInt - x1.toInt).toNat = 0 by omega]; rfl) (by omega)

end
end
