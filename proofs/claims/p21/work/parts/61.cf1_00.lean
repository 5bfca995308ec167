section
variable {l : Launch} {g : pm_G} {A0 : pm_H} {K nn dn : Nat} {q : Nat → Nat} {w : Nat → Int32} {e : Nat → Nat → Int32} {v : Nat → Int32} {f : Nat → Nat → Int32}
set_option maxRecDepth 100000 in
set_option maxHeartbeats 2000000 in
theorem F_X10_areUnlikeColours (A : pm_H) (x0 : Int32) (x1 : Int32)  : pm_Mt l g 38 1 0 0 [.int x0, .int x1] A (md_Qp A (fun r => (r = 1 ∧ ((0 ≤ x0.toInt ∧ x0.toInt < 24) ∧ (0 ≤ x1.toInt ∧ x1.toInt < 24) ∧ x0.toInt ≠ x1.toInt)) ∨ (r = 0 ∧ (¬ ((0 ≤ x0.toInt ∧ x0.toInt < 24) ∧ (0 ≤ x1.toInt ∧ x1.toInt < 24) ∧ x0.toInt ≠ x1.toInt))))) := by
  refine mt_X10_areUnlikeColours rfl (fun J hC => ?_)
  have rg_x0 := pm_rng x0
  have rg_x1 := pm_rng x1
  refine hC.1 0 0 _ _ rfl _ _ _ _ _ ?_
  refine Exists.intro _ (Exists.intro _ (Exists.intro _ (Exists.intro _ (And.intro (c_X10_isColour A x0 ) (And.intro rfl (fun r9 A1 h9 => ?_))))))
  rcases h9 with ⟨y2, rfl, rfl, ⟨rfl, by2⟩ | ⟨rfl, by2⟩⟩
  · skip
    have k1 : (1 : Int32).toInt = 1 := rfl
    refine And.intro (fun c9 => absurd c9 (by decide)) (fun _ => ?_)
    refine Exists.intro _ (Exists.intro _ (Exists.intro _ (Exists.intro _ (And.intro (c_X10_isColour A1 x1 ) (And.intro rfl (fun r9 A4 h9 => ?_))))))
    rcases h9 with ⟨y5, rfl, rfl, ⟨rfl, by5⟩ | ⟨rfl, by5⟩⟩
    · skip
      refine And.intro (fun c9 => absurd c9 (by decide)) (fun _ => ?_)
      refine And.intro (fun c7 => ?_) (fun c7 => ?_)
      · skip
        have dc7 : (x0).toInt = (x1 : Int32).toInt := congrArg Int32.toInt c7
        refine hC.1 1 23 _ _ rfl _ _ _ _ _ ?_
        have k0 : (0 : Int32).toInt = 0 := rfl
        refine hC.1 2 24 _ _ rfl _ _ _ _ _ ?_
        exact ⟨rfl, fun _ => (by decide), rfl, (0 : Int32), rfl, rfl, Or.inr ⟨rfl, by first | trivial | omega | (dsimp only; omega)⟩⟩
      · skip
        have dc7 := pm_neI c7
        refine hC.1 2 24 _ _ rfl _ _ _ _ _ ?_
        exact ⟨rfl, fun _ => (by decide), rfl, (1 : Int32), rfl, rfl, Or.inl ⟨rfl, by first | trivial | omega | (dsimp only; omega)⟩⟩
    · skip
      have k0 : (0 : Int32).toInt = 0 := rfl
      refine And.intro (fun _ => ?_) (fun c9 => absurd c9 (by decide))
      refine hC.1 1 23 _ _ rfl _ _ _ _ _ ?_
      refine hC.1 2 24 _ _ rfl _ _ _ _ _ ?_
      exact ⟨rfl, fun _ => (by decide), rfl, (0 : Int32), rfl, rfl, Or.inr ⟨rfl, by first | trivial | omega | (dsimp only; omega)⟩⟩
  · skip
    have k0 : (0 : Int32).toInt = 0 := rfl
    refine And.intro (fun _ => ?_) (fun c9 => absurd c9 (by decide))
    refine hC.1 1 23 _ _ rfl _ _ _ _ _ ?_
    refine hC.1 2 24 _ _ rfl _ _ _ _ _ ?_
    exact ⟨rfl, fun _ => (by decide), rfl, (0 : Int32), rfl, rfl, Or.inr ⟨rfl, by first | trivial | omega | (dsimp only; omega)⟩⟩

set_option maxRecDepth 100000 in
set_option maxHeartbeats 2000000 in
theorem F_X9_append (hI : cw_I K nn dn q w e) (hs : cw_S v f) (x1 : Int32) (x2 : Int32) (x3 : Int32) (p0 : 0 ≤ x1.toInt ∧ x1.toInt ≤ 23) : pm_Mt l g 22 0 0 0 [.ref (q 1), .int x1, .int x2, .int x3] (cw A0 g K nn dn q w e v f) (cw_Qt A0 g K nn dn q (fun r w2 e2 => e2 15 = e 15 ∧ (r = none ∧ (((w2 0).toInt = (w 0).toInt ∧ (w2 1).toInt = (w 1).toInt ∧ (w2 3).toInt = (w 3).toInt) ∧ ((∀ i9, 40 ≤ i9 → (i9 < dn ∨ dn + 4 ≤ i9) → w2 i9 = w i9 ∧ e2 i9 = e i9) ∧ ∀ D, rp (w dn) (e (dn + 1)) (e (dn + 2)) (D) → (D.length : Int) < 160 → rp (w2 dn) (e2 (dn + 1)) (e2 (dn + 2)) (D ++ [(x1, x2)])))))) := by
  refine mt_X9_append rfl (fun J hC => ?_)
  have ro_nn : cw_ro K nn := hI.2.1.2.1
  have ro_dn : cw_ro K dn := hI.2.1.2.2.1
  have hu1 := hI.2.1
  unfold cw_W at hu1
  have zs2 := cw_sz hI ro_nn
  have zs3 := cw_sz hI ro_dn
  have rg_x1 := pm_rng x1
  have rg_x2 := pm_rng x2
  have rg_x3 := pm_rng x3
  refine hC.1 0 0 _ _ rfl _ _ _ _ _ ?_
  refine Exists.intro _ (And.intro (cw_o1 hI.1) ?_)
  refine Exists.intro _ (And.intro (cw_ro_o hI.1 ro_dn) ?_)
  have z4 := cw_sz hI ro_dn
  refine And.intro (fun c5 => ?_) (fun c5 => ?_)
  · skip
    refine hC.1 1 22 _ _ rfl _ _ _ _ _ ?_
    exact ⟨rfl, rfl, w, e, v, f, rfl, hI, hs, rfl, rfl, by first | trivial | omega | (dsimp only; omega), by exact ⟨fun _ _ _ => ⟨rfl, rfl⟩, fun D hD hlen => absurd hD.1 (by omega)⟩⟩
  · skip
    have k160 : (160 : Int32).toInt = 160 := rfl
    refine And.intro (fun c6 => ?_) (fun c6 => ?_)
    · skip
      refine hC.1 2 23 _ _ rfl _ _ _ _ _ ?_
      refine Exists.intro _ (And.intro (cw_o1 hI.1) ?_)
      refine Exists.intro _ (And.intro (cw_ro_o hI.1 ro_dn) ?_)
      refine Exists.intro _ (Exists.intro _ (And.intro (cw_ro_1 hI.1 ro_dn) (And.intro (by omega) ?_)))
      rw [cw_sr_1 hI.1 ro_dn]
      have hb7 := ro_dn
      unfold cw_ro at hb7
      obtain ⟨e8, ee8⟩ : ∃ z9, z9 = va_up e (dn + 1) (upd (e (dn + 1)) ((w dn)).toInt.toNat x1) := ⟨_, rfl⟩
      rw [← ee8]
      have hI8 : cw_I K nn dn q w e8 := ⟨hI.1, hI.2.1, hI.2.2.1, by rw [ee8]; exact cw_E_1 hI.2.2.2 (by omega) _ _ (by omega)⟩
      have hx8 : e8 15 = e 15 := (show e8 15 = e 15 by rw [ee8]; exact if_neg (by omega)).trans rfl
      have pe_33 := ee8
      refine Exists.intro _ (And.intro (cw_o1 hI8.1) ?_)
      refine Exists.intro _ (And.intro (cw_ro_o hI8.1 ro_dn) ?_)
      refine Exists.intro _ (Exists.intro _ (And.intro (cw_ro_2 hI8.1 ro_dn) (And.intro (by omega) ?_)))
      rw [cw_sr_2 hI8.1 ro_dn]
      have hb9 := ro_dn
      unfold cw_ro at hb9
      obtain ⟨e10, ee10⟩ : ∃ z9, z9 = va_up e8 (dn + 2) (upd (e8 (dn + 2)) ((w dn)).toInt.toNat x2) := ⟨_, rfl⟩
      rw [← ee10]
      have hI10 : cw_I K nn dn q w e10 := ⟨hI8.1, hI8.2.1, hI8.2.2.1, by rw [ee10]; exact cw_E_2 hI8.2.2.2 (by omega) _⟩
      have hx10 : e10 15 = e 15 := (show e10 15 = e8 15 by rw [ee10]; exact if_neg (by omega)).trans hx8
      have pe_44 := ee10
      refine Exists.intro _ (And.intro (cw_o1 hI10.1) ?_)
      refine Exists.intro _ (Exists.intro _ (And.intro (cw_a12 hI10.1) (And.intro (by omega) ?_)))
      rw [cw_s12 hI10.1]
      obtain ⟨f11, ef11⟩ : ∃ z9, z9 = va_up f 12 (upd (f 12) ((w dn)).toInt.toNat x3) := ⟨_, rfl⟩
      rw [← ef11]
      have hs11 : cw_S v f11 := by rw [ef11]; exact cw_S_fr hs _ _ (by decide) (by decide)
      refine Exists.intro _ (And.intro (cw_o1 hI10.1) ?_)
      have k1 : (1 : Int32).toInt = 1 := rfl
      intro m12 em_60
      try have e12 : m12.toInt = ((w dn)).toInt + (1) := by rw [em_60]; exact pm_addc _ _ (1) rfl (by omega) (by omega)
      refine Exists.intro _ (And.intro (cw_ro_o hI10.1 ro_dn) (And.intro rfl ?_))
      rw [cw_p_size hI10.1 ro_dn]
      have hb13 := ro_dn
      unfold cw_ro at hb13
      obtain ⟨w14, ew14⟩ : ∃ z9, z9 = upd w dn m12 := ⟨_, rfl⟩
      rw [← ew14]
      have ew14_0 : (w14 0).toInt = (w 0).toInt := by rw [ew14, pk_un (by omega)]
      have ew14_1 : (w14 1).toInt = (w 1).toInt := by rw [ew14, pk_un (by omega)]
      have ew14_2 : (w14 2).toInt = (w 2).toInt := by rw [ew14, pk_un (by omega)]
      have ew14_3 : (w14 3).toInt = (w 3).toInt := by rw [ew14, pk_un (by omega)]
      have pn_61 : w14 dn = m12 := by rw [ew14, pk_us]
      have pw_61 := ew14
      have hZ14 : cw_Z w14 := by rw [ew14]; exact cw_Z_up hI10.2.2.1 _ _ (by omega)
      have hI14 : cw_I K nn dn q w14 e10 := ⟨hI10.1, by unfold cw_W; omega, hZ14, hI10.2.2.2⟩
      exact ⟨rfl, rfl, w14, e10, v, f11, rfl, hI14, hs11, hx10, rfl, by first | trivial | omega | (dsimp only; omega), by exact ⟨fun i9 h91 h92 => ⟨by rw [pw_61, pk_un (by omega)], by rw [pe_44, va_un (by omega), pe_33, va_un (by omega)]⟩, fun D hD hlen => (by rw [pw_61, pk_us, pe_44, va_un (by omega), va_us, pe_33, va_us, va_un (by omega)]; exact rp_app hD (by omega) _ _)⟩⟩
    · skip
      refine hC.1 1 22 _ _ rfl _ _ _ _ _ ?_
      exact ⟨rfl, rfl, w, e, v, f, rfl, hI, hs, rfl, rfl, by first | trivial | omega | (dsimp only; omega), by exact ⟨fun _ _ _ => ⟨rfl, rfl⟩, fun D hD hlen => absurd hD.1 (by omega)⟩⟩

set_option maxRecDepth 100000 in
set_option maxHeartbeats 2000000 in
theorem F_X9_keep (hI : cw_I K nn dn q w e) (hs : cw_S v f) (x1 : Int32) (x2 : Int32)  : pm_Mt l g 18 3 0 0 [.ref (q 1), .int x1, .int x2] (cw A0 g K nn dn q w e v f) (cw_Qt A0 g K nn dn q (fun r w2 e2 => e2 15 = e 15 ∧ (r = none ∧ (((w2 0).toInt = (w 0).toInt ∧ (w2 1).toInt = (w 1).toInt ∧ (w2 3).toInt = (w 3).toInt) ∧ ((∀ i9, 40 ≤ i9 → (i9 < dn ∨ dn + 4 ≤ i9) → w2 i9 = w i9 ∧ e2 i9 = e i9) ∧ ∀ (L D : List pl_P) (a b : Int), rp (w nn) (e (nn + 1)) (e (nn + 2)) (L) → nn ≠ dn → x1.toInt = a → x2.toInt + 1 = b → 0 ≤ a → a ≤ b → b ≤ (L.length : Int) → (D.length : Int) + (b - a) ≤ 160 → rp (w dn) (e (dn + 1)) (e (dn + 2)) (D) → rp (w2 dn) (e2 (dn + 1)) (e2 (dn + 2)) (D ++ si L a b)))))) := by
  refine mt_X9_keep rfl (fun J hC => ?_)
  have ro_nn : cw_ro K nn := hI.2.1.2.1
  have ro_dn : cw_ro K dn := hI.2.1.2.2.1
  have hu1 := hI.2.1
  unfold cw_W at hu1
  have zs2 := cw_sz hI ro_nn
  have zs3 := cw_sz hI ro_dn
  have rg_x1 := pm_rng x1
  have rg_x2 := pm_rng x2
  refine hC.1 0 0 _ _ rfl _ _ _ _ _ ?_
  have lp5 : ∀ (n : Nat) (z3_2 : Int32) (w4 : Nat → Int32) (e4 : Nat → Nat → Int32) (v4 : Nat → Int32) (f4 : Nat → Nat → Int32), cw_I K nn dn q w4 e4 → e4 15 = e 15 → cw_S v4 f4 → ((∀ i9, 40 ≤ i9 → (i9 < dn ∨ dn + 4 ≤ i9) → w4 i9 = w i9 ∧ e4 i9 = e i9)) → (∀ L D, rp (w nn) (e (nn + 1)) (e (nn + 2)) (L) → nn ≠ dn → 0 ≤ x1.toInt → x1.toInt ≤ x2.toInt + 1 → x2.toInt + 1 ≤ (L.length : Int) → (D.length : Int) + (x2.toInt + 1 - x1.toInt) ≤ 160 → rp (w dn) (e (dn + 1)) (e (dn + 2)) (D) → (x1.toInt ≤ z3_2.toInt ∧ z3_2.toInt ≤ x2.toInt + 1) ∧ rp (w4 dn) (e4 (dn + 1)) (e4 (dn + 2)) (D ++ si L x1.toInt z3_2.toInt)) → (w4 0).toInt = (w 0).toInt → (w4 1).toInt = (w 1).toInt → (w4 3).toInt = (w 3).toInt → ((200 - z3_2.toInt).toNat : Int) < (n : Int) → J 2 [some (.ref (q 1)), some (.int x1), some (.int x2), some (.int z3_2)] [] (cw A0 g K nn dn q w4 e4 v4 f4) 0 0 := by
    intro n
    induction n with
    | zero =>
      intro z3_2 w4 e4 v4 f4 hI4 hx4 hs4 j0_2 j1_2 j2_2 j3_2 j4_2 j5_2
      omega
    | succ n ih6 =>
      intro z3_2 w4 e4 v4 f4 hI4 hx4 hs4 j0_2 j1_2 j2_2 j3_2 j4_2 j5_2
      have hu7 := hI4.2.1
      unfold cw_W at hu7
      have zs8 := cw_sz hI4 ro_nn
      have zs9 := cw_sz hI4 ro_dn
      refine hC.1 1 2 _ _ rfl _ _ _ _ _ ?_
      refine And.intro (fun c10 => ?_) (fun c10 => ?_)
      · skip
        refine hC.1 2 54 _ _ rfl _ _ _ _ _ ?_
        exact ⟨rfl, rfl, w4, e4, v4, f4, rfl, hI4, hs4, hx4, rfl, by first | trivial | omega | (dsimp only; omega), by exact ⟨j0_2, fun L D a b h1 h2 ha hb h3 h4 h5 h6 h7 => (by have hl := h1.1; obtain ⟨r1, r2⟩ := j1_2 L D h1 h2 (by omega) (by omega) (by omega) (by omega) h7; have hn1 := ro_nn; have hd1 := ro_dn; unfold cw_ro at hn1 hd1; have hw9 := congrArg Int32.toInt (j0_2 nn (by omega) (by omega)).1; rw [show a = x1.toInt by omega, show b = z3_2.toInt by omega]; exact r2)⟩⟩
      · skip
        refine Exists.intro _ (And.intro (cw_o1 hI4.1) ?_)
        refine And.intro (Exists.intro _ (cw_ro_o hI4.1 ro_nn)) (Exists.intro _ (Exists.intro _ (Exists.intro _ (Exists.intro _ (And.intro (c_X7_has hI4 hs4 ro_nn z3_2 ) (And.intro rfl (fun r9 A9 h9 => ?_)))))))
        rcases h9 with ⟨y11, rfl, rfl, ⟨rfl, by11⟩ | ⟨rfl, by11⟩⟩
        · skip
          have k1 : (1 : Int32).toInt = 1 := rfl
          refine And.intro (fun c9 => absurd c9 (by decide)) (fun _ => ?_)
          refine Exists.intro _ (And.intro (cw_o1 hI4.1) ?_)
          refine Exists.intro _ (And.intro (cw_ro_o hI4.1 ro_nn) ?_)
          refine Exists.intro _ (Exists.intro _ (And.intro (Or.inl (cw_ro_1 hI4.1 ro_nn)) (And.intro (by omega) ?_)))
          have w13 := cw_col hI4 ro_nn (z3_2).toInt.toNat
          refine Exists.intro _ (And.intro (cw_o1 hI4.1) ?_)
          refine Exists.intro _ (And.intro (cw_ro_o hI4.1 ro_nn) ?_)
          refine Exists.intro _ (Exists.intro _ (And.intro (Or.inl (cw_ro_2 hI4.1 ro_nn)) (And.intro (by omega) ?_)))
          refine Exists.intro _ (And.intro (cw_o1 hI4.1) ?_)
          refine And.intro (Exists.intro _ (cw_ro_o hI4.1 ro_nn)) (Exists.intro _ (Exists.intro _ (Exists.intro _ (Exists.intro _ (And.intro (c_X7_bondAt hI4 hs4 ro_nn z3_2 ) (And.intro rfl (fun r9 A9 h9 => ?_)))))))
          obtain ⟨y14, rfl, rfl, by14⟩ := h9
          refine And.intro (Exists.intro _ (cw_o1 hI4.1)) (Exists.intro _ (Exists.intro _ (Exists.intro _ (Exists.intro _ (And.intro (F_X9_append hI4 hs4 (e4 (nn + 1) (z3_2).toInt.toNat) (e4 (nn + 2) (z3_2).toInt.toNat) y14 (by omega)) (And.intro rfl (fun r9 A9 h9 => ?_)))))))
          rcases h9 with ⟨w17, e17, v17, f17, rfl, hI17, hs17, hy17, rfl, by16⟩
          have hx17 : e17 15 = e 15 := hy17.trans hx4
          have hu18 := hI17.2.1
          unfold cw_W at hu18
          have zs19 := cw_sz hI17 ro_nn
          have zs20 := cw_sz hI17 ro_dn
          have hb_45 := by16.2
          intro m21 em_48
          try have e21 : m21.toInt = (z3_2).toInt + (1) := by rw [em_48]; exact pm_addc _ _ (1) rfl (by omega) (by omega)
          exact ih6 m21 w17 e17 v17 f17 hI17 hx17 hs17 (by exact fun i9 h91 h92 => ⟨(hb_45.1 i9 h91 h92).1.trans (j0_2 i9 h91 h92).1, (hb_45.1 i9 h91 h92).2.trans (j0_2 i9 h91 h92).2⟩) (by intro L D h1 h2 h3 h4 h5 h6 h7; have hl := h1.1; obtain ⟨r1, r2⟩ := j1_2 L D h1 h2 h3 h4 h5 h6 h7; have hk := si_len (L := L) (a := x1.toInt) (b := z3_2.toInt) h3 r1.1 (by omega); refine ⟨by omega, ?_⟩; have h8 := hb_45.2 _ r2 (by rw [List.length_append]; omega); rw [show m21.toInt = z3_2.toInt + 1 by omega, si_s h1 h3 r1.1 (by omega), ← List.append_assoc]; have hn1 := ro_nn; have hd1 := ro_dn; unfold cw_ro at hn1 hd1; rw [(j0_2 (nn + 1) (by omega) (by omega)).2, (j0_2 (nn + 2) (by omega) (by omega)).2] at h8; exact h8) (by omega) (by omega) (by omega) (by omega)
        · skip
          have k0 : (0 : Int32).toInt = 0 := rfl
          refine And.intro (fun _ => ?_) (fun c9 => absurd c9 (by decide))
          refine hC.1 2 54 _ _ rfl _ _ _ _ _ ?_
          exact ⟨rfl, rfl, w4, e4, v4, f4, rfl, hI4, hs4, hx4, rfl, by first | trivial | omega | (dsimp only; omega), by exact ⟨j0_2, fun L D a b h1 h2 ha hb h3 h4 h5 h6 h7 => (by have hl := h1.1; obtain ⟨r1, r2⟩ := j1_2 L D h1 h2 (by omega) (by omega) (by omega) (by omega) h7; have hn1 := ro_nn; have hd1 := ro_dn; unfold cw_ro at hn1 hd1; have hw9 := congrArg Int32.toInt (j0_2 nn (by omega) (by omega)).1; rw [show a = x1.toInt by omega, show b = z3_2.toInt by omega]; exact r2)⟩⟩
  exact lp5 (((200 - x1.toInt).toNat : Int)).toNat.succ x1 w e v f hI rfl hs (by exact fun _ _ _ => ⟨rfl, rfl⟩) (by intro L D h1 h2 h3 h4 h5 h6 h7; refine ⟨by omega, ?_⟩; rw [si_n (L := L) (a := x1.toInt) (b := x1.toInt) (Int.le_refl _), List.append_nil]; exact h7) (by omega) (by omega) (by omega) (by omega)

set_option maxRecDepth 100000 in
set_option maxHeartbeats 2000000 in
theorem F_X9_keepAs (hI : cw_I K nn dn q w e) (hs : cw_S v f) (x1 : Int32) (x2 : Int32) (p0 : 0 ≤ x2.toInt ∧ x2.toInt ≤ 23) : pm_Mt l g 23 3 0 0 [.ref (q 1), .int x1, .int x2] (cw A0 g K nn dn q w e v f) (cw_Qt A0 g K nn dn q (fun r w2 e2 => e2 15 = e 15 ∧ (r = none ∧ (((w2 0).toInt = (w 0).toInt ∧ (w2 1).toInt = (w 1).toInt ∧ (w2 3).toInt = (w 3).toInt) ∧ ((∀ i9, 40 ≤ i9 → (i9 < dn ∨ dn + 4 ≤ i9) → w2 i9 = w i9 ∧ e2 i9 = e i9) ∧ ∀ L D, rp (w nn) (e (nn + 1)) (e (nn + 2)) (L) → nn ≠ dn → 0 ≤ x1.toInt → x1.toInt < (L.length : Int) → (D.length : Int) < 160 → rp (w dn) (e (dn + 1)) (e (dn + 2)) (D) → rp (w2 dn) (e2 (dn + 1)) (e2 (dn + 2)) (D ++ [(x2, e (nn + 2) x1.toInt.toNat)])))))) := by
  refine mt_X9_keepAs rfl (fun J hC => ?_)
  have ro_nn : cw_ro K nn := hI.2.1.2.1
  have ro_dn : cw_ro K dn := hI.2.1.2.2.1
  have hu1 := hI.2.1
  unfold cw_W at hu1
  have zs2 := cw_sz hI ro_nn
  have zs3 := cw_sz hI ro_dn
  have rg_x1 := pm_rng x1
  have rg_x2 := pm_rng x2
  refine hC.1 0 0 _ _ rfl _ _ _ _ _ ?_
  refine Exists.intro _ (And.intro (cw_o1 hI.1) ?_)
  refine And.intro (Exists.intro _ (cw_ro_o hI.1 ro_nn)) (Exists.intro _ (Exists.intro _ (Exists.intro _ (Exists.intro _ (And.intro (c_X7_has hI hs ro_nn x1 ) (And.intro rfl (fun r9 A9 h9 => ?_)))))))
  rcases h9 with ⟨y4, rfl, rfl, ⟨rfl, by4⟩ | ⟨rfl, by4⟩⟩
  · skip
    have k1 : (1 : Int32).toInt = 1 := rfl
    refine And.intro (fun c9 => absurd c9 (by decide)) (fun _ => ?_)
    refine Exists.intro _ (And.intro (cw_o1 hI.1) ?_)
    refine Exists.intro _ (And.intro (cw_ro_o hI.1 ro_nn) ?_)
    refine Exists.intro _ (Exists.intro _ (And.intro (Or.inl (cw_ro_2 hI.1 ro_nn)) (And.intro (by omega) ?_)))
    refine Exists.intro _ (And.intro (cw_o1 hI.1) ?_)
    refine And.intro (Exists.intro _ (cw_ro_o hI.1 ro_nn)) (Exists.intro _ (Exists.intro _ (Exists.intro _ (Exists.intro _ (And.intro (c_X7_bondAt hI hs ro_nn x1 ) (And.intro rfl (fun r9 A9 h9 => ?_)))))))
    obtain ⟨y6, rfl, rfl, by6⟩ := h9
    refine And.intro (Exists.intro _ (cw_o1 hI.1)) (Exists.intro _ (Exists.intro _ (Exists.intro _ (Exists.intro _ (And.intro (F_X9_append hI hs x2 (e (nn + 2) (x1).toInt.toNat) y6 (by omega)) (And.intro rfl (fun r9 A9 h9 => ?_)))))))
    rcases h9 with ⟨w9, e9, v9, f9, rfl, hI9, hs9, hy9, rfl, by8⟩
    have hx9 : e9 15 = e 15 := hy9.trans rfl
    have hu10 := hI9.2.1
    unfold cw_W at hu10
    have zs11 := cw_sz hI9 ro_nn
    have zs12 := cw_sz hI9 ro_dn
    have hb_30 := by8.2
    refine hC.1 1 33 _ _ rfl _ _ _ _ _ ?_
    exact ⟨rfl, rfl, w9, e9, v9, f9, rfl, hI9, hs9, hx9, rfl, by first | trivial | omega | (dsimp only; omega), by first | exact ⟨hb_30.1, fun L D h1 h2 h3 h4 h5 h6 => hb_30.2 _ h6 h5⟩ | exact ⟨fun _ _ _ => ⟨rfl, rfl⟩, fun L D h1 h2 h3 h4 h5 h6 => absurd h1.1 (by omega)⟩⟩
  · skip
    have k0 : (0 : Int32).toInt = 0 := rfl
    refine And.intro (fun _ => ?_) (fun c9 => absurd c9 (by decide))
    refine hC.1 1 33 _ _ rfl _ _ _ _ _ ?_
    exact ⟨rfl, rfl, w, e, v, f, rfl, hI, hs, rfl, rfl, by first | trivial | omega | (dsimp only; omega), by first | exact ⟨hb_30.1, fun L D h1 h2 h3 h4 h5 h6 => hb_30.2 _ h6 h5⟩ | exact ⟨fun _ _ _ => ⟨rfl, rfl⟩, fun L D h1 h2 h3 h4 h5 h6 => absurd h1.1 (by omega)⟩⟩

set_option maxRecDepth 100000 in
set_option maxHeartbeats 2000000 in
theorem F_X9_keepThoseOf (hI : cw_I K nn dn q w e) (hs : cw_S v f) (x1 : Int32) (x2 : Int32) (x3 : Int32) (p0 : 0 ≤ x1.toInt ∧ x1.toInt ≤ 23) : pm_Mt l g 33 4 0 0 [.ref (q 1), .int x1, .int x2, .int x3] (cw A0 g K nn dn q w e v f) (cw_Qt A0 g K nn dn q (fun r w2 e2 => e2 15 = e 15 ∧ (r = none ∧ (((w2 0).toInt = (w 0).toInt ∧ (w2 1).toInt = (w 1).toInt ∧ (w2 3).toInt = (w 3).toInt) ∧ ((∀ i9, 40 ≤ i9 → (i9 < dn ∨ dn + 4 ≤ i9) → w2 i9 = w i9 ∧ e2 i9 = e i9) ∧ ∀ (L D : List pl_P) (a b : Int), rp (w nn) (e (nn + 1)) (e (nn + 2)) (L) → nn ≠ dn → x2.toInt = a → x3.toInt + 1 = b → 0 ≤ a → a ≤ b → b ≤ (L.length : Int) → (D.length : Int) + (((si L a b).filter (fun p => decide (p.1.toInt = x1.toInt))).length : Int) ≤ 160 → rp (w dn) (e (dn + 1)) (e (dn + 2)) (D) → rp (w2 dn) (e2 (dn + 1)) (e2 (dn + 2)) (D ++ (si L a b).filter (fun p => decide (p.1.toInt = x1.toInt)))))))) := by
  refine mt_X9_keepThoseOf rfl (fun J hC => ?_)
  have ro_nn : cw_ro K nn := hI.2.1.2.1
  have ro_dn : cw_ro K dn := hI.2.1.2.2.1
  have hu1 := hI.2.1
  unfold cw_W at hu1
  have zs2 := cw_sz hI ro_nn
  have zs3 := cw_sz hI ro_dn
  have rg_x1 := pm_rng x1
  have rg_x2 := pm_rng x2
  have rg_x3 := pm_rng x3
  refine hC.1 0 0 _ _ rfl _ _ _ _ _ ?_
  have lp5 : ∀ (n : Nat) (z4_3 : Int32) (w4 : Nat → Int32) (e4 : Nat → Nat → Int32) (v4 : Nat → Int32) (f4 : Nat → Nat → Int32), cw_I K nn dn q w4 e4 → e4 15 = e 15 → cw_S v4 f4 → ((∀ i9, 40 ≤ i9 → (i9 < dn ∨ dn + 4 ≤ i9) → w4 i9 = w i9 ∧ e4 i9 = e i9)) → (∀ L D, rp (w nn) (e (nn + 1)) (e (nn + 2)) (L) → nn ≠ dn → 0 ≤ x2.toInt → x2.toInt ≤ x3.toInt + 1 → x3.toInt + 1 ≤ (L.length : Int) → (D.length : Int) + (((si L x2.toInt (x3.toInt + 1)).filter (fun p => decide (p.1.toInt = x1.toInt))).length : Int) ≤ 160 → rp (w dn) (e (dn + 1)) (e (dn + 2)) (D) → (x2.toInt ≤ z4_3.toInt ∧ z4_3.toInt ≤ x3.toInt + 1) ∧ rp (w4 dn) (e4 (dn + 1)) (e4 (dn + 2)) (D ++ (si L x2.toInt z4_3.toInt).filter (fun p => decide (p.1.toInt = x1.toInt)))) → (w4 0).toInt = (w 0).toInt → (w4 1).toInt = (w 1).toInt → (w4 3).toInt = (w 3).toInt → ((200 - z4_3.toInt).toNat : Int) < (n : Int) → J 3 [some (.ref (q 1)), some (.int x1), some (.int x2), some (.int x3), some (.int z4_3)] [] (cw A0 g K nn dn q w4 e4 v4 f4) 0 0 := by
    intro n
    induction n with
    | zero =>
      intro z4_3 w4 e4 v4 f4 hI4 hx4 hs4 j0_3 j1_3 j2_3 j3_3 j4_3 j5_3
      omega
    | succ n ih6 =>
      intro z4_3 w4 e4 v4 f4 hI4 hx4 hs4 j0_3 j1_3 j2_3 j3_3 j4_3 j5_3
      have hu7 := hI4.2.1
      unfold cw_W at hu7
      have zs8 := cw_sz hI4 ro_nn
      have zs9 := cw_sz hI4 ro_dn
      refine hC.1 1 3 _ _ rfl _ _ _ _ _ ?_
      refine And.intro (fun c10 => ?_) (fun c10 => ?_)
      · skip
        refine hC.1 3 48 _ _ rfl _ _ _ _ _ ?_
        exact ⟨rfl, rfl, w4, e4, v4, f4, rfl, hI4, hs4, hx4, rfl, by first | trivial | omega | (dsimp only; omega), by exact ⟨j0_3, fun L D a b h1 h2 ha hb h3 h4 h5 h6 h7 => (by subst ha; subst hb; have hl := h1.1; obtain ⟨r1, r2⟩ := j1_3 L D h1 h2 h3 h4 h5 h6 h7; have hn1 := ro_nn; have hd1 := ro_dn; unfold cw_ro at hn1 hd1; have hw9 := congrArg Int32.toInt (j0_3 nn (by omega) (by omega)).1; rw [show x3.toInt + 1 = z4_3.toInt by omega]; exact r2)⟩⟩
      · skip
        refine Exists.intro _ (And.intro (cw_o1 hI4.1) ?_)
        refine And.intro (Exists.intro _ (cw_ro_o hI4.1 ro_nn)) (Exists.intro _ (Exists.intro _ (Exists.intro _ (Exists.intro _ (And.intro (c_X7_has hI4 hs4 ro_nn z4_3 ) (And.intro rfl (fun r9 A9 h9 => ?_)))))))
        rcases h9 with ⟨y11, rfl, rfl, ⟨rfl, by11⟩ | ⟨rfl, by11⟩⟩
        · skip
          have k1 : (1 : Int32).toInt = 1 := rfl
          refine And.intro (fun c9 => absurd c9 (by decide)) (fun _ => ?_)
          refine Exists.intro _ (And.intro (cw_o1 hI4.1) ?_)
          refine Exists.intro _ (And.intro (cw_ro_o hI4.1 ro_nn) ?_)
          refine Exists.intro _ (Exists.intro _ (And.intro (Or.inl (cw_ro_1 hI4.1 ro_nn)) (And.intro (by omega) ?_)))
          have w13 := cw_col hI4 ro_nn (z4_3).toInt.toNat
          refine And.intro (fun c14 => ?_) (fun c14 => ?_)
          · skip
            have dc14 := pm_neI c14
            refine hC.1 2 42 _ _ rfl _ _ _ _ _ ?_
            intro m15 em_42
            try have e15 : m15.toInt = (z4_3).toInt + (1) := by rw [em_42]; exact pm_addc _ _ (1) rfl (by omega) (by omega)
            exact ih6 m15 w4 e4 v4 f4 hI4 hx4 hs4 (by first | exact fun i9 h91 h92 => ⟨(hb_39.1 i9 h91 h92).1.trans (j0_3 i9 h91 h92).1, (hb_39.1 i9 h91 h92).2.trans (j0_3 i9 h91 h92).2⟩ | exact j0_3) (by first | (intro L D h1 h2 h3 h4 h5 h6 h7; have hl := h1.1; obtain ⟨r1, r2⟩ := j1_3 L D h1 h2 h3 h4 h5 h6 h7; refine ⟨by omega, ?_⟩; have hn1 := ro_nn; have hd1 := ro_dn; unfold cw_ro at hn1 hd1; have en1 := (j0_3 (nn + 1) (by omega) (by omega)).2; have en2 := (j0_3 (nn + 2) (by omega) (by omega)).2; have hcc : (e (nn + 1) z4_3.toInt.toNat).toInt = x1.toInt := (by rw [← en1]; assumption); have hwn := (j0_3 nn (by omega) (by omega)).1; have h1b := rp_fr h1 (congrArg Int32.toInt hwn) en1 en2; have hs9 := si_s h1 h3 r1.1 (show z4_3.toInt < (L.length : Int) by omega); have hp9 := fl_len (L := L) (a := x2.toInt) (z := z4_3.toInt + 1) (b := x3.toInt + 1) (c := x1.toInt) h3 (by omega) (by omega) h5; rw [hs9, fl_y hcc, List.length_append] at hp9; have hp8 : ([(e (nn + 1) z4_3.toInt.toNat, e (nn + 2) z4_3.toInt.toNat)] : List pl_P).length = 1 := rfl; have h8 := hb_39.2 L _ h1b h2 (by omega) (by omega) (by rw [List.length_append]; omega) r2; rw [show m15.toInt = z4_3.toInt + 1 by omega, hs9, fl_y hcc, ← List.append_assoc]; rw [en2] at h8; rw [pm_eqI hcc]; exact h8) | (intro L D h1 h2 h3 h4 h5 h6 h7; have hl := h1.1; obtain ⟨r1, r2⟩ := j1_3 L D h1 h2 h3 h4 h5 h6 h7; refine ⟨by omega, ?_⟩; have hn1 := ro_nn; have hd1 := ro_dn; unfold cw_ro at hn1 hd1; have en1 := (j0_3 (nn + 1) (by omega) (by omega)).2; have hcc : ¬ (e (nn + 1) z4_3.toInt.toNat).toInt = x1.toInt := (by rw [← en1]; assumption); have hs9 := si_s h1 h3 r1.1 (show z4_3.toInt < (L.length : Int) by have := congrArg Int32.toInt (j0_3 nn (by omega) (by omega)).1; omega); rw [show m15.toInt = z4_3.toInt + 1 by omega, hs9, fl_n hcc]; exact r2)) (by omega) (by omega) (by omega) (by omega)
          · skip
            have dc14 : ((e4 (nn + 1) (z4_3).toInt.toNat)).toInt = (x1 : Int32).toInt := congrArg Int32.toInt c14
            refine And.intro (Exists.intro _ (cw_o1 hI4.1)) (Exists.intro _ (Exists.intro _ (Exists.intro _ (Exists.intro _ (And.intro (F_X9_keepAs hI4 hs4 z4_3 x1 (by omega)) (And.intro rfl (fun r9 A9 h9 => ?_)))))))
            rcases h9 with ⟨w17, e17, v17, f17, rfl, hI17, hs17, hy17, rfl, by16⟩
            have hx17 : e17 15 = e 15 := hy17.trans hx4
            have hu18 := hI17.2.1
            unfold cw_W at hu18
            have zs19 := cw_sz hI17 ro_nn
            have zs20 := cw_sz hI17 ro_dn
            have hb_39 := by16.2
            refine hC.1 2 42 _ _ rfl _ _ _ _ _ ?_
            intro m21 em_42
            try have e21 : m21.toInt = (z4_3).toInt + (1) := by rw [em_42]; exact pm_addc _ _ (1) rfl (by omega) (by omega)
            exact ih6 m21 w17 e17 v17 f17 hI17 hx17 hs17 (by first | exact fun i9 h91 h92 => ⟨(hb_39.1 i9 h91 h92).1.trans (j0_3 i9 h91 h92).1, (hb_39.1 i9 h91 h92).2.trans (j0_3 i9 h91 h92).2⟩ | exact j0_3) (by first | (intro L D h1 h2 h3 h4 h5 h6 h7; have hl := h1.1; obtain ⟨r1, r2⟩ := j1_3 L D h1 h2 h3 h4 h5 h6 h7; refine ⟨by omega, ?_⟩; have hn1 := ro_nn; have hd1 := ro_dn; unfold cw_ro at hn1 hd1; have en1 := (j0_3 (nn + 1) (by omega) (by omega)).2; have en2 := (j0_3 (nn + 2) (by omega) (by omega)).2; have hcc : (e (nn + 1) z4_3.toInt.toNat).toInt = x1.toInt := (by rw [← en1]; assumption); have hwn := (j0_3 nn (by omega) (by omega)).1; have h1b := rp_fr h1 (congrArg Int32.toInt hwn) en1 en2; have hs9 := si_s h1 h3 r1.1 (show z4_3.toInt < (L.length : Int) by omega); have hp9 := fl_len (L := L) (a := x2.toInt) (z := z4_3.toInt + 1) (b := x3.toInt + 1) (c := x1.toInt) h3 (by omega) (by omega) h5; rw [hs9, fl_y hcc, List.length_append] at hp9; have hp8 : ([(e (nn + 1) z4_3.toInt.toNat, e (nn + 2) z4_3.toInt.toNat)] : List pl_P).length = 1 := rfl; have h8 := hb_39.2 L _ h1b h2 (by omega) (by omega) (by rw [List.length_append]; omega) r2; rw [show m21.toInt = z4_3.toInt + 1 by omega, hs9, fl_y hcc, ← List.append_assoc]; rw [en2] at h8; rw [pm_eqI hcc]; exact h8) | (intro L D h1 h2 h3 h4 h5 h6 h7; have hl := h1.1; obtain ⟨r1, r2⟩ := j1_3 L D h1 h2 h3 h4 h5 h6 h7; refine ⟨by omega, ?_⟩; have hn1 := ro_nn; have hd1 := ro_dn; unfold cw_ro at hn1 hd1; have en1 := (j0_3 (nn + 1) (by omega) (by omega)).2; have hcc : ¬ (e (nn + 1) z4_3.toInt.toNat).toInt = x1.toInt := (by rw [← en1]; assumption); have hs9 := si_s h1 h3 r1.1 (show z4_3.toInt < (L.length : Int) by have := congrArg Int32.toInt (j0_3 nn (by omega) (by omega)).1; omega); rw [show m21.toInt = z4_3.toInt + 1 by omega, hs9, fl_n hcc]; exact r2)) (by omega) (by omega) (by omega) (by omega)
        · skip
          have k0 : (0 : Int32).toInt = 0 := rfl
          refine And.intro (fun _ => ?_) (fun c9 => absurd c9 (by decide))
          refine hC.1 3 48 _ _ rfl _ _ _ _ _ ?_
          exact ⟨rfl, rfl, w4, e4, v4, f4, rfl, hI4, hs4, hx4, rfl, by first | trivial | omega | (dsimp only; omega), by exact ⟨j0_3, fun L D a b h1 h2 ha hb h3 h4 h5 h6 h7 => (by subst ha; subst hb; have hl := h1.1; obtain ⟨r1, r2⟩ := j1_3 L D h1 h2 h3 h4 h5 h6 h7; have hn1 := ro_nn; have hd1 := ro_dn; unfold cw_ro at hn1 hd1; have hw9 := congrArg Int32.toInt (j0_3 nn (by omega) (by omega)).1; rw [show x3.toInt + 1 = z4_3.toInt by omega]; exact r2)⟩⟩
  exact lp5 (((200 - x2.toInt).toNat : Int)).toNat.succ x2 w e v f hI rfl hs (by exact fun _ _ _ => ⟨rfl, rfl⟩) (by intro L D h1 h2 h3 h4 h5 h6 h7; refine ⟨by omega, ?_⟩; rw [si_n (L := L) (a := x2.toInt) (b := x2.toInt) (Int.le_refl _)]; show rp _ _ _ (D ++ []); rw [List.append_nil]; exact h7) (by omega) (by omega) (by omega) (by omega)

set_option maxRecDepth 100000 in
set_option maxHeartbeats 2000000 in
theorem F_X9_add (hI : cw_I K nn dn q w e) (hs : cw_S v f) (x1 : Int32) (p0 : 0 ≤ x1.toInt ∧ x1.toInt ≤ 23) (p1 : (w 1).toInt < 10000) : pm_Mt l g 28 1 0 0 [.ref (q 1), .int x1] (cw A0 g K nn dn q w e v f) (cw_Qt A0 g K nn dn q (fun r w2 e2 => e2 15 = e 15 ∧ (r = none ∧ (((w2 0).toInt = (w 0).toInt ∧ (w2 3).toInt = (w 3).toInt ∧ (w2 1).toInt = (w 1).toInt + 1) ∧ ((∀ i9, 40 ≤ i9 → (i9 < dn ∨ dn + 4 ≤ i9) → w2 i9 = w i9 ∧ e2 i9 = e i9) ∧ ∀ D, rp (w dn) (e (dn + 1)) (e (dn + 2)) (D) → (D.length : Int) < 160 → rp (w2 dn) (e2 (dn + 1)) (e2 (dn + 2)) (D ++ [(x1, w 1)])))))) := by
  refine mt_X9_add rfl (fun J hC => ?_)
  have ro_nn : cw_ro K nn := hI.2.1.2.1
  have ro_dn : cw_ro K dn := hI.2.1.2.2.1
  have hu1 := hI.2.1
  unfold cw_W at hu1
  have zs2 := cw_sz hI ro_nn
  have zs3 := cw_sz hI ro_dn
  have rg_x1 := pm_rng x1
  refine hC.1 0 0 _ _ rfl _ _ _ _ _ ?_
  refine Exists.intro _ (And.intro (cw_o1 hI.1) ?_)
  have km2 : (-2 : Int32).toInt = -2 := rfl
  refine And.intro (Exists.intro _ (cw_o1 hI.1)) (Exists.intro _ (Exists.intro _ (Exists.intro _ (Exists.intro _ (And.intro (F_X9_append hI hs x1 (w 1) (-2 : Int32) (by omega)) (And.intro rfl (fun r9 A9 h9 => ?_)))))))
  rcases h9 with ⟨w5, e5, v5, f5, rfl, hI5, hs5, hy5, rfl, by4⟩
  have hx5 : e5 15 = e 15 := hy5.trans rfl
  have hu6 := hI5.2.1
  unfold cw_W at hu6
  have zs7 := cw_sz hI5 ro_nn
  have zs8 := cw_sz hI5 ro_dn
  have hb_8 := by4.2
  refine Exists.intro _ (And.intro (cw_o1 hI5.1) ?_)
  have k1 : (1 : Int32).toInt = 1 := rfl
  intro m9 em_17
  try have e9 : m9.toInt = ((w5 1)).toInt + (1) := by rw [em_17]; exact pm_addc _ _ (1) rfl (by omega) (by omega)
  refine Exists.intro _ (And.intro (cw_o1 hI5.1) (And.intro rfl ?_))
  rw [cw_p_named hI5.1]
  obtain ⟨w10, ew10⟩ : ∃ z9, z9 = upd w5 1 m9 := ⟨_, rfl⟩
  rw [← ew10]
  have ew10_0 : (w10 0).toInt = (w5 0).toInt := by rw [ew10]; rfl
  have ew10_1 : (w10 1).toInt = (m9).toInt := by rw [ew10]; rfl
  have ew10_2 : (w10 2).toInt = (w5 2).toInt := by rw [ew10]; rfl
  have ew10_3 : (w10 3).toInt = (w5 3).toInt := by rw [ew10]; rfl
  have pn_18 : w10 1 = m9 := by rw [ew10, pk_us]
  have pw_18 := ew10
  have hZ10 : cw_Z w10 := by rw [ew10]; exact cw_Z_up hI5.2.2.1 _ _ (by omega)
  have hI10 : cw_I K nn dn q w10 e5 := ⟨hI5.1, by unfold cw_W; omega, hZ10, hI5.2.2.2⟩
  exact ⟨rfl, rfl, w10, e5, v5, f5, rfl, hI10, hs5, hx5, rfl, by first | trivial | omega | (dsimp only; omega), by exact ⟨fun i9 h91 h92 => ⟨by rw [pw_18, pk_un (by omega)]; exact (hb_8.1 i9 h91 h92).1, (hb_8.1 i9 h91 h92).2⟩, fun D h1 h2 => (by have h3 := hb_8.2 D h1 h2; rw [pw_18, pk_un (by omega)]; exact h3)⟩⟩

end
