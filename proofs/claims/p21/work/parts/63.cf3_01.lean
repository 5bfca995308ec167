section
variable {l : Launch} {g : pm_G} {A0 : pm_H} {K nn dn : Nat} {q : Nat → Nat} {w : Nat → Int32} {e : Nat → Nat → Int32} {v : Nat → Int32} {f : Nat → Nat → Int32}
set_option maxRecDepth 100000 in
set_option maxHeartbeats 2000000 in
theorem F_X5_answer (hI : cw_I K nn dn q w e) (hs : cw_S v f) (x1 : Int32) {o2 : Nat} (ho2 : cw_ro K o2) (p0 : 0 ≤ x1.toInt ∧ x1.toInt < 30) : pm_Mt l g 162 3 0 0 [.ref (q 9), .int x1, .ref (q o2), .ref (q 2)] (cw A0 g K nn dn q w e v f) (cw_Qt A0 g K nn dn q (fun r w2 e2 => e2 15 = e 15 ∧ ((r = some (.int 1) ∧ (((w2 0).toInt = (w 0).toInt ∧ (w2 1).toInt = (w 1).toInt ∧ (w2 3).toInt = (w 3).toInt) ∧ ((∀ i9, 40 ≤ i9 → w2 i9 = w i9 ∧ e2 i9 = e i9)))) ∨ (r = some (.int 0) ∧ (((w2 0).toInt = (w 0).toInt ∧ (w2 1).toInt = (w 1).toInt ∧ (w2 3).toInt = (w 3).toInt) ∧ ((∀ i9, 40 ≤ i9 → w2 i9 = w i9 ∧ e2 i9 = e i9))))))) := by
  refine mt_X5_answer rfl (fun J hC => ?_)
  have ro_nn : cw_ro K nn := hI.2.1.2.1
  have ro_dn : cw_ro K dn := hI.2.1.2.2.1
  have hu1 := hI.2.1
  unfold cw_W at hu1
  have rg_x1 := pm_rng x1
  refine hC.1 0 0 _ _ rfl _ _ _ _ _ ?_
  refine Exists.intro _ (And.intro (cw_o9 hI.1) ?_)
  have km1 : (-1 : Int32).toInt = -1 := rfl
  refine Exists.intro _ (Exists.intro _ (And.intro (cw_a37 hI.1) (And.intro (by omega) ?_)))
  rw [cw_s37 hI.1]
  obtain ⟨e2, ee2⟩ : ∃ z9, z9 = va_up e 37 (upd (e 37) (x1).toInt.toNat (-1 : Int32)) := ⟨_, rfl⟩
  rw [← ee2]
  have hI2 : cw_I K nn dn q w e2 := ⟨hI.1, hI.2.1, hI.2.2.1, by rw [ee2]; exact cw_E_up hI.2.2.2 _ _ (fun h9 _ => absurd h9 (by decide)) (fun h9 _ => absurd h9 (by decide))⟩
  have hx2 : e2 15 = e 15 := (show e2 15 = e 15 by rw [ee2]; exact if_neg (by omega)).trans rfl
  have pe_6 := ee2
  refine Exists.intro _ (And.intro (cw_o9 hI2.1) ?_)
  refine Exists.intro _ (Exists.intro _ (And.intro (cw_a38 hI2.1) (And.intro (by omega) ?_)))
  rw [cw_s38 hI2.1]
  obtain ⟨e3, ee3⟩ : ∃ z9, z9 = va_up e2 38 (upd (e2 38) (x1).toInt.toNat (-1 : Int32)) := ⟨_, rfl⟩
  rw [← ee3]
  have hI3 : cw_I K nn dn q w e3 := ⟨hI2.1, hI2.2.1, hI2.2.2.1, by rw [ee3]; exact cw_E_up hI2.2.2.2 _ _ (fun h9 _ => absurd h9 (by decide)) (fun h9 _ => absurd h9 (by decide))⟩
  have hx3 : e3 15 = e 15 := (show e3 15 = e2 15 by rw [ee3]; exact if_neg (by omega)).trans hx2
  have pe_13 := ee3
  refine hC.1 1 20 _ _ rfl _ _ _ _ _ ?_
  refine Exists.intro _ (And.intro (cw_o9 hI3.1) ?_)
  refine Exists.intro _ (Exists.intro _ (And.intro (Or.inl (cw_a35 hI3.1)) (And.intro (by omega) ?_)))
  refine And.intro (Exists.intro _ (cw_ro_o hI3.1 ho2)) (Exists.intro _ (Exists.intro _ (Exists.intro _ (Exists.intro _ (And.intro (F_X7_placeOf hI3 hs ho2 (e3 35 (x1).toInt.toNat) ) (And.intro rfl (fun r9 A9 h9 => ?_)))))))
  obtain ⟨y4, rfl, rfl, by4⟩ := h9
  refine Exists.intro _ (And.intro (cw_o9 hI3.1) ?_)
  refine Exists.intro _ (Exists.intro _ (And.intro (Or.inl (cw_a36 hI3.1)) (And.intro (by omega) ?_)))
  refine And.intro (Exists.intro _ (cw_ro_o hI3.1 ho2)) (Exists.intro _ (Exists.intro _ (Exists.intro _ (Exists.intro _ (And.intro (F_X7_placeOf hI3 hs ho2 (e3 36 (x1).toInt.toNat) ) (And.intro rfl (fun r9 A9 h9 => ?_)))))))
  obtain ⟨y6, rfl, rfl, by6⟩ := h9
  refine And.intro (fun c8 => ?_) (fun c8 => ?_)
  · skip
    have dc8 : (y4).toInt = ((-1 : Int32) : Int32).toInt := congrArg Int32.toInt c8
    refine hC.1 2 56 _ _ rfl _ _ _ _ _ ?_
    have k0 : (0 : Int32).toInt = 0 := rfl
    exact ⟨rfl, fun _ => (by decide), rfl, w, e3, v, f, rfl, hI3, hs, hx3, Or.inr ⟨rfl, by first | trivial | omega | (dsimp only; omega), by exact fun i9 h9 => ⟨rfl, by rw [pe_13, va_un (by omega), pe_6, va_un (by omega)]⟩⟩⟩
  · skip
    have dc8 := pm_neI c8
    refine And.intro (fun c9 => ?_) (fun c9 => ?_)
    · skip
      have dc9 := pm_neI c9
      refine hC.1 3 58 _ _ rfl _ _ _ _ _ ?_
      refine Exists.intro _ (Exists.intro _ (Exists.intro _ (Exists.intro _ (And.intro (c_J9_min_7cf53 (cw A0 g K nn dn q w e3 v f) y4 y6 ) (And.intro rfl (fun r9 A9 h9 => ?_))))))
      obtain ⟨y10, rfl, rfl, by10⟩ := h9
      refine Exists.intro _ (Exists.intro _ (Exists.intro _ (Exists.intro _ (And.intro (c_J9_max_7cf53 (cw A0 g K nn dn q w e3 v f) y4 y6 ) (And.intro rfl (fun r9 A9 h9 => ?_))))))
      obtain ⟨y12, rfl, rfl, by12⟩ := h9
      refine And.intro (Exists.intro _ (cw_o2 hI3.1)) (Exists.intro _ (Exists.intro _ (Exists.intro _ (Exists.intro _ (And.intro (c_X2_read hI3 hs ho2 y10 y12 ) (And.intro rfl (fun r9 A9 h9 => ?_)))))))
      rcases h9 with ⟨v15, f15, rfl, hs15, rfl, by14⟩
      refine Exists.intro _ (And.intro (cw_o9 hI3.1) ?_)
      refine Exists.intro _ (And.intro (cw_o2 hI3.1) ?_)
      refine Exists.intro _ (Exists.intro _ (And.intro (cw_a37 hI3.1) (And.intro (by omega) ?_)))
      rw [cw_s37 hI3.1]
      obtain ⟨e16, ee16⟩ : ∃ z9, z9 = va_up e3 37 (upd (e3 37) (x1).toInt.toNat (v15 2)) := ⟨_, rfl⟩
      rw [← ee16]
      have hI16 : cw_I K nn dn q w e16 := ⟨hI3.1, hI3.2.1, hI3.2.2.1, by rw [ee16]; exact cw_E_up hI3.2.2.2 _ _ (fun h9 _ => absurd h9 (by decide)) (fun h9 _ => absurd h9 (by decide))⟩
      have hx16 : e16 15 = e 15 := (show e16 15 = e3 15 by rw [ee16]; exact if_neg (by omega)).trans hx3
      have pe_86 := ee16
      refine Exists.intro _ (And.intro (cw_o9 hI16.1) ?_)
      refine Exists.intro _ (And.intro (cw_o2 hI16.1) ?_)
      refine Exists.intro _ (Exists.intro _ (And.intro (cw_a38 hI16.1) (And.intro (by omega) ?_)))
      rw [cw_s38 hI16.1]
      obtain ⟨e17, ee17⟩ : ∃ z9, z9 = va_up e16 38 (upd (e16 38) (x1).toInt.toNat (v15 4)) := ⟨_, rfl⟩
      rw [← ee17]
      have hI17 : cw_I K nn dn q w e17 := ⟨hI16.1, hI16.2.1, hI16.2.2.1, by rw [ee17]; exact cw_E_up hI16.2.2.2 _ _ (fun h9 _ => absurd h9 (by decide)) (fun h9 _ => absurd h9 (by decide))⟩
      have hx17 : e17 15 = e 15 := (show e17 15 = e16 15 by rw [ee17]; exact if_neg (by omega)).trans hx16
      have pe_96 := ee17
      have k1 : (1 : Int32).toInt = 1 := rfl
      exact ⟨rfl, fun _ => (by decide), rfl, w, e17, v15, f15, rfl, hI17, hs15, hx17, Or.inl ⟨rfl, by first | trivial | omega | (dsimp only; omega), by exact fun i9 h9 => ⟨rfl, by rw [pe_96, va_un (by omega), pe_86, va_un (by omega), pe_13, va_un (by omega), pe_6, va_un (by omega)]⟩⟩⟩
    · skip
      have dc9 : (y6).toInt = ((-1 : Int32) : Int32).toInt := congrArg Int32.toInt c9
      refine hC.1 2 56 _ _ rfl _ _ _ _ _ ?_
      have k0 : (0 : Int32).toInt = 0 := rfl
      exact ⟨rfl, fun _ => (by decide), rfl, w, e3, v, f, rfl, hI3, hs, hx3, Or.inr ⟨rfl, by first | trivial | omega | (dsimp only; omega), by exact fun i9 h9 => ⟨rfl, by rw [pe_13, va_un (by omega), pe_6, va_un (by omega)]⟩⟩⟩

set_option maxRecDepth 100000 in
set_option maxHeartbeats 2000000 in
theorem F_X5_answer__n (hI : cw_I K nn dn q w e) (hs : cw_S v f) (x1 : Int32) (p0 : 0 ≤ x1.toInt ∧ x1.toInt < 30) : pm_Mt l g 162 3 0 0 [.ref (q 9), .int x1, .null, .ref (q 2)] (cw A0 g K nn dn q w e v f) (cw_Qt A0 g K nn dn q (fun r w2 e2 => e2 15 = e 15 ∧ ((r = some (.int 1) ∧ (((w2 0).toInt = (w 0).toInt ∧ (w2 1).toInt = (w 1).toInt ∧ (w2 3).toInt = (w 3).toInt) ∧ ((∀ i9, 40 ≤ i9 → w2 i9 = w i9 ∧ e2 i9 = e i9)))) ∨ (r = some (.int 0) ∧ (((w2 0).toInt = (w 0).toInt ∧ (w2 1).toInt = (w 1).toInt ∧ (w2 3).toInt = (w 3).toInt) ∧ ((∀ i9, 40 ≤ i9 → w2 i9 = w i9 ∧ e2 i9 = e i9))))))) := by
  refine mt_X5_answer rfl (fun J hC => ?_)
  have ro_nn : cw_ro K nn := hI.2.1.2.1
  have ro_dn : cw_ro K dn := hI.2.1.2.2.1
  have hu1 := hI.2.1
  unfold cw_W at hu1
  have rg_x1 := pm_rng x1
  refine hC.1 0 0 _ _ rfl _ _ _ _ _ ?_
  refine Exists.intro _ (And.intro (cw_o9 hI.1) ?_)
  have km1 : (-1 : Int32).toInt = -1 := rfl
  refine Exists.intro _ (Exists.intro _ (And.intro (cw_a37 hI.1) (And.intro (by omega) ?_)))
  rw [cw_s37 hI.1]
  obtain ⟨e2, ee2⟩ : ∃ z9, z9 = va_up e 37 (upd (e 37) (x1).toInt.toNat (-1 : Int32)) := ⟨_, rfl⟩
  rw [← ee2]
  have hI2 : cw_I K nn dn q w e2 := ⟨hI.1, hI.2.1, hI.2.2.1, by rw [ee2]; exact cw_E_up hI.2.2.2 _ _ (fun h9 _ => absurd h9 (by decide)) (fun h9 _ => absurd h9 (by decide))⟩
  have hx2 : e2 15 = e 15 := (show e2 15 = e 15 by rw [ee2]; exact if_neg (by omega)).trans rfl
  have pe_6 := ee2
  refine Exists.intro _ (And.intro (cw_o9 hI2.1) ?_)
  refine Exists.intro _ (Exists.intro _ (And.intro (cw_a38 hI2.1) (And.intro (by omega) ?_)))
  rw [cw_s38 hI2.1]
  obtain ⟨e3, ee3⟩ : ∃ z9, z9 = va_up e2 38 (upd (e2 38) (x1).toInt.toNat (-1 : Int32)) := ⟨_, rfl⟩
  rw [← ee3]
  have hI3 : cw_I K nn dn q w e3 := ⟨hI2.1, hI2.2.1, hI2.2.2.1, by rw [ee3]; exact cw_E_up hI2.2.2.2 _ _ (fun h9 _ => absurd h9 (by decide)) (fun h9 _ => absurd h9 (by decide))⟩
  have hx3 : e3 15 = e 15 := (show e3 15 = e2 15 by rw [ee3]; exact if_neg (by omega)).trans hx2
  have pe_13 := ee3
  have k0 : (0 : Int32).toInt = 0 := rfl
  exact ⟨rfl, fun _ => (by decide), rfl, w, e3, v, f, rfl, hI3, hs, hx3, Or.inr ⟨rfl, by first | trivial | omega | (dsimp only; omega), by exact fun i9 h9 => ⟨rfl, by rw [pe_13, va_un (by omega), pe_6, va_un (by omega)]⟩⟩⟩

set_option maxRecDepth 100000 in
set_option maxHeartbeats 2000000 in
theorem F_X10_solve (hI : cw_I K nn dn q w e) (hs : cw_S v f)   : pm_Mt l g 161 4 0 0 [.ref (q 0)] (cw A0 g K nn dn q w e v f) (cw_Qt A0 g K nn dn q (fun r w2 e2 => e2 15 = e 15 ∧ (∃ x : Int32, r = some (.int x) ∧ (((w2 0).toInt = (w 0).toInt ∧ (w2 1).toInt = (w 1).toInt ∧ (w2 3).toInt = (w 3).toInt) ∧ ((∀ i9, 40 ≤ i9 → w2 i9 = w i9 ∧ e2 i9 = e i9)))))) := by
  refine mt_X10_solve rfl (fun J hC => ?_)
  have ro_nn : cw_ro K nn := hI.2.1.2.1
  have ro_dn : cw_ro K dn := hI.2.1.2.2.1
  have hu1 := hI.2.1
  unfold cw_W at hu1
  refine hC.1 0 0 _ _ rfl _ _ _ _ _ ?_
  have k0 : (0 : Int32).toInt = 0 := rfl
  have lp3 : ∀ (n : Nat) (z1_4 : Int32) (z2_4 : Int32) (w2 : Nat → Int32) (e2 : Nat → Nat → Int32) (v2 : Nat → Int32) (f2 : Nat → Nat → Int32), cw_I K nn dn q w2 e2 → e2 15 = e 15 → cw_S v2 f2 → (0 ≤ z2_4.toInt ∧ z2_4.toInt ≤ 30) → ((∀ i9, 40 ≤ i9 → w2 i9 = w i9 ∧ e2 i9 = e i9)) → (w2 0).toInt = (w 0).toInt → (w2 1).toInt = (w 1).toInt → (w2 3).toInt = (w 3).toInt → 200 - z2_4.toInt < (n : Int) → J 4 [some (.ref (q 0)), some (.int z1_4), some (.int z2_4), none, none] [] (cw A0 g K nn dn q w2 e2 v2 f2) 0 0 := by
    intro n
    induction n with
    | zero =>
      intro z1_4 z2_4 w2 e2 v2 f2 hI2 hx2 hs2 j0_4 j1_4 j2_4 j3_4 j4_4 j5_4
      omega
    | succ n ih4 =>
      intro z1_4 z2_4 w2 e2 v2 f2 hI2 hx2 hs2 j0_4 j1_4 j2_4 j3_4 j4_4 j5_4
      have hu5 := hI2.2.1
      unfold cw_W at hu5
      refine hC.1 1 4 _ _ rfl _ _ _ _ _ ?_
      refine Exists.intro _ (And.intro (cw_o0 hI2.1) ?_)
      refine Exists.intro _ (And.intro (cw_o9 hI2.1) ?_)
      refine And.intro (fun c6 => ?_) (fun c6 => ?_)
      · skip
        refine hC.1 5 76 _ _ rfl _ _ _ _ _ ?_
        exact ⟨rfl, fun e9 => absurd e9 (by decide), rfl, w2, e2, v2, f2, rfl, hI2, hs2, hx2, z1_4, rfl, by first | trivial | omega | (dsimp only; omega), by exact j1_4⟩
      · skip
        refine Exists.intro _ (And.intro (cw_o0 hI2.1) ?_)
        refine Exists.intro _ (And.intro (cw_o9 hI2.1) ?_)
        refine Exists.intro _ (Exists.intro _ (And.intro (Or.inl (cw_a39 hI2.1)) (And.intro (by omega) ?_)))
        have km1 : (-1 : Int32).toInt = -1 := rfl
        refine And.intro (fun c7 => ?_) (fun c7 => ?_)
        · skip
          have dc7 := pm_neI c7
          refine hC.1 2 40 _ _ rfl _ _ _ _ _ ?_
          refine Exists.intro _ (And.intro (cw_o0 hI2.1) ?_)
          refine And.intro (Exists.intro _ (cw_o1 hI2.1)) (Exists.intro _ (Exists.intro _ (Exists.intro _ (Exists.intro _ (And.intro (c_X9_behind hI2 hs2 (e2 39 (z2_4).toInt.toNat) ) (And.intro rfl (fun r9 A9 h9 => ?_)))))))
          rcases h9 with ⟨rfl, rfl | ⟨o9, rfl, ho9⟩⟩
          · skip
            refine hC.1 3 48 _ _ rfl _ _ _ _ _ ?_
            refine Exists.intro _ (And.intro (cw_o0 hI2.1) ?_)
            refine Exists.intro _ (And.intro (cw_o0 hI2.1) ?_)
            refine And.intro (Exists.intro _ (cw_o9 hI2.1)) (Exists.intro _ (Exists.intro _ (Exists.intro _ (Exists.intro _ (And.intro (F_X5_answer__n hI2 hs2 z2_4 (by omega)) (And.intro rfl (fun r9 A9 h9 => ?_)))))))
            rcases h9 with ⟨w11, e11, v11, f11, rfl, hI11, hs11, hy11, hzy10⟩
            have hx11 : e11 15 = e 15 := hy11.trans hx2
            have hu12 := hI11.2.1
            unfold cw_W at hu12
            rcases hzy10 with ⟨rfl, by10⟩ | ⟨rfl, by10⟩
            · skip
              have k1 : (1 : Int32).toInt = 1 := rfl
              have hb_61 := by10.2
              refine And.intro (fun c9 => absurd c9 (by decide)) (fun _ => ?_)
              intro m13 em_67
              try have e13 : m13.toInt = (z1_4).toInt + (1) := by rw [em_67]; exact pm_addc _ _ (1) rfl (by omega) (by omega)
              refine hC.1 4 70 _ _ rfl _ _ _ _ _ ?_
              intro m14 em_70
              try have e14 : m14.toInt = (z2_4).toInt + (1) := by rw [em_70]; exact pm_addc _ _ (1) rfl (by omega) (by omega)
              exact hC.2 [false, false, false, true, true] _ _ _ _ _ _ (ih4 m13 m14 w11 e11 v11 f11 hI11 hx11 hs11 (by omega) (by exact fun i9 h9 => ⟨(hb_61 i9 h9).1.trans (j1_4 i9 h9).1, (hb_61 i9 h9).2.trans (j1_4 i9 h9).2⟩) (by omega) (by omega) (by omega) (by omega))
            · skip
              have hb_61 := by10.2
              refine And.intro (fun _ => ?_) (fun c9 => absurd c9 (by decide))
              refine hC.1 4 70 _ _ rfl _ _ _ _ _ ?_
              have k1 : (1 : Int32).toInt = 1 := rfl
              intro m15 em_70
              try have e15 : m15.toInt = (z2_4).toInt + (1) := by rw [em_70]; exact pm_addc _ _ (1) rfl (by omega) (by omega)
              exact hC.2 [false, false, false, true, true] _ _ _ _ _ _ (ih4 z1_4 m15 w11 e11 v11 f11 hI11 hx11 hs11 (by omega) (by exact fun i9 h9 => ⟨(hb_61 i9 h9).1.trans (j1_4 i9 h9).1, (hb_61 i9 h9).2.trans (j1_4 i9 h9).2⟩) (by omega) (by omega) (by omega) (by omega))
          · skip
            refine hC.1 3 48 _ _ rfl _ _ _ _ _ ?_
            refine Exists.intro _ (And.intro (cw_o0 hI2.1) ?_)
            refine Exists.intro _ (And.intro (cw_o0 hI2.1) ?_)
            refine And.intro (Exists.intro _ (cw_o9 hI2.1)) (Exists.intro _ (Exists.intro _ (Exists.intro _ (Exists.intro _ (And.intro (F_X5_answer hI2 hs2 z2_4 ho9 (by omega)) (And.intro rfl (fun r9 A9 h9 => ?_)))))))
            rcases h9 with ⟨w17, e17, v17, f17, rfl, hI17, hs17, hy17, hzy16⟩
            have hx17 : e17 15 = e 15 := hy17.trans hx2
            have hu18 := hI17.2.1
            unfold cw_W at hu18
            rcases hzy16 with ⟨rfl, by16⟩ | ⟨rfl, by16⟩
            · skip
              have k1 : (1 : Int32).toInt = 1 := rfl
              have hb_61 := by16.2
              refine And.intro (fun c9 => absurd c9 (by decide)) (fun _ => ?_)
              intro m19 em_67
              try have e19 : m19.toInt = (z1_4).toInt + (1) := by rw [em_67]; exact pm_addc _ _ (1) rfl (by omega) (by omega)
              refine hC.1 4 70 _ _ rfl _ _ _ _ _ ?_
              intro m20 em_70
              try have e20 : m20.toInt = (z2_4).toInt + (1) := by rw [em_70]; exact pm_addc _ _ (1) rfl (by omega) (by omega)
              exact hC.2 [false, false, false, true, true] _ _ _ _ _ _ (ih4 m19 m20 w17 e17 v17 f17 hI17 hx17 hs17 (by omega) (by exact fun i9 h9 => ⟨(hb_61 i9 h9).1.trans (j1_4 i9 h9).1, (hb_61 i9 h9).2.trans (j1_4 i9 h9).2⟩) (by omega) (by omega) (by omega) (by omega))
            · skip
              have hb_61 := by16.2
              refine And.intro (fun _ => ?_) (fun c9 => absurd c9 (by decide))
              refine hC.1 4 70 _ _ rfl _ _ _ _ _ ?_
              have k1 : (1 : Int32).toInt = 1 := rfl
              intro m21 em_70
              try have e21 : m21.toInt = (z2_4).toInt + (1) := by rw [em_70]; exact pm_addc _ _ (1) rfl (by omega) (by omega)
              exact hC.2 [false, false, false, true, true] _ _ _ _ _ _ (ih4 z1_4 m21 w17 e17 v17 f17 hI17 hx17 hs17 (by omega) (by exact fun i9 h9 => ⟨(hb_61 i9 h9).1.trans (j1_4 i9 h9).1, (hb_61 i9 h9).2.trans (j1_4 i9 h9).2⟩) (by omega) (by omega) (by omega) (by omega))
        · skip
          have dc7 : ((e2 39 (z2_4).toInt.toNat)).toInt = ((-1 : Int32) : Int32).toInt := congrArg Int32.toInt c7
          refine Exists.intro _ (And.intro (cw_o0 hI2.1) ?_)
          refine Exists.intro _ (And.intro (cw_o1 hI2.1) ?_)
          refine hC.1 3 48 _ _ rfl _ _ _ _ _ ?_
          refine Exists.intro _ (And.intro (cw_o0 hI2.1) ?_)
          refine Exists.intro _ (And.intro (cw_o0 hI2.1) ?_)
          refine And.intro (Exists.intro _ (cw_o9 hI2.1)) (Exists.intro _ (Exists.intro _ (Exists.intro _ (Exists.intro _ (And.intro (F_X5_answer hI2 hs2 z2_4 ro_nn (by omega)) (And.intro rfl (fun r9 A9 h9 => ?_)))))))
          rcases h9 with ⟨w23, e23, v23, f23, rfl, hI23, hs23, hy23, hzy22⟩
          have hx23 : e23 15 = e 15 := hy23.trans hx2
          have hu24 := hI23.2.1
          unfold cw_W at hu24
          rcases hzy22 with ⟨rfl, by22⟩ | ⟨rfl, by22⟩
          · skip
            have k1 : (1 : Int32).toInt = 1 := rfl
            have hb_61 := by22.2
            refine And.intro (fun c9 => absurd c9 (by decide)) (fun _ => ?_)
            intro m25 em_67
            try have e25 : m25.toInt = (z1_4).toInt + (1) := by rw [em_67]; exact pm_addc _ _ (1) rfl (by omega) (by omega)
            refine hC.1 4 70 _ _ rfl _ _ _ _ _ ?_
            intro m26 em_70
            try have e26 : m26.toInt = (z2_4).toInt + (1) := by rw [em_70]; exact pm_addc _ _ (1) rfl (by omega) (by omega)
            exact hC.2 [false, false, false, true, true] _ _ _ _ _ _ (ih4 m25 m26 w23 e23 v23 f23 hI23 hx23 hs23 (by omega) (by exact fun i9 h9 => ⟨(hb_61 i9 h9).1.trans (j1_4 i9 h9).1, (hb_61 i9 h9).2.trans (j1_4 i9 h9).2⟩) (by omega) (by omega) (by omega) (by omega))
          · skip
            have hb_61 := by22.2
            refine And.intro (fun _ => ?_) (fun c9 => absurd c9 (by decide))
            refine hC.1 4 70 _ _ rfl _ _ _ _ _ ?_
            have k1 : (1 : Int32).toInt = 1 := rfl
            intro m27 em_70
            try have e27 : m27.toInt = (z2_4).toInt + (1) := by rw [em_70]; exact pm_addc _ _ (1) rfl (by omega) (by omega)
            exact hC.2 [false, false, false, true, true] _ _ _ _ _ _ (ih4 z1_4 m27 w23 e23 v23 f23 hI23 hx23 hs23 (by omega) (by exact fun i9 h9 => ⟨(hb_61 i9 h9).1.trans (j1_4 i9 h9).1, (hb_61 i9 h9).2.trans (j1_4 i9 h9).2⟩) (by omega) (by omega) (by omega) (by omega))
  exact lp3 (200 - (0 : Int32).toInt).toNat.succ (0 : Int32) (0 : Int32) w e v f hI rfl hs (by omega) (by exact fun _ _ => ⟨rfl, rfl⟩) (by omega) (by omega) (by omega) (by omega)

end
