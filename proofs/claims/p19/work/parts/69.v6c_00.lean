section
section
variable {l : Launch} {g : pm_G} {A0 : pm_H} {K nn dn : Nat} {q : Nat → Nat} {w : Nat → Int32} {e : Nat → Nat → Int32} {v : Nat → Int32} {f : Nat → Nat → Int32}
set_option maxRecDepth 100000 in
set_option maxHeartbeats 2000000 in
theorem V_X7_hasName (hI : cw_I K nn dn q w e) (hs : cw_S v f) {o0 : Nat} (ho0 : cw_ro K o0) (x1 : Int32)  : pm_Mt l g 154 1 0 0 [.ref (q o0), .int x1] (cw A0 g K nn dn q w e v f) (md_Qp (cw A0 g K nn dn q w e v f) (fun r => (r = 1 ∧ (0 ≤ nextEq (e (o0 + 2)) x1 0 (w o0).toInt.toNat)) ∨ (r = 0 ∧ (¬ (0 ≤ nextEq (e (o0 + 2)) x1 0 (w o0).toInt.toNat))))) := by
  refine mt_X7_hasName rfl (fun J hC => ?_)
  have ro_nn : cw_ro K nn := hI.2.1.2.1
  have ro_dn : cw_ro K dn := hI.2.1.2.2.1
  have hu1 := hI.2.1
  unfold cw_W at hu1
  have rg_x1 := pm_rng x1
  have zz0 := cw_sz hI ho0
  refine hC.1 0 0 _ _ rfl _ _ _ _ _ ?_
  refine And.intro (Exists.intro _ (cw_ro_o hI.1 ho0)) (Exists.intro _ (Exists.intro _ (Exists.intro _ (Exists.intro _ (And.intro (F_X7_placeOf hI hs ho0 x1 ) (And.intro rfl (fun r9 A9 h9 => ?_)))))))
  obtain ⟨y2, rfl, rfl, by2⟩ := h9
  have yf_9 := FST_n (by omega) by2.2
  have km1 : (-1 : Int32).toInt = -1 := rfl
  refine And.intro (fun c4 => ?_) (fun c4 => ?_)
  · skip
    have dc4 : (y2).toInt = ((-1 : Int32) : Int32).toInt := congrArg Int32.toInt c4
    refine hC.1 1 13 _ _ rfl _ _ _ _ _ ?_
    have k0 : (0 : Int32).toInt = 0 := rfl
    refine hC.1 2 14 _ _ rfl _ _ _ _ _ ?_
    exact ⟨rfl, fun _ => (by decide), rfl, (0 : Int32), rfl, rfl, Or.inr ⟨rfl, by first | omega | (dsimp only; omega) | trivial⟩⟩
  · skip
    have dc4 := pm_neI c4
    have k1 : (1 : Int32).toInt = 1 := rfl
    refine hC.1 2 14 _ _ rfl _ _ _ _ _ ?_
    exact ⟨rfl, fun _ => (by decide), rfl, (1 : Int32), rfl, rfl, Or.inl ⟨rfl, by first | omega | (dsimp only; omega) | trivial⟩⟩

set_option maxRecDepth 100000 in
set_option maxHeartbeats 2000000 in
theorem V_X5_add (hI : cw_I K nn dn q w e) (hs : cw_S v f) (x1 : Int32) (x2 : Int32) (x3 : Int32)  : pm_Mt l g 159 0 0 0 [.ref (q 9), .int x1, .int x2, .int x3] (cw A0 g K nn dn q w e v f) (cw_Qt A0 g K nn dn q (fun r w2 e2 => e2 15 = e 15 ∧ (∃ x : Int32, r = some (.int x) ∧ (((w2 0).toInt = (w 0).toInt ∧ (w2 1).toInt = (w 1).toInt ∧ (w2 2).toInt = (w 2).toInt) ∧ ((∀ i9, 40 ≤ i9 → w2 i9 = w i9 ∧ e2 i9 = e i9) ∧ QST (0 ≤ (w 3).toInt ∧ (w 3).toInt < 30) x1 x2 x3 (w 3) (w2 3) x (e 35) (e 36) (e 37) (e 38) (e 39) (e2 35) (e2 36) (e2 37) (e2 38) (e2 39)))))) := by
  refine mt_X5_add rfl (fun J hC => ?_)
  have ro_nn : cw_ro K nn := hI.2.1.2.1
  have ro_dn : cw_ro K dn := hI.2.1.2.2.1
  have hu1 := hI.2.1
  unfold cw_W at hu1
  have rg_x1 := pm_rng x1
  have rg_x2 := pm_rng x2
  have rg_x3 := pm_rng x3
  refine hC.1 0 0 _ _ rfl _ _ _ _ _ ?_
  refine Exists.intro _ (And.intro (cw_o9 hI.1) ?_)
  refine And.intro (fun c2 => ?_) (fun c2 => ?_)
  · skip
    refine hC.1 1 16 _ _ rfl _ _ _ _ _ ?_
    have km1 : (-1 : Int32).toInt = -1 := rfl
    exact ⟨rfl, fun e9 => absurd e9 (by decide), rfl, w, e, v, f, rfl, hI, hs, rfl, (-1 : Int32), rfl, by first | omega | (dsimp only; omega) | trivial, by exact ⟨fun _ _ => ⟨rfl, rfl⟩, Or.inl ⟨fun h9 => (by omega), rfl, rfl, rfl, rfl, rfl, rfl, rfl⟩⟩⟩
  · skip
    refine Exists.intro _ (And.intro (cw_o9 hI.1) ?_)
    have k30 : (30 : Int32).toInt = 30 := rfl
    refine And.intro (fun c3 => ?_) (fun c3 => ?_)
    · skip
      refine hC.1 2 18 _ _ rfl _ _ _ _ _ ?_
      refine Exists.intro _ (And.intro (cw_o9 hI.1) ?_)
      refine Exists.intro _ (And.intro (cw_o9 hI.1) ?_)
      refine Exists.intro _ (Exists.intro _ (And.intro (cw_a35 hI.1) (And.intro (by omega) ?_)))
      rw [cw_s35 hI.1]
      obtain ⟨e4, ee4⟩ : ∃ z9, z9 = va_up e 35 (upd (e 35) ((w 3)).toInt.toNat x2) := ⟨_, rfl⟩
      rw [← ee4]
      have hI4 : cw_I K nn dn q w e4 := ⟨hI.1, hI.2.1, hI.2.2.1, by rw [ee4]; exact cw_E_up hI.2.2.2 _ _ (fun h9 _ => absurd h9 (by decide)) (fun h9 _ => absurd h9 (by decide))⟩
      have hx4 : e4 15 = e 15 := (show e4 15 = e 15 by rw [ee4]; exact if_neg (by omega)).trans rfl
      have pe_31 := ee4
      refine Exists.intro _ (And.intro (cw_o9 hI4.1) ?_)
      refine Exists.intro _ (Exists.intro _ (And.intro (cw_a36 hI4.1) (And.intro (by omega) ?_)))
      rw [cw_s36 hI4.1]
      obtain ⟨e5, ee5⟩ : ∃ z9, z9 = va_up e4 36 (upd (e4 36) ((w 3)).toInt.toNat x3) := ⟨_, rfl⟩
      rw [← ee5]
      have hI5 : cw_I K nn dn q w e5 := ⟨hI4.1, hI4.2.1, hI4.2.2.1, by rw [ee5]; exact cw_E_up hI4.2.2.2 _ _ (fun h9 _ => absurd h9 (by decide)) (fun h9 _ => absurd h9 (by decide))⟩
      have hx5 : e5 15 = e 15 := (show e5 15 = e4 15 by rw [ee5]; exact if_neg (by omega)).trans hx4
      have pe_39 := ee5
      refine Exists.intro _ (And.intro (cw_o9 hI5.1) ?_)
      refine Exists.intro _ (Exists.intro _ (And.intro (cw_a39 hI5.1) (And.intro (by omega) ?_)))
      rw [cw_s39 hI5.1]
      obtain ⟨e6, ee6⟩ : ∃ z9, z9 = va_up e5 39 (upd (e5 39) ((w 3)).toInt.toNat x1) := ⟨_, rfl⟩
      rw [← ee6]
      have hI6 : cw_I K nn dn q w e6 := ⟨hI5.1, hI5.2.1, hI5.2.2.1, by rw [ee6]; exact cw_E_up hI5.2.2.2 _ _ (fun h9 _ => absurd h9 (by decide)) (fun h9 _ => absurd h9 (by decide))⟩
      have hx6 : e6 15 = e 15 := (show e6 15 = e5 15 by rw [ee6]; exact if_neg (by omega)).trans hx5
      have pe_47 := ee6
      refine Exists.intro _ (And.intro (cw_o9 hI6.1) ?_)
      have km1 : (-1 : Int32).toInt = -1 := rfl
      refine Exists.intro _ (Exists.intro _ (And.intro (cw_a37 hI6.1) (And.intro (by omega) ?_)))
      rw [cw_s37 hI6.1]
      obtain ⟨e7, ee7⟩ : ∃ z9, z9 = va_up e6 37 (upd (e6 37) ((w 3)).toInt.toNat (-1 : Int32)) := ⟨_, rfl⟩
      rw [← ee7]
      have hI7 : cw_I K nn dn q w e7 := ⟨hI6.1, hI6.2.1, hI6.2.2.1, by rw [ee7]; exact cw_E_up hI6.2.2.2 _ _ (fun h9 _ => absurd h9 (by decide)) (fun h9 _ => absurd h9 (by decide))⟩
      have hx7 : e7 15 = e 15 := (show e7 15 = e6 15 by rw [ee7]; exact if_neg (by omega)).trans hx6
      have pe_55 := ee7
      refine Exists.intro _ (And.intro (cw_o9 hI7.1) ?_)
      refine Exists.intro _ (Exists.intro _ (And.intro (cw_a38 hI7.1) (And.intro (by omega) ?_)))
      rw [cw_s38 hI7.1]
      obtain ⟨e8, ee8⟩ : ∃ z9, z9 = va_up e7 38 (upd (e7 38) ((w 3)).toInt.toNat (-1 : Int32)) := ⟨_, rfl⟩
      rw [← ee8]
      have hI8 : cw_I K nn dn q w e8 := ⟨hI7.1, hI7.2.1, hI7.2.2.1, by rw [ee8]; exact cw_E_up hI7.2.2.2 _ _ (fun h9 _ => absurd h9 (by decide)) (fun h9 _ => absurd h9 (by decide))⟩
      have hx8 : e8 15 = e 15 := (show e8 15 = e7 15 by rw [ee8]; exact if_neg (by omega)).trans hx7
      have pe_63 := ee8
      refine Exists.intro _ (And.intro (cw_o9 hI8.1) ?_)
      have k1 : (1 : Int32).toInt = 1 := rfl
      intro m9 em_70
      try have e9 : m9.toInt = ((w 3)).toInt + (1) := by rw [em_70]; exact pm_addc _ _ (1) rfl (by omega) (by omega)
      refine Exists.intro _ (And.intro (cw_o9 hI8.1) (And.intro rfl ?_))
      rw [cw_p_number hI8.1]
      obtain ⟨w10, ew10⟩ : ∃ z9, z9 = upd w 3 m9 := ⟨_, rfl⟩
      rw [← ew10]
      have ew10_0 : (w10 0).toInt = (w 0).toInt := by rw [ew10]; rfl
      have ew10_1 : (w10 1).toInt = (w 1).toInt := by rw [ew10]; rfl
      have ew10_2 : (w10 2).toInt = (w 2).toInt := by rw [ew10]; rfl
      have ew10_3 : (w10 3).toInt = (m9).toInt := by rw [ew10]; rfl
      have pn_71 : w10 3 = m9 := by rw [ew10, pk_us]
      have pw_71 := ew10
      have hZ10 : cw_Z w10 := by rw [ew10]; exact cw_Z_up hI8.2.2.1 _ _ (by omega)
      have hI10 : cw_I K nn dn q w10 e8 := ⟨hI8.1, by unfold cw_W; omega, hZ10, hI8.2.2.2⟩
      exact ⟨rfl, fun e9 => absurd e9 (by decide), rfl, w10, e8, v, f, rfl, hI10, hs, hx8, (w 3), rfl, by first | omega | (dsimp only; omega) | trivial, by refine ⟨fun i9 h9 => ⟨by rw [pw_71, pk_un (by omega)], by rw [pe_63, va_un (by omega), pe_55, va_un (by omega), pe_47, va_un (by omega), pe_39, va_un (by omega), pe_31, va_un (by omega)]⟩, Or.inr ⟨by omega, (by rw [pw_71, pk_us] : w10 3 = _).trans em_70, rfl, ?_, ?_, ?_, ?_, ?_⟩⟩; (rw [pe_63, va_un (by decide), pe_55, va_un (by decide), pe_47, va_un (by decide), pe_39, va_un (by decide), pe_31, va_us]); (rw [pe_63, va_un (by decide), pe_55, va_un (by decide), pe_47, va_un (by decide), pe_39, va_us, pe_31, va_un (by decide)]); (rw [pe_63, va_un (by decide), pe_55, va_us, pe_47, va_un (by decide), pe_39, va_un (by decide), pe_31, va_un (by decide)]); (rw [pe_63, va_us, pe_55, va_un (by decide), pe_47, va_un (by decide), pe_39, va_un (by decide), pe_31, va_un (by decide)]); (rw [pe_63, va_un (by decide), pe_55, va_un (by decide), pe_47, va_us, pe_39, va_un (by decide), pe_31, va_un (by decide)])⟩
    · skip
      refine hC.1 1 16 _ _ rfl _ _ _ _ _ ?_
      have km1 : (-1 : Int32).toInt = -1 := rfl
      exact ⟨rfl, fun e9 => absurd e9 (by decide), rfl, w, e, v, f, rfl, hI, hs, rfl, (-1 : Int32), rfl, by first | omega | (dsimp only; omega) | trivial, by exact ⟨fun _ _ => ⟨rfl, rfl⟩, Or.inl ⟨fun h9 => (by omega), rfl, rfl, rfl, rfl, rfl, rfl, rfl⟩⟩⟩

set_option maxRecDepth 100000 in
set_option maxHeartbeats 2000000 in
theorem V_X10_ask (hI : cw_I K nn dn q w e) (hs : cw_S v f) (x1 : Int32) (x2 : Int32)  : pm_Mt l g 158 2 0 0 [.ref (q 0), .int x1, .int x2] (cw A0 g K nn dn q w e v f) (cw_Qt A0 g K nn dn q (fun r w2 e2 => e2 15 = e 15 ∧ (∃ x : Int32, r = some (.int x) ∧ (((w2 0).toInt = (w 0).toInt ∧ (w2 1).toInt = (w 1).toInt ∧ (w2 2).toInt = (w 2).toInt) ∧ ((∀ i9, 40 ≤ i9 → w2 i9 = w i9 ∧ e2 i9 = e i9) ∧ QST ((w 3).toInt < 30 ∧ 0 ≤ nextEq (e (nn + 2)) x1 0 (w nn).toInt.toNat ∧ 0 ≤ nextEq (e (nn + 2)) x2 0 (w nn).toInt.toNat) (-1) x1 x2 (w 3) (w2 3) x (e 35) (e 36) (e 37) (e 38) (e 39) (e2 35) (e2 36) (e2 37) (e2 38) (e2 39)))))) := by
  refine mt_X10_ask rfl (fun J hC => ?_)
  have ro_nn : cw_ro K nn := hI.2.1.2.1
  have ro_dn : cw_ro K dn := hI.2.1.2.2.1
  have hu1 := hI.2.1
  unfold cw_W at hu1
  have rg_x1 := pm_rng x1
  have rg_x2 := pm_rng x2
  refine hC.1 0 0 _ _ rfl _ _ _ _ _ ?_
  refine Exists.intro _ (And.intro (cw_o0 hI.1) ?_)
  refine Exists.intro _ (And.intro (cw_o1 hI.1) ?_)
  refine And.intro (Exists.intro _ (cw_ro_o hI.1 ro_nn)) (Exists.intro _ (Exists.intro _ (Exists.intro _ (Exists.intro _ (And.intro (V_X7_hasName hI hs ro_nn x1 ) (And.intro rfl (fun r9 A9 h9 => ?_)))))))
  rcases h9 with ⟨y2, rfl, rfl, ⟨rfl, by2⟩ | ⟨rfl, by2⟩⟩
  · skip
    have k1 : (1 : Int32).toInt = 1 := rfl
    have ya_9 := by2
    refine And.intro (fun c9 => absurd c9 (by decide)) (fun _ => ?_)
    refine And.intro (Exists.intro _ (cw_ro_o hI.1 ro_nn)) (Exists.intro _ (Exists.intro _ (Exists.intro _ (Exists.intro _ (And.intro (V_X7_hasName hI hs ro_nn x2 ) (And.intro rfl (fun r9 A9 h9 => ?_)))))))
    rcases h9 with ⟨y4, rfl, rfl, ⟨rfl, by4⟩ | ⟨rfl, by4⟩⟩
    · skip
      have yb_9 := by4
      refine And.intro (fun c9 => absurd c9 (by decide)) (fun _ => ?_)
      refine Exists.intro _ (And.intro (cw_o0 hI.1) ?_)
      have km1 : (-1 : Int32).toInt = -1 := rfl
      refine And.intro (Exists.intro _ (cw_o9 hI.1)) (Exists.intro _ (Exists.intro _ (Exists.intro _ (Exists.intro _ (And.intro (V_X5_add hI hs (-1 : Int32) x1 x2 ) (And.intro rfl (fun r9 A9 h9 => ?_)))))))
      rcases h9 with ⟨w7, e7, v7, f7, rfl, hI7, hs7, hy7, y6, rfl, by6⟩
      have hx7 : e7 15 = e 15 := hy7.trans rfl
      have hu8 := hI7.2.1.2.2.2.2.2.2
      have hb_31 := by6.2
      have sw7_0 : (w7 0).toInt = (w 0).toInt := by6.1.1
      have sw7_1 : (w7 1).toInt = (w 1).toInt := by6.1.2.1
      have sw7_2 : (w7 2).toInt = (w 2).toInt := by6.1.2.2
      clear by6
      refine hC.1 2 38 _ _ rfl _ _ _ _ _ ?_
      exact ⟨rfl, fun e9 => absurd e9 (by decide), rfl, w7, e7, v7, f7, rfl, hI7, hs7, hx7, y6, rfl, by first | omega | (dsimp only; omega) | trivial, by first | (exact ⟨hb_31.1, QST_i hb_31.2 ⟨fun h9 => ⟨h9.2, ya_9, yb_9⟩, fun h9 => (by omega)⟩⟩) | (exact ⟨fun _ _ => ⟨rfl, rfl⟩, Or.inl ⟨fun h9 => absurd h9.2.1 ya_9, rfl, rfl, rfl, rfl, rfl, rfl, rfl⟩⟩) | (exact ⟨fun _ _ => ⟨rfl, rfl⟩, Or.inl ⟨fun h9 => absurd h9.2.2 yb_9, rfl, rfl, rfl, rfl, rfl, rfl, rfl⟩⟩)⟩
    · skip
      have k0 : (0 : Int32).toInt = 0 := rfl
      have yb_9 := by4
      refine And.intro (fun _ => ?_) (fun c9 => absurd c9 (by decide))
      refine hC.1 1 37 _ _ rfl _ _ _ _ _ ?_
      have km1 : (-1 : Int32).toInt = -1 := rfl
      refine hC.1 2 38 _ _ rfl _ _ _ _ _ ?_
      exact ⟨rfl, fun e9 => absurd e9 (by decide), rfl, w, e, v, f, rfl, hI, hs, rfl, (-1 : Int32), rfl, by first | omega | (dsimp only; omega) | trivial, by first | (exact ⟨hb_31.1, QST_i hb_31.2 ⟨fun h9 => ⟨h9.2, ya_9, yb_9⟩, fun h9 => (by omega)⟩⟩) | (exact ⟨fun _ _ => ⟨rfl, rfl⟩, Or.inl ⟨fun h9 => absurd h9.2.1 ya_9, rfl, rfl, rfl, rfl, rfl, rfl, rfl⟩⟩) | (exact ⟨fun _ _ => ⟨rfl, rfl⟩, Or.inl ⟨fun h9 => absurd h9.2.2 yb_9, rfl, rfl, rfl, rfl, rfl, rfl, rfl⟩⟩)⟩
  · skip
    have k0 : (0 : Int32).toInt = 0 := rfl
    have ya_9 := by2
    refine And.intro (fun _ => ?_) (fun c9 => absurd c9 (by decide))
    refine hC.1 1 37 _ _ rfl _ _ _ _ _ ?_
    have km1 : (-1 : Int32).toInt = -1 := rfl
    refine hC.1 2 38 _ _ rfl _ _ _ _ _ ?_
    exact ⟨rfl, fun e9 => absurd e9 (by decide), rfl, w, e, v, f, rfl, hI, hs, rfl, (-1 : Int32), rfl, by first | omega | (dsimp only; omega) | trivial, by first | (exact ⟨hb_31.1, QST_i hb_31.2 ⟨fun h9 => ⟨h9.2, ya_9, yb_9⟩, fun h9 => (by omega)⟩⟩) | (exact ⟨fun _ _ => ⟨rfl, rfl⟩, Or.inl ⟨fun h9 => absurd h9.2.1 ya_9, rfl, rfl, rfl, rfl, rfl, rfl, rfl⟩⟩) | (exact ⟨fun _ _ => ⟨rfl, rfl⟩, Or.inl ⟨fun h9 => absurd h9.2.2 yb_9, rfl, rfl, rfl, rfl, rfl, rfl, rfl⟩⟩)⟩

set_option maxRecDepth 100000 in
set_option maxHeartbeats 2000000 in
theorem V_X10_askOf (hI : cw_I K nn dn q w e) (hs : cw_S v f) (x1 : Int32) (x2 : Int32) (x3 : Int32)  : pm_Mt l g 160 2 0 0 [.ref (q 0), .int x1, .int x2, .int x3] (cw A0 g K nn dn q w e v f) (cw_Qt A0 g K nn dn q (fun r w2 e2 => e2 15 = e 15 ∧ (∃ x : Int32, r = some (.int x) ∧ (((w2 0).toInt = (w 0).toInt ∧ (w2 1).toInt = (w 1).toInt ∧ (w2 2).toInt = (w 2).toInt) ∧ ((∀ i9, 40 ≤ i9 → w2 i9 = w i9 ∧ e2 i9 = e i9) ∧ QST ((w 3).toInt < 30 ∧ kno (w 0).toInt x1.toInt ∧ 0 ≤ nextEq (cM e x1.toInt) x2 0 (cN w x1.toInt).toNat ∧ 0 ≤ nextEq (cM e x1.toInt) x3 0 (cN w x1.toInt).toNat) x1 x2 x3 (w 3) (w2 3) x (e 35) (e 36) (e 37) (e 38) (e 39) (e2 35) (e2 36) (e2 37) (e2 38) (e2 39)))))) := by
  refine mt_X10_askOf rfl (fun J hC => ?_)
  have ro_nn : cw_ro K nn := hI.2.1.2.1
  have ro_dn : cw_ro K dn := hI.2.1.2.2.1
  have hu1 := hI.2.1
  unfold cw_W at hu1
  have rg_x1 := pm_rng x1
  have rg_x2 := pm_rng x2
  have rg_x3 := pm_rng x3
  refine hC.1 0 0 _ _ rfl _ _ _ _ _ ?_
  refine Exists.intro _ (And.intro (cw_o0 hI.1) ?_)
  refine And.intro (Exists.intro _ (cw_o1 hI.1)) (Exists.intro _ (Exists.intro _ (Exists.intro _ (Exists.intro _ (And.intro (F_X9_behind hI hs x1 ) (And.intro rfl (fun r9 A9 h9 => ?_)))))))
  rcases h9 with ⟨rfl, ⟨rfl, hn3⟩ | ⟨o3, rfl, ho3, hn3, he3⟩⟩
  · skip
    have kn_5 := hn3
    unfold kno at hn3
    refine hC.1 1 33 _ _ rfl _ _ _ _ _ ?_
    have km1 : (-1 : Int32).toInt = -1 := rfl
    exact ⟨rfl, fun e9 => absurd e9 (by decide), rfl, w, e, v, f, rfl, hI, hs, rfl, (-1 : Int32), rfl, by first | omega | (dsimp only; omega) | trivial, by first | (exact ⟨hb_42.1, QST_i hb_42.2 ⟨fun h9 => ⟨h9.2, kn_5, ya_9, yb_9⟩, fun h9 => (by omega)⟩⟩) | (exact ⟨fun _ _ => ⟨rfl, rfl⟩, Or.inl ⟨fun h9 => kn_5 h9.2.1, rfl, rfl, rfl, rfl, rfl, rfl, rfl⟩⟩) | (exact ⟨fun _ _ => ⟨rfl, rfl⟩, Or.inl ⟨fun h9 => ya_9 h9.2.2.1, rfl, rfl, rfl, rfl, rfl, rfl, rfl⟩⟩) | (exact ⟨fun _ _ => ⟨rfl, rfl⟩, Or.inl ⟨fun h9 => yb_9 h9.2.2.2, rfl, rfl, rfl, rfl, rfl, rfl, rfl⟩⟩)⟩
  · skip
    have kn_5 := hn3
    have ke_5 := he3
    have ko_5 : ∀ z9 : Nat, (z9 : Int) = 40 + 4 * ((x1).toInt % 41) → z9 = o3 := fun z9 h9 => (by omega)
    unfold kno at hn3
    have yo_9 : cro x1.toInt = o3 := ko_5 (cro x1.toInt) (cro_i kn_5.1)
    have yM_9 : cM e x1.toInt = e (o3 + 2) := (by unfold cM; rw [yo_9])
    have yN_9 : cN w x1.toInt = (w o3).toInt := (by unfold cN; rw [yo_9])
    refine And.intro (Exists.intro _ (cw_ro_o hI.1 ho3)) (Exists.intro _ (Exists.intro _ (Exists.intro _ (Exists.intro _ (And.intro (V_X7_hasName hI hs ho3 x2 ) (And.intro rfl (fun r9 A9 h9 => ?_)))))))
    rcases h9 with ⟨y4, rfl, rfl, ⟨rfl, by4⟩ | ⟨rfl, by4⟩⟩
    · skip
      have k1 : (1 : Int32).toInt = 1 := rfl
      have ya_9 := by4
      rw [← yM_9, ← yN_9] at ya_9
      refine And.intro (fun c9 => absurd c9 (by decide)) (fun _ => ?_)
      refine And.intro (Exists.intro _ (cw_ro_o hI.1 ho3)) (Exists.intro _ (Exists.intro _ (Exists.intro _ (Exists.intro _ (And.intro (V_X7_hasName hI hs ho3 x3 ) (And.intro rfl (fun r9 A9 h9 => ?_)))))))
      rcases h9 with ⟨y6, rfl, rfl, ⟨rfl, by6⟩ | ⟨rfl, by6⟩⟩
      · skip
        have yb_9 := by6
        rw [← yM_9, ← yN_9] at yb_9
        refine And.intro (fun _ => ?_) (fun c9 => absurd c9 (by decide))
        refine hC.1 2 35 _ _ rfl _ _ _ _ _ ?_
        refine Exists.intro _ (And.intro (cw_o0 hI.1) ?_)
        refine And.intro (Exists.intro _ (cw_o9 hI.1)) (Exists.intro _ (Exists.intro _ (Exists.intro _ (Exists.intro _ (And.intro (V_X5_add hI hs x1 x2 x3 ) (And.intro rfl (fun r9 A9 h9 => ?_)))))))
        rcases h9 with ⟨w9, e9, v9, f9, rfl, hI9, hs9, hy9, y8, rfl, by8⟩
        have hx9 : e9 15 = e 15 := hy9.trans rfl
        have hu10 := hI9.2.1.2.2.2.2.2.2
        have hb_42 := by8.2
        have sw9_0 : (w9 0).toInt = (w 0).toInt := by8.1.1
        have sw9_1 : (w9 1).toInt = (w 1).toInt := by8.1.2.1
        have sw9_2 : (w9 2).toInt = (w 2).toInt := by8.1.2.2
        clear by8
        exact ⟨rfl, fun e9 => absurd e9 (by decide), rfl, w9, e9, v9, f9, rfl, hI9, hs9, hx9, y8, rfl, by first | omega | (dsimp only; omega) | trivial, by first | (exact ⟨hb_42.1, QST_i hb_42.2 ⟨fun h9 => ⟨h9.2, kn_5, ya_9, yb_9⟩, fun h9 => (by omega)⟩⟩) | (exact ⟨fun _ _ => ⟨rfl, rfl⟩, Or.inl ⟨fun h9 => kn_5 h9.2.1, rfl, rfl, rfl, rfl, rfl, rfl, rfl⟩⟩) | (exact ⟨fun _ _ => ⟨rfl, rfl⟩, Or.inl ⟨fun h9 => ya_9 h9.2.2.1, rfl, rfl, rfl, rfl, rfl, rfl, rfl⟩⟩) | (exact ⟨fun _ _ => ⟨rfl, rfl⟩, Or.inl ⟨fun h9 => yb_9 h9.2.2.2, rfl, rfl, rfl, rfl, rfl, rfl, rfl⟩⟩)⟩
      · skip
        have k0 : (0 : Int32).toInt = 0 := rfl
        have yb_9 := by6
        rw [← yM_9, ← yN_9] at yb_9
        refine And.intro (fun c9 => absurd c9 (by decide)) (fun _ => ?_)
        refine hC.1 1 33 _ _ rfl _ _ _ _ _ ?_
        have km1 : (-1 : Int32).toInt = -1 := rfl
        exact ⟨rfl, fun e9 => absurd e9 (by decide), rfl, w, e, v, f, rfl, hI, hs, rfl, (-1 : Int32), rfl, by first | omega | (dsimp only; omega) | trivial, by first | (exact ⟨hb_42.1, QST_i hb_42.2 ⟨fun h9 => ⟨h9.2, kn_5, ya_9, yb_9⟩, fun h9 => (by omega)⟩⟩) | (exact ⟨fun _ _ => ⟨rfl, rfl⟩, Or.inl ⟨fun h9 => kn_5 h9.2.1, rfl, rfl, rfl, rfl, rfl, rfl, rfl⟩⟩) | (exact ⟨fun _ _ => ⟨rfl, rfl⟩, Or.inl ⟨fun h9 => ya_9 h9.2.2.1, rfl, rfl, rfl, rfl, rfl, rfl, rfl⟩⟩) | (exact ⟨fun _ _ => ⟨rfl, rfl⟩, Or.inl ⟨fun h9 => yb_9 h9.2.2.2, rfl, rfl, rfl, rfl, rfl, rfl, rfl⟩⟩)⟩
    · skip
      have k0 : (0 : Int32).toInt = 0 := rfl
      have ya_9 := by4
      rw [← yM_9, ← yN_9] at ya_9
      refine And.intro (fun _ => ?_) (fun c9 => absurd c9 (by decide))
      refine hC.1 1 33 _ _ rfl _ _ _ _ _ ?_
      have km1 : (-1 : Int32).toInt = -1 := rfl
      exact ⟨rfl, fun e9 => absurd e9 (by decide), rfl, w, e, v, f, rfl, hI, hs, rfl, (-1 : Int32), rfl, by first | omega | (dsimp only; omega) | trivial, by first | (exact ⟨hb_42.1, QST_i hb_42.2 ⟨fun h9 => ⟨h9.2, kn_5, ya_9, yb_9⟩, fun h9 => (by omega)⟩⟩) | (exact ⟨fun _ _ => ⟨rfl, rfl⟩, Or.inl ⟨fun h9 => kn_5 h9.2.1, rfl, rfl, rfl, rfl, rfl, rfl, rfl⟩⟩) | (exact ⟨fun _ _ => ⟨rfl, rfl⟩, Or.inl ⟨fun h9 => ya_9 h9.2.2.1, rfl, rfl, rfl, rfl, rfl, rfl, rfl⟩⟩) | (exact ⟨fun _ _ => ⟨rfl, rfl⟩, Or.inl ⟨fun h9 => yb_9 h9.2.2.2, rfl, rfl, rfl, rfl, rfl, rfl, rfl⟩⟩)⟩

set_option maxRecDepth 100000 in
set_option maxHeartbeats 2000000 in
theorem V_X10_forget (hI : cw_I K nn dn q w e) (hs : cw_S v f)   : pm_Mt l g 165 0 0 0 [.ref (q 0)] (cw A0 g K nn dn q w e v f) (cw_Qt A0 g K nn dn q (fun r w2 e2 => e2 15 = e 15 ∧ (∃ x : Int32, r = some (.int x) ∧ (((w2 0).toInt = (w 0).toInt ∧ (w2 1).toInt = (w 1).toInt ∧ (w2 2).toInt = (w 2).toInt) ∧ ((∀ i9, 40 ≤ i9 → w2 i9 = w i9 ∧ e2 i9 = e i9) ∧ (x = w 3 ∧ (w2 3).toInt = 0) ∧ ∀ i9, e2 i9 = e i9))))) := by
  refine mt_X10_forget rfl (fun J hC => ?_)
  have ro_nn : cw_ro K nn := hI.2.1.2.1
  have ro_dn : cw_ro K dn := hI.2.1.2.2.1
  have hu1 := hI.2.1
  unfold cw_W at hu1
  refine hC.1 0 0 _ _ rfl _ _ _ _ _ ?_
  refine Exists.intro _ (And.intro (cw_o0 hI.1) ?_)
  refine Exists.intro _ (And.intro (cw_o9 hI.1) ?_)
  refine Exists.intro _ (And.intro (cw_o0 hI.1) ?_)
  have k0 : (0 : Int32).toInt = 0 := rfl
  refine Exists.intro _ (And.intro (cw_o9 hI.1) (And.intro rfl ?_))
  rw [cw_p_number hI.1]
  obtain ⟨w2, ew2⟩ : ∃ z9, z9 = upd w 3 (0 : Int32) := ⟨_, rfl⟩
  rw [← ew2]
  have ew2_0 : (w2 0).toInt = (w 0).toInt := by rw [ew2]; rfl
  have ew2_1 : (w2 1).toInt = (w 1).toInt := by rw [ew2]; rfl
  have ew2_2 : (w2 2).toInt = (w 2).toInt := by rw [ew2]; rfl
  have ew2_3 : (w2 3).toInt = ((0 : Int32)).toInt := by rw [ew2]; rfl
  have pn_13 : w2 3 = (0 : Int32) := by rw [ew2, pk_us]
  have pw_13 := ew2
  have hZ2 : cw_Z w2 := by rw [ew2]; exact cw_Z_up hI.2.2.1 _ _ (by omega)
  have hI2 : cw_I K nn dn q w2 e := ⟨hI.1, by unfold cw_W; omega, hZ2, hI.2.2.2⟩
  exact ⟨rfl, fun e9 => absurd e9 (by decide), rfl, w2, e, v, f, rfl, hI2, hs, rfl, (w 3), rfl, by first | omega | (dsimp only; omega) | trivial, by exact ⟨fun i9 h9 => ⟨by rw [pw_13, pk_un (by omega)], rfl⟩, ⟨rfl, by rw [pw_13, pk_us]; rfl⟩, fun _ => rfl⟩⟩

set_option maxRecDepth 100000 in
set_option maxHeartbeats 2000000 in
theorem V_X5_answer (hI : cw_I K nn dn q w e) (hs : cw_S v f) (x1 : Int32) {o2 : Nat} (ho2 : cw_ro K o2) (p0 : 0 ≤ x1.toInt ∧ x1.toInt < 30) : pm_Mt l g 162 3 0 0 [.ref (q 9), .int x1, .ref (q o2), .ref (q 2)] (cw A0 g K nn dn q w e v f) (cw_Qt A0 g K nn dn q (fun r w2 e2 => e2 15 = e 15 ∧ ((r = some (.int 1) ∧ (((w2 0).toInt = (w 0).toInt ∧ (w2 1).toInt = (w 1).toInt ∧ (w2 2).toInt = (w 2).toInt ∧ (w2 3).toInt = (w 3).toInt) ∧ (w2 = w ∧ (∀ i9, i9 ≠ 37 → i9 ≠ 38 → e2 i9 = e i9) ∧ ∃ a9 b9 : Int32, e2 37 = upd (e 37) x1.toInt.toNat a9 ∧ e2 38 = upd (e 38) x1.toInt.toNat b9 ∧ ANR (e (o2 + 1)) (e (o2 + 2)) (e 15) (w o2).toInt (e 35 x1.toInt.toNat) (e 36 x1.toInt.toNat) a9 b9 ∧ ¬ a9 = -1))) ∨ (r = some (.int 0) ∧ (((w2 0).toInt = (w 0).toInt ∧ (w2 1).toInt = (w 1).toInt ∧ (w2 2).toInt = (w 2).toInt ∧ (w2 3).toInt = (w 3).toInt) ∧ (w2 = w ∧ (∀ i9, i9 ≠ 37 → i9 ≠ 38 → e2 i9 = e i9) ∧ ∃ a9 b9 : Int32, e2 37 = upd (e 37) x1.toInt.toNat a9 ∧ e2 38 = upd (e 38) x1.toInt.toNat b9 ∧ ANR (e (o2 + 1)) (e (o2 + 2)) (e 15) (w o2).toInt (e 35 x1.toInt.toNat) (e 36 x1.toInt.toNat) a9 b9 ∧ a9 = -1)))))) := by
  refine mt_X5_answer rfl (fun J hC => ?_)
  have ro_nn : cw_ro K nn := hI.2.1.2.1
  have ro_dn : cw_ro K dn := hI.2.1.2.2.1
  have hu1 := hI.2.1
  unfold cw_W at hu1
  have rg_x1 := pm_rng x1
  have yd_9 := ho2
  unfold cw_ro at yd_9
  have zz2 := cw_sz hI ho2
  refine hC.1 0 0 _ _ rfl _ _ _ _ _ ?_
  refine Exists.intro _ (And.intro (cw_o9 hI.1) ?_)
  have km1 : (-1 : Int32).toInt = -1 := rfl
  refine Exists.intro _ (Exists.intro _ (And.intro (cw_a37 hI.1) (And.intro (by omega) ?_)))
  rw [cw_s37 hI.1]
  obtain ⟨e2, ee2⟩ : ∃ z9, z9 = va_up e 37 (upd (e 37) (x1).toInt.toNat (-1 : Int32)) := ⟨_, rfl⟩
  rw [← ee2]
  have hI2 : cw_I K nn dn q w e2 := ⟨hI.1, hI.2.1, hI.2.2.1, by rw [ee2]; exact cw_E_up hI.2.2.2 _ _ (fun h9 _ => absurd h9 (by decide)) (fun h9 _ => absurd h9 (by decide))⟩
  have hx2 : e2 15 = e 15 := (show e2 15 = e 15 by rw [ee2]; exact if_neg (by omega)).trans rfl
  have pe_6 := ee2
  refine Exists.intro _ (And.intro (cw_o9 hI2.1) ?_)
  refine Exists.intro _ (Exists.intro _ (And.intro (cw_a38 hI2.1) (And.intro (by omega) ?_)))
  rw [cw_s38 hI2.1]
  obtain ⟨e3, ee3⟩ : ∃ z9, z9 = va_up e2 38 (upd (e2 38) (x1).toInt.toNat (-1 : Int32)) := ⟨_, rfl⟩
  rw [← ee3]
  have hI3 : cw_I K nn dn q w e3 := ⟨hI2.1, hI2.2.1, hI2.2.2.1, by rw [ee3]; exact cw_E_up hI2.2.2.2 _ _ (fun h9 _ => absurd h9 (by decide)) (fun h9 _ => absurd h9 (by decide))⟩
  have hx3 : e3 15 = e 15 := (show e3 15 = e2 15 by rw [ee3]; exact if_neg (by omega)).trans hx2
  have pe_13 := ee3
  refine hC.1 1 20 _ _ rfl _ _ _ _ _ ?_
  have en_9 : ∀ i9, i9 ≠ 37 → i9 ≠ 38 → e3 i9 = e i9 := fun i9 h9 h8 => (by rw [pe_13, va_un h8, pe_6, va_un h9])
  refine Exists.intro _ (And.intro (cw_o9 hI3.1) ?_)
  refine Exists.intro _ (Exists.intro _ (And.intro (Or.inl (cw_a35 hI3.1)) (And.intro (by omega) ?_)))
  refine And.intro (Exists.intro _ (cw_ro_o hI3.1 ho2)) (Exists.intro _ (Exists.intro _ (Exists.intro _ (Exists.intro _ (And.intro (F_X7_placeOf hI3 hs ho2 (e3 35 (x1).toInt.toNat) ) (And.intro rfl (fun r9 A9 h9 => ?_)))))))
  obtain ⟨y4, rfl, rfl, by4⟩ := h9
  have yp_9 := FST_n (by omega) by4.2
  have yp_8 := by4.1
  rw [en_9 (o2 + 2) (by omega) (by omega), en_9 35 (by decide) (by decide)] at yp_9
  refine Exists.intro _ (And.intro (cw_o9 hI3.1) ?_)
  refine Exists.intro _ (Exists.intro _ (And.intro (Or.inl (cw_a36 hI3.1)) (And.intro (by omega) ?_)))
  refine And.intro (Exists.intro _ (cw_ro_o hI3.1 ho2)) (Exists.intro _ (Exists.intro _ (Exists.intro _ (Exists.intro _ (And.intro (F_X7_placeOf hI3 hs ho2 (e3 36 (x1).toInt.toNat) ) (And.intro rfl (fun r9 A9 h9 => ?_)))))))
  obtain ⟨y6, rfl, rfl, by6⟩ := h9
  have yq_9 := FST_n (by omega) by6.2
  have yq_8 := by6.1
  rw [en_9 (o2 + 2) (by omega) (by omega), en_9 36 (by decide) (by decide)] at yq_9
  refine And.intro (fun c8 => ?_) (fun c8 => ?_)
  · skip
    have dc8 : (y4).toInt = ((-1 : Int32) : Int32).toInt := congrArg Int32.toInt c8
    refine hC.1 2 56 _ _ rfl _ _ _ _ _ ?_
    have k0 : (0 : Int32).toInt = 0 := rfl
    exact ⟨rfl, fun _ => (by decide), rfl, w, e3, v, f, rfl, hI3, hs, hx3, Or.inr ⟨rfl, by first | omega | (dsimp only; omega) | trivial, by exact ⟨rfl, fun i9 h9 h8 => (by rw [pe_13, va_un h8, pe_6, va_un h9]), -1, -1, (by rw [pe_13, va_un (by decide), pe_6, va_us]), (by rw [pe_13, va_us, pe_6, va_un (by decide)]), ANR_no yp_9 yq_9 (by omega) rfl rfl, rfl⟩⟩⟩
  · skip
    have dc8 := pm_neI c8
    refine And.intro (fun c9 => ?_) (fun c9 => ?_)
    · skip
      have dc9 := pm_neI c9
      refine hC.1 3 58 _ _ rfl _ _ _ _ _ ?_
      refine Exists.intro _ (Exists.intro _ (Exists.intro _ (Exists.intro _ (And.intro (c_J9_min_7cf53 (cw A0 g K nn dn q w e3 v f) y4 y6 ) (And.intro rfl (fun r9 A9 h9 => ?_))))))
      obtain ⟨y10, rfl, rfl, by10⟩ := h9
      refine Exists.intro _ (Exists.intro _ (Exists.intro _ (Exists.intro _ (And.intro (c_J9_max_7cf53 (cw A0 g K nn dn q w e3 v f) y4 y6 ) (And.intro rfl (fun r9 A9 h9 => ?_))))))
      obtain ⟨y12, rfl, rfl, by12⟩ := h9
      refine And.intro (Exists.intro _ (cw_o2 hI3.1)) (Exists.intro _ (Exists.intro _ (Exists.intro _ (Exists.intro _ (And.intro (F_X2_read hI3 hs ho2 y10 y12 (by omega)) (And.intro rfl (fun r9 A9 h9 => ?_)))))))
      rcases h9 with ⟨v15, f15, rfl, hs15, rfl, by14⟩
      have yr_9 := by14.2.1
      rw [en_9 (o2 + 1) (by omega) (by omega), en_9 15 (by decide) (by decide)] at yr_9
      have yk_9 := PAL_kd (fun j9 => cw_col hI ho2 j9) yr_9
      have ym_9 := PAL_ms (fun j9 => cw_col hI ho2 j9) yr_9
      refine Exists.intro _ (And.intro (cw_o9 hI3.1) ?_)
      refine Exists.intro _ (And.intro (cw_o2 hI3.1) ?_)
      refine Exists.intro _ (Exists.intro _ (And.intro (cw_a37 hI3.1) (And.intro (by omega) ?_)))
      rw [cw_s37 hI3.1]
      obtain ⟨e16, ee16⟩ : ∃ z9, z9 = va_up e3 37 (upd (e3 37) (x1).toInt.toNat (v15 2)) := ⟨_, rfl⟩
      rw [← ee16]
      have hI16 : cw_I K nn dn q w e16 := ⟨hI3.1, hI3.2.1, hI3.2.2.1, by rw [ee16]; exact cw_E_up hI3.2.2.2 _ _ (fun h9 _ => absurd h9 (by decide)) (fun h9 _ => absurd h9 (by decide))⟩
      have hx16 : e16 15 = e 15 := (show e16 15 = e3 15 by rw [ee16]; exact if_neg (by omega)).trans hx3
      have pe_86 := ee16
      refine Exists.intro _ (And.intro (cw_o9 hI16.1) ?_)
      refine Exists.intro _ (And.intro (cw_o2 hI16.1) ?_)
      refine Exists.intro _ (Exists.intro _ (And.intro (cw_a38 hI16.1) (And.intro (by omega) ?_)))
      rw [cw_s38 hI16.1]
      obtain ⟨e17, ee17⟩ : ∃ z9, z9 = va_up e16 38 (upd (e16 38) (x1).toInt.toNat (v15 4)) := ⟨_, rfl⟩
      rw [← ee17]
      have hI17 : cw_I K nn dn q w e17 := ⟨hI16.1, hI16.2.1, hI16.2.2.1, by rw [ee17]; exact cw_E_up hI16.2.2.2 _ _ (fun h9 _ => absurd h9 (by decide)) (fun h9 _ => absurd h9 (by decide))⟩
      have hx17 : e17 15 = e 15 := (show e17 15 = e16 15 by rw [ee17]; exact if_neg (by omega)).trans hx16
      have pe_96 := ee17
      have k1 : (1 : Int32).toInt = 1 := rfl
      exact ⟨rfl, fun _ => (by decide), rfl, w, e17, v15, f15, rfl, hI17, hs15, hx17, Or.inl ⟨rfl, by first | omega | (dsimp only; omega) | trivial, by exact ⟨rfl, fun i9 h9 h8 => (by rw [pe_96, va_un h8, pe_86, va_un h9, pe_13, va_un h8, pe_6, va_un h9]), _, _, (by rw [pe_96, va_un (by decide), pe_86, va_us, pe_13, va_un (by decide), pe_6, va_us, pk_uu]), (by rw [pe_96, va_us, pe_86, va_un (by decide), pe_13, va_us, pe_6, va_un (by decide), pk_uu]), ANR_yes yp_9 yq_9 (by omega) (by omega) yk_9 ym_9, m1_ne (by rw [yk_9]; omega)⟩⟩⟩
    · skip
      have dc9 : (y6).toInt = ((-1 : Int32) : Int32).toInt := congrArg Int32.toInt c9
      refine hC.1 2 56 _ _ rfl _ _ _ _ _ ?_
      have k0 : (0 : Int32).toInt = 0 := rfl
      exact ⟨rfl, fun _ => (by decide), rfl, w, e3, v, f, rfl, hI3, hs, hx3, Or.inr ⟨rfl, by first | omega | (dsimp only; omega) | trivial, by exact ⟨rfl, fun i9 h9 h8 => (by rw [pe_13, va_un h8, pe_6, va_un h9]), -1, -1, (by rw [pe_13, va_un (by decide), pe_6, va_us]), (by rw [pe_13, va_us, pe_6, va_un (by decide)]), ANR_no yp_9 yq_9 (by omega) rfl rfl, rfl⟩⟩⟩

set_option maxRecDepth 100000 in
set_option maxHeartbeats 2000000 in
theorem V_X5_answer__n (hI : cw_I K nn dn q w e) (hs : cw_S v f) (x1 : Int32) (p0 : 0 ≤ x1.toInt ∧ x1.toInt < 30) : pm_Mt l g 162 3 0 0 [.ref (q 9), .int x1, .null, .ref (q 2)] (cw A0 g K nn dn q w e v f) (cw_Qt A0 g K nn dn q (fun r w2 e2 => e2 15 = e 15 ∧ ((r = some (.int 1) ∧ (((w2 0).toInt = (w 0).toInt ∧ (w2 1).toInt = (w 1).toInt ∧ (w2 2).toInt = (w 2).toInt ∧ (w2 3).toInt = (w 3).toInt) ∧ (w2 = w ∧ (∀ i9, i9 ≠ 37 → i9 ≠ 38 → e2 i9 = e i9) ∧ ∃ a9 b9 : Int32, e2 37 = upd (e 37) x1.toInt.toNat a9 ∧ e2 38 = upd (e 38) x1.toInt.toNat b9 ∧ (a9 = -1 ∧ b9 = -1) ∧ ¬ a9 = -1))) ∨ (r = some (.int 0) ∧ (((w2 0).toInt = (w 0).toInt ∧ (w2 1).toInt = (w 1).toInt ∧ (w2 2).toInt = (w 2).toInt ∧ (w2 3).toInt = (w 3).toInt) ∧ (w2 = w ∧ (∀ i9, i9 ≠ 37 → i9 ≠ 38 → e2 i9 = e i9) ∧ ∃ a9 b9 : Int32, e2 37 = upd (e 37) x1.toInt.toNat a9 ∧ e2 38 = upd (e 38) x1.toInt.toNat b9 ∧ (a9 = -1 ∧ b9 = -1) ∧ a9 = -1)))))) := by
  refine mt_X5_answer rfl (fun J hC => ?_)
  have ro_nn : cw_ro K nn := hI.2.1.2.1
  have ro_dn : cw_ro K dn := hI.2.1.2.2.1
  have hu1 := hI.2.1
  unfold cw_W at hu1
  have rg_x1 := pm_rng x1
  refine hC.1 0 0 _ _ rfl _ _ _ _ _ ?_
  refine Exists.intro _ (And.intro (cw_o9 hI.1) ?_)
  have km1 : (-1 : Int32).toInt = -1 := rfl
  refine Exists.intro _ (Exists.intro _ (And.intro (cw_a37 hI.1) (And.intro (by omega) ?_)))
  rw [cw_s37 hI.1]
  obtain ⟨e2, ee2⟩ : ∃ z9, z9 = va_up e 37 (upd (e 37) (x1).toInt.toNat (-1 : Int32)) := ⟨_, rfl⟩
  rw [← ee2]
  have hI2 : cw_I K nn dn q w e2 := ⟨hI.1, hI.2.1, hI.2.2.1, by rw [ee2]; exact cw_E_up hI.2.2.2 _ _ (fun h9 _ => absurd h9 (by decide)) (fun h9 _ => absurd h9 (by decide))⟩
  have hx2 : e2 15 = e 15 := (show e2 15 = e 15 by rw [ee2]; exact if_neg (by omega)).trans rfl
  have pe_6 := ee2
  refine Exists.intro _ (And.intro (cw_o9 hI2.1) ?_)
  refine Exists.intro _ (Exists.intro _ (And.intro (cw_a38 hI2.1) (And.intro (by omega) ?_)))
  rw [cw_s38 hI2.1]
  obtain ⟨e3, ee3⟩ : ∃ z9, z9 = va_up e2 38 (upd (e2 38) (x1).toInt.toNat (-1 : Int32)) := ⟨_, rfl⟩
  rw [← ee3]
  have hI3 : cw_I K nn dn q w e3 := ⟨hI2.1, hI2.2.1, hI2.2.2.1, by rw [ee3]; exact cw_E_up hI2.2.2.2 _ _ (fun h9 _ => absurd h9 (by decide)) (fun h9 _ => absurd h9 (by decide))⟩
  have hx3 : e3 15 = e 15 := (show e3 15 = e2 15 by rw [ee3]; exact if_neg (by omega)).trans hx2
  have pe_13 := ee3
  have k0 : (0 : Int32).toInt = 0 := rfl
  exact ⟨rfl, fun _ => (by decide), rfl, w, e3, v, f, rfl, hI3, hs, hx3, Or.inr ⟨rfl, by first | omega | (dsimp only; omega) | trivial, by exact ⟨rfl, fun i9 h9 h8 => (by rw [pe_13, va_un h8, pe_6, va_un h9]), -1, -1, (by rw [pe_13, va_un (by decide), pe_6, va_us]), (by rw [pe_13, va_us, pe_6, va_un (by decide)]), ⟨rfl, rfl⟩, rfl⟩⟩⟩

end
end
section
section
variable {l : Launch} {g : pm_G} {A0 : pm_H} {K nn dn : Nat} {q : Nat → Nat} {w : Nat → Int32} {e : Nat → Nat → Int32} {v : Nat → Int32} {f : Nat → Nat → Int32}
set_option maxRecDepth 100000 in
set_option maxHeartbeats 2000000 in
theorem V_X10_solve (hI : cw_I K nn dn q w e) (hs : cw_S v f)   : pm_Mt l g 161 4 0 0 [.ref (q 0)] (cw A0 g K nn dn q w e v f) (cw_Qt A0 g K nn dn q (fun r w2 e2 => e2 15 = e 15 ∧ (∃ x : Int32, r = some (.int x) ∧ (((w2 0).toInt = (w 0).toInt ∧ (w2 1).toInt = (w 1).toInt ∧ (w2 2).toInt = (w 2).toInt ∧ (w2 3).toInt = (w 3).toInt) ∧ ((∀ i9, 40 ≤ i9 → w2 i9 = w i9 ∧ e2 i9 = e i9) ∧ (w2 3 = w 3 ∧ w2 2 = w 2 ∧ e2 35 = e 35 ∧ e2 36 = e 36 ∧ e2 39 = e 39) ∧ (∀ j9 : Nat, (j9 : Int) < (w 3).toInt → AKI (e (nn + 1)) (e (nn + 2)) (e 15) (w nn).toInt (w 0).toInt (cN w) (cC e) (cM e) (e 39 j9) (e 35 j9) (e 36 j9) (e2 37 j9) (e2 38 j9)) ∧ x.toInt = cnA (e2 37) (w 3).toInt.toNat))))) := by
  refine mt_X10_solve rfl (fun J hC => ?_)
  have ro_nn : cw_ro K nn := hI.2.1.2.1
  have ro_dn : cw_ro K dn := hI.2.1.2.2.1
  have hu1 := hI.2.1
  unfold cw_W at hu1
  refine hC.1 0 0 _ _ rfl _ _ _ _ _ ?_
  have k0 : (0 : Int32).toInt = 0 := rfl
  have lp3 : ∀ (n : Nat) (z1_4 : Int32) (z2_4 : Int32) (w2 : Nat → Int32) (e2 : Nat → Nat → Int32) (v2 : Nat → Int32) (f2 : Nat → Nat → Int32), cw_I K nn dn q w2 e2 → e2 15 = e 15 → cw_S v2 f2 → (0 ≤ z2_4.toInt ∧ z2_4.toInt ≤ (w 3).toInt) → (w2 = w ∧ ∀ i9, i9 ≠ 37 → i9 ≠ 38 → e2 i9 = e i9) → (0 ≤ z1_4.toInt ∧ z1_4.toInt ≤ z2_4.toInt ∧ z1_4.toInt = cnA (e2 37) z2_4.toInt.toNat) → (∀ j9 : Nat, (j9 : Int) < z2_4.toInt → AKI (e (nn + 1)) (e (nn + 2)) (e 15) (w nn).toInt (w 0).toInt (cN w) (cC e) (cM e) (e 39 j9) (e 35 j9) (e 36 j9) (e2 37 j9) (e2 38 j9)) → (w2 0).toInt = (w 0).toInt → (w2 1).toInt = (w 1).toInt → (w2 2).toInt = (w 2).toInt → (w2 3).toInt = (w 3).toInt → 200 - z2_4.toInt < (n : Int) → J 4 [some (.ref (q 0)), some (.int z1_4), some (.int z2_4), none, none] [] (cw A0 g K nn dn q w2 e2 v2 f2) 0 0 := by
    intro n
    induction n with
    | zero =>
      intro z1_4 z2_4 w2 e2 v2 f2 hI2 hx2 hs2 j0_4 j1_4 j2_4 j3_4 j4_4 j5_4 j6_4 j7_4 j8_4
      omega
    | succ n ih4 =>
      intro z1_4 z2_4 w2 e2 v2 f2 hI2 hx2 hs2 j0_4 j1_4 j2_4 j3_4 j4_4 j5_4 j6_4 j7_4 j8_4
      have en_9 := j1_4.2
      have ew_9 := j1_4.1
      have nn_9 := ro_nn
      unfold cw_ro at nn_9
      have e39_9 : e2 39 = e 39 := en_9 39 (by decide) (by decide)
      have e35_9 : e2 35 = e 35 := en_9 35 (by decide) (by decide)
      have e36_9 : e2 36 = e 36 := en_9 36 (by decide) (by decide)
      have e15_9 : e2 15 = e 15 := en_9 15 (by decide) (by decide)
      have hu5 := hI2.2.1
      unfold cw_W at hu5
      refine hC.1 1 4 _ _ rfl _ _ _ _ _ ?_
      refine Exists.intro _ (And.intro (cw_o0 hI2.1) ?_)
      refine Exists.intro _ (And.intro (cw_o9 hI2.1) ?_)
      refine And.intro (fun c6 => ?_) (fun c6 => ?_)
      · skip
        refine hC.1 5 76 _ _ rfl _ _ _ _ _ ?_
        exact ⟨rfl, fun e9 => absurd e9 (by decide), rfl, w2, e2, v2, f2, rfl, hI2, hs2, hx2, z1_4, rfl, by first | omega | (dsimp only; omega) | trivial, by exact ⟨fun i9 h9 => ⟨by rw [ew_9], en_9 i9 (by omega) (by omega)⟩, ⟨by rw [ew_9], by rw [ew_9], e35_9, e36_9, e39_9⟩, fun j9 h9 => j3_4 j9 (by rw [← ew_9] at h9; omega), by rw [show (w 3).toInt.toNat = z2_4.toInt.toNat by (rw [← ew_9]; omega)]; exact j2_4.2.2⟩⟩
      · skip
        refine Exists.intro _ (And.intro (cw_o0 hI2.1) ?_)
        refine Exists.intro _ (And.intro (cw_o9 hI2.1) ?_)
        refine Exists.intro _ (Exists.intro _ (And.intro (Or.inl (cw_a39 hI2.1)) (And.intro (by omega) ?_)))
        have km1 : (-1 : Int32).toInt = -1 := rfl
        refine And.intro (fun c7 => ?_) (fun c7 => ?_)
        · skip
          have dc7 := pm_neI c7
          refine hC.1 2 40 _ _ rfl _ _ _ _ _ ?_
          refine Exists.intro _ (And.intro (cw_o0 hI2.1) ?_)
          refine And.intro (Exists.intro _ (cw_o1 hI2.1)) (Exists.intro _ (Exists.intro _ (Exists.intro _ (Exists.intro _ (And.intro (F_X9_behind hI2 hs2 (e2 39 (z2_4).toInt.toNat) ) (And.intro rfl (fun r9 A9 h9 => ?_)))))))
          rcases h9 with ⟨rfl, ⟨rfl, hn9⟩ | ⟨o9, rfl, ho9, hn9, he9⟩⟩
          · skip
            have kn_45 := hn9
            unfold kno at hn9
            have yk_9 : ∀ x9 y9 : Int32, x9 = -1 ∧ y9 = -1 → AKI (e (nn + 1)) (e (nn + 2)) (e 15) (w nn).toInt (w 0).toInt (cN w) (cC e) (cM e) (e 39 z2_4.toInt.toNat) (e 35 z2_4.toInt.toNat) (e 36 z2_4.toInt.toNat) x9 y9 := fun x9 y9 h9 => Or.inr (Or.inr ⟨(by rw [← e39_9]; omega), (by rw [← e39_9, ← ew_9]; exact kn_45), h9.1, h9.2⟩)
            refine hC.1 3 48 _ _ rfl _ _ _ _ _ ?_
            refine Exists.intro _ (And.intro (cw_o0 hI2.1) ?_)
            refine Exists.intro _ (And.intro (cw_o0 hI2.1) ?_)
            refine And.intro (Exists.intro _ (cw_o9 hI2.1)) (Exists.intro _ (Exists.intro _ (Exists.intro _ (Exists.intro _ (And.intro (V_X5_answer__n hI2 hs2 z2_4 (by omega)) (And.intro rfl (fun r9 A9 h9 => ?_)))))))
            rcases h9 with ⟨w11, e11, v11, f11, rfl, hI11, hs11, hy11, hzy10⟩
            have hx11 : e11 15 = e 15 := hy11.trans hx2
            rcases hzy10 with ⟨rfl, by10⟩ | ⟨rfl, by10⟩
            · skip
              have k1 : (1 : Int32).toInt = 1 := rfl
              have hb_61 := by10.2
              obtain ⟨a8_9, b8_9, g1_9, g2_9, g3_9, g4_9⟩ := hb_61.2.2
              have hc_9 := cnA_1 g1_9 g4_9
              refine And.intro (fun c9 => absurd c9 (by decide)) (fun _ => ?_)
              intro m12 em_67
              try have e12 : m12.toInt = (z1_4).toInt + (1) := by rw [em_67]; exact pm_addc _ _ (1) rfl (by omega) (by omega)
              refine hC.1 4 70 _ _ rfl _ _ _ _ _ ?_
              intro m13 em_70
              try have e13 : m13.toInt = (z2_4).toInt + (1) := by rw [em_70]; exact pm_addc _ _ (1) rfl (by omega) (by omega)
              exact hC.2 [false, false, false, true, true] _ _ _ _ _ _ (ih4 m12 m13 w11 e11 v11 f11 hI11 hx11 hs11 (by omega) (by exact ⟨hb_61.1.trans ew_9, fun i9 h9 h8 => (hb_61.2.1 i9 h9 h8).trans (en_9 i9 h9 h8)⟩) (by refine ⟨by omega, by omega, ?_⟩; rw [show m13.toInt.toNat = z2_4.toInt.toNat + 1 by omega, hc_9]; omega) (by intro j9 h9; by_cases h8 : j9 = z2_4.toInt.toNat; (subst h8; rw [g1_9, g2_9, pk_us, pk_us]; exact yk_9 _ _ g3_9); (rw [g1_9, g2_9, pk_un h8, pk_un h8]; exact j3_4 j9 (by omega))) (by omega) (by omega) (by omega) (by omega) (by omega))
            · skip
              have hb_61 := by10.2
              obtain ⟨a8_9, b8_9, g1_9, g2_9, g3_9, g4_9⟩ := hb_61.2.2
              have hc_9 := cnA_0 g1_9 g4_9
              refine And.intro (fun _ => ?_) (fun c9 => absurd c9 (by decide))
              refine hC.1 4 70 _ _ rfl _ _ _ _ _ ?_
              have k1 : (1 : Int32).toInt = 1 := rfl
              intro m14 em_70
              try have e14 : m14.toInt = (z2_4).toInt + (1) := by rw [em_70]; exact pm_addc _ _ (1) rfl (by omega) (by omega)
              exact hC.2 [false, false, false, true, true] _ _ _ _ _ _ (ih4 z1_4 m14 w11 e11 v11 f11 hI11 hx11 hs11 (by omega) (by exact ⟨hb_61.1.trans ew_9, fun i9 h9 h8 => (hb_61.2.1 i9 h9 h8).trans (en_9 i9 h9 h8)⟩) (by refine ⟨by omega, by omega, ?_⟩; rw [show m14.toInt.toNat = z2_4.toInt.toNat + 1 by omega, hc_9]; omega) (by intro j9 h9; by_cases h8 : j9 = z2_4.toInt.toNat; (subst h8; rw [g1_9, g2_9, pk_us, pk_us]; exact yk_9 _ _ g3_9); (rw [g1_9, g2_9, pk_un h8, pk_un h8]; exact j3_4 j9 (by omega))) (by omega) (by omega) (by omega) (by omega) (by omega))
          · skip
            have kn_45 := hn9
            have ke_45 := he9
            have ko_45 : ∀ z9 : Nat, (z9 : Int) = 40 + 4 * (((e2 39 (z2_4).toInt.toNat)).toInt % 41) → z9 = o9 := fun z9 h9 => (by omega)
            unfold kno at hn9
            have yo_9 := ko_45 (cro ((e 39 z2_4.toInt.toNat).toInt)) (by rw [← e39_9]; exact cro_i kn_45.1)
            have oo_9 := ho9
            unfold cw_ro at oo_9
            have yk_9 : ∀ x9 y9 : Int32, ANR (e2 (o9 + 1)) (e2 (o9 + 2)) (e2 15) (w2 o9).toInt (e2 35 z2_4.toInt.toNat) (e2 36 z2_4.toInt.toNat) x9 y9 → AKI (e (nn + 1)) (e (nn + 2)) (e 15) (w nn).toInt (w 0).toInt (cN w) (cC e) (cM e) (e 39 z2_4.toInt.toNat) (e 35 z2_4.toInt.toNat) (e 36 z2_4.toInt.toNat) x9 y9 := fun x9 y9 h9 => AKI_row (by rw [← e39_9]; omega) (by rw [← e39_9, ← ew_9]; exact kn_45) yo_9 (ANR_e h9 (en_9 _ (by omega) (by omega)) (en_9 _ (by omega) (by omega)) e15_9 (by rw [ew_9]) (by rw [e35_9]) (by rw [e36_9]))
            refine hC.1 3 48 _ _ rfl _ _ _ _ _ ?_
            refine Exists.intro _ (And.intro (cw_o0 hI2.1) ?_)
            refine Exists.intro _ (And.intro (cw_o0 hI2.1) ?_)
            refine And.intro (Exists.intro _ (cw_o9 hI2.1)) (Exists.intro _ (Exists.intro _ (Exists.intro _ (Exists.intro _ (And.intro (V_X5_answer hI2 hs2 z2_4 ho9 (by omega)) (And.intro rfl (fun r9 A9 h9 => ?_)))))))
            rcases h9 with ⟨w16, e16, v16, f16, rfl, hI16, hs16, hy16, hzy15⟩
            have hx16 : e16 15 = e 15 := hy16.trans hx2
            rcases hzy15 with ⟨rfl, by15⟩ | ⟨rfl, by15⟩
            · skip
              have k1 : (1 : Int32).toInt = 1 := rfl
              have hb_61 := by15.2
              obtain ⟨a8_9, b8_9, g1_9, g2_9, g3_9, g4_9⟩ := hb_61.2.2
              have hc_9 := cnA_1 g1_9 g4_9
              refine And.intro (fun c9 => absurd c9 (by decide)) (fun _ => ?_)
              intro m17 em_67
              try have e17 : m17.toInt = (z1_4).toInt + (1) := by rw [em_67]; exact pm_addc _ _ (1) rfl (by omega) (by omega)
              refine hC.1 4 70 _ _ rfl _ _ _ _ _ ?_
              intro m18 em_70
              try have e18 : m18.toInt = (z2_4).toInt + (1) := by rw [em_70]; exact pm_addc _ _ (1) rfl (by omega) (by omega)
              exact hC.2 [false, false, false, true, true] _ _ _ _ _ _ (ih4 m17 m18 w16 e16 v16 f16 hI16 hx16 hs16 (by omega) (by exact ⟨hb_61.1.trans ew_9, fun i9 h9 h8 => (hb_61.2.1 i9 h9 h8).trans (en_9 i9 h9 h8)⟩) (by refine ⟨by omega, by omega, ?_⟩; rw [show m18.toInt.toNat = z2_4.toInt.toNat + 1 by omega, hc_9]; omega) (by intro j9 h9; by_cases h8 : j9 = z2_4.toInt.toNat; (subst h8; rw [g1_9, g2_9, pk_us, pk_us]; exact yk_9 _ _ g3_9); (rw [g1_9, g2_9, pk_un h8, pk_un h8]; exact j3_4 j9 (by omega))) (by omega) (by omega) (by omega) (by omega) (by omega))
            · skip
              have hb_61 := by15.2
              obtain ⟨a8_9, b8_9, g1_9, g2_9, g3_9, g4_9⟩ := hb_61.2.2
              have hc_9 := cnA_0 g1_9 g4_9
              refine And.intro (fun _ => ?_) (fun c9 => absurd c9 (by decide))
              refine hC.1 4 70 _ _ rfl _ _ _ _ _ ?_
              have k1 : (1 : Int32).toInt = 1 := rfl
              intro m19 em_70
              try have e19 : m19.toInt = (z2_4).toInt + (1) := by rw [em_70]; exact pm_addc _ _ (1) rfl (by omega) (by omega)
              exact hC.2 [false, false, false, true, true] _ _ _ _ _ _ (ih4 z1_4 m19 w16 e16 v16 f16 hI16 hx16 hs16 (by omega) (by exact ⟨hb_61.1.trans ew_9, fun i9 h9 h8 => (hb_61.2.1 i9 h9 h8).trans (en_9 i9 h9 h8)⟩) (by refine ⟨by omega, by omega, ?_⟩; rw [show m19.toInt.toNat = z2_4.toInt.toNat + 1 by omega, hc_9]; omega) (by intro j9 h9; by_cases h8 : j9 = z2_4.toInt.toNat; (subst h8; rw [g1_9, g2_9, pk_us, pk_us]; exact yk_9 _ _ g3_9); (rw [g1_9, g2_9, pk_un h8, pk_un h8]; exact j3_4 j9 (by omega))) (by omega) (by omega) (by omega) (by omega) (by omega))
        · skip
          have dc7 : ((e2 39 (z2_4).toInt.toNat)).toInt = ((-1 : Int32) : Int32).toInt := congrArg Int32.toInt c7
          have yk_9 : ∀ x9 y9 : Int32, ANR (e2 (nn + 1)) (e2 (nn + 2)) (e2 15) (w2 nn).toInt (e2 35 z2_4.toInt.toNat) (e2 36 z2_4.toInt.toNat) x9 y9 → AKI (e (nn + 1)) (e (nn + 2)) (e 15) (w nn).toInt (w 0).toInt (cN w) (cC e) (cM e) (e 39 z2_4.toInt.toNat) (e 35 z2_4.toInt.toNat) (e 36 z2_4.toInt.toNat) x9 y9 := fun x9 y9 h9 => Or.inl ⟨(by rw [← e39_9]; omega), ANR_e h9 (en_9 _ (by omega) (by omega)) (en_9 _ (by omega) (by omega)) e15_9 (by rw [ew_9]) (by rw [e35_9]) (by rw [e36_9])⟩
          refine Exists.intro _ (And.intro (cw_o0 hI2.1) ?_)
          refine Exists.intro _ (And.intro (cw_o1 hI2.1) ?_)
          refine hC.1 3 48 _ _ rfl _ _ _ _ _ ?_
          refine Exists.intro _ (And.intro (cw_o0 hI2.1) ?_)
          refine Exists.intro _ (And.intro (cw_o0 hI2.1) ?_)
          refine And.intro (Exists.intro _ (cw_o9 hI2.1)) (Exists.intro _ (Exists.intro _ (Exists.intro _ (Exists.intro _ (And.intro (V_X5_answer hI2 hs2 z2_4 ro_nn (by omega)) (And.intro rfl (fun r9 A9 h9 => ?_)))))))
          rcases h9 with ⟨w21, e21, v21, f21, rfl, hI21, hs21, hy21, hzy20⟩
          have hx21 : e21 15 = e 15 := hy21.trans hx2
          rcases hzy20 with ⟨rfl, by20⟩ | ⟨rfl, by20⟩
          · skip
            have k1 : (1 : Int32).toInt = 1 := rfl
            have hb_61 := by20.2
            obtain ⟨a8_9, b8_9, g1_9, g2_9, g3_9, g4_9⟩ := hb_61.2.2
            have hc_9 := cnA_1 g1_9 g4_9
            refine And.intro (fun c9 => absurd c9 (by decide)) (fun _ => ?_)
            intro m22 em_67
            try have e22 : m22.toInt = (z1_4).toInt + (1) := by rw [em_67]; exact pm_addc _ _ (1) rfl (by omega) (by omega)
            refine hC.1 4 70 _ _ rfl _ _ _ _ _ ?_
            intro m23 em_70
            try have e23 : m23.toInt = (z2_4).toInt + (1) := by rw [em_70]; exact pm_addc _ _ (1) rfl (by omega) (by omega)
            exact hC.2 [false, false, false, true, true] _ _ _ _ _ _ (ih4 m22 m23 w21 e21 v21 f21 hI21 hx21 hs21 (by omega) (by exact ⟨hb_61.1.trans ew_9, fun i9 h9 h8 => (hb_61.2.1 i9 h9 h8).trans (en_9 i9 h9 h8)⟩) (by refine ⟨by omega, by omega, ?_⟩; rw [show m23.toInt.toNat = z2_4.toInt.toNat + 1 by omega, hc_9]; omega) (by intro j9 h9; by_cases h8 : j9 = z2_4.toInt.toNat; (subst h8; rw [g1_9, g2_9, pk_us, pk_us]; exact yk_9 _ _ g3_9); (rw [g1_9, g2_9, pk_un h8, pk_un h8]; exact j3_4 j9 (by omega))) (by omega) (by omega) (by omega) (by omega) (by omega))
          · skip
            have hb_61 := by20.2
            obtain ⟨a8_9, b8_9, g1_9, g2_9, g3_9, g4_9⟩ := hb_61.2.2
            have hc_9 := cnA_0 g1_9 g4_9
            refine And.intro (fun _ => ?_) (fun c9 => absurd c9 (by decide))
            refine hC.1 4 70 _ _ rfl _ _ _ _ _ ?_
            have k1 : (1 : Int32).toInt = 1 := rfl
            intro m24 em_70
            try have e24 : m24.toInt = (z2_4).toInt + (1) := by rw [em_70]; exact pm_addc _ _ (1) rfl (by omega) (by omega)
            exact hC.2 [false, false, false, true, true] _ _ _ _ _ _ (ih4 z1_4 m24 w21 e21 v21 f21 hI21 hx21 hs21 (by omega) (by exact ⟨hb_61.1.trans ew_9, fun i9 h9 h8 => (hb_61.2.1 i9 h9 h8).trans (en_9 i9 h9 h8)⟩) (by refine ⟨by omega, by omega, ?_⟩; rw [show m24.toInt.toNat = z2_4.toInt.toNat + 1 by omega, hc_9]; omega) (by intro j9 h9; by_cases h8 : j9 = z2_4.toInt.toNat; (subst h8; rw [g1_9, g2_9, pk_us, pk_us]; exact yk_9 _ _ g3_9); (rw [g1_9, g2_9, pk_un h8, pk_un h8]; exact j3_4 j9 (by omega))) (by omega) (by omega) (by omega) (by omega) (by omega))
  exact lp3 (200 - (0 : Int32).toInt).toNat.succ (0 : Int32) (0 : Int32) w e v f hI rfl hs (by omega) (by exact ⟨rfl, fun _ _ _ => rfl⟩) (by exact ⟨by omega, by omega, rfl⟩) (by intro j9 h9; omega) (by omega) (by omega) (by omega) (by omega) (by omega)

set_option maxRecDepth 100000 in
set_option maxHeartbeats 2000000 in
theorem V_X10_about (hI : cw_I K nn dn q w e) (hs : cw_S v f) (x1 : Int32)  : pm_Mt l g 53 4 0 0 [.ref (q 0), .int x1] (cw A0 g K nn dn q w e v f) (cw_Qs A0 g K nn dn q w e (fun r v2 f2 => ∃ x : Int32, r = some (.int x) ∧ ((True) ∧ (x.toInt = ABT (w nn) (w 1) (w 0) (w 2) (w 3) (e (nn + 1)) x1.toInt)))) := by
  refine mt_X10_about rfl (fun J hC => ?_)
  have ro_nn : cw_ro K nn := hI.2.1.2.1
  have ro_dn : cw_ro K dn := hI.2.1.2.2.1
  have hu1 := hI.2.1
  unfold cw_W at hu1
  have rg_x1 := pm_rng x1
  have zz0 := cw_sz hI ro_nn
  refine hC.1 0 0 _ _ rfl _ _ _ _ _ ?_
  refine pm_swc 6 rfl (by decide) ?_ ?_
  · intro _
    refine hC.1 7 108 _ _ rfl _ _ _ _ _ ?_
    have km1 : (-1 : Int32).toInt = -1 := rfl
    exact ⟨rfl, fun e9 => absurd e9 (by decide), rfl, v, f, rfl, hs, (-1 : Int32), rfl, by exact True.intro, by exact (ABT_d (by omega)).symm⟩
  · intro i9 hi9 he9
    rcases (show i9 = 0 ∨ i9 = 1 ∨ i9 = 2 ∨ i9 = 3 ∨ i9 = 4 ∨ i9 = 5 by omega) with rfl | rfl | rfl | rfl | rfl | rfl
    · skip
      refine hC.1 1 40 _ _ rfl _ _ _ _ _ ?_
      refine Exists.intro _ (And.intro (cw_o0 hI.1) ?_)
      refine Exists.intro _ (And.intro (cw_o1 hI.1) ?_)
      refine Exists.intro _ (And.intro (cw_ro_o hI.1 ro_nn) ?_)
      have z4 := cw_sz hI ro_nn
      exact ⟨rfl, fun e9 => absurd e9 (by decide), rfl, v, f, rfl, hs, (w nn), rfl, by exact True.intro, by exact (ABT_0 (by omega)).symm⟩
    · skip
      refine hC.1 2 51 _ _ rfl _ _ _ _ _ ?_
      refine Exists.intro _ (And.intro (cw_o0 hI.1) ?_)
      refine Exists.intro _ (And.intro (cw_o1 hI.1) ?_)
      have k0 : (0 : Int32).toInt = 0 := rfl
      refine Exists.intro _ (And.intro (cw_o0 hI.1) ?_)
      refine Exists.intro _ (And.intro (cw_o1 hI.1) ?_)
      refine Exists.intro _ (And.intro (cw_ro_o hI.1 ro_nn) ?_)
      have z5 := cw_sz hI ro_nn
      have k1 : (1 : Int32).toInt = 1 := rfl
      intro m6 em_71
      try have e6 : m6.toInt = ((w nn)).toInt - (1) := by rw [em_71]; exact pm_subc _ _ (1) rfl (by omega) (by omega)
      refine And.intro (Exists.intro _ (cw_o0 hI.1)) (Exists.intro _ (Exists.intro _ (Exists.intro _ (Exists.intro _ (And.intro (F_X10_colourNumber hI hs ro_nn (0 : Int32) m6 (by omega)) (And.intro rfl (fun r9 A9 h9 => ?_)))))))
      rcases h9 with ⟨v8, f8, rfl, hs8, y7, rfl, by7⟩
      have yf_9 := by7.2
      exact ⟨rfl, fun e9 => absurd e9 (by decide), rfl, v8, f8, rfl, hs8, y7, rfl, by exact True.intro, by exact ABT_k (by omega) yf_9 (by omega) (by omega)⟩
    · skip
      refine hC.1 3 76 _ _ rfl _ _ _ _ _ ?_
      refine Exists.intro _ (And.intro (cw_o0 hI.1) ?_)
      refine Exists.intro _ (And.intro (cw_o1 hI.1) ?_)
      exact ⟨rfl, fun e9 => absurd e9 (by decide), rfl, v, f, rfl, hs, (w 1), rfl, by exact True.intro, by exact (ABT_2 (by omega)).symm⟩
    · skip
      refine hC.1 4 84 _ _ rfl _ _ _ _ _ ?_
      refine Exists.intro _ (And.intro (cw_o0 hI.1) ?_)
      refine Exists.intro _ (And.intro (cw_o1 hI.1) ?_)
      exact ⟨rfl, fun e9 => absurd e9 (by decide), rfl, v, f, rfl, hs, (w 0), rfl, by exact True.intro, by exact (ABT_3 (by omega)).symm⟩
    · skip
      refine hC.1 5 92 _ _ rfl _ _ _ _ _ ?_
      refine Exists.intro _ (And.intro (cw_o0 hI.1) ?_)
      refine Exists.intro _ (And.intro (cw_o1 hI.1) ?_)
      exact ⟨rfl, fun e9 => absurd e9 (by decide), rfl, v, f, rfl, hs, (w 2), rfl, by exact True.intro, by exact (ABT_4 (by omega)).symm⟩
    · skip
      refine hC.1 6 100 _ _ rfl _ _ _ _ _ ?_
      refine Exists.intro _ (And.intro (cw_o0 hI.1) ?_)
      refine Exists.intro _ (And.intro (cw_o9 hI.1) ?_)
      exact ⟨rfl, fun e9 => absurd e9 (by decide), rfl, v, f, rfl, hs, (w 3), rfl, by exact True.intro, by exact (ABT_5 (by omega)).symm⟩

set_option maxRecDepth 100000 in
set_option maxHeartbeats 2000000 in
theorem V_X5_tell (hI : cw_I K nn dn q w e) (hs : cw_S v f) (x1 : Int32) (x2 : Int32)  : pm_Mt l g 164 0 0 0 [.ref (q 9), .int x1, .int x2] (cw A0 g K nn dn q w e v f) (md_Qp (cw A0 g K nn dn q w e v f) (fun r => r = ASD (w 3).toInt x1.toInt x2.toInt (e 35) (e 36) (e 37) (e 38) (e 39))) := by
  refine mt_X5_tell rfl (fun J hC => ?_)
  have ro_nn : cw_ro K nn := hI.2.1.2.1
  have ro_dn : cw_ro K dn := hI.2.1.2.2.1
  have hu1 := hI.2.1
  unfold cw_W at hu1
  have rg_x1 := pm_rng x1
  have rg_x2 := pm_rng x2
  refine hC.1 0 0 _ _ rfl _ _ _ _ _ ?_
  refine And.intro (fun c2 => ?_) (fun c2 => ?_)
  · skip
    refine hC.1 1 12 _ _ rfl _ _ _ _ _ ?_
    have km1 : (-1 : Int32).toInt = -1 := rfl
    exact ⟨rfl, fun e9 => absurd e9 (by decide), rfl, (-1 : Int32), rfl, rfl, by first | (exact (ASD_n (by omega)).symm) | (exact (ASD_0 (by omega) (by omega)).symm) | (exact (ASD_1 (by omega) (by omega)).symm) | (exact (ASD_2 (by omega) (by omega)).symm) | (exact (ASD_3 (by omega) (by omega)).symm) | (exact (ASD_4 (by omega) (by omega)).symm) | (exact (ASD_d (by omega)).symm)⟩
  · skip
    refine Exists.intro _ (And.intro (cw_o9 hI.1) ?_)
    refine And.intro (fun c3 => ?_) (fun c3 => ?_)
    · skip
      refine hC.1 2 14 _ _ rfl _ _ _ _ _ ?_
      refine pm_swc 5 rfl (by decide) ?_ ?_
      · intro _
        refine hC.1 8 83 _ _ rfl _ _ _ _ _ ?_
        have km1 : (-1 : Int32).toInt = -1 := rfl
        exact ⟨rfl, fun e9 => absurd e9 (by decide), rfl, (-1 : Int32), rfl, rfl, by first | (exact (ASD_n (by omega)).symm) | (exact (ASD_0 (by omega) (by omega)).symm) | (exact (ASD_1 (by omega) (by omega)).symm) | (exact (ASD_2 (by omega) (by omega)).symm) | (exact (ASD_3 (by omega) (by omega)).symm) | (exact (ASD_4 (by omega) (by omega)).symm) | (exact (ASD_d (by omega)).symm)⟩
      · intro i9 hi9 he9
        rcases (show i9 = 0 ∨ i9 = 1 ∨ i9 = 2 ∨ i9 = 3 ∨ i9 = 4 by omega) with rfl | rfl | rfl | rfl | rfl
        · skip
          refine hC.1 3 48 _ _ rfl _ _ _ _ _ ?_
          refine Exists.intro _ (And.intro (cw_o9 hI.1) ?_)
          refine Exists.intro _ (Exists.intro _ (And.intro (Or.inl (cw_a37 hI.1)) (And.intro (by omega) ?_)))
          exact ⟨rfl, fun e9 => absurd e9 (by decide), rfl, (e 37 (x1).toInt.toNat), rfl, rfl, by first | (exact (ASD_n (by omega)).symm) | (exact (ASD_0 (by omega) (by omega)).symm) | (exact (ASD_1 (by omega) (by omega)).symm) | (exact (ASD_2 (by omega) (by omega)).symm) | (exact (ASD_3 (by omega) (by omega)).symm) | (exact (ASD_4 (by omega) (by omega)).symm) | (exact (ASD_d (by omega)).symm)⟩
        · skip
          refine hC.1 4 55 _ _ rfl _ _ _ _ _ ?_
          refine Exists.intro _ (And.intro (cw_o9 hI.1) ?_)
          refine Exists.intro _ (Exists.intro _ (And.intro (Or.inl (cw_a38 hI.1)) (And.intro (by omega) ?_)))
          exact ⟨rfl, fun e9 => absurd e9 (by decide), rfl, (e 38 (x1).toInt.toNat), rfl, rfl, by first | (exact (ASD_n (by omega)).symm) | (exact (ASD_0 (by omega) (by omega)).symm) | (exact (ASD_1 (by omega) (by omega)).symm) | (exact (ASD_2 (by omega) (by omega)).symm) | (exact (ASD_3 (by omega) (by omega)).symm) | (exact (ASD_4 (by omega) (by omega)).symm) | (exact (ASD_d (by omega)).symm)⟩
        · skip
          refine hC.1 5 62 _ _ rfl _ _ _ _ _ ?_
          refine Exists.intro _ (And.intro (cw_o9 hI.1) ?_)
          refine Exists.intro _ (Exists.intro _ (And.intro (Or.inl (cw_a35 hI.1)) (And.intro (by omega) ?_)))
          exact ⟨rfl, fun e9 => absurd e9 (by decide), rfl, (e 35 (x1).toInt.toNat), rfl, rfl, by first | (exact (ASD_n (by omega)).symm) | (exact (ASD_0 (by omega) (by omega)).symm) | (exact (ASD_1 (by omega) (by omega)).symm) | (exact (ASD_2 (by omega) (by omega)).symm) | (exact (ASD_3 (by omega) (by omega)).symm) | (exact (ASD_4 (by omega) (by omega)).symm) | (exact (ASD_d (by omega)).symm)⟩
        · skip
          refine hC.1 6 69 _ _ rfl _ _ _ _ _ ?_
          refine Exists.intro _ (And.intro (cw_o9 hI.1) ?_)
          refine Exists.intro _ (Exists.intro _ (And.intro (Or.inl (cw_a36 hI.1)) (And.intro (by omega) ?_)))
          exact ⟨rfl, fun e9 => absurd e9 (by decide), rfl, (e 36 (x1).toInt.toNat), rfl, rfl, by first | (exact (ASD_n (by omega)).symm) | (exact (ASD_0 (by omega) (by omega)).symm) | (exact (ASD_1 (by omega) (by omega)).symm) | (exact (ASD_2 (by omega) (by omega)).symm) | (exact (ASD_3 (by omega) (by omega)).symm) | (exact (ASD_4 (by omega) (by omega)).symm) | (exact (ASD_d (by omega)).symm)⟩
        · skip
          refine hC.1 7 76 _ _ rfl _ _ _ _ _ ?_
          refine Exists.intro _ (And.intro (cw_o9 hI.1) ?_)
          refine Exists.intro _ (Exists.intro _ (And.intro (Or.inl (cw_a39 hI.1)) (And.intro (by omega) ?_)))
          exact ⟨rfl, fun e9 => absurd e9 (by decide), rfl, (e 39 (x1).toInt.toNat), rfl, rfl, by first | (exact (ASD_n (by omega)).symm) | (exact (ASD_0 (by omega) (by omega)).symm) | (exact (ASD_1 (by omega) (by omega)).symm) | (exact (ASD_2 (by omega) (by omega)).symm) | (exact (ASD_3 (by omega) (by omega)).symm) | (exact (ASD_4 (by omega) (by omega)).symm) | (exact (ASD_d (by omega)).symm)⟩
    · skip
      refine hC.1 1 12 _ _ rfl _ _ _ _ _ ?_
      have km1 : (-1 : Int32).toInt = -1 := rfl
      exact ⟨rfl, fun e9 => absurd e9 (by decide), rfl, (-1 : Int32), rfl, rfl, by first | (exact (ASD_n (by omega)).symm) | (exact (ASD_0 (by omega) (by omega)).symm) | (exact (ASD_1 (by omega) (by omega)).symm) | (exact (ASD_2 (by omega) (by omega)).symm) | (exact (ASD_3 (by omega) (by omega)).symm) | (exact (ASD_4 (by omega) (by omega)).symm) | (exact (ASD_d (by omega)).symm)⟩

set_option maxRecDepth 100000 in
set_option maxHeartbeats 2000000 in
theorem V_X10_asked (hI : cw_I K nn dn q w e) (hs : cw_S v f) (x1 : Int32) (x2 : Int32)  : pm_Mt l g 163 1 0 0 [.ref (q 0), .int x1, .int x2] (cw A0 g K nn dn q w e v f) (md_Qp (cw A0 g K nn dn q w e v f) (fun r => r = ASD (w 3).toInt x1.toInt x2.toInt (e 35) (e 36) (e 37) (e 38) (e 39))) := by
  refine mt_X10_asked rfl (fun J hC => ?_)
  have ro_nn : cw_ro K nn := hI.2.1.2.1
  have ro_dn : cw_ro K dn := hI.2.1.2.2.1
  have hu1 := hI.2.1
  unfold cw_W at hu1
  have rg_x1 := pm_rng x1
  have rg_x2 := pm_rng x2
  refine hC.1 0 0 _ _ rfl _ _ _ _ _ ?_
  refine Exists.intro _ (And.intro (cw_o0 hI.1) ?_)
  refine And.intro (Exists.intro _ (cw_o9 hI.1)) (Exists.intro _ (Exists.intro _ (Exists.intro _ (Exists.intro _ (And.intro (V_X5_tell hI hs x1 x2 ) (And.intro rfl (fun r9 A9 h9 => ?_)))))))
  obtain ⟨y2, rfl, rfl, by2⟩ := h9
  exact ⟨rfl, fun e9 => absurd e9 (by decide), rfl, y2, rfl, rfl, by assumption⟩

end
end
section
section
variable {l : Launch} {g : pm_G} {A0 : pm_H} {h : Nat} {q : Nat → Nat}
set_option maxRecDepth 100000 in
set_option maxHeartbeats 2000000 in
theorem V_X11_placeBy (D : md_D h q) (v : Nat → Int32) (f : Nat → Nat → Int32) (hv : md_V v) (hf : md_F f) (x1 : Int32) (x2 : Int32)  : pm_Mt l g 279 2 0 0 [.ref h, .int x1, .int x2] (md A0 g h q v f) (md_Qp (md A0 g h q v f) (fun r => (-1 ≤ r.toInt ∧ r.toInt < 160 ∧ (0 ≤ r.toInt → x1.toInt = -1 ∨ 0 ≤ x1.toInt)) ∧ PBR (v 0).toInt (f 1) (v 4).toInt (rNi f) (rM f) x1 x2 r.toInt)) := by
  refine mt_X11_placeBy rfl (fun J hC => ?_)
  have hv9 := hv
  unfold md_V at hv9
  have rg_x1 := pm_rng x1
  have rg_x2 := pm_rng x2
  have rb9 : 0 ≤ (rN f x1.toInt).toInt ∧ (rN f x1.toInt).toInt ≤ 160 := hf 14 _
  refine hC.1 0 0 _ _ rfl _ _ _ _ _ ?_
  have km1 : (-1 : Int32).toInt = -1 := rfl
  refine And.intro (fun c1 => ?_) (fun c1 => ?_)
  · skip
    have dc1 := pm_neI c1
    refine hC.1 1 13 _ _ rfl _ _ _ _ _ ?_
    refine And.intro (Exists.intro _ md_o) (Exists.intro _ (Exists.intro _ (Exists.intro _ (Exists.intro _ (And.intro (c_X11_isKnown D v f hv hf x1 ) (And.intro rfl (fun r9 A9 h9 => ?_)))))))
    rcases h9 with ⟨y2, rfl, rfl, ⟨rfl, by2⟩ | ⟨rfl, by2⟩⟩
    · skip
      have k1 : (1 : Int32).toInt = 1 := rfl
      refine And.intro (fun c9 => absurd c9 (by decide)) (fun _ => ?_)
      refine And.intro (Exists.intro _ md_o) (Exists.intro _ (Exists.intro _ (Exists.intro _ (Exists.intro _ (And.intro (F_X11_wasPlace D v f hv hf x1 x2 (by omega)) (And.intro rfl (fun r9 A9 h9 => ?_)))))))
      obtain ⟨y3, rfl, rfl, by3⟩ := h9
      have yq_9 := by3.2
      have yq_8 := by3.1
      refine hC.1 3 31 _ _ rfl _ _ _ _ _ ?_
      exact ⟨rfl, fun e9 => absurd e9 (by decide), rfl, y3, rfl, rfl, by first | (exact ⟨by omega, Or.inl ⟨by omega, yp_9⟩⟩) | (exact ⟨by omega, Or.inr (Or.inl ⟨by omega, by unfold kno; omega, yq_9⟩)⟩) | (exact ⟨by omega, Or.inr (Or.inr ⟨by omega, by unfold kno; omega, rfl⟩)⟩)⟩
    · skip
      have k0 : (0 : Int32).toInt = 0 := rfl
      refine And.intro (fun _ => ?_) (fun c9 => absurd c9 (by decide))
      refine hC.1 2 30 _ _ rfl _ _ _ _ _ ?_
      refine hC.1 3 31 _ _ rfl _ _ _ _ _ ?_
      exact ⟨rfl, fun e9 => absurd e9 (by decide), rfl, (-1 : Int32), rfl, rfl, by first | (exact ⟨by omega, Or.inl ⟨by omega, yp_9⟩⟩) | (exact ⟨by omega, Or.inr (Or.inl ⟨by omega, by unfold kno; omega, yq_9⟩)⟩) | (exact ⟨by omega, Or.inr (Or.inr ⟨by omega, by unfold kno; omega, rfl⟩)⟩)⟩
  · skip
    have dc1 : (x1).toInt = ((-1 : Int32) : Int32).toInt := congrArg Int32.toInt c1
    refine And.intro (Exists.intro _ md_o) (Exists.intro _ (Exists.intro _ (Exists.intro _ (Exists.intro _ (And.intro (F_X11_placeOf D v f hv hf x2 ) (And.intro rfl (fun r9 A9 h9 => ?_)))))))
    obtain ⟨y4, rfl, rfl, by4⟩ := h9
    have yp_9 := FST_n (by omega) by4.2
    have yp_8 := by4.1
    refine hC.1 3 31 _ _ rfl _ _ _ _ _ ?_
    exact ⟨rfl, fun e9 => absurd e9 (by decide), rfl, y4, rfl, rfl, by first | (exact ⟨by omega, Or.inl ⟨by omega, yp_9⟩⟩) | (exact ⟨by omega, Or.inr (Or.inl ⟨by omega, by unfold kno; omega, yq_9⟩)⟩) | (exact ⟨by omega, Or.inr (Or.inr ⟨by omega, by unfold kno; omega, rfl⟩)⟩)⟩

set_option maxRecDepth 100000 in
set_option maxHeartbeats 2000000 in
theorem V_X11_setBy (D : md_D h q) (v : Nat → Int32) (f : Nat → Nat → Int32) (hv : md_V v) (hf : md_F f) (x1 : Int32) (x2 : Int32) (x3 : Int32) (p0 : x1.toInt = -1 ∨ 0 ≤ x1.toInt) (p1 : 0 ≤ x2.toInt ∧ x2.toInt ≤ 160) (p2 : -1 ≤ x3.toInt ∧ x3.toInt < 160) : pm_Mt l g 280 2 0 0 [.ref h, .int x1, .int x2, .int x3] (md A0 g h q v f) (md_Qp (md A0 g h q v f) (fun r => (x1.toInt = -1 → r = sS (f 0) x2.toInt x3.toInt) ∧ (¬ x1.toInt = -1 → r = sS (rC f x1.toInt) x2.toInt x3.toInt))) := by
  refine mt_X11_setBy rfl (fun J hC => ?_)
  have hv9 := hv
  unfold md_V at hv9
  have rg_x1 := pm_rng x1
  have rg_x2 := pm_rng x2
  have rg_x3 := pm_rng x3
  refine hC.1 0 0 _ _ rfl _ _ _ _ _ ?_
  have km1 : (-1 : Int32).toInt = -1 := rfl
  refine And.intro (fun c1 => ?_) (fun c1 => ?_)
  · skip
    have dc1 := pm_neI c1
    refine hC.1 1 14 _ _ rfl _ _ _ _ _ ?_
    refine And.intro (Exists.intro _ md_o) (Exists.intro _ (Exists.intro _ (Exists.intro _ (Exists.intro _ (And.intro (F_X11_wasSet D v f hv hf x1 x2 x3 (by omega) (by omega) (by omega)) (And.intro rfl (fun r9 A9 h9 => ?_)))))))
    obtain ⟨y2, rfl, rfl, by2⟩ := h9
    have yq_9 := by2
    refine hC.1 2 21 _ _ rfl _ _ _ _ _ ?_
    exact ⟨rfl, fun e9 => absurd e9 (by decide), rfl, y2, rfl, rfl, by first | (exact ⟨fun _ => yp_9, fun h9 => absurd (by omega) h9⟩) | (exact ⟨fun h9 => absurd h9 (by omega), fun _ => yq_9⟩)⟩
  · skip
    have dc1 : (x1).toInt = ((-1 : Int32) : Int32).toInt := congrArg Int32.toInt c1
    refine And.intro (Exists.intro _ md_o) (Exists.intro _ (Exists.intro _ (Exists.intro _ (Exists.intro _ (And.intro (c_X11_setOf D v f hv hf x2 x3 (by omega) (by omega)) (And.intro rfl (fun r9 A9 h9 => ?_)))))))
    obtain ⟨y3, rfl, rfl, by3⟩ := h9
    have yp_9 := by3
    refine hC.1 2 21 _ _ rfl _ _ _ _ _ ?_
    exact ⟨rfl, fun e9 => absurd e9 (by decide), rfl, y3, rfl, rfl, by first | (exact ⟨fun _ => yp_9, fun h9 => absurd (by omega) h9⟩) | (exact ⟨fun h9 => absurd h9 (by omega), fun _ => yq_9⟩)⟩

set_option maxRecDepth 100000 in
set_option maxHeartbeats 2000000 in
theorem V_X11_asks (D : md_D h q) (v : Nat → Int32) (f : Nat → Nat → Int32) (hv : md_V v) (hf : md_F f) (x1 : Int32) (x2 : Int32) (x3 : Int32) (p0 : (v 6).toInt < 30) : pm_Mt l g 276 0 0 0 [.ref h, .int x1, .int x2, .int x3] (md A0 g h q v f) (md_Qw A0 g h q f (fun r v2 f2 => f2 0 = f 0 ∧ f2 1 = f 1 ∧ f2 12 = f 12 ∧ f2 13 = f 13 ∧ f2 14 = f 14 ∧ f2 15 = f 15 ∧ ((v2 0).toInt = (v 0).toInt ∧ (v2 1).toInt = (v 1).toInt ∧ (v2 2).toInt = (v 2).toInt ∧ (v2 3).toInt = (v 3).toInt ∧ (v2 4).toInt = (v 4).toInt ∧ (v2 5).toInt = (v 5).toInt) ∧ (QST True x1 x2 x3 (v 6) (v2 6) r (f 7) (f 8) (f 9) (f 10) (f 11) (f2 7) (f2 8) (f2 9) (f2 10) (f2 11)))) := by
  refine mt_X11_asks rfl (fun J hC => ?_)
  have hv9 := hv
  unfold md_V at hv9
  have rg_x1 := pm_rng x1
  have rg_x2 := pm_rng x2
  have rg_x3 := pm_rng x3
  refine hC.1 0 0 _ _ rfl _ _ _ _ _ ?_
  refine Exists.intro _ (And.intro md_o ?_)
  refine Exists.intro _ (And.intro md_o ?_)
  refine Exists.intro _ (Exists.intro _ (And.intro (md_a_askedOne D) (And.intro (by omega) ?_)))
  rw [md_s_askedOne D]
  obtain ⟨f1, ef1⟩ : ∃ z9, z9 = va_up f 7 (upd (f 7) ((v 6)).toInt.toNat x2) := ⟨_, rfl⟩
  rw [← ef1]
  have pf_9 : f1 7 = upd (f 7) ((v 6)).toInt.toNat x2 := by rw [ef1]; exact if_pos rfl
  have pg_9 : ∀ i9, i9 ≠ 7 → f1 i9 = f i9 := fun i9 h9 => by rw [ef1]; exact if_neg h9
  have hf1 : md_F f1 := by rw [ef1]; exact md_F_st hf 7 _ _ (md_rng _ _ (by decide))
  have hw1 : f1 2 = f 2 := (show f1 2 = f 2 by rw [ef1]; rfl).trans rfl
  have hr1_0 : f1 0 = f 0 := (show f1 0 = f 0 by rw [ef1]; rfl).trans rfl
  have hr1_1 : f1 1 = f 1 := (show f1 1 = f 1 by rw [ef1]; rfl).trans rfl
  have hr1_12 : f1 12 = f 12 := (show f1 12 = f 12 by rw [ef1]; rfl).trans rfl
  have hr1_13 : f1 13 = f 13 := (show f1 13 = f 13 by rw [ef1]; rfl).trans rfl
  have hr1_14 : f1 14 = f 14 := (show f1 14 = f 14 by rw [ef1]; rfl).trans rfl
  have hr1_15 : f1 15 = f 15 := (show f1 15 = f 15 by rw [ef1]; rfl).trans rfl
  refine Exists.intro _ (And.intro md_o ?_)
  refine Exists.intro _ (And.intro md_o ?_)
  refine Exists.intro _ (Exists.intro _ (And.intro (md_a_askedOther D) (And.intro (by omega) ?_)))
  rw [md_s_askedOther D]
  obtain ⟨f2, ef2⟩ : ∃ z9, z9 = va_up f1 8 (upd (f1 8) ((v 6)).toInt.toNat x3) := ⟨_, rfl⟩
  rw [← ef2]
  have pf_19 : f2 8 = upd (f1 8) ((v 6)).toInt.toNat x3 := by rw [ef2]; exact if_pos rfl
  have pg_19 : ∀ i9, i9 ≠ 8 → f2 i9 = f1 i9 := fun i9 h9 => by rw [ef2]; exact if_neg h9
  have hf2 : md_F f2 := by rw [ef2]; exact md_F_st hf1 8 _ _ (md_rng _ _ (by decide))
  have hw2 : f2 2 = f 2 := (show f2 2 = f1 2 by rw [ef2]; rfl).trans hw1
  have hr2_0 : f2 0 = f 0 := (show f2 0 = f1 0 by rw [ef2]; rfl).trans hr1_0
  have hr2_1 : f2 1 = f 1 := (show f2 1 = f1 1 by rw [ef2]; rfl).trans hr1_1
  have hr2_12 : f2 12 = f 12 := (show f2 12 = f1 12 by rw [ef2]; rfl).trans hr1_12
  have hr2_13 : f2 13 = f 13 := (show f2 13 = f1 13 by rw [ef2]; rfl).trans hr1_13
  have hr2_14 : f2 14 = f 14 := (show f2 14 = f1 14 by rw [ef2]; rfl).trans hr1_14
  have hr2_15 : f2 15 = f 15 := (show f2 15 = f1 15 by rw [ef2]; rfl).trans hr1_15
  refine Exists.intro _ (And.intro md_o ?_)
  refine Exists.intro _ (And.intro md_o ?_)
  refine Exists.intro _ (Exists.intro _ (And.intro (md_a_askedEdit D) (And.intro (by omega) ?_)))
  rw [md_s_askedEdit D]
  obtain ⟨f3, ef3⟩ : ∃ z9, z9 = va_up f2 11 (upd (f2 11) ((v 6)).toInt.toNat x1) := ⟨_, rfl⟩
  rw [← ef3]
  have pf_29 : f3 11 = upd (f2 11) ((v 6)).toInt.toNat x1 := by rw [ef3]; exact if_pos rfl
  have pg_29 : ∀ i9, i9 ≠ 11 → f3 i9 = f2 i9 := fun i9 h9 => by rw [ef3]; exact if_neg h9
  have hf3 : md_F f3 := by rw [ef3]; exact md_F_st hf2 11 _ _ (md_rng _ _ (by decide))
  have hw3 : f3 2 = f 2 := (show f3 2 = f2 2 by rw [ef3]; rfl).trans hw2
  have hr3_0 : f3 0 = f 0 := (show f3 0 = f2 0 by rw [ef3]; rfl).trans hr2_0
  have hr3_1 : f3 1 = f 1 := (show f3 1 = f2 1 by rw [ef3]; rfl).trans hr2_1
  have hr3_12 : f3 12 = f 12 := (show f3 12 = f2 12 by rw [ef3]; rfl).trans hr2_12
  have hr3_13 : f3 13 = f 13 := (show f3 13 = f2 13 by rw [ef3]; rfl).trans hr2_13
  have hr3_14 : f3 14 = f 14 := (show f3 14 = f2 14 by rw [ef3]; rfl).trans hr2_14
  have hr3_15 : f3 15 = f 15 := (show f3 15 = f2 15 by rw [ef3]; rfl).trans hr2_15
  refine Exists.intro _ (And.intro md_o ?_)
  refine Exists.intro _ (And.intro md_o ?_)
  have km1 : (-1 : Int32).toInt = -1 := rfl
  refine Exists.intro _ (Exists.intro _ (And.intro (md_a_answerCount D) (And.intro (by omega) ?_)))
  rw [md_s_answerCount D]
  obtain ⟨f4, ef4⟩ : ∃ z9, z9 = va_up f3 9 (upd (f3 9) ((v 6)).toInt.toNat (-1 : Int32)) := ⟨_, rfl⟩
  rw [← ef4]
  have pf_39 : f4 9 = upd (f3 9) ((v 6)).toInt.toNat (-1 : Int32) := by rw [ef4]; exact if_pos rfl
  have pg_39 : ∀ i9, i9 ≠ 9 → f4 i9 = f3 i9 := fun i9 h9 => by rw [ef4]; exact if_neg h9
  have hf4 : md_F f4 := by rw [ef4]; exact md_F_st hf3 9 _ _ (md_rng _ _ (by decide))
  have hw4 : f4 2 = f 2 := (show f4 2 = f3 2 by rw [ef4]; rfl).trans hw3
  have hr4_0 : f4 0 = f 0 := (show f4 0 = f3 0 by rw [ef4]; rfl).trans hr3_0
  have hr4_1 : f4 1 = f 1 := (show f4 1 = f3 1 by rw [ef4]; rfl).trans hr3_1
  have hr4_12 : f4 12 = f 12 := (show f4 12 = f3 12 by rw [ef4]; rfl).trans hr3_12
  have hr4_13 : f4 13 = f 13 := (show f4 13 = f3 13 by rw [ef4]; rfl).trans hr3_13
  have hr4_14 : f4 14 = f 14 := (show f4 14 = f3 14 by rw [ef4]; rfl).trans hr3_14
  have hr4_15 : f4 15 = f 15 := (show f4 15 = f3 15 by rw [ef4]; rfl).trans hr3_15
  refine Exists.intro _ (And.intro md_o ?_)
  refine Exists.intro _ (And.intro md_o ?_)
  refine Exists.intro _ (Exists.intro _ (And.intro (md_a_answerWeight D) (And.intro (by omega) ?_)))
  rw [md_s_answerWeight D]
  obtain ⟨f5, ef5⟩ : ∃ z9, z9 = va_up f4 10 (upd (f4 10) ((v 6)).toInt.toNat (-1 : Int32)) := ⟨_, rfl⟩
  rw [← ef5]
  have pf_49 : f5 10 = upd (f4 10) ((v 6)).toInt.toNat (-1 : Int32) := by rw [ef5]; exact if_pos rfl
  have pg_49 : ∀ i9, i9 ≠ 10 → f5 i9 = f4 i9 := fun i9 h9 => by rw [ef5]; exact if_neg h9
  have hf5 : md_F f5 := by rw [ef5]; exact md_F_st hf4 10 _ _ (md_rng _ _ (by decide))
  have hw5 : f5 2 = f 2 := (show f5 2 = f4 2 by rw [ef5]; rfl).trans hw4
  have hr5_0 : f5 0 = f 0 := (show f5 0 = f4 0 by rw [ef5]; rfl).trans hr4_0
  have hr5_1 : f5 1 = f 1 := (show f5 1 = f4 1 by rw [ef5]; rfl).trans hr4_1
  have hr5_12 : f5 12 = f 12 := (show f5 12 = f4 12 by rw [ef5]; rfl).trans hr4_12
  have hr5_13 : f5 13 = f 13 := (show f5 13 = f4 13 by rw [ef5]; rfl).trans hr4_13
  have hr5_14 : f5 14 = f 14 := (show f5 14 = f4 14 by rw [ef5]; rfl).trans hr4_14
  have hr5_15 : f5 15 = f 15 := (show f5 15 = f4 15 by rw [ef5]; rfl).trans hr4_15
  refine Exists.intro _ (And.intro md_o ?_)
  have k1 : (1 : Int32).toInt = 1 := rfl
  intro m6 em_56
  try have e6 : m6.toInt = ((v 6)).toInt + (1) := by rw [em_56]; exact pm_addc _ _ (1) rfl (by omega) (by omega)
  refine Exists.intro _ (And.intro md_o (And.intro rfl ?_))
  rw [md_p_askedMany D]
  obtain ⟨v7, ev7⟩ : ∃ z9, z9 = upd v 6 m6 := ⟨_, rfl⟩
  rw [← ev7]
  have ev7_0 : (v7 0).toInt = (v 0).toInt := by rw [ev7]; rfl
  have ev7_1 : (v7 1).toInt = (v 1).toInt := by rw [ev7]; rfl
  have ev7_2 : (v7 2).toInt = (v 2).toInt := by rw [ev7]; rfl
  have ev7_3 : (v7 3).toInt = (v 3).toInt := by rw [ev7]; rfl
  have ev7_4 : (v7 4).toInt = (v 4).toInt := by rw [ev7]; rfl
  have ev7_5 : (v7 5).toInt = (v 5).toInt := by rw [ev7]; rfl
  have ev7_6 : (v7 6).toInt = (m6).toInt := by rw [ev7]; rfl
  have ev7_7 : (v7 7).toInt = (v 7).toInt := by rw [ev7]; rfl
  have pn_57 : v7 6 = m6 := by rw [ev7]; rfl
  refine Exists.intro _ (And.intro md_o ?_)
  intro m8 em_65
  try have e8 : m8.toInt = ((v7 6)).toInt - (1) := by rw [em_65]; exact pm_subc _ _ (1) rfl (by omega) (by omega)
  have hv9 : md_V v7 := by unfold md_V; omega
  exact ⟨rfl, fun e9 => absurd e9 (by decide), rfl, m8, v7, f5, rfl, rfl, hv9, hf5, hw5, hr5_0, hr5_1, hr5_12, hr5_13, hr5_14, hr5_15, by first | omega | (dsimp only; omega) | trivial, by refine Or.inr ⟨trivial, pn_57.trans em_56, pm_eqI (by omega), ?_, ?_, ?_, ?_, ?_⟩; (rw [pg_49 7 (by decide), pg_39 7 (by decide), pg_29 7 (by decide), pg_19 7 (by decide), pf_9]); (rw [pg_49 8 (by decide), pg_39 8 (by decide), pg_29 8 (by decide), pf_19, pg_9 8 (by decide)]); (rw [pg_49 9 (by decide), pf_39, pg_29 9 (by decide), pg_19 9 (by decide), pg_9 9 (by decide)]); (rw [pf_49, pg_39 10 (by decide), pg_29 10 (by decide), pg_19 10 (by decide), pg_9 10 (by decide)]); (rw [pg_49 11 (by decide), pg_39 11 (by decide), pf_29, pg_19 11 (by decide), pg_9 11 (by decide)])⟩

set_option maxRecDepth 100000 in
set_option maxHeartbeats 2000000 in
theorem V_X11_ask (D : md_D h q) (v : Nat → Int32) (f : Nat → Nat → Int32) (hv : md_V v) (hf : md_F f) (x1 : Int32) (x2 : Int32)  : pm_Mt l g 275 2 0 0 [.ref h, .int x1, .int x2] (md A0 g h q v f) (md_Qw A0 g h q f (fun r v2 f2 => f2 0 = f 0 ∧ f2 1 = f 1 ∧ f2 12 = f 12 ∧ f2 13 = f 13 ∧ f2 14 = f 14 ∧ f2 15 = f 15 ∧ ((v2 0).toInt = (v 0).toInt ∧ (v2 1).toInt = (v 1).toInt ∧ (v2 2).toInt = (v 2).toInt ∧ (v2 3).toInt = (v 3).toInt ∧ (v2 4).toInt = (v 4).toInt ∧ (v2 5).toInt = (v 5).toInt) ∧ (QST ((v 6).toInt < 30 ∧ (0 ≤ x1.toInt ∧ 0 ≤ nextEq (f 1) x1 0 (v 0).toInt.toNat) ∧ (0 ≤ x2.toInt ∧ 0 ≤ nextEq (f 1) x2 0 (v 0).toInt.toNat)) (-1) x1 x2 (v 6) (v2 6) r (f 7) (f 8) (f 9) (f 10) (f 11) (f2 7) (f2 8) (f2 9) (f2 10) (f2 11)))) := by
  refine mt_X11_ask rfl (fun J hC => ?_)
  have hv9 := hv
  unfold md_V at hv9
  have rg_x1 := pm_rng x1
  have rg_x2 := pm_rng x2
  refine hC.1 0 0 _ _ rfl _ _ _ _ _ ?_
  refine Exists.intro _ (And.intro md_o ?_)
  have k30 : (30 : Int32).toInt = 30 := rfl
  refine And.intro (fun c1 => ?_) (fun c1 => ?_)
  · skip
    refine hC.1 1 35 _ _ rfl _ _ _ _ _ ?_
    have km1 : (-1 : Int32).toInt = -1 := rfl
    refine hC.1 2 36 _ _ rfl _ _ _ _ _ ?_
    exact ⟨rfl, fun e9 => absurd e9 (by decide), rfl, (-1 : Int32), v, f, rfl, rfl, hv, hf, rfl, rfl, rfl, rfl, rfl, rfl, rfl, by first | omega | (dsimp only; omega) | trivial, by first | (exact QST_i yf_9 ⟨fun _ => (by omega), fun _ => trivial⟩) | (exact Or.inl ⟨fun h9 => (by omega), rfl, rfl, rfl, rfl, rfl, rfl, rfl⟩)⟩
  · skip
    refine And.intro (Exists.intro _ md_o) (Exists.intro _ (Exists.intro _ (Exists.intro _ (Exists.intro _ (And.intro (F_X11_place D v f hv hf x1 ) (And.intro rfl (fun r9 A9 h9 => ?_)))))))
    obtain ⟨y2, rfl, rfl, by2⟩ := h9
    have ya_9 := PLN (by omega) by2.2
    refine And.intro (fun c3 => ?_) (fun c3 => ?_)
    · skip
      refine hC.1 1 35 _ _ rfl _ _ _ _ _ ?_
      have km1 : (-1 : Int32).toInt = -1 := rfl
      refine hC.1 2 36 _ _ rfl _ _ _ _ _ ?_
      exact ⟨rfl, fun e9 => absurd e9 (by decide), rfl, (-1 : Int32), v, f, rfl, rfl, hv, hf, rfl, rfl, rfl, rfl, rfl, rfl, rfl, by first | omega | (dsimp only; omega) | trivial, by first | (exact QST_i yf_9 ⟨fun _ => (by omega), fun _ => trivial⟩) | (exact Or.inl ⟨fun h9 => (by omega), rfl, rfl, rfl, rfl, rfl, rfl, rfl⟩)⟩
    · skip
      refine And.intro (Exists.intro _ md_o) (Exists.intro _ (Exists.intro _ (Exists.intro _ (Exists.intro _ (And.intro (F_X11_place D v f hv hf x2 ) (And.intro rfl (fun r9 A9 h9 => ?_)))))))
      obtain ⟨y4, rfl, rfl, by4⟩ := h9
      have yb_9 := PLN (by omega) by4.2
      refine And.intro (fun c5 => ?_) (fun c5 => ?_)
      · skip
        refine hC.1 1 35 _ _ rfl _ _ _ _ _ ?_
        have km1 : (-1 : Int32).toInt = -1 := rfl
        refine hC.1 2 36 _ _ rfl _ _ _ _ _ ?_
        exact ⟨rfl, fun e9 => absurd e9 (by decide), rfl, (-1 : Int32), v, f, rfl, rfl, hv, hf, rfl, rfl, rfl, rfl, rfl, rfl, rfl, by first | omega | (dsimp only; omega) | trivial, by first | (exact QST_i yf_9 ⟨fun _ => (by omega), fun _ => trivial⟩) | (exact Or.inl ⟨fun h9 => (by omega), rfl, rfl, rfl, rfl, rfl, rfl, rfl⟩)⟩
      · skip
        have km1 : (-1 : Int32).toInt = -1 := rfl
        refine And.intro (Exists.intro _ md_o) (Exists.intro _ (Exists.intro _ (Exists.intro _ (Exists.intro _ (And.intro (V_X11_asks D v f hv hf (-1 : Int32) x1 x2 (by omega)) (And.intro rfl (fun r9 A9 h9 => ?_)))))))
        obtain ⟨y6, v7, f7, rfl, rfl, hv7, hf7, hx7, hg7_0, hg7_1, hg7_12, hg7_13, hg7_14, hg7_15, by6⟩ := h9
        have hw7 : f7 2 = f 2 := hx7.trans rfl
        have hr7_0 : f7 0 = f 0 := hg7_0.trans rfl
        have hr7_1 : f7 1 = f 1 := hg7_1.trans rfl
        have hr7_12 : f7 12 = f 12 := hg7_12.trans rfl
        have hr7_13 : f7 13 = f 13 := hg7_13.trans rfl
        have hr7_14 : f7 14 = f 14 := hg7_14.trans rfl
        have hr7_15 : f7 15 = f 15 := hg7_15.trans rfl
        have hu8_6 := hv7.2.2.2.2.2
        have yf_9 := by6.2
        refine hC.1 2 36 _ _ rfl _ _ _ _ _ ?_
        exact ⟨rfl, fun e9 => absurd e9 (by decide), rfl, y6, v7, f7, rfl, rfl, hv7, hf7, hw7, hr7_0, hr7_1, hr7_12, hr7_13, hr7_14, hr7_15, by first | omega | (dsimp only; omega) | trivial, by first | (exact QST_i yf_9 ⟨fun _ => (by omega), fun _ => trivial⟩) | (exact Or.inl ⟨fun h9 => (by omega), rfl, rfl, rfl, rfl, rfl, rfl, rfl⟩)⟩

set_option maxRecDepth 100000 in
set_option maxHeartbeats 2000000 in
theorem V_X11_askOf (D : md_D h q) (v : Nat → Int32) (f : Nat → Nat → Int32) (hv : md_V v) (hf : md_F f) (x1 : Int32) (x2 : Int32) (x3 : Int32)  : pm_Mt l g 277 2 0 0 [.ref h, .int x1, .int x2, .int x3] (md A0 g h q v f) (md_Qw A0 g h q f (fun r v2 f2 => f2 0 = f 0 ∧ f2 1 = f 1 ∧ f2 12 = f 12 ∧ f2 13 = f 13 ∧ f2 14 = f 14 ∧ f2 15 = f 15 ∧ ((v2 0).toInt = (v 0).toInt ∧ (v2 1).toInt = (v 1).toInt ∧ (v2 2).toInt = (v 2).toInt ∧ (v2 3).toInt = (v 3).toInt ∧ (v2 4).toInt = (v 4).toInt ∧ (v2 5).toInt = (v 5).toInt) ∧ (QST ((v 6).toInt < 30 ∧ kno (v 4).toInt x1.toInt ∧ (0 ≤ x2.toInt ∧ 0 ≤ nextEq (rM f x1.toInt) x2 0 (rN f x1.toInt).toInt.toNat) ∧ (0 ≤ x3.toInt ∧ 0 ≤ nextEq (rM f x1.toInt) x3 0 (rN f x1.toInt).toInt.toNat)) x1 x2 x3 (v 6) (v2 6) r (f 7) (f 8) (f 9) (f 10) (f 11) (f2 7) (f2 8) (f2 9) (f2 10) (f2 11)))) := by
  refine mt_X11_askOf rfl (fun J hC => ?_)
  have hv9 := hv
  unfold md_V at hv9
  have rg_x1 := pm_rng x1
  have rg_x2 := pm_rng x2
  have rg_x3 := pm_rng x3
  have rb9 : 0 ≤ (rN f x1.toInt).toInt ∧ (rN f x1.toInt).toInt ≤ 160 := hf 14 _
  refine hC.1 0 0 _ _ rfl _ _ _ _ _ ?_
  refine Exists.intro _ (And.intro md_o ?_)
  have k30 : (30 : Int32).toInt = 30 := rfl
  refine And.intro (fun c1 => ?_) (fun c1 => ?_)
  · skip
    have dc1 : ((v 6)).toInt = ((30 : Int32) : Int32).toInt := congrArg Int32.toInt c1
    refine hC.1 1 43 _ _ rfl _ _ _ _ _ ?_
    have km1 : (-1 : Int32).toInt = -1 := rfl
    exact ⟨rfl, fun e9 => absurd e9 (by decide), rfl, (-1 : Int32), v, f, rfl, rfl, hv, hf, rfl, rfl, rfl, rfl, rfl, rfl, rfl, by first | omega | (dsimp only; omega) | trivial, by first | (exact QST_i yf_9 ⟨fun _ => ⟨by omega, by unfold kno; omega, by omega, by omega⟩, fun _ => trivial⟩) | (exact Or.inl ⟨fun h9 => (by have h8 := h9.2.1; have h7 := h9.2.2; unfold kno at h8; omega), rfl, rfl, rfl, rfl, rfl, rfl, rfl⟩)⟩
  · skip
    have dc1 := pm_neI c1
    refine And.intro (Exists.intro _ md_o) (Exists.intro _ (Exists.intro _ (Exists.intro _ (Exists.intro _ (And.intro (c_X11_isKnown D v f hv hf x1 ) (And.intro rfl (fun r9 A9 h9 => ?_)))))))
    rcases h9 with ⟨y2, rfl, rfl, ⟨rfl, by2⟩ | ⟨rfl, by2⟩⟩
    · skip
      have k1 : (1 : Int32).toInt = 1 := rfl
      refine And.intro (fun c9 => absurd c9 (by decide)) (fun _ => ?_)
      refine And.intro (fun c3 => ?_) (fun c3 => ?_)
      · skip
        refine hC.1 1 43 _ _ rfl _ _ _ _ _ ?_
        have km1 : (-1 : Int32).toInt = -1 := rfl
        exact ⟨rfl, fun e9 => absurd e9 (by decide), rfl, (-1 : Int32), v, f, rfl, rfl, hv, hf, rfl, rfl, rfl, rfl, rfl, rfl, rfl, by first | omega | (dsimp only; omega) | trivial, by first | (exact QST_i yf_9 ⟨fun _ => ⟨by omega, by unfold kno; omega, by omega, by omega⟩, fun _ => trivial⟩) | (exact Or.inl ⟨fun h9 => (by have h8 := h9.2.1; have h7 := h9.2.2; unfold kno at h8; omega), rfl, rfl, rfl, rfl, rfl, rfl, rfl⟩)⟩
      · skip
        refine And.intro (fun c4 => ?_) (fun c4 => ?_)
        · skip
          refine hC.1 1 43 _ _ rfl _ _ _ _ _ ?_
          have km1 : (-1 : Int32).toInt = -1 := rfl
          exact ⟨rfl, fun e9 => absurd e9 (by decide), rfl, (-1 : Int32), v, f, rfl, rfl, hv, hf, rfl, rfl, rfl, rfl, rfl, rfl, rfl, by first | omega | (dsimp only; omega) | trivial, by first | (exact QST_i yf_9 ⟨fun _ => ⟨by omega, by unfold kno; omega, by omega, by omega⟩, fun _ => trivial⟩) | (exact Or.inl ⟨fun h9 => (by have h8 := h9.2.1; have h7 := h9.2.2; unfold kno at h8; omega), rfl, rfl, rfl, rfl, rfl, rfl, rfl⟩)⟩
        · skip
          refine And.intro (Exists.intro _ md_o) (Exists.intro _ (Exists.intro _ (Exists.intro _ (Exists.intro _ (And.intro (F_X11_wasPlace D v f hv hf x1 x2 (by omega)) (And.intro rfl (fun r9 A9 h9 => ?_)))))))
          obtain ⟨y5, rfl, rfl, by5⟩ := h9
          have ya_9 := by5.2
          refine And.intro (fun c6 => ?_) (fun c6 => ?_)
          · skip
            refine hC.1 1 43 _ _ rfl _ _ _ _ _ ?_
            have km1 : (-1 : Int32).toInt = -1 := rfl
            exact ⟨rfl, fun e9 => absurd e9 (by decide), rfl, (-1 : Int32), v, f, rfl, rfl, hv, hf, rfl, rfl, rfl, rfl, rfl, rfl, rfl, by first | omega | (dsimp only; omega) | trivial, by first | (exact QST_i yf_9 ⟨fun _ => ⟨by omega, by unfold kno; omega, by omega, by omega⟩, fun _ => trivial⟩) | (exact Or.inl ⟨fun h9 => (by have h8 := h9.2.1; have h7 := h9.2.2; unfold kno at h8; omega), rfl, rfl, rfl, rfl, rfl, rfl, rfl⟩)⟩
          · skip
            refine And.intro (Exists.intro _ md_o) (Exists.intro _ (Exists.intro _ (Exists.intro _ (Exists.intro _ (And.intro (F_X11_wasPlace D v f hv hf x1 x3 (by omega)) (And.intro rfl (fun r9 A9 h9 => ?_)))))))
            obtain ⟨y7, rfl, rfl, by7⟩ := h9
            have yb_9 := by7.2
            refine And.intro (fun c8 => ?_) (fun c8 => ?_)
            · skip
              refine hC.1 2 45 _ _ rfl _ _ _ _ _ ?_
              refine And.intro (Exists.intro _ md_o) (Exists.intro _ (Exists.intro _ (Exists.intro _ (Exists.intro _ (And.intro (V_X11_asks D v f hv hf x1 x2 x3 (by omega)) (And.intro rfl (fun r9 A9 h9 => ?_)))))))
              obtain ⟨y9, v10, f10, rfl, rfl, hv10, hf10, hx10, hg10_0, hg10_1, hg10_12, hg10_13, hg10_14, hg10_15, by9⟩ := h9
              have hw10 : f10 2 = f 2 := hx10.trans rfl
              have hr10_0 : f10 0 = f 0 := hg10_0.trans rfl
              have hr10_1 : f10 1 = f 1 := hg10_1.trans rfl
              have hr10_12 : f10 12 = f 12 := hg10_12.trans rfl
              have hr10_13 : f10 13 = f 13 := hg10_13.trans rfl
              have hr10_14 : f10 14 = f 14 := hg10_14.trans rfl
              have hr10_15 : f10 15 = f 15 := hg10_15.trans rfl
              have hu11_6 := hv10.2.2.2.2.2
              have yf_9 := by9.2
              exact ⟨rfl, fun e9 => absurd e9 (by decide), rfl, y9, v10, f10, rfl, rfl, hv10, hf10, hw10, hr10_0, hr10_1, hr10_12, hr10_13, hr10_14, hr10_15, by first | omega | (dsimp only; omega) | trivial, by first | (exact QST_i yf_9 ⟨fun _ => ⟨by omega, by unfold kno; omega, by omega, by omega⟩, fun _ => trivial⟩) | (exact Or.inl ⟨fun h9 => (by have h8 := h9.2.1; have h7 := h9.2.2; unfold kno at h8; omega), rfl, rfl, rfl, rfl, rfl, rfl, rfl⟩)⟩
            · skip
              refine hC.1 1 43 _ _ rfl _ _ _ _ _ ?_
              have km1 : (-1 : Int32).toInt = -1 := rfl
              exact ⟨rfl, fun e9 => absurd e9 (by decide), rfl, (-1 : Int32), v, f, rfl, rfl, hv, hf, rfl, rfl, rfl, rfl, rfl, rfl, rfl, by first | omega | (dsimp only; omega) | trivial, by first | (exact QST_i yf_9 ⟨fun _ => ⟨by omega, by unfold kno; omega, by omega, by omega⟩, fun _ => trivial⟩) | (exact Or.inl ⟨fun h9 => (by have h8 := h9.2.1; have h7 := h9.2.2; unfold kno at h8; omega), rfl, rfl, rfl, rfl, rfl, rfl, rfl⟩)⟩
    · skip
      have k0 : (0 : Int32).toInt = 0 := rfl
      refine And.intro (fun _ => ?_) (fun c9 => absurd c9 (by decide))
      refine hC.1 1 43 _ _ rfl _ _ _ _ _ ?_
      have km1 : (-1 : Int32).toInt = -1 := rfl
      exact ⟨rfl, fun e9 => absurd e9 (by decide), rfl, (-1 : Int32), v, f, rfl, rfl, hv, hf, rfl, rfl, rfl, rfl, rfl, rfl, rfl, by first | omega | (dsimp only; omega) | trivial, by first | (exact QST_i yf_9 ⟨fun _ => ⟨by omega, by unfold kno; omega, by omega, by omega⟩, fun _ => trivial⟩) | (exact Or.inl ⟨fun h9 => (by have h8 := h9.2.1; have h7 := h9.2.2; unfold kno at h8; omega), rfl, rfl, rfl, rfl, rfl, rfl, rfl⟩)⟩

end
end
section
section
variable {l : Launch} {g : pm_G} {A0 : pm_H} {h : Nat} {q : Nat → Nat}
set_option maxRecDepth 100000 in
set_option maxHeartbeats 2000000 in
theorem V_X11_solve (D : md_D h q) (v : Nat → Int32) (f : Nat → Nat → Int32) (hv : md_V v) (hf : md_F f)  : pm_Mt l g 278 3 0 0 [.ref h] (md A0 g h q v f) (md_Qw A0 g h q f (fun r v2 f2 => f2 0 = f 0 ∧ f2 1 = f 1 ∧ f2 12 = f 12 ∧ f2 13 = f 13 ∧ f2 14 = f 14 ∧ f2 15 = f 15 ∧ f2 7 = f 7 ∧ f2 8 = f 8 ∧ f2 11 = f 11 ∧ ((v2 0).toInt = (v 0).toInt ∧ (v2 1).toInt = (v 1).toInt ∧ (v2 2).toInt = (v 2).toInt ∧ (v2 3).toInt = (v 3).toInt ∧ (v2 4).toInt = (v 4).toInt ∧ (v2 5).toInt = (v 5).toInt ∧ (v2 6).toInt = (v 6).toInt) ∧ ((∀ j9 : Nat, (j9 : Int) < (v 6).toInt → AKI (f 0) (f 1) (f 2) (v 0).toInt (v 4).toInt (rNi f) (rC f) (rM f) (f 11 j9) (f 7 j9) (f 8 j9) (f2 9 j9) (f2 10 j9)) ∧ r.toInt = cnA (f2 9) (v 6).toInt.toNat))) := by
  refine mt_X11_solve rfl (fun J hC => ?_)
  have hv9 := hv
  unfold md_V at hv9
  refine hC.1 0 0 _ _ rfl _ _ _ _ _ ?_
  have k0 : (0 : Int32).toInt = 0 := rfl
  have lp2 : ∀ (n : Nat) (z1_4 : Int32) (z2_4 : Int32) (v1 : Nat → Int32) (f1 : Nat → Nat → Int32), md_V v1 → md_F f1 → f1 2 = f 2 → f1 0 = f 0 → f1 1 = f 1 → f1 12 = f 12 → f1 13 = f 13 → f1 14 = f 14 → f1 15 = f 15 → f1 7 = f 7 → f1 8 = f 8 → f1 11 = f 11 → (0 ≤ z2_4.toInt ∧ z2_4.toInt ≤ (v 6).toInt) → (z1_4.toInt = cnA (f1 9) z2_4.toInt.toNat) → (∀ j9 : Nat, (j9 : Int) < z2_4.toInt → AKI (f 0) (f 1) (f 2) (v 0).toInt (v 4).toInt (rNi f) (rC f) (rM f) (f 11 j9) (f 7 j9) (f 8 j9) (f1 9 j9) (f1 10 j9)) → (v1 0).toInt = (v 0).toInt → (v1 1).toInt = (v 1).toInt → (v1 2).toInt = (v 2).toInt → (v1 3).toInt = (v 3).toInt → (v1 4).toInt = (v 4).toInt → (v1 5).toInt = (v 5).toInt → (v1 6).toInt = (v 6).toInt → 200 - z2_4.toInt < (n : Int) → J 4 [some (.ref h), some (.int z1_4), some (.int z2_4), none, none, none, none] [] (md A0 g h q v1 f1) 0 0 := by
    intro n
    induction n with
    | zero =>
      intro z1_4 z2_4 v1 f1 hv1 hf1 hw1 hr1_0 hr1_1 hr1_12 hr1_13 hr1_14 hr1_15 hr1_7 hr1_8 hr1_11 j0_4 j1_4 j2_4 j3_4 j4_4 j5_4 j6_4 j7_4 j8_4 j9_4 j10_4
      omega
    | succ n ih3 =>
      intro z1_4 z2_4 v1 f1 hv1 hf1 hw1 hr1_0 hr1_1 hr1_12 hr1_13 hr1_14 hr1_15 hr1_7 hr1_8 hr1_11 j0_4 j1_4 j2_4 j3_4 j4_4 j5_4 j6_4 j7_4 j8_4 j9_4 j10_4
      have yn_9 := cnA_r (f1 9) z2_4.toInt.toNat
      have l0_9 := hr1_0
      have l1_9 := hr1_1
      have l7_9 := hr1_7
      have l8_9 := hr1_8
      have l11_9 := hr1_11
      have l12_9 := hr1_12
      have l13_9 := hr1_13
      have l14_9 := hr1_14
      have lf_9 := hf1
      have lN_9 : rNi f1 = rNi f := (by unfold rNi rN; rw [l14_9])
      have lC_9 : rC f1 = rC f := (by unfold rC; rw [l12_9])
      have lM_9 : rM f1 = rM f := (by unfold rM; rw [l13_9])
      have lv0_9 : (v1 0).toInt = (v 0).toInt := (by omega)
      have lv4_9 : (v1 4).toInt = (v 4).toInt := (by omega)
      refine hC.1 1 4 _ _ rfl _ _ _ _ _ ?_
      refine Exists.intro _ (And.intro md_o ?_)
      refine And.intro (fun c5 => ?_) (fun c5 => ?_)
      · skip
        refine hC.1 13 169 _ _ rfl _ _ _ _ _ ?_
        exact ⟨rfl, fun e9 => absurd e9 (by decide), rfl, z1_4, v1, f1, rfl, rfl, hv1, hf1, hw1, hr1_0, hr1_1, hr1_12, hr1_13, hr1_14, hr1_15, hr1_7, hr1_8, hr1_11, by first | omega | (dsimp only; omega) | trivial, by refine ⟨fun j9 h9 => j2_4 j9 (by omega), ?_⟩; refine Eq.trans j1_4 ?_; rw [show z2_4.toInt.toNat = (v 6).toInt.toNat by omega]⟩
      · skip
        refine Exists.intro _ (And.intro md_o ?_)
        refine Exists.intro _ (Exists.intro _ (And.intro (Or.inl (md_a_askedEdit D)) (And.intro (by omega) ?_)))
        refine Exists.intro _ (And.intro md_o ?_)
        refine Exists.intro _ (Exists.intro _ (And.intro (Or.inl (md_a_askedOne D)) (And.intro (by omega) ?_)))
        refine And.intro (Exists.intro _ md_o) (Exists.intro _ (Exists.intro _ (Exists.intro _ (Exists.intro _ (And.intro (V_X11_placeBy D v1 f1 hv1 hf1 (f1 11 (z2_4).toInt.toNat) (f1 7 (z2_4).toInt.toNat) ) (And.intro rfl (fun r9 A9 h9 => ?_)))))))
        obtain ⟨y6, rfl, rfl, by6⟩ := h9
        have yp_9 := by6.2
        rw [lv0_9, lv4_9, l1_9, lN_9, lM_9, l7_9, l11_9] at yp_9
        have yp_8 := by6.1
        refine Exists.intro _ (And.intro md_o ?_)
        refine Exists.intro _ (Exists.intro _ (And.intro (Or.inl (md_a_askedEdit D)) (And.intro (by omega) ?_)))
        refine Exists.intro _ (And.intro md_o ?_)
        refine Exists.intro _ (Exists.intro _ (And.intro (Or.inl (md_a_askedOther D)) (And.intro (by omega) ?_)))
        refine And.intro (Exists.intro _ md_o) (Exists.intro _ (Exists.intro _ (Exists.intro _ (Exists.intro _ (And.intro (V_X11_placeBy D v1 f1 hv1 hf1 (f1 11 (z2_4).toInt.toNat) (f1 8 (z2_4).toInt.toNat) ) (And.intro rfl (fun r9 A9 h9 => ?_)))))))
        obtain ⟨y7, rfl, rfl, by7⟩ := h9
        have yq_9 := by7.2
        rw [lv0_9, lv4_9, l1_9, lN_9, lM_9, l8_9, l11_9] at yq_9
        have yq_8 := by7.1
        refine And.intro (fun c8 => ?_) (fun c8 => ?_)
        · skip
          refine hC.1 2 60 _ _ rfl _ _ _ _ _ ?_
          refine hC.1 3 61 _ _ rfl _ _ _ _ _ ?_
          refine And.intro (fun c9 => absurd c9 (by decide)) (fun _ => ?_)
          refine hC.1 6 107 _ _ rfl _ _ _ _ _ ?_
          refine Exists.intro _ (And.intro md_o ?_)
          refine And.intro (fun _ => ?_) (fun c9 => absurd c9 (by decide))
          refine hC.1 7 127 _ _ rfl _ _ _ _ _ ?_
          have km1 : (-1 : Int32).toInt = -1 := rfl
          refine hC.1 8 128 _ _ rfl _ _ _ _ _ ?_
          refine Exists.intro _ (Exists.intro _ (And.intro (md_a_answerCount D) (And.intro (by omega) ?_)))
          rw [md_s_answerCount D]
          obtain ⟨f9, ef9⟩ : ∃ z9, z9 = va_up f1 9 (upd (f1 9) (z2_4).toInt.toNat (-1 : Int32)) := ⟨_, rfl⟩
          rw [← ef9]
          have pf_128 : f9 9 = upd (f1 9) (z2_4).toInt.toNat (-1 : Int32) := by rw [ef9]; exact if_pos rfl
          have pg_128 : ∀ i9, i9 ≠ 9 → f9 i9 = f1 i9 := fun i9 h9 => by rw [ef9]; exact if_neg h9
          have hf9 : md_F f9 := by rw [ef9]; exact md_F_st hf1 9 _ _ (md_rng _ _ (by decide))
          have hw9 : f9 2 = f 2 := (show f9 2 = f1 2 by rw [ef9]; rfl).trans hw1
          have hr9_0 : f9 0 = f 0 := (show f9 0 = f1 0 by rw [ef9]; rfl).trans hr1_0
          have hr9_1 : f9 1 = f 1 := (show f9 1 = f1 1 by rw [ef9]; rfl).trans hr1_1
          have hr9_12 : f9 12 = f 12 := (show f9 12 = f1 12 by rw [ef9]; rfl).trans hr1_12
          have hr9_13 : f9 13 = f 13 := (show f9 13 = f1 13 by rw [ef9]; rfl).trans hr1_13
          have hr9_14 : f9 14 = f 14 := (show f9 14 = f1 14 by rw [ef9]; rfl).trans hr1_14
          have hr9_15 : f9 15 = f 15 := (show f9 15 = f1 15 by rw [ef9]; rfl).trans hr1_15
          have hr9_7 : f9 7 = f 7 := (show f9 7 = f1 7 by rw [ef9]; rfl).trans hr1_7
          have hr9_8 : f9 8 = f 8 := (show f9 8 = f1 8 by rw [ef9]; rfl).trans hr1_8
          have hr9_11 : f9 11 = f 11 := (show f9 11 = f1 11 by rw [ef9]; rfl).trans hr1_11
          refine Exists.intro _ (And.intro md_o ?_)
          refine And.intro (fun _ => ?_) (fun c9 => absurd c9 (by decide))
          refine hC.1 9 148 _ _ rfl _ _ _ _ _ ?_
          refine hC.1 10 149 _ _ rfl _ _ _ _ _ ?_
          refine Exists.intro _ (Exists.intro _ (And.intro (md_a_answerWeight D) (And.intro (by omega) ?_)))
          rw [md_s_answerWeight D]
          obtain ⟨f10, ef10⟩ : ∃ z9, z9 = va_up f9 10 (upd (f9 10) (z2_4).toInt.toNat (-1 : Int32)) := ⟨_, rfl⟩
          rw [← ef10]
          have pf_149 : f10 10 = upd (f9 10) (z2_4).toInt.toNat (-1 : Int32) := by rw [ef10]; exact if_pos rfl
          have pg_149 : ∀ i9, i9 ≠ 10 → f10 i9 = f9 i9 := fun i9 h9 => by rw [ef10]; exact if_neg h9
          have hf10 : md_F f10 := by rw [ef10]; exact md_F_st hf9 10 _ _ (md_rng _ _ (by decide))
          have hw10 : f10 2 = f 2 := (show f10 2 = f9 2 by rw [ef10]; rfl).trans hw9
          have hr10_0 : f10 0 = f 0 := (show f10 0 = f9 0 by rw [ef10]; rfl).trans hr9_0
          have hr10_1 : f10 1 = f 1 := (show f10 1 = f9 1 by rw [ef10]; rfl).trans hr9_1
          have hr10_12 : f10 12 = f 12 := (show f10 12 = f9 12 by rw [ef10]; rfl).trans hr9_12
          have hr10_13 : f10 13 = f 13 := (show f10 13 = f9 13 by rw [ef10]; rfl).trans hr9_13
          have hr10_14 : f10 14 = f 14 := (show f10 14 = f9 14 by rw [ef10]; rfl).trans hr9_14
          have hr10_15 : f10 15 = f 15 := (show f10 15 = f9 15 by rw [ef10]; rfl).trans hr9_15
          have hr10_7 : f10 7 = f 7 := (show f10 7 = f9 7 by rw [ef10]; rfl).trans hr9_7
          have hr10_8 : f10 8 = f 8 := (show f10 8 = f9 8 by rw [ef10]; rfl).trans hr9_8
          have hr10_11 : f10 11 = f 11 := (show f10 11 = f9 11 by rw [ef10]; rfl).trans hr9_11
          refine And.intro (fun _ => ?_) (fun c9 => absurd c9 (by decide))
          refine hC.1 11 160 _ _ rfl _ _ _ _ _ ?_
          refine hC.1 12 161 _ _ rfl _ _ _ _ _ ?_
          intro m11 em_161
          try have e11 : m11.toInt = (z1_4).toInt + (0) := by rw [em_161]; exact pm_addc _ _ (0) rfl (by omega) (by omega)
          have k1 : (1 : Int32).toInt = 1 := rfl
          intro m12 em_163
          try have e12 : m12.toInt = (z2_4).toInt + (1) := by rw [em_163]; exact pm_addc _ _ (1) rfl (by omega) (by omega)
          exact hC.2 [false, false, false, true, true, true, true] _ _ _ _ _ _ (ih3 m11 m12 v1 f10 hv1 hf10 hw10 hr10_0 hr10_1 hr10_12 hr10_13 hr10_14 hr10_15 hr10_7 hr10_8 hr10_11 (by omega) (by rw [show m12.toInt.toNat = z2_4.toInt.toNat + 1 by omega]; first | (rw [cnA_0 ((pg_149 9 (by decide)).trans pf_128) rfl]; omega) | (rw [cnA_1 ((pg_149 9 (by decide)).trans pf_128) (m1_ne (by omega))]; omega)) (by intro j9 h9; by_cases h8 : j9 = z2_4.toInt.toNat; (subst h8; rw [pg_149 9 (by decide), pf_128, pf_149, pg_128 10 (by decide), pk_us, pk_us]; first | (exact AKI_no yp_9 yq_9 (by omega) rfl rfl) | (exact AKI_yes yp_9 yq_9 (by omega) (by omega) ys_9 yc_7 yw_9)); (rw [pg_149 9 (by decide), pf_128, pf_149, pg_128 10 (by decide), pk_un h8, pk_un h8]; exact j2_4 j9 (by omega))) (by omega) (by omega) (by omega) (by omega) (by omega) (by omega) (by omega) (by omega))
        · skip
          refine And.intro (fun c13 => ?_) (fun c13 => ?_)
          · skip
            refine hC.1 2 60 _ _ rfl _ _ _ _ _ ?_
            refine hC.1 3 61 _ _ rfl _ _ _ _ _ ?_
            refine And.intro (fun c9 => absurd c9 (by decide)) (fun _ => ?_)
            refine hC.1 6 107 _ _ rfl _ _ _ _ _ ?_
            refine Exists.intro _ (And.intro md_o ?_)
            refine And.intro (fun _ => ?_) (fun c9 => absurd c9 (by decide))
            refine hC.1 7 127 _ _ rfl _ _ _ _ _ ?_
            have km1 : (-1 : Int32).toInt = -1 := rfl
            refine hC.1 8 128 _ _ rfl _ _ _ _ _ ?_
            refine Exists.intro _ (Exists.intro _ (And.intro (md_a_answerCount D) (And.intro (by omega) ?_)))
            rw [md_s_answerCount D]
            obtain ⟨f14, ef14⟩ : ∃ z9, z9 = va_up f1 9 (upd (f1 9) (z2_4).toInt.toNat (-1 : Int32)) := ⟨_, rfl⟩
            rw [← ef14]
            have pf_128 : f14 9 = upd (f1 9) (z2_4).toInt.toNat (-1 : Int32) := by rw [ef14]; exact if_pos rfl
            have pg_128 : ∀ i9, i9 ≠ 9 → f14 i9 = f1 i9 := fun i9 h9 => by rw [ef14]; exact if_neg h9
            have hf14 : md_F f14 := by rw [ef14]; exact md_F_st hf1 9 _ _ (md_rng _ _ (by decide))
            have hw14 : f14 2 = f 2 := (show f14 2 = f1 2 by rw [ef14]; rfl).trans hw1
            have hr14_0 : f14 0 = f 0 := (show f14 0 = f1 0 by rw [ef14]; rfl).trans hr1_0
            have hr14_1 : f14 1 = f 1 := (show f14 1 = f1 1 by rw [ef14]; rfl).trans hr1_1
            have hr14_12 : f14 12 = f 12 := (show f14 12 = f1 12 by rw [ef14]; rfl).trans hr1_12
            have hr14_13 : f14 13 = f 13 := (show f14 13 = f1 13 by rw [ef14]; rfl).trans hr1_13
            have hr14_14 : f14 14 = f 14 := (show f14 14 = f1 14 by rw [ef14]; rfl).trans hr1_14
            have hr14_15 : f14 15 = f 15 := (show f14 15 = f1 15 by rw [ef14]; rfl).trans hr1_15
            have hr14_7 : f14 7 = f 7 := (show f14 7 = f1 7 by rw [ef14]; rfl).trans hr1_7
            have hr14_8 : f14 8 = f 8 := (show f14 8 = f1 8 by rw [ef14]; rfl).trans hr1_8
            have hr14_11 : f14 11 = f 11 := (show f14 11 = f1 11 by rw [ef14]; rfl).trans hr1_11
            refine Exists.intro _ (And.intro md_o ?_)
            refine And.intro (fun _ => ?_) (fun c9 => absurd c9 (by decide))
            refine hC.1 9 148 _ _ rfl _ _ _ _ _ ?_
            refine hC.1 10 149 _ _ rfl _ _ _ _ _ ?_
            refine Exists.intro _ (Exists.intro _ (And.intro (md_a_answerWeight D) (And.intro (by omega) ?_)))
            rw [md_s_answerWeight D]
            obtain ⟨f15, ef15⟩ : ∃ z9, z9 = va_up f14 10 (upd (f14 10) (z2_4).toInt.toNat (-1 : Int32)) := ⟨_, rfl⟩
            rw [← ef15]
            have pf_149 : f15 10 = upd (f14 10) (z2_4).toInt.toNat (-1 : Int32) := by rw [ef15]; exact if_pos rfl
            have pg_149 : ∀ i9, i9 ≠ 10 → f15 i9 = f14 i9 := fun i9 h9 => by rw [ef15]; exact if_neg h9
            have hf15 : md_F f15 := by rw [ef15]; exact md_F_st hf14 10 _ _ (md_rng _ _ (by decide))
            have hw15 : f15 2 = f 2 := (show f15 2 = f14 2 by rw [ef15]; rfl).trans hw14
            have hr15_0 : f15 0 = f 0 := (show f15 0 = f14 0 by rw [ef15]; rfl).trans hr14_0
            have hr15_1 : f15 1 = f 1 := (show f15 1 = f14 1 by rw [ef15]; rfl).trans hr14_1
            have hr15_12 : f15 12 = f 12 := (show f15 12 = f14 12 by rw [ef15]; rfl).trans hr14_12
            have hr15_13 : f15 13 = f 13 := (show f15 13 = f14 13 by rw [ef15]; rfl).trans hr14_13
            have hr15_14 : f15 14 = f 14 := (show f15 14 = f14 14 by rw [ef15]; rfl).trans hr14_14
            have hr15_15 : f15 15 = f 15 := (show f15 15 = f14 15 by rw [ef15]; rfl).trans hr14_15
            have hr15_7 : f15 7 = f 7 := (show f15 7 = f14 7 by rw [ef15]; rfl).trans hr14_7
            have hr15_8 : f15 8 = f 8 := (show f15 8 = f14 8 by rw [ef15]; rfl).trans hr14_8
            have hr15_11 : f15 11 = f 11 := (show f15 11 = f14 11 by rw [ef15]; rfl).trans hr14_11
            refine And.intro (fun _ => ?_) (fun c9 => absurd c9 (by decide))
            refine hC.1 11 160 _ _ rfl _ _ _ _ _ ?_
            refine hC.1 12 161 _ _ rfl _ _ _ _ _ ?_
            intro m16 em_161
            try have e16 : m16.toInt = (z1_4).toInt + (0) := by rw [em_161]; exact pm_addc _ _ (0) rfl (by omega) (by omega)
            have k1 : (1 : Int32).toInt = 1 := rfl
            intro m17 em_163
            try have e17 : m17.toInt = (z2_4).toInt + (1) := by rw [em_163]; exact pm_addc _ _ (1) rfl (by omega) (by omega)
            exact hC.2 [false, false, false, true, true, true, true] _ _ _ _ _ _ (ih3 m16 m17 v1 f15 hv1 hf15 hw15 hr15_0 hr15_1 hr15_12 hr15_13 hr15_14 hr15_15 hr15_7 hr15_8 hr15_11 (by omega) (by rw [show m17.toInt.toNat = z2_4.toInt.toNat + 1 by omega]; first | (rw [cnA_0 ((pg_149 9 (by decide)).trans pf_128) rfl]; omega) | (rw [cnA_1 ((pg_149 9 (by decide)).trans pf_128) (m1_ne (by omega))]; omega)) (by intro j9 h9; by_cases h8 : j9 = z2_4.toInt.toNat; (subst h8; rw [pg_149 9 (by decide), pf_128, pf_149, pg_128 10 (by decide), pk_us, pk_us]; first | (exact AKI_no yp_9 yq_9 (by omega) rfl rfl) | (exact AKI_yes yp_9 yq_9 (by omega) (by omega) ys_9 yc_7 yw_9)); (rw [pg_149 9 (by decide), pf_128, pf_149, pg_128 10 (by decide), pk_un h8, pk_un h8]; exact j2_4 j9 (by omega))) (by omega) (by omega) (by omega) (by omega) (by omega) (by omega) (by omega) (by omega))
          · skip
            have k1 : (1 : Int32).toInt = 1 := rfl
            refine hC.1 3 61 _ _ rfl _ _ _ _ _ ?_
            refine And.intro (fun _ => ?_) (fun c9 => absurd c9 (by decide))
            refine hC.1 4 72 _ _ rfl _ _ _ _ _ ?_
            refine And.intro (fun c18 => ?_) (fun c18 => ?_)
            · skip
              refine hC.1 5 94 _ _ rfl _ _ _ _ _ ?_
              refine Exists.intro _ (And.intro md_o ?_)
              refine Exists.intro _ (Exists.intro _ (And.intro (Or.inl (md_a_askedEdit D)) (And.intro (by omega) ?_)))
              refine And.intro (Exists.intro _ md_o) (Exists.intro _ (Exists.intro _ (Exists.intro _ (Exists.intro _ (And.intro (V_X11_setBy D v1 f1 hv1 hf1 (f1 11 (z2_4).toInt.toNat) y7 y6 (by omega) (by omega) (by omega)) (And.intro rfl (fun r9 A9 h9 => ?_)))))))
              obtain ⟨y19, rfl, rfl, by19⟩ := h9
              have ys_9 := by19
              rw [l0_9, lC_9, l11_9] at ys_9
              refine hC.1 6 107 _ _ rfl _ _ _ _ _ ?_
              refine Exists.intro _ (And.intro md_o ?_)
              refine And.intro (fun c9 => absurd c9 (by decide)) (fun _ => ?_)
              refine Exists.intro _ (Exists.intro _ (Exists.intro _ (Exists.intro _ (And.intro (F_X11_bits (md A0 g h q v1 f1) y19 ) (And.intro rfl (fun r9 A9 h9 => ?_))))))
              obtain ⟨y20, rfl, rfl, by20⟩ := h9
              have yc_9 := by20
              have yc_7 := yc_9.trans (congrArg (fun n9 : Nat => (n9 : Int)) (SB24 ys_9 (fun j9 => hf 0 j9) (fun i9 j9 => hf 12 _)))
              refine hC.1 8 128 _ _ rfl _ _ _ _ _ ?_
              refine Exists.intro _ (Exists.intro _ (And.intro (md_a_answerCount D) (And.intro (by omega) ?_)))
              rw [md_s_answerCount D]
              obtain ⟨f21, ef21⟩ : ∃ z9, z9 = va_up f1 9 (upd (f1 9) (z2_4).toInt.toNat y20) := ⟨_, rfl⟩
              rw [← ef21]
              have pf_128 : f21 9 = upd (f1 9) (z2_4).toInt.toNat y20 := by rw [ef21]; exact if_pos rfl
              have pg_128 : ∀ i9, i9 ≠ 9 → f21 i9 = f1 i9 := fun i9 h9 => by rw [ef21]; exact if_neg h9
              have hf21 : md_F f21 := by rw [ef21]; exact md_F_st hf1 9 _ _ (md_rng _ _ (by decide))
              have hw21 : f21 2 = f 2 := (show f21 2 = f1 2 by rw [ef21]; rfl).trans hw1
              have hr21_0 : f21 0 = f 0 := (show f21 0 = f1 0 by rw [ef21]; rfl).trans hr1_0
              have hr21_1 : f21 1 = f 1 := (show f21 1 = f1 1 by rw [ef21]; rfl).trans hr1_1
              have hr21_12 : f21 12 = f 12 := (show f21 12 = f1 12 by rw [ef21]; rfl).trans hr1_12
              have hr21_13 : f21 13 = f 13 := (show f21 13 = f1 13 by rw [ef21]; rfl).trans hr1_13
              have hr21_14 : f21 14 = f 14 := (show f21 14 = f1 14 by rw [ef21]; rfl).trans hr1_14
              have hr21_15 : f21 15 = f 15 := (show f21 15 = f1 15 by rw [ef21]; rfl).trans hr1_15
              have hr21_7 : f21 7 = f 7 := (show f21 7 = f1 7 by rw [ef21]; rfl).trans hr1_7
              have hr21_8 : f21 8 = f 8 := (show f21 8 = f1 8 by rw [ef21]; rfl).trans hr1_8
              have hr21_11 : f21 11 = f 11 := (show f21 11 = f1 11 by rw [ef21]; rfl).trans hr1_11
              refine Exists.intro _ (And.intro md_o ?_)
              refine And.intro (fun c9 => absurd c9 (by decide)) (fun _ => ?_)
              refine And.intro (Exists.intro _ md_o) (Exists.intro _ (Exists.intro _ (Exists.intro _ (Exists.intro _ (And.intro (F_X11_weightOf D v1 f21 hv1 hf21 y19 ) (And.intro rfl (fun r9 A9 h9 => ?_)))))))
              obtain ⟨y22, rfl, rfl, by22⟩ := h9
              have yw_9 := by22
              rw [hw21] at yw_9
              refine hC.1 10 149 _ _ rfl _ _ _ _ _ ?_
              refine Exists.intro _ (Exists.intro _ (And.intro (md_a_answerWeight D) (And.intro (by omega) ?_)))
              rw [md_s_answerWeight D]
              obtain ⟨f23, ef23⟩ : ∃ z9, z9 = va_up f21 10 (upd (f21 10) (z2_4).toInt.toNat y22) := ⟨_, rfl⟩
              rw [← ef23]
              have pf_149 : f23 10 = upd (f21 10) (z2_4).toInt.toNat y22 := by rw [ef23]; exact if_pos rfl
              have pg_149 : ∀ i9, i9 ≠ 10 → f23 i9 = f21 i9 := fun i9 h9 => by rw [ef23]; exact if_neg h9
              have hf23 : md_F f23 := by rw [ef23]; exact md_F_st hf21 10 _ _ (md_rng _ _ (by decide))
              have hw23 : f23 2 = f 2 := (show f23 2 = f21 2 by rw [ef23]; rfl).trans hw21
              have hr23_0 : f23 0 = f 0 := (show f23 0 = f21 0 by rw [ef23]; rfl).trans hr21_0
              have hr23_1 : f23 1 = f 1 := (show f23 1 = f21 1 by rw [ef23]; rfl).trans hr21_1
              have hr23_12 : f23 12 = f 12 := (show f23 12 = f21 12 by rw [ef23]; rfl).trans hr21_12
              have hr23_13 : f23 13 = f 13 := (show f23 13 = f21 13 by rw [ef23]; rfl).trans hr21_13
              have hr23_14 : f23 14 = f 14 := (show f23 14 = f21 14 by rw [ef23]; rfl).trans hr21_14
              have hr23_15 : f23 15 = f 15 := (show f23 15 = f21 15 by rw [ef23]; rfl).trans hr21_15
              have hr23_7 : f23 7 = f 7 := (show f23 7 = f21 7 by rw [ef23]; rfl).trans hr21_7
              have hr23_8 : f23 8 = f 8 := (show f23 8 = f21 8 by rw [ef23]; rfl).trans hr21_8
              have hr23_11 : f23 11 = f 11 := (show f23 11 = f21 11 by rw [ef23]; rfl).trans hr21_11
              refine And.intro (fun c9 => absurd c9 (by decide)) (fun _ => ?_)
              refine hC.1 12 161 _ _ rfl _ _ _ _ _ ?_
              intro m24 em_161
              try have e24 : m24.toInt = (z1_4).toInt + (1) := by rw [em_161]; exact pm_addc _ _ (1) rfl (by omega) (by omega)
              intro m25 em_163
              try have e25 : m25.toInt = (z2_4).toInt + (1) := by rw [em_163]; exact pm_addc _ _ (1) rfl (by omega) (by omega)
              exact hC.2 [false, false, false, true, true, true, true] _ _ _ _ _ _ (ih3 m24 m25 v1 f23 hv1 hf23 hw23 hr23_0 hr23_1 hr23_12 hr23_13 hr23_14 hr23_15 hr23_7 hr23_8 hr23_11 (by omega) (by rw [show m25.toInt.toNat = z2_4.toInt.toNat + 1 by omega]; first | (rw [cnA_0 ((pg_149 9 (by decide)).trans pf_128) rfl]; omega) | (rw [cnA_1 ((pg_149 9 (by decide)).trans pf_128) (m1_ne (by omega))]; omega)) (by intro j9 h9; by_cases h8 : j9 = z2_4.toInt.toNat; (subst h8; rw [pg_149 9 (by decide), pf_128, pf_149, pg_128 10 (by decide), pk_us, pk_us]; first | (exact AKI_no yp_9 yq_9 (by omega) rfl rfl) | (exact AKI_yes yp_9 yq_9 (by omega) (by omega) ys_9 yc_7 yw_9)); (rw [pg_149 9 (by decide), pf_128, pf_149, pg_128 10 (by decide), pk_un h8, pk_un h8]; exact j2_4 j9 (by omega))) (by omega) (by omega) (by omega) (by omega) (by omega) (by omega) (by omega) (by omega))
            · skip
              refine Exists.intro _ (And.intro md_o ?_)
              refine Exists.intro _ (Exists.intro _ (And.intro (Or.inl (md_a_askedEdit D)) (And.intro (by omega) ?_)))
              refine And.intro (Exists.intro _ md_o) (Exists.intro _ (Exists.intro _ (Exists.intro _ (Exists.intro _ (And.intro (V_X11_setBy D v1 f1 hv1 hf1 (f1 11 (z2_4).toInt.toNat) y6 y7 (by omega) (by omega) (by omega)) (And.intro rfl (fun r9 A9 h9 => ?_)))))))
              obtain ⟨y26, rfl, rfl, by26⟩ := h9
              have ys_9 := by26
              rw [l0_9, lC_9, l11_9] at ys_9
              refine hC.1 6 107 _ _ rfl _ _ _ _ _ ?_
              refine Exists.intro _ (And.intro md_o ?_)
              refine And.intro (fun c9 => absurd c9 (by decide)) (fun _ => ?_)
              refine Exists.intro _ (Exists.intro _ (Exists.intro _ (Exists.intro _ (And.intro (F_X11_bits (md A0 g h q v1 f1) y26 ) (And.intro rfl (fun r9 A9 h9 => ?_))))))
              obtain ⟨y27, rfl, rfl, by27⟩ := h9
              have yc_9 := by27
              have yc_7 := yc_9.trans (congrArg (fun n9 : Nat => (n9 : Int)) (SB24 ys_9 (fun j9 => hf 0 j9) (fun i9 j9 => hf 12 _)))
              refine hC.1 8 128 _ _ rfl _ _ _ _ _ ?_
              refine Exists.intro _ (Exists.intro _ (And.intro (md_a_answerCount D) (And.intro (by omega) ?_)))
              rw [md_s_answerCount D]
              obtain ⟨f28, ef28⟩ : ∃ z9, z9 = va_up f1 9 (upd (f1 9) (z2_4).toInt.toNat y27) := ⟨_, rfl⟩
              rw [← ef28]
              have pf_128 : f28 9 = upd (f1 9) (z2_4).toInt.toNat y27 := by rw [ef28]; exact if_pos rfl
              have pg_128 : ∀ i9, i9 ≠ 9 → f28 i9 = f1 i9 := fun i9 h9 => by rw [ef28]; exact if_neg h9
              have hf28 : md_F f28 := by rw [ef28]; exact md_F_st hf1 9 _ _ (md_rng _ _ (by decide))
              have hw28 : f28 2 = f 2 := (show f28 2 = f1 2 by rw [ef28]; rfl).trans hw1
              have hr28_0 : f28 0 = f 0 := (show f28 0 = f1 0 by rw [ef28]; rfl).trans hr1_0
              have hr28_1 : f28 1 = f 1 := (show f28 1 = f1 1 by rw [ef28]; rfl).trans hr1_1
              have hr28_12 : f28 12 = f 12 := (show f28 12 = f1 12 by rw [ef28]; rfl).trans hr1_12
              have hr28_13 : f28 13 = f 13 := (show f28 13 = f1 13 by rw [ef28]; rfl).trans hr1_13
              have hr28_14 : f28 14 = f 14 := (show f28 14 = f1 14 by rw [ef28]; rfl).trans hr1_14
              have hr28_15 : f28 15 = f 15 := (show f28 15 = f1 15 by rw [ef28]; rfl).trans hr1_15
              have hr28_7 : f28 7 = f 7 := (show f28 7 = f1 7 by rw [ef28]; rfl).trans hr1_7
              have hr28_8 : f28 8 = f 8 := (show f28 8 = f1 8 by rw [ef28]; rfl).trans hr1_8
              have hr28_11 : f28 11 = f 11 := (show f28 11 = f1 11 by rw [ef28]; rfl).trans hr1_11
              refine Exists.intro _ (And.intro md_o ?_)
              refine And.intro (fun c9 => absurd c9 (by decide)) (fun _ => ?_)
              refine And.intro (Exists.intro _ md_o) (Exists.intro _ (Exists.intro _ (Exists.intro _ (Exists.intro _ (And.intro (F_X11_weightOf D v1 f28 hv1 hf28 y26 ) (And.intro rfl (fun r9 A9 h9 => ?_)))))))
              obtain ⟨y29, rfl, rfl, by29⟩ := h9
              have yw_9 := by29
              rw [hw28] at yw_9
              refine hC.1 10 149 _ _ rfl _ _ _ _ _ ?_
              refine Exists.intro _ (Exists.intro _ (And.intro (md_a_answerWeight D) (And.intro (by omega) ?_)))
              rw [md_s_answerWeight D]
              obtain ⟨f30, ef30⟩ : ∃ z9, z9 = va_up f28 10 (upd (f28 10) (z2_4).toInt.toNat y29) := ⟨_, rfl⟩
              rw [← ef30]
              have pf_149 : f30 10 = upd (f28 10) (z2_4).toInt.toNat y29 := by rw [ef30]; exact if_pos rfl
              have pg_149 : ∀ i9, i9 ≠ 10 → f30 i9 = f28 i9 := fun i9 h9 => by rw [ef30]; exact if_neg h9
              have hf30 : md_F f30 := by rw [ef30]; exact md_F_st hf28 10 _ _ (md_rng _ _ (by decide))
              have hw30 : f30 2 = f 2 := (show f30 2 = f28 2 by rw [ef30]; rfl).trans hw28
              have hr30_0 : f30 0 = f 0 := (show f30 0 = f28 0 by rw [ef30]; rfl).trans hr28_0
              have hr30_1 : f30 1 = f 1 := (show f30 1 = f28 1 by rw [ef30]; rfl).trans hr28_1
              have hr30_12 : f30 12 = f 12 := (show f30 12 = f28 12 by rw [ef30]; rfl).trans hr28_12
              have hr30_13 : f30 13 = f 13 := (show f30 13 = f28 13 by rw [ef30]; rfl).trans hr28_13
              have hr30_14 : f30 14 = f 14 := (show f30 14 = f28 14 by rw [ef30]; rfl).trans hr28_14
              have hr30_15 : f30 15 = f 15 := (show f30 15 = f28 15 by rw [ef30]; rfl).trans hr28_15
              have hr30_7 : f30 7 = f 7 := (show f30 7 = f28 7 by rw [ef30]; rfl).trans hr28_7
              have hr30_8 : f30 8 = f 8 := (show f30 8 = f28 8 by rw [ef30]; rfl).trans hr28_8
              have hr30_11 : f30 11 = f 11 := (show f30 11 = f28 11 by rw [ef30]; rfl).trans hr28_11
              refine And.intro (fun c9 => absurd c9 (by decide)) (fun _ => ?_)
              refine hC.1 12 161 _ _ rfl _ _ _ _ _ ?_
              intro m31 em_161
              try have e31 : m31.toInt = (z1_4).toInt + (1) := by rw [em_161]; exact pm_addc _ _ (1) rfl (by omega) (by omega)
              intro m32 em_163
              try have e32 : m32.toInt = (z2_4).toInt + (1) := by rw [em_163]; exact pm_addc _ _ (1) rfl (by omega) (by omega)
              exact hC.2 [false, false, false, true, true, true, true] _ _ _ _ _ _ (ih3 m31 m32 v1 f30 hv1 hf30 hw30 hr30_0 hr30_1 hr30_12 hr30_13 hr30_14 hr30_15 hr30_7 hr30_8 hr30_11 (by omega) (by rw [show m32.toInt.toNat = z2_4.toInt.toNat + 1 by omega]; first | (rw [cnA_0 ((pg_149 9 (by decide)).trans pf_128) rfl]; omega) | (rw [cnA_1 ((pg_149 9 (by decide)).trans pf_128) (m1_ne (by omega))]; omega)) (by intro j9 h9; by_cases h8 : j9 = z2_4.toInt.toNat; (subst h8; rw [pg_149 9 (by decide), pf_128, pf_149, pg_128 10 (by decide), pk_us, pk_us]; first | (exact AKI_no yp_9 yq_9 (by omega) rfl rfl) | (exact AKI_yes yp_9 yq_9 (by omega) (by omega) ys_9 yc_7 yw_9)); (rw [pg_149 9 (by decide), pf_128, pf_149, pg_128 10 (by decide), pk_un h8, pk_un h8]; exact j2_4 j9 (by omega))) (by omega) (by omega) (by omega) (by omega) (by omega) (by omega) (by omega) (by omega))
  exact lp2 (200 - (0 : Int32).toInt).toNat.succ (0 : Int32) (0 : Int32) v f hv hf rfl rfl rfl rfl rfl rfl rfl rfl rfl rfl (by omega) (by rfl) (by intro j9 h9; omega) (by omega) (by omega) (by omega) (by omega) (by omega) (by omega) (by omega) (by omega)

set_option maxRecDepth 100000 in
set_option maxHeartbeats 2000000 in
theorem V_X11_forget (D : md_D h q) (v : Nat → Int32) (f : Nat → Nat → Int32) (hv : md_V v) (hf : md_F f)  : pm_Mt l g 282 0 0 0 [.ref h] (md A0 g h q v f) (md_Qw A0 g h q f (fun r v2 f2 => f2 0 = f 0 ∧ f2 1 = f 1 ∧ f2 12 = f 12 ∧ f2 13 = f 13 ∧ f2 14 = f 14 ∧ f2 15 = f 15 ∧ f2 7 = f 7 ∧ f2 8 = f 8 ∧ f2 9 = f 9 ∧ f2 10 = f 10 ∧ f2 11 = f 11 ∧ ((v2 0).toInt = (v 0).toInt ∧ (v2 1).toInt = (v 1).toInt ∧ (v2 2).toInt = (v 2).toInt ∧ (v2 3).toInt = (v 3).toInt ∧ (v2 4).toInt = (v 4).toInt ∧ (v2 5).toInt = (v 5).toInt) ∧ (r = v 6 ∧ (v2 6).toInt = 0))) := by
  refine mt_X11_forget rfl (fun J hC => ?_)
  have hv9 := hv
  unfold md_V at hv9
  refine hC.1 0 0 _ _ rfl _ _ _ _ _ ?_
  refine Exists.intro _ (And.intro md_o ?_)
  have k0 : (0 : Int32).toInt = 0 := rfl
  refine Exists.intro _ (And.intro md_o (And.intro rfl ?_))
  rw [md_p_askedMany D]
  obtain ⟨v1, ev1⟩ : ∃ z9, z9 = upd v 6 (0 : Int32) := ⟨_, rfl⟩
  rw [← ev1]
  have ev1_0 : (v1 0).toInt = (v 0).toInt := by rw [ev1]; rfl
  have ev1_1 : (v1 1).toInt = (v 1).toInt := by rw [ev1]; rfl
  have ev1_2 : (v1 2).toInt = (v 2).toInt := by rw [ev1]; rfl
  have ev1_3 : (v1 3).toInt = (v 3).toInt := by rw [ev1]; rfl
  have ev1_4 : (v1 4).toInt = (v 4).toInt := by rw [ev1]; rfl
  have ev1_5 : (v1 5).toInt = (v 5).toInt := by rw [ev1]; rfl
  have ev1_6 : (v1 6).toInt = ((0 : Int32)).toInt := by rw [ev1]; rfl
  have ev1_7 : (v1 7).toInt = (v 7).toInt := by rw [ev1]; rfl
  have pn_7 : v1 6 = (0 : Int32) := by rw [ev1]; rfl
  have hv2 : md_V v1 := by unfold md_V; omega
  exact ⟨rfl, fun e9 => absurd e9 (by decide), rfl, (v 6), v1, f, rfl, rfl, hv2, hf, rfl, rfl, rfl, rfl, rfl, rfl, rfl, rfl, rfl, rfl, rfl, rfl, by first | omega | (dsimp only; omega) | trivial, by exact ⟨rfl, by omega⟩⟩

set_option maxRecDepth 100000 in
set_option maxHeartbeats 2000000 in
theorem V_X11_about (D : md_D h q) (v : Nat → Int32) (f : Nat → Nat → Int32) (hv : md_V v) (hf : md_F f) (x1 : Int32)  : pm_Mt l g 205 1 0 0 [.ref h, .int x1] (md A0 g h q v f) (md_Qp (md A0 g h q v f) (fun r => r.toInt = ABT (v 0) (v 3) (v 4) (v 5) (v 6) (f 0) x1.toInt)) := by
  refine mt_X11_about rfl (fun J hC => ?_)
  have hv9 := hv
  unfold md_V at hv9
  have rg_x1 := pm_rng x1
  refine hC.1 0 0 _ _ rfl _ _ _ _ _ ?_
  refine pm_swc 6 rfl (by decide) ?_ ?_
  · intro _
    refine hC.1 7 80 _ _ rfl _ _ _ _ _ ?_
    have km1 : (-1 : Int32).toInt = -1 := rfl
    exact ⟨rfl, fun e9 => absurd e9 (by decide), rfl, (-1 : Int32), rfl, rfl, by exact (ABT_d (by omega)).symm⟩
  · intro i9 hi9 he9
    rcases (show i9 = 0 ∨ i9 = 1 ∨ i9 = 2 ∨ i9 = 3 ∨ i9 = 4 ∨ i9 = 5 by omega) with rfl | rfl | rfl | rfl | rfl | rfl
    · skip
      refine hC.1 1 40 _ _ rfl _ _ _ _ _ ?_
      refine Exists.intro _ (And.intro md_o ?_)
      exact ⟨rfl, fun e9 => absurd e9 (by decide), rfl, (v 0), rfl, rfl, by exact (ABT_0 (by omega)).symm⟩
    · skip
      refine hC.1 2 45 _ _ rfl _ _ _ _ _ ?_
      have k0 : (0 : Int32).toInt = 0 := rfl
      refine Exists.intro _ (And.intro md_o ?_)
      have k1 : (1 : Int32).toInt = 1 := rfl
      intro m3 em_52
      try have e3 : m3.toInt = ((v 0)).toInt - (1) := by rw [em_52]; exact pm_subc _ _ (1) rfl (by omega) (by omega)
      refine And.intro (Exists.intro _ md_o) (Exists.intro _ (Exists.intro _ (Exists.intro _ (Exists.intro _ (And.intro (c_X11_setOf D v f hv hf (0 : Int32) m3 (by omega) (by omega)) (And.intro rfl (fun r9 A9 h9 => ?_)))))))
      obtain ⟨y4, rfl, rfl, by4⟩ := h9
      have ys_9 := by4
      refine Exists.intro _ (Exists.intro _ (Exists.intro _ (Exists.intro _ (And.intro (F_X11_bits (md A0 g h q v f) y4 ) (And.intro rfl (fun r9 A9 h9 => ?_))))))
      obtain ⟨y5, rfl, rfl, by5⟩ := h9
      have yb_9 := by5
      exact ⟨rfl, fun e9 => absurd e9 (by decide), rfl, y5, rfl, rfl, by exact ABT_m (by omega) (fun j9 => hf 0 j9) ys_9 yb_9 (by omega) (by omega)⟩
    · skip
      refine hC.1 3 60 _ _ rfl _ _ _ _ _ ?_
      refine Exists.intro _ (And.intro md_o ?_)
      exact ⟨rfl, fun e9 => absurd e9 (by decide), rfl, (v 3), rfl, rfl, by exact (ABT_2 (by omega)).symm⟩
    · skip
      refine hC.1 4 65 _ _ rfl _ _ _ _ _ ?_
      refine Exists.intro _ (And.intro md_o ?_)
      exact ⟨rfl, fun e9 => absurd e9 (by decide), rfl, (v 4), rfl, rfl, by exact (ABT_3 (by omega)).symm⟩
    · skip
      refine hC.1 5 70 _ _ rfl _ _ _ _ _ ?_
      refine Exists.intro _ (And.intro md_o ?_)
      exact ⟨rfl, fun e9 => absurd e9 (by decide), rfl, (v 5), rfl, rfl, by exact (ABT_4 (by omega)).symm⟩
    · skip
      refine hC.1 6 75 _ _ rfl _ _ _ _ _ ?_
      refine Exists.intro _ (And.intro md_o ?_)
      exact ⟨rfl, fun e9 => absurd e9 (by decide), rfl, (v 6), rfl, rfl, by exact (ABT_5 (by omega)).symm⟩

end
end
section
section
variable {l : Launch} {g : pm_G} {A0 : pm_H} {h : Nat} {q : Nat → Nat}
set_option maxRecDepth 100000 in
set_option maxHeartbeats 2000000 in
theorem V_X11_asked (D : md_D h q) (v : Nat → Int32) (f : Nat → Nat → Int32) (hv : md_V v) (hf : md_F f) (x1 : Int32) (x2 : Int32)  : pm_Mt l g 281 1 0 0 [.ref h, .int x1, .int x2] (md A0 g h q v f) (md_Qp (md A0 g h q v f) (fun r => r = ASD (v 6).toInt x1.toInt x2.toInt (f 7) (f 8) (f 9) (f 10) (f 11))) := by
  refine mt_X11_asked rfl (fun J hC => ?_)
  have hv9 := hv
  unfold md_V at hv9
  have rg_x1 := pm_rng x1
  have rg_x2 := pm_rng x2
  refine hC.1 0 0 _ _ rfl _ _ _ _ _ ?_
  have k0 : (0 : Int32).toInt = 0 := rfl
  refine Exists.intro _ (And.intro md_o ?_)
  have k1 : (1 : Int32).toInt = 1 := rfl
  intro m1 em_7
  try have e1 : m1.toInt = ((v 6)).toInt - (1) := by rw [em_7]; exact pm_subc _ _ (1) rfl (by omega) (by omega)
  refine Exists.intro _ (Exists.intro _ (Exists.intro _ (Exists.intro _ (And.intro (c_X11_isIn (md A0 g h q v f) x1 (0 : Int32) m1 ) (And.intro rfl (fun r9 A9 h9 => ?_))))))
  rcases h9 with ⟨y2, rfl, rfl, ⟨rfl, by2⟩ | ⟨rfl, by2⟩⟩
  · skip
    refine And.intro (fun _ => ?_) (fun c9 => absurd c9 (by decide))
    refine hC.1 1 16 _ _ rfl _ _ _ _ _ ?_
    refine pm_swc 5 rfl (by decide) ?_ ?_
    · intro _
      refine hC.1 7 87 _ _ rfl _ _ _ _ _ ?_
      have km1 : (-1 : Int32).toInt = -1 := rfl
      exact ⟨rfl, fun e9 => absurd e9 (by decide), rfl, (-1 : Int32), rfl, rfl, by first | (exact (ASD_n (by omega)).symm) | (exact (ASD_0 (by omega) (by omega)).symm) | (exact (ASD_1 (by omega) (by omega)).symm) | (exact (ASD_2 (by omega) (by omega)).symm) | (exact (ASD_3 (by omega) (by omega)).symm) | (exact (ASD_4 (by omega) (by omega)).symm) | (exact (ASD_d (by omega)).symm)⟩
    · intro i9 hi9 he9
      rcases (show i9 = 0 ∨ i9 = 1 ∨ i9 = 2 ∨ i9 = 3 ∨ i9 = 4 by omega) with rfl | rfl | rfl | rfl | rfl
      · skip
        refine hC.1 2 52 _ _ rfl _ _ _ _ _ ?_
        refine Exists.intro _ (And.intro md_o ?_)
        refine Exists.intro _ (Exists.intro _ (And.intro (Or.inl (md_a_answerCount D)) (And.intro (by omega) ?_)))
        exact ⟨rfl, fun e9 => absurd e9 (by decide), rfl, (f 9 (x1).toInt.toNat), rfl, rfl, by first | (exact (ASD_n (by omega)).symm) | (exact (ASD_0 (by omega) (by omega)).symm) | (exact (ASD_1 (by omega) (by omega)).symm) | (exact (ASD_2 (by omega) (by omega)).symm) | (exact (ASD_3 (by omega) (by omega)).symm) | (exact (ASD_4 (by omega) (by omega)).symm) | (exact (ASD_d (by omega)).symm)⟩
      · skip
        refine hC.1 3 59 _ _ rfl _ _ _ _ _ ?_
        refine Exists.intro _ (And.intro md_o ?_)
        refine Exists.intro _ (Exists.intro _ (And.intro (Or.inl (md_a_answerWeight D)) (And.intro (by omega) ?_)))
        exact ⟨rfl, fun e9 => absurd e9 (by decide), rfl, (f 10 (x1).toInt.toNat), rfl, rfl, by first | (exact (ASD_n (by omega)).symm) | (exact (ASD_0 (by omega) (by omega)).symm) | (exact (ASD_1 (by omega) (by omega)).symm) | (exact (ASD_2 (by omega) (by omega)).symm) | (exact (ASD_3 (by omega) (by omega)).symm) | (exact (ASD_4 (by omega) (by omega)).symm) | (exact (ASD_d (by omega)).symm)⟩
      · skip
        refine hC.1 4 66 _ _ rfl _ _ _ _ _ ?_
        refine Exists.intro _ (And.intro md_o ?_)
        refine Exists.intro _ (Exists.intro _ (And.intro (Or.inl (md_a_askedOne D)) (And.intro (by omega) ?_)))
        exact ⟨rfl, fun e9 => absurd e9 (by decide), rfl, (f 7 (x1).toInt.toNat), rfl, rfl, by first | (exact (ASD_n (by omega)).symm) | (exact (ASD_0 (by omega) (by omega)).symm) | (exact (ASD_1 (by omega) (by omega)).symm) | (exact (ASD_2 (by omega) (by omega)).symm) | (exact (ASD_3 (by omega) (by omega)).symm) | (exact (ASD_4 (by omega) (by omega)).symm) | (exact (ASD_d (by omega)).symm)⟩
      · skip
        refine hC.1 5 73 _ _ rfl _ _ _ _ _ ?_
        refine Exists.intro _ (And.intro md_o ?_)
        refine Exists.intro _ (Exists.intro _ (And.intro (Or.inl (md_a_askedOther D)) (And.intro (by omega) ?_)))
        exact ⟨rfl, fun e9 => absurd e9 (by decide), rfl, (f 8 (x1).toInt.toNat), rfl, rfl, by first | (exact (ASD_n (by omega)).symm) | (exact (ASD_0 (by omega) (by omega)).symm) | (exact (ASD_1 (by omega) (by omega)).symm) | (exact (ASD_2 (by omega) (by omega)).symm) | (exact (ASD_3 (by omega) (by omega)).symm) | (exact (ASD_4 (by omega) (by omega)).symm) | (exact (ASD_d (by omega)).symm)⟩
      · skip
        refine hC.1 6 80 _ _ rfl _ _ _ _ _ ?_
        refine Exists.intro _ (And.intro md_o ?_)
        refine Exists.intro _ (Exists.intro _ (And.intro (Or.inl (md_a_askedEdit D)) (And.intro (by omega) ?_)))
        exact ⟨rfl, fun e9 => absurd e9 (by decide), rfl, (f 11 (x1).toInt.toNat), rfl, rfl, by first | (exact (ASD_n (by omega)).symm) | (exact (ASD_0 (by omega) (by omega)).symm) | (exact (ASD_1 (by omega) (by omega)).symm) | (exact (ASD_2 (by omega) (by omega)).symm) | (exact (ASD_3 (by omega) (by omega)).symm) | (exact (ASD_4 (by omega) (by omega)).symm) | (exact (ASD_d (by omega)).symm)⟩
  · skip
    refine And.intro (fun c9 => absurd c9 (by decide)) (fun _ => ?_)
    have km1 : (-1 : Int32).toInt = -1 := rfl
    exact ⟨rfl, fun e9 => absurd e9 (by decide), rfl, (-1 : Int32), rfl, rfl, by first | (exact (ASD_n (by omega)).symm) | (exact (ASD_0 (by omega) (by omega)).symm) | (exact (ASD_1 (by omega) (by omega)).symm) | (exact (ASD_2 (by omega) (by omega)).symm) | (exact (ASD_3 (by omega) (by omega)).symm) | (exact (ASD_4 (by omega) (by omega)).symm) | (exact (ASD_d (by omega)).symm)⟩

end
end
section
section
variable {l : Launch} {g : pm_G} {A0 : pm_H} {h : Nat} {q : Nat → Nat}
set_option maxRecDepth 100000 in
set_option maxHeartbeats 2000000 in
theorem V_X11_laysOrder (D : md_D h q) (v : Nat → Int32) (f : Nat → Nat → Int32) (hv : md_V v) (hf : md_F f) (x1 : Int32) (x2 : Int32) (x3 : Int32) (p0 : 0 ≤ x1.toInt ∧ x1.toInt ≤ x2.toInt ∧ x2.toInt < (v 0).toInt) : pm_Mt l g 221 2 0 0 [.ref h, .int x1, .int x2, .int x3] (md A0 g h q v f) (md_Qw A0 g h q f (fun r v2 f2 => f2 0 = f 0 ∧ f2 1 = f 1 ∧ f2 12 = f 12 ∧ f2 13 = f 13 ∧ f2 14 = f 14 ∧ f2 15 = f 15 ∧ f2 7 = f 7 ∧ f2 8 = f 8 ∧ f2 9 = f 9 ∧ f2 10 = f 10 ∧ f2 11 = f 11 ∧ (v2 0).toInt = (v 0).toInt ∧ (v2 1).toInt = (v 1).toInt ∧ (v2 2).toInt = (v 2).toInt ∧ (v2 3).toInt = (v 3).toInt ∧ (v2 4).toInt = (v 4).toInt ∧ (v2 5).toInt = (v 5).toInt ∧ (v2 6).toInt = (v 6).toInt ∧ 0 ≤ r.toInt ∧ r.toInt ≤ 24)) := by
  refine mt_X11_laysOrder rfl (fun J hC => ?_)
  have hv9 := hv
  unfold md_V at hv9
  have rg_x1 := pm_rng x1
  have rg_x2 := pm_rng x2
  have rg_x3 := pm_rng x3
  refine hC.1 0 0 _ _ rfl _ _ _ _ _ ?_
  have k0 : (0 : Int32).toInt = 0 := rfl
  have lp2 : ∀ (n : Nat) (z4_9 : Int32) (z5_9 : Int32) (z6_9 : Int32) (v1 : Nat → Int32) (f1 : Nat → Nat → Int32), md_V v1 → md_F f1 → f1 2 = f 2 → f1 0 = f 0 → f1 1 = f 1 → f1 12 = f 12 → f1 13 = f 13 → f1 14 = f 14 → f1 15 = f 15 → f1 7 = f 7 → f1 8 = f 8 → f1 9 = f 9 → f1 10 = f 10 → f1 11 = f 11 → (0 ≤ z6_9.toInt ∧ z6_9.toInt ≤ x2.toInt - x1.toInt + 1) → (z4_9.toInt = (cntB z5_9 24 : Int)) → (2 ≤ x3.toInt → z4_9.toInt = 0) → (v1 0).toInt = (v 0).toInt → (v1 1).toInt = (v 1).toInt → (v1 2).toInt = (v 2).toInt → (v1 3).toInt = (v 3).toInt → (v1 4).toInt = (v 4).toInt → (v1 5).toInt = (v 5).toInt → (v1 6).toInt = (v 6).toInt → 200 - z6_9.toInt < (n : Int) → J 9 [some (.ref h), some (.int x1), some (.int x2), some (.int x3), some (.int z4_9), some (.int z5_9), some (.int z6_9), none, none] [] (md A0 g h q v1 f1) 0 0 := by
    intro n
    induction n with
    | zero =>
      intro z4_9 z5_9 z6_9 v1 f1 hv1 hf1 hw1 hr1_0 hr1_1 hr1_12 hr1_13 hr1_14 hr1_15 hr1_7 hr1_8 hr1_9 hr1_10 hr1_11 j0_9 j1_9 j2_9 j3_9 j4_9 j5_9 j6_9 j7_9 j8_9 j9_9 j10_9
      omega
    | succ n ih3 =>
      intro z4_9 z5_9 z6_9 v1 f1 hv1 hf1 hw1 hr1_0 hr1_1 hr1_12 hr1_13 hr1_14 hr1_15 hr1_7 hr1_8 hr1_9 hr1_10 hr1_11 j0_9 j1_9 j2_9 j3_9 j4_9 j5_9 j6_9 j7_9 j8_9 j9_9 j10_9
      have cb9 := cntB_le z5_9 24
      refine hC.1 1 9 _ _ rfl _ _ _ _ _ ?_
      intro m5 em_13
      try have e5 : m5.toInt = (x2).toInt - (x1).toInt := by rw [em_13]; exact pm_sub _ _ (by omega) (by omega)
      refine And.intro (fun c6 => ?_) (fun c6 => ?_)
      · skip
        refine hC.1 6 85 _ _ rfl _ _ _ _ _ ?_
        have k2 : (2 : Int32).toInt = 2 := rfl
        refine And.intro (fun c7 => ?_) (fun c7 => ?_)
        · skip
          refine hC.1 7 93 _ _ rfl _ _ _ _ _ ?_
          refine And.intro (Exists.intro _ md_o) (Exists.intro _ (Exists.intro _ (Exists.intro _ (Exists.intro _ (And.intro (c_X11_setOf D v1 f1 hv1 hf1 x1 x2 (by omega) (by omega)) (And.intro rfl (fun r9 A9 h9 => ?_)))))))
          obtain ⟨y8, rfl, rfl, by8⟩ := h9
          have lp10 : ∀ (n : Nat) (z4_104 : Int32) (z7_104 : Int32) (v9 : Nat → Int32) (f9 : Nat → Nat → Int32), md_V v9 → md_F f9 → f9 2 = f 2 → f9 0 = f 0 → f9 1 = f 1 → f9 12 = f 12 → f9 13 = f 13 → f9 14 = f 14 → f9 15 = f 15 → f9 7 = f 7 → f9 8 = f 8 → f9 9 = f 9 → f9 10 = f 10 → f9 11 = f 11 → (0 ≤ z7_104.toInt ∧ z7_104.toInt ≤ 24 ∧ 0 ≤ z4_104.toInt ∧ z4_104.toInt ≤ z7_104.toInt) → (v9 0).toInt = (v 0).toInt → (v9 1).toInt = (v 1).toInt → (v9 2).toInt = (v 2).toInt → (v9 3).toInt = (v 3).toInt → (v9 4).toInt = (v 4).toInt → (v9 5).toInt = (v 5).toInt → (v9 6).toInt = (v 6).toInt → 30 - z7_104.toInt < (n : Int) → J 104 [some (.ref h), some (.int x1), some (.int x2), some (.int x3), some (.int z4_104), some (.int z5_9), some (.int y8), some (.int z7_104), none] [] (md A0 g h q v9 f9) 0 0 := by
            intro n
            induction n with
            | zero =>
              intro z4_104 z7_104 v9 f9 hv9 hf9 hw9 hr9_0 hr9_1 hr9_12 hr9_13 hr9_14 hr9_15 hr9_7 hr9_8 hr9_9 hr9_10 hr9_11 j0_104 j1_104 j2_104 j3_104 j4_104 j5_104 j6_104 j7_104 j8_104
              omega
            | succ n ih11 =>
              intro z4_104 z7_104 v9 f9 hv9 hf9 hw9 hr9_0 hr9_1 hr9_12 hr9_13 hr9_14 hr9_15 hr9_7 hr9_8 hr9_9 hr9_10 hr9_11 j0_104 j1_104 j2_104 j3_104 j4_104 j5_104 j6_104 j7_104 j8_104
              refine hC.1 8 104 _ _ rfl _ _ _ _ _ ?_
              have k24 : (24 : Int32).toInt = 24 := rfl
              refine And.intro (fun c13 => ?_) (fun c13 => ?_)
              · skip
                refine hC.1 13 194 _ _ rfl _ _ _ _ _ ?_
                exact ⟨rfl, fun e9 => absurd e9 (by decide), rfl, z4_104, v9, f9, rfl, rfl, hv9, hf9, hw9, hr9_0, hr9_1, hr9_12, hr9_13, hr9_14, hr9_15, hr9_7, hr9_8, hr9_9, hr9_10, hr9_11, by first | omega | (dsimp only; omega) | trivial⟩
              · skip
                have k1 : (1 : Int32).toInt = 1 := rfl
                refine And.intro (fun c14 => ?_) (fun c14 => ?_)
                · skip
                  have dc14 := pm_neI c14
                  refine hC.1 9 124 _ _ rfl _ _ _ _ _ ?_
                  have lp16 : ∀ (n : Nat) (z8_128 : Int32) (v15 : Nat → Int32) (f15 : Nat → Nat → Int32), md_V v15 → md_F f15 → f15 2 = f 2 → f15 0 = f 0 → f15 1 = f 1 → f15 12 = f 12 → f15 13 = f 13 → f15 14 = f 14 → f15 15 = f 15 → f15 7 = f 7 → f15 8 = f 8 → f15 9 = f 9 → f15 10 = f 10 → f15 11 = f 11 → (0 ≤ z8_128.toInt ∧ z8_128.toInt ≤ z4_104.toInt) → (v15 0).toInt = (v 0).toInt → (v15 1).toInt = (v 1).toInt → (v15 2).toInt = (v 2).toInt → (v15 3).toInt = (v 3).toInt → (v15 4).toInt = (v 4).toInt → (v15 5).toInt = (v 5).toInt → (v15 6).toInt = (v 6).toInt → z8_128.toInt < (n : Int) → J 128 [some (.ref h), some (.int x1), some (.int x2), some (.int x3), some (.int z4_104), some (.int z5_9), some (.int y8), some (.int z7_104), some (.int z8_128)] [] (md A0 g h q v15 f15) 0 0 := by
                    intro n
                    induction n with
                    | zero =>
                      intro z8_128 v15 f15 hv15 hf15 hw15 hr15_0 hr15_1 hr15_12 hr15_13 hr15_14 hr15_15 hr15_7 hr15_8 hr15_9 hr15_10 hr15_11 j0_128 j1_128 j2_128 j3_128 j4_128 j5_128 j6_128 j7_128 j8_128
                      omega
                    | succ n ih17 =>
                      intro z8_128 v15 f15 hv15 hf15 hw15 hr15_0 hr15_1 hr15_12 hr15_13 hr15_14 hr15_15 hr15_7 hr15_8 hr15_9 hr15_10 hr15_11 j0_128 j1_128 j2_128 j3_128 j4_128 j5_128 j6_128 j7_128 j8_128
                      refine hC.1 10 128 _ _ rfl _ _ _ _ _ ?_
                      refine And.intro (fun c19 => ?_) (fun c19 => ?_)
                      · skip
                        refine hC.1 11 176 _ _ rfl _ _ _ _ _ ?_
                        refine Exists.intro _ (And.intro md_o ?_)
                        refine Exists.intro _ (Exists.intro _ (And.intro (md_a_row D) (And.intro (by omega) ?_)))
                        rw [md_s_row D]
                        obtain ⟨f20, ef20⟩ : ∃ z9, z9 = va_up f15 16 (upd (f15 16) (z8_128).toInt.toNat z7_104) := ⟨_, rfl⟩
                        rw [← ef20]
                        have hf20 : md_F f20 := by rw [ef20]; exact md_F_st hf15 16 _ _ (by show (0 : Int) ≤ _ ∧ _ ≤ (23 : Int); omega)
                        have hw20 : f20 2 = f 2 := (show f20 2 = f15 2 by rw [ef20]; rfl).trans hw15
                        have hr20_0 : f20 0 = f 0 := (show f20 0 = f15 0 by rw [ef20]; rfl).trans hr15_0
                        have hr20_1 : f20 1 = f 1 := (show f20 1 = f15 1 by rw [ef20]; rfl).trans hr15_1
                        have hr20_12 : f20 12 = f 12 := (show f20 12 = f15 12 by rw [ef20]; rfl).trans hr15_12
                        have hr20_13 : f20 13 = f 13 := (show f20 13 = f15 13 by rw [ef20]; rfl).trans hr15_13
                        have hr20_14 : f20 14 = f 14 := (show f20 14 = f15 14 by rw [ef20]; rfl).trans hr15_14
                        have hr20_15 : f20 15 = f 15 := (show f20 15 = f15 15 by rw [ef20]; rfl).trans hr15_15
                        have hr20_7 : f20 7 = f 7 := (show f20 7 = f15 7 by rw [ef20]; rfl).trans hr15_7
                        have hr20_8 : f20 8 = f 8 := (show f20 8 = f15 8 by rw [ef20]; rfl).trans hr15_8
                        have hr20_9 : f20 9 = f 9 := (show f20 9 = f15 9 by rw [ef20]; rfl).trans hr15_9
                        have hr20_10 : f20 10 = f 10 := (show f20 10 = f15 10 by rw [ef20]; rfl).trans hr15_10
                        have hr20_11 : f20 11 = f 11 := (show f20 11 = f15 11 by rw [ef20]; rfl).trans hr15_11
                        intro m21 em_185
                        try have e21 : m21.toInt = (z4_104).toInt + (1) := by rw [em_185]; exact pm_addc _ _ (1) rfl (by omega) (by omega)
                        refine hC.1 12 188 _ _ rfl _ _ _ _ _ ?_
                        intro m22 em_188
                        try have e22 : m22.toInt = (z7_104).toInt + (1) := by rw [em_188]; exact pm_addc _ _ (1) rfl (by omega) (by omega)
                        exact hC.2 [false, false, false, false, false, false, false, false, true] _ _ _ _ _ _ (ih11 m21 m22 v15 f20 hv15 hf20 hw20 hr20_0 hr20_1 hr20_12 hr20_13 hr20_14 hr20_15 hr20_7 hr20_8 hr20_9 hr20_10 hr20_11 (by omega) (by omega) (by omega) (by omega) (by omega) (by omega) (by omega) (by omega) (by omega))
                      · skip
                        refine Exists.intro _ (And.intro md_o ?_)
                        intro m23 em_143
                        try have e23 : m23.toInt = (z8_128).toInt - (1) := by rw [em_143]; exact pm_subc _ _ (1) rfl (by omega) (by omega)
                        refine Exists.intro _ (Exists.intro _ (And.intro (Or.inl (md_a_row D)) (And.intro (by omega) ?_)))
                        have w24 : (0 : Int) ≤ (f15 16 (m23).toInt.toNat).toInt ∧ (f15 16 (m23).toInt.toNat).toInt ≤ (23 : Int) := hf15 16 _
                        refine And.intro (Exists.intro _ md_o) (Exists.intro _ (Exists.intro _ (Exists.intro _ (Exists.intro _ (And.intro (c_X11_isAhead D v15 f15 hv15 hf15 z7_104 (f15 16 (m23).toInt.toNat) x1 x2 x3 (by omega) (by omega) (by omega) (by omega)) (And.intro rfl (fun r9 A9 h9 => ?_)))))))
                        rcases h9 with ⟨y25, rfl, rfl, ⟨rfl, by25⟩ | ⟨rfl, by25⟩⟩
                        · skip
                          refine And.intro (fun c9 => absurd c9 (by decide)) (fun _ => ?_)
                          refine Exists.intro _ (And.intro md_o ?_)
                          refine Exists.intro _ (And.intro md_o ?_)
                          intro m26 em_167
                          try have e26 : m26.toInt = (z8_128).toInt - (1) := by rw [em_167]; exact pm_subc _ _ (1) rfl (by omega) (by omega)
                          refine Exists.intro _ (Exists.intro _ (And.intro (Or.inl (md_a_row D)) (And.intro (by omega) ?_)))
                          have w27 : (0 : Int) ≤ (f15 16 (m26).toInt.toNat).toInt ∧ (f15 16 (m26).toInt.toNat).toInt ≤ (23 : Int) := hf15 16 _
                          refine Exists.intro _ (Exists.intro _ (And.intro (md_a_row D) (And.intro (by omega) ?_)))
                          rw [md_s_row D]
                          obtain ⟨f28, ef28⟩ : ∃ z9, z9 = va_up f15 16 (upd (f15 16) (z8_128).toInt.toNat (f15 16 (m26).toInt.toNat)) := ⟨_, rfl⟩
                          rw [← ef28]
                          have hf28 : md_F f28 := by rw [ef28]; exact md_F_st hf15 16 _ _ (by show (0 : Int) ≤ _ ∧ _ ≤ (23 : Int); omega)
                          have hw28 : f28 2 = f 2 := (show f28 2 = f15 2 by rw [ef28]; rfl).trans hw15
                          have hr28_0 : f28 0 = f 0 := (show f28 0 = f15 0 by rw [ef28]; rfl).trans hr15_0
                          have hr28_1 : f28 1 = f 1 := (show f28 1 = f15 1 by rw [ef28]; rfl).trans hr15_1
                          have hr28_12 : f28 12 = f 12 := (show f28 12 = f15 12 by rw [ef28]; rfl).trans hr15_12
                          have hr28_13 : f28 13 = f 13 := (show f28 13 = f15 13 by rw [ef28]; rfl).trans hr15_13
                          have hr28_14 : f28 14 = f 14 := (show f28 14 = f15 14 by rw [ef28]; rfl).trans hr15_14
                          have hr28_15 : f28 15 = f 15 := (show f28 15 = f15 15 by rw [ef28]; rfl).trans hr15_15
                          have hr28_7 : f28 7 = f 7 := (show f28 7 = f15 7 by rw [ef28]; rfl).trans hr15_7
                          have hr28_8 : f28 8 = f 8 := (show f28 8 = f15 8 by rw [ef28]; rfl).trans hr15_8
                          have hr28_9 : f28 9 = f 9 := (show f28 9 = f15 9 by rw [ef28]; rfl).trans hr15_9
                          have hr28_10 : f28 10 = f 10 := (show f28 10 = f15 10 by rw [ef28]; rfl).trans hr15_10
                          have hr28_11 : f28 11 = f 11 := (show f28 11 = f15 11 by rw [ef28]; rfl).trans hr15_11
                          have km1 : (-1 : Int32).toInt = -1 := rfl
                          intro m29 em_170
                          try have e29 : m29.toInt = (z8_128).toInt + (-1) := by rw [em_170]; exact pm_addc _ _ (-1) rfl (by omega) (by omega)
                          exact ih17 m29 v15 f28 hv15 hf28 hw28 hr28_0 hr28_1 hr28_12 hr28_13 hr28_14 hr28_15 hr28_7 hr28_8 hr28_9 hr28_10 hr28_11 (by omega) (by omega) (by omega) (by omega) (by omega) (by omega) (by omega) (by omega) (by omega)
                        · skip
                          refine And.intro (fun _ => ?_) (fun c9 => absurd c9 (by decide))
                          refine hC.1 11 176 _ _ rfl _ _ _ _ _ ?_
                          refine Exists.intro _ (And.intro md_o ?_)
                          refine Exists.intro _ (Exists.intro _ (And.intro (md_a_row D) (And.intro (by omega) ?_)))
                          rw [md_s_row D]
                          obtain ⟨f30, ef30⟩ : ∃ z9, z9 = va_up f15 16 (upd (f15 16) (z8_128).toInt.toNat z7_104) := ⟨_, rfl⟩
                          rw [← ef30]
                          have hf30 : md_F f30 := by rw [ef30]; exact md_F_st hf15 16 _ _ (by show (0 : Int) ≤ _ ∧ _ ≤ (23 : Int); omega)
                          have hw30 : f30 2 = f 2 := (show f30 2 = f15 2 by rw [ef30]; rfl).trans hw15
                          have hr30_0 : f30 0 = f 0 := (show f30 0 = f15 0 by rw [ef30]; rfl).trans hr15_0
                          have hr30_1 : f30 1 = f 1 := (show f30 1 = f15 1 by rw [ef30]; rfl).trans hr15_1
                          have hr30_12 : f30 12 = f 12 := (show f30 12 = f15 12 by rw [ef30]; rfl).trans hr15_12
                          have hr30_13 : f30 13 = f 13 := (show f30 13 = f15 13 by rw [ef30]; rfl).trans hr15_13
                          have hr30_14 : f30 14 = f 14 := (show f30 14 = f15 14 by rw [ef30]; rfl).trans hr15_14
                          have hr30_15 : f30 15 = f 15 := (show f30 15 = f15 15 by rw [ef30]; rfl).trans hr15_15
                          have hr30_7 : f30 7 = f 7 := (show f30 7 = f15 7 by rw [ef30]; rfl).trans hr15_7
                          have hr30_8 : f30 8 = f 8 := (show f30 8 = f15 8 by rw [ef30]; rfl).trans hr15_8
                          have hr30_9 : f30 9 = f 9 := (show f30 9 = f15 9 by rw [ef30]; rfl).trans hr15_9
                          have hr30_10 : f30 10 = f 10 := (show f30 10 = f15 10 by rw [ef30]; rfl).trans hr15_10
                          have hr30_11 : f30 11 = f 11 := (show f30 11 = f15 11 by rw [ef30]; rfl).trans hr15_11
                          intro m31 em_185
                          try have e31 : m31.toInt = (z4_104).toInt + (1) := by rw [em_185]; exact pm_addc _ _ (1) rfl (by omega) (by omega)
                          refine hC.1 12 188 _ _ rfl _ _ _ _ _ ?_
                          intro m32 em_188
                          try have e32 : m32.toInt = (z7_104).toInt + (1) := by rw [em_188]; exact pm_addc _ _ (1) rfl (by omega) (by omega)
                          exact hC.2 [false, false, false, false, false, false, false, false, true] _ _ _ _ _ _ (ih11 m31 m32 v15 f30 hv15 hf30 hw30 hr30_0 hr30_1 hr30_12 hr30_13 hr30_14 hr30_15 hr30_7 hr30_8 hr30_9 hr30_10 hr30_11 (by omega) (by omega) (by omega) (by omega) (by omega) (by omega) (by omega) (by omega) (by omega))
                  exact lp16 (z4_104.toInt).toNat.succ z4_104 v9 f9 hv9 hf9 hw9 hr9_0 hr9_1 hr9_12 hr9_13 hr9_14 hr9_15 hr9_7 hr9_8 hr9_9 hr9_10 hr9_11 (by omega) (by omega) (by omega) (by omega) (by omega) (by omega) (by omega) (by omega) (by omega)
                · skip
                  have dc14 : (((y8 >>> (z7_104 &&& 31)) &&& (1 : Int32))).toInt = (0 : Int32).toInt := congrArg Int32.toInt c14
                  refine hC.1 12 188 _ _ rfl _ _ _ _ _ ?_
                  intro m33 em_188
                  try have e33 : m33.toInt = (z7_104).toInt + (1) := by rw [em_188]; exact pm_addc _ _ (1) rfl (by omega) (by omega)
                  exact ih11 z4_104 m33 v9 f9 hv9 hf9 hw9 hr9_0 hr9_1 hr9_12 hr9_13 hr9_14 hr9_15 hr9_7 hr9_8 hr9_9 hr9_10 hr9_11 (by omega) (by omega) (by omega) (by omega) (by omega) (by omega) (by omega) (by omega) (by omega)
          exact lp10 (30 - (0 : Int32).toInt).toNat.succ z4_9 (0 : Int32) v1 f1 hv1 hf1 hw1 hr1_0 hr1_1 hr1_12 hr1_13 hr1_14 hr1_15 hr1_7 hr1_8 hr1_9 hr1_10 hr1_11 (by omega) (by omega) (by omega) (by omega) (by omega) (by omega) (by omega) (by omega) (by omega)
        · skip
          exact ⟨rfl, fun e9 => absurd e9 (by decide), rfl, z4_9, v1, f1, rfl, rfl, hv1, hf1, hw1, hr1_0, hr1_1, hr1_12, hr1_13, hr1_14, hr1_15, hr1_7, hr1_8, hr1_9, hr1_10, hr1_11, by first | omega | (dsimp only; omega) | trivial⟩
      · skip
        have k2 : (2 : Int32).toInt = 2 := rfl
        refine And.intro (fun c34 => ?_) (fun c34 => ?_)
        · skip
          refine hC.1 6 85 _ _ rfl _ _ _ _ _ ?_
          refine And.intro (fun c35 => ?_) (fun c35 => ?_)
          · skip
            refine hC.1 7 93 _ _ rfl _ _ _ _ _ ?_
            refine And.intro (Exists.intro _ md_o) (Exists.intro _ (Exists.intro _ (Exists.intro _ (Exists.intro _ (And.intro (c_X11_setOf D v1 f1 hv1 hf1 x1 x2 (by omega) (by omega)) (And.intro rfl (fun r9 A9 h9 => ?_)))))))
            obtain ⟨y36, rfl, rfl, by36⟩ := h9
            have lp38 : ∀ (n : Nat) (z4_104 : Int32) (z7_104 : Int32) (v37 : Nat → Int32) (f37 : Nat → Nat → Int32), md_V v37 → md_F f37 → f37 2 = f 2 → f37 0 = f 0 → f37 1 = f 1 → f37 12 = f 12 → f37 13 = f 13 → f37 14 = f 14 → f37 15 = f 15 → f37 7 = f 7 → f37 8 = f 8 → f37 9 = f 9 → f37 10 = f 10 → f37 11 = f 11 → (0 ≤ z7_104.toInt ∧ z7_104.toInt ≤ 24 ∧ 0 ≤ z4_104.toInt ∧ z4_104.toInt ≤ z7_104.toInt) → (v37 0).toInt = (v 0).toInt → (v37 1).toInt = (v 1).toInt → (v37 2).toInt = (v 2).toInt → (v37 3).toInt = (v 3).toInt → (v37 4).toInt = (v 4).toInt → (v37 5).toInt = (v 5).toInt → (v37 6).toInt = (v 6).toInt → 30 - z7_104.toInt < (n : Int) → J 104 [some (.ref h), some (.int x1), some (.int x2), some (.int x3), some (.int z4_104), some (.int z5_9), some (.int y36), some (.int z7_104), none] [] (md A0 g h q v37 f37) 0 0 := by
              intro n
              induction n with
              | zero =>
                intro z4_104 z7_104 v37 f37 hv37 hf37 hw37 hr37_0 hr37_1 hr37_12 hr37_13 hr37_14 hr37_15 hr37_7 hr37_8 hr37_9 hr37_10 hr37_11 j0_104 j1_104 j2_104 j3_104 j4_104 j5_104 j6_104 j7_104 j8_104
                omega
              | succ n ih39 =>
                intro z4_104 z7_104 v37 f37 hv37 hf37 hw37 hr37_0 hr37_1 hr37_12 hr37_13 hr37_14 hr37_15 hr37_7 hr37_8 hr37_9 hr37_10 hr37_11 j0_104 j1_104 j2_104 j3_104 j4_104 j5_104 j6_104 j7_104 j8_104
                refine hC.1 8 104 _ _ rfl _ _ _ _ _ ?_
                have k24 : (24 : Int32).toInt = 24 := rfl
                refine And.intro (fun c41 => ?_) (fun c41 => ?_)
                · skip
                  refine hC.1 13 194 _ _ rfl _ _ _ _ _ ?_
                  exact ⟨rfl, fun e9 => absurd e9 (by decide), rfl, z4_104, v37, f37, rfl, rfl, hv37, hf37, hw37, hr37_0, hr37_1, hr37_12, hr37_13, hr37_14, hr37_15, hr37_7, hr37_8, hr37_9, hr37_10, hr37_11, by first | omega | (dsimp only; omega) | trivial⟩
                · skip
                  have k1 : (1 : Int32).toInt = 1 := rfl
                  refine And.intro (fun c42 => ?_) (fun c42 => ?_)
                  · skip
                    have dc42 := pm_neI c42
                    refine hC.1 9 124 _ _ rfl _ _ _ _ _ ?_
                    have lp44 : ∀ (n : Nat) (z8_128 : Int32) (v43 : Nat → Int32) (f43 : Nat → Nat → Int32), md_V v43 → md_F f43 → f43 2 = f 2 → f43 0 = f 0 → f43 1 = f 1 → f43 12 = f 12 → f43 13 = f 13 → f43 14 = f 14 → f43 15 = f 15 → f43 7 = f 7 → f43 8 = f 8 → f43 9 = f 9 → f43 10 = f 10 → f43 11 = f 11 → (0 ≤ z8_128.toInt ∧ z8_128.toInt ≤ z4_104.toInt) → (v43 0).toInt = (v 0).toInt → (v43 1).toInt = (v 1).toInt → (v43 2).toInt = (v 2).toInt → (v43 3).toInt = (v 3).toInt → (v43 4).toInt = (v 4).toInt → (v43 5).toInt = (v 5).toInt → (v43 6).toInt = (v 6).toInt → z8_128.toInt < (n : Int) → J 128 [some (.ref h), some (.int x1), some (.int x2), some (.int x3), some (.int z4_104), some (.int z5_9), some (.int y36), some (.int z7_104), some (.int z8_128)] [] (md A0 g h q v43 f43) 0 0 := by
                      intro n
                      induction n with
                      | zero =>
                        intro z8_128 v43 f43 hv43 hf43 hw43 hr43_0 hr43_1 hr43_12 hr43_13 hr43_14 hr43_15 hr43_7 hr43_8 hr43_9 hr43_10 hr43_11 j0_128 j1_128 j2_128 j3_128 j4_128 j5_128 j6_128 j7_128 j8_128
                        omega
                      | succ n ih45 =>
                        intro z8_128 v43 f43 hv43 hf43 hw43 hr43_0 hr43_1 hr43_12 hr43_13 hr43_14 hr43_15 hr43_7 hr43_8 hr43_9 hr43_10 hr43_11 j0_128 j1_128 j2_128 j3_128 j4_128 j5_128 j6_128 j7_128 j8_128
                        refine hC.1 10 128 _ _ rfl _ _ _ _ _ ?_
                        refine And.intro (fun c47 => ?_) (fun c47 => ?_)
                        · skip
                          refine hC.1 11 176 _ _ rfl _ _ _ _ _ ?_
                          refine Exists.intro _ (And.intro md_o ?_)
                          refine Exists.intro _ (Exists.intro _ (And.intro (md_a_row D) (And.intro (by omega) ?_)))
                          rw [md_s_row D]
                          obtain ⟨f48, ef48⟩ : ∃ z9, z9 = va_up f43 16 (upd (f43 16) (z8_128).toInt.toNat z7_104) := ⟨_, rfl⟩
                          rw [← ef48]
                          have hf48 : md_F f48 := by rw [ef48]; exact md_F_st hf43 16 _ _ (by show (0 : Int) ≤ _ ∧ _ ≤ (23 : Int); omega)
                          have hw48 : f48 2 = f 2 := (show f48 2 = f43 2 by rw [ef48]; rfl).trans hw43
                          have hr48_0 : f48 0 = f 0 := (show f48 0 = f43 0 by rw [ef48]; rfl).trans hr43_0
                          have hr48_1 : f48 1 = f 1 := (show f48 1 = f43 1 by rw [ef48]; rfl).trans hr43_1
                          have hr48_12 : f48 12 = f 12 := (show f48 12 = f43 12 by rw [ef48]; rfl).trans hr43_12
                          have hr48_13 : f48 13 = f 13 := (show f48 13 = f43 13 by rw [ef48]; rfl).trans hr43_13
                          have hr48_14 : f48 14 = f 14 := (show f48 14 = f43 14 by rw [ef48]; rfl).trans hr43_14
                          have hr48_15 : f48 15 = f 15 := (show f48 15 = f43 15 by rw [ef48]; rfl).trans hr43_15
                          have hr48_7 : f48 7 = f 7 := (show f48 7 = f43 7 by rw [ef48]; rfl).trans hr43_7
                          have hr48_8 : f48 8 = f 8 := (show f48 8 = f43 8 by rw [ef48]; rfl).trans hr43_8
                          have hr48_9 : f48 9 = f 9 := (show f48 9 = f43 9 by rw [ef48]; rfl).trans hr43_9
                          have hr48_10 : f48 10 = f 10 := (show f48 10 = f43 10 by rw [ef48]; rfl).trans hr43_10
                          have hr48_11 : f48 11 = f 11 := (show f48 11 = f43 11 by rw [ef48]; rfl).trans hr43_11
                          intro m49 em_185
                          try have e49 : m49.toInt = (z4_104).toInt + (1) := by rw [em_185]; exact pm_addc _ _ (1) rfl (by omega) (by omega)
                          refine hC.1 12 188 _ _ rfl _ _ _ _ _ ?_
                          intro m50 em_188
                          try have e50 : m50.toInt = (z7_104).toInt + (1) := by rw [em_188]; exact pm_addc _ _ (1) rfl (by omega) (by omega)
                          exact hC.2 [false, false, false, false, false, false, false, false, true] _ _ _ _ _ _ (ih39 m49 m50 v43 f48 hv43 hf48 hw48 hr48_0 hr48_1 hr48_12 hr48_13 hr48_14 hr48_15 hr48_7 hr48_8 hr48_9 hr48_10 hr48_11 (by omega) (by omega) (by omega) (by omega) (by omega) (by omega) (by omega) (by omega) (by omega))
                        · skip
                          refine Exists.intro _ (And.intro md_o ?_)
                          intro m51 em_143
                          try have e51 : m51.toInt = (z8_128).toInt - (1) := by rw [em_143]; exact pm_subc _ _ (1) rfl (by omega) (by omega)
                          refine Exists.intro _ (Exists.intro _ (And.intro (Or.inl (md_a_row D)) (And.intro (by omega) ?_)))
                          have w52 : (0 : Int) ≤ (f43 16 (m51).toInt.toNat).toInt ∧ (f43 16 (m51).toInt.toNat).toInt ≤ (23 : Int) := hf43 16 _
                          refine And.intro (Exists.intro _ md_o) (Exists.intro _ (Exists.intro _ (Exists.intro _ (Exists.intro _ (And.intro (c_X11_isAhead D v43 f43 hv43 hf43 z7_104 (f43 16 (m51).toInt.toNat) x1 x2 x3 (by omega) (by omega) (by omega) (by omega)) (And.intro rfl (fun r9 A9 h9 => ?_)))))))
                          rcases h9 with ⟨y53, rfl, rfl, ⟨rfl, by53⟩ | ⟨rfl, by53⟩⟩
                          · skip
                            refine And.intro (fun c9 => absurd c9 (by decide)) (fun _ => ?_)
                            refine Exists.intro _ (And.intro md_o ?_)
                            refine Exists.intro _ (And.intro md_o ?_)
                            intro m54 em_167
                            try have e54 : m54.toInt = (z8_128).toInt - (1) := by rw [em_167]; exact pm_subc _ _ (1) rfl (by omega) (by omega)
                            refine Exists.intro _ (Exists.intro _ (And.intro (Or.inl (md_a_row D)) (And.intro (by omega) ?_)))
                            have w55 : (0 : Int) ≤ (f43 16 (m54).toInt.toNat).toInt ∧ (f43 16 (m54).toInt.toNat).toInt ≤ (23 : Int) := hf43 16 _
                            refine Exists.intro _ (Exists.intro _ (And.intro (md_a_row D) (And.intro (by omega) ?_)))
                            rw [md_s_row D]
                            obtain ⟨f56, ef56⟩ : ∃ z9, z9 = va_up f43 16 (upd (f43 16) (z8_128).toInt.toNat (f43 16 (m54).toInt.toNat)) := ⟨_, rfl⟩
                            rw [← ef56]
                            have hf56 : md_F f56 := by rw [ef56]; exact md_F_st hf43 16 _ _ (by show (0 : Int) ≤ _ ∧ _ ≤ (23 : Int); omega)
                            have hw56 : f56 2 = f 2 := (show f56 2 = f43 2 by rw [ef56]; rfl).trans hw43
                            have hr56_0 : f56 0 = f 0 := (show f56 0 = f43 0 by rw [ef56]; rfl).trans hr43_0
                            have hr56_1 : f56 1 = f 1 := (show f56 1 = f43 1 by rw [ef56]; rfl).trans hr43_1
                            have hr56_12 : f56 12 = f 12 := (show f56 12 = f43 12 by rw [ef56]; rfl).trans hr43_12
                            have hr56_13 : f56 13 = f 13 := (show f56 13 = f43 13 by rw [ef56]; rfl).trans hr43_13
                            have hr56_14 : f56 14 = f 14 := (show f56 14 = f43 14 by rw [ef56]; rfl).trans hr43_14
                            have hr56_15 : f56 15 = f 15 := (show f56 15 = f43 15 by rw [ef56]; rfl).trans hr43_15
                            have hr56_7 : f56 7 = f 7 := (show f56 7 = f43 7 by rw [ef56]; rfl).trans hr43_7
                            have hr56_8 : f56 8 = f 8 := (show f56 8 = f43 8 by rw [ef56]; rfl).trans hr43_8
                            have hr56_9 : f56 9 = f 9 := (show f56 9 = f43 9 by rw [ef56]; rfl).trans hr43_9
                            have hr56_10 : f56 10 = f 10 := (show f56 10 = f43 10 by rw [ef56]; rfl).trans hr43_10
                            have hr56_11 : f56 11 = f 11 := (show f56 11 = f43 11 by rw [ef56]; rfl).trans hr43_11
                            have km1 : (-1 : Int32).toInt = -1 := rfl
                            intro m57 em_170
                            try have e57 : m57.toInt = (z8_128).toInt + (-1) := by rw [em_170]; exact pm_addc _ _ (-1) rfl (by omega) (by omega)
                            exact ih45 m57 v43 f56 hv43 hf56 hw56 hr56_0 hr56_1 hr56_12 hr56_13 hr56_14 hr56_15 hr56_7 hr56_8 hr56_9 hr56_10 hr56_11 (by omega) (by omega) (by omega) (by omega) (by omega) (by omega) (by omega) (by omega) (by omega)
                          · skip
                            refine And.intro (fun _ => ?_) (fun c9 => absurd c9 (by decide))
                            refine hC.1 11 176 _ _ rfl _ _ _ _ _ ?_
                            refine Exists.intro _ (And.intro md_o ?_)
                            refine Exists.intro _ (Exists.intro _ (And.intro (md_a_row D) (And.intro (by omega) ?_)))
                            rw [md_s_row D]
                            obtain ⟨f58, ef58⟩ : ∃ z9, z9 = va_up f43 16 (upd (f43 16) (z8_128).toInt.toNat z7_104) := ⟨_, rfl⟩
                            rw [← ef58]
                            have hf58 : md_F f58 := by rw [ef58]; exact md_F_st hf43 16 _ _ (by show (0 : Int) ≤ _ ∧ _ ≤ (23 : Int); omega)
                            have hw58 : f58 2 = f 2 := (show f58 2 = f43 2 by rw [ef58]; rfl).trans hw43
                            have hr58_0 : f58 0 = f 0 := (show f58 0 = f43 0 by rw [ef58]; rfl).trans hr43_0
                            have hr58_1 : f58 1 = f 1 := (show f58 1 = f43 1 by rw [ef58]; rfl).trans hr43_1
                            have hr58_12 : f58 12 = f 12 := (show f58 12 = f43 12 by rw [ef58]; rfl).trans hr43_12
                            have hr58_13 : f58 13 = f 13 := (show f58 13 = f43 13 by rw [ef58]; rfl).trans hr43_13
                            have hr58_14 : f58 14 = f 14 := (show f58 14 = f43 14 by rw [ef58]; rfl).trans hr43_14
                            have hr58_15 : f58 15 = f 15 := (show f58 15 = f43 15 by rw [ef58]; rfl).trans hr43_15
                            have hr58_7 : f58 7 = f 7 := (show f58 7 = f43 7 by rw [ef58]; rfl).trans hr43_7
                            have hr58_8 : f58 8 = f 8 := (show f58 8 = f43 8 by rw [ef58]; rfl).trans hr43_8
                            have hr58_9 : f58 9 = f 9 := (show f58 9 = f43 9 by rw [ef58]; rfl).trans hr43_9
                            have hr58_10 : f58 10 = f 10 := (show f58 10 = f43 10 by rw [ef58]; rfl).trans hr43_10
                            have hr58_11 : f58 11 = f 11 := (show f58 11 = f43 11 by rw [ef58]; rfl).trans hr43_11
                            intro m59 em_185
                            try have e59 : m59.toInt = (z4_104).toInt + (1) := by rw [em_185]; exact pm_addc _ _ (1) rfl (by omega) (by omega)
                            refine hC.1 12 188 _ _ rfl _ _ _ _ _ ?_
                            intro m60 em_188
                            try have e60 : m60.toInt = (z7_104).toInt + (1) := by rw [em_188]; exact pm_addc _ _ (1) rfl (by omega) (by omega)
                            exact hC.2 [false, false, false, false, false, false, false, false, true] _ _ _ _ _ _ (ih39 m59 m60 v43 f58 hv43 hf58 hw58 hr58_0 hr58_1 hr58_12 hr58_13 hr58_14 hr58_15 hr58_7 hr58_8 hr58_9 hr58_10 hr58_11 (by omega) (by omega) (by omega) (by omega) (by omega) (by omega) (by omega) (by omega) (by omega))
                    exact lp44 (z4_104.toInt).toNat.succ z4_104 v37 f37 hv37 hf37 hw37 hr37_0 hr37_1 hr37_12 hr37_13 hr37_14 hr37_15 hr37_7 hr37_8 hr37_9 hr37_10 hr37_11 (by omega) (by omega) (by omega) (by omega) (by omega) (by omega) (by omega) (by omega) (by omega)
                  · skip
                    have dc42 : (((y36 >>> (z7_104 &&& 31)) &&& (1 : Int32))).toInt = (0 : Int32).toInt := congrArg Int32.toInt c42
                    refine hC.1 12 188 _ _ rfl _ _ _ _ _ ?_
                    intro m61 em_188
                    try have e61 : m61.toInt = (z7_104).toInt + (1) := by rw [em_188]; exact pm_addc _ _ (1) rfl (by omega) (by omega)
                    exact ih39 z4_104 m61 v37 f37 hv37 hf37 hw37 hr37_0 hr37_1 hr37_12 hr37_13 hr37_14 hr37_15 hr37_7 hr37_8 hr37_9 hr37_10 hr37_11 (by omega) (by omega) (by omega) (by omega) (by omega) (by omega) (by omega) (by omega) (by omega)
            exact lp38 (30 - (0 : Int32).toInt).toNat.succ z4_9 (0 : Int32) v1 f1 hv1 hf1 hw1 hr1_0 hr1_1 hr1_12 hr1_13 hr1_14 hr1_15 hr1_7 hr1_8 hr1_9 hr1_10 hr1_11 (by omega) (by omega) (by omega) (by omega) (by omega) (by omega) (by omega) (by omega) (by omega)
          · skip
            exact ⟨rfl, fun e9 => absurd e9 (by decide), rfl, z4_9, v1, f1, rfl, rfl, hv1, hf1, hw1, hr1_0, hr1_1, hr1_12, hr1_13, hr1_14, hr1_15, hr1_7, hr1_8, hr1_9, hr1_10, hr1_11, by first | omega | (dsimp only; omega) | trivial⟩
        · skip
          refine Exists.intro _ (And.intro md_o ?_)
          refine And.intro (fun c62 => ?_) (fun c62 => ?_)
          · skip
            have dc62 := pm_neI c62
            refine hC.1 2 37 _ _ rfl _ _ _ _ _ ?_
            intro m63 em_40
            try have e63 : m63.toInt = (x2).toInt - (z6_9).toInt := by rw [em_40]; exact pm_sub _ _ (by omega) (by omega)
            refine hC.1 3 41 _ _ rfl _ _ _ _ _ ?_
            refine Exists.intro _ (Exists.intro _ (And.intro (Or.inl (md_a_colours D)) (And.intro (by omega) ?_)))
            have w64 : (0 : Int) ≤ (f1 0 (m63).toInt.toNat).toInt ∧ (f1 0 (m63).toInt.toNat).toInt ≤ (23 : Int) := hf1 0 _
            have k1 : (1 : Int32).toInt = 1 := rfl
            refine And.intro (fun c65 => ?_) (fun c65 => ?_)
            · skip
              have dc65 := pm_neI c65
              refine hC.1 4 58 _ _ rfl _ _ _ _ _ ?_
              have hn9 := cnt_lt (c := (f1 0 (m63).toInt.toNat)) j1_9 (by omega) (by assumption)
              refine Exists.intro _ (And.intro md_o ?_)
              refine Exists.intro _ (Exists.intro _ (And.intro (md_a_row D) (And.intro (by omega) ?_)))
              rw [md_s_row D]
              obtain ⟨f66, ef66⟩ : ∃ z9, z9 = va_up f1 16 (upd (f1 16) (z4_9).toInt.toNat (f1 0 (m63).toInt.toNat)) := ⟨_, rfl⟩
              rw [← ef66]
              have hf66 : md_F f66 := by rw [ef66]; exact md_F_st hf1 16 _ _ (by show (0 : Int) ≤ _ ∧ _ ≤ (23 : Int); omega)
              have hw66 : f66 2 = f 2 := (show f66 2 = f1 2 by rw [ef66]; rfl).trans hw1
              have hr66_0 : f66 0 = f 0 := (show f66 0 = f1 0 by rw [ef66]; rfl).trans hr1_0
              have hr66_1 : f66 1 = f 1 := (show f66 1 = f1 1 by rw [ef66]; rfl).trans hr1_1
              have hr66_12 : f66 12 = f 12 := (show f66 12 = f1 12 by rw [ef66]; rfl).trans hr1_12
              have hr66_13 : f66 13 = f 13 := (show f66 13 = f1 13 by rw [ef66]; rfl).trans hr1_13
              have hr66_14 : f66 14 = f 14 := (show f66 14 = f1 14 by rw [ef66]; rfl).trans hr1_14
              have hr66_15 : f66 15 = f 15 := (show f66 15 = f1 15 by rw [ef66]; rfl).trans hr1_15
              have hr66_7 : f66 7 = f 7 := (show f66 7 = f1 7 by rw [ef66]; rfl).trans hr1_7
              have hr66_8 : f66 8 = f 8 := (show f66 8 = f1 8 by rw [ef66]; rfl).trans hr1_8
              have hr66_9 : f66 9 = f 9 := (show f66 9 = f1 9 by rw [ef66]; rfl).trans hr1_9
              have hr66_10 : f66 10 = f 10 := (show f66 10 = f1 10 by rw [ef66]; rfl).trans hr1_10
              have hr66_11 : f66 11 = f 11 := (show f66 11 = f1 11 by rw [ef66]; rfl).trans hr1_11
              intro m67 em_76
              try have e67 : m67.toInt = (z4_9).toInt + (1) := by rw [em_76]; exact pm_addc _ _ (1) rfl (by omega) (by omega)
              refine hC.1 5 79 _ _ rfl _ _ _ _ _ ?_
              intro m68 em_79
              try have e68 : m68.toInt = (z6_9).toInt + (1) := by rw [em_79]; exact pm_addc _ _ (1) rfl (by omega) (by omega)
              exact hC.2 [false, false, false, false, false, false, false, true, false] _ _ _ _ _ _ (ih3 m67 (z5_9 ||| ((1 : Int32) <<< ((f1 0 (m63).toInt.toNat) &&& 31))) m68 v1 f66 hv1 hf66 hw66 hr66_0 hr66_1 hr66_12 hr66_13 hr66_14 hr66_15 hr66_7 hr66_8 hr66_9 hr66_10 hr66_11 (by omega) (by first | exact j1_9 | (rw [em_76]; exact cnt_st j1_9 (by omega) (by assumption))) (by omega) (by omega) (by omega) (by omega) (by omega) (by omega) (by omega) (by omega) (by omega))
            · skip
              have dc65 : (((z5_9 >>> ((f1 0 (m63).toInt.toNat) &&& 31)) &&& (1 : Int32))).toInt = ((1 : Int32) : Int32).toInt := congrArg Int32.toInt c65
              refine hC.1 5 79 _ _ rfl _ _ _ _ _ ?_
              intro m69 em_79
              try have e69 : m69.toInt = (z6_9).toInt + (1) := by rw [em_79]; exact pm_addc _ _ (1) rfl (by omega) (by omega)
              exact hC.2 [false, false, false, false, false, false, false, true, false] _ _ _ _ _ _ (ih3 z4_9 z5_9 m69 v1 f1 hv1 hf1 hw1 hr1_0 hr1_1 hr1_12 hr1_13 hr1_14 hr1_15 hr1_7 hr1_8 hr1_9 hr1_10 hr1_11 (by omega) (by first | exact j1_9 | (rw [em_76]; exact cnt_st j1_9 (by omega) (by assumption))) (by omega) (by omega) (by omega) (by omega) (by omega) (by omega) (by omega) (by omega) (by omega))
          · skip
            have dc62 : (x3).toInt = (0 : Int32).toInt := congrArg Int32.toInt c62
            intro m70 em_33
            try have e70 : m70.toInt = (x1).toInt + (z6_9).toInt := by rw [em_33]; exact pm_add _ _ (by omega) (by omega)
            refine hC.1 3 41 _ _ rfl _ _ _ _ _ ?_
            refine Exists.intro _ (Exists.intro _ (And.intro (Or.inl (md_a_colours D)) (And.intro (by omega) ?_)))
            have w71 : (0 : Int) ≤ (f1 0 (m70).toInt.toNat).toInt ∧ (f1 0 (m70).toInt.toNat).toInt ≤ (23 : Int) := hf1 0 _
            have k1 : (1 : Int32).toInt = 1 := rfl
            refine And.intro (fun c72 => ?_) (fun c72 => ?_)
            · skip
              have dc72 := pm_neI c72
              refine hC.1 4 58 _ _ rfl _ _ _ _ _ ?_
              have hn9 := cnt_lt (c := (f1 0 (m70).toInt.toNat)) j1_9 (by omega) (by assumption)
              refine Exists.intro _ (And.intro md_o ?_)
              refine Exists.intro _ (Exists.intro _ (And.intro (md_a_row D) (And.intro (by omega) ?_)))
              rw [md_s_row D]
              obtain ⟨f73, ef73⟩ : ∃ z9, z9 = va_up f1 16 (upd (f1 16) (z4_9).toInt.toNat (f1 0 (m70).toInt.toNat)) := ⟨_, rfl⟩
              rw [← ef73]
              have hf73 : md_F f73 := by rw [ef73]; exact md_F_st hf1 16 _ _ (by show (0 : Int) ≤ _ ∧ _ ≤ (23 : Int); omega)
              have hw73 : f73 2 = f 2 := (show f73 2 = f1 2 by rw [ef73]; rfl).trans hw1
              have hr73_0 : f73 0 = f 0 := (show f73 0 = f1 0 by rw [ef73]; rfl).trans hr1_0
              have hr73_1 : f73 1 = f 1 := (show f73 1 = f1 1 by rw [ef73]; rfl).trans hr1_1
              have hr73_12 : f73 12 = f 12 := (show f73 12 = f1 12 by rw [ef73]; rfl).trans hr1_12
              have hr73_13 : f73 13 = f 13 := (show f73 13 = f1 13 by rw [ef73]; rfl).trans hr1_13
              have hr73_14 : f73 14 = f 14 := (show f73 14 = f1 14 by rw [ef73]; rfl).trans hr1_14
              have hr73_15 : f73 15 = f 15 := (show f73 15 = f1 15 by rw [ef73]; rfl).trans hr1_15
              have hr73_7 : f73 7 = f 7 := (show f73 7 = f1 7 by rw [ef73]; rfl).trans hr1_7
              have hr73_8 : f73 8 = f 8 := (show f73 8 = f1 8 by rw [ef73]; rfl).trans hr1_8
              have hr73_9 : f73 9 = f 9 := (show f73 9 = f1 9 by rw [ef73]; rfl).trans hr1_9
              have hr73_10 : f73 10 = f 10 := (show f73 10 = f1 10 by rw [ef73]; rfl).trans hr1_10
              have hr73_11 : f73 11 = f 11 := (show f73 11 = f1 11 by rw [ef73]; rfl).trans hr1_11
              intro m74 em_76
              try have e74 : m74.toInt = (z4_9).toInt + (1) := by rw [em_76]; exact pm_addc _ _ (1) rfl (by omega) (by omega)
              refine hC.1 5 79 _ _ rfl _ _ _ _ _ ?_
              intro m75 em_79
              try have e75 : m75.toInt = (z6_9).toInt + (1) := by rw [em_79]; exact pm_addc _ _ (1) rfl (by omega) (by omega)
              exact hC.2 [false, false, false, false, false, false, false, true, false] _ _ _ _ _ _ (ih3 m74 (z5_9 ||| ((1 : Int32) <<< ((f1 0 (m70).toInt.toNat) &&& 31))) m75 v1 f73 hv1 hf73 hw73 hr73_0 hr73_1 hr73_12 hr73_13 hr73_14 hr73_15 hr73_7 hr73_8 hr73_9 hr73_10 hr73_11 (by omega) (by first | exact j1_9 | (rw [em_76]; exact cnt_st j1_9 (by omega) (by assumption))) (by omega) (by omega) (by omega) (by omega) (by omega) (by omega) (by omega) (by omega) (by omega))
            · skip
              have dc72 : (((z5_9 >>> ((f1 0 (m70).toInt.toNat) &&& 31)) &&& (1 : Int32))).toInt = ((1 : Int32) : Int32).toInt := congrArg Int32.toInt c72
              refine hC.1 5 79 _ _ rfl _ _ _ _ _ ?_
              intro m76 em_79
              try have e76 : m76.toInt = (z6_9).toInt + (1) := by rw [em_79]; exact pm_addc _ _ (1) rfl (by omega) (by omega)
              exact hC.2 [false, false, false, false, false, false, false, true, false] _ _ _ _ _ _ (ih3 z4_9 z5_9 m76 v1 f1 hv1 hf1 hw1 hr1_0 hr1_1 hr1_12 hr1_13 hr1_14 hr1_15 hr1_7 hr1_8 hr1_9 hr1_10 hr1_11 (by omega) (by first | exact j1_9 | (rw [em_76]; exact cnt_st j1_9 (by omega) (by assumption))) (by omega) (by omega) (by omega) (by omega) (by omega) (by omega) (by omega) (by omega) (by omega))
  exact lp2 (200 - (0 : Int32).toInt).toNat.succ (0 : Int32) (0 : Int32) (0 : Int32) v f hv hf rfl rfl rfl rfl rfl rfl rfl rfl rfl rfl rfl rfl (by omega) (by exact cnt_0) (by omega) (by omega) (by omega) (by omega) (by omega) (by omega) (by omega) (by omega) (by omega)

end
end
section
section
variable {l : Launch} {g : pm_G} {A0 : pm_H} {h : Nat} {q : Nat → Nat}
set_option maxRecDepth 100000 in
set_option maxHeartbeats 2000000 in
theorem V_X11_kth (D : md_D h q) (v : Nat → Int32) (f : Nat → Nat → Int32) (hv : md_V v) (hf : md_F f) (x1 : Int32) (x2 : Int32) (x3 : Int32) (x4 : Int32)  : pm_Mt l g 220 3 0 0 [.ref h, .int x1, .int x2, .int x3, .int x4] (md A0 g h q v f) (md_Qw A0 g h q f (fun r v2 f2 => f2 0 = f 0 ∧ f2 1 = f 1 ∧ f2 12 = f 12 ∧ f2 13 = f 13 ∧ f2 14 = f 14 ∧ f2 15 = f 15 ∧ f2 7 = f 7 ∧ f2 8 = f 8 ∧ f2 9 = f 9 ∧ f2 10 = f 10 ∧ f2 11 = f 11 ∧ (v2 0).toInt = (v 0).toInt ∧ (v2 1).toInt = (v 1).toInt ∧ (v2 2).toInt = (v 2).toInt ∧ (v2 3).toInt = (v 3).toInt ∧ (v2 4).toInt = (v 4).toInt ∧ (v2 5).toInt = (v 5).toInt ∧ (v2 6).toInt = (v 6).toInt)) := by
  refine mt_X11_kth rfl (fun J hC => ?_)
  have hv9 := hv
  unfold md_V at hv9
  have rg_x1 := pm_rng x1
  have rg_x2 := pm_rng x2
  have rg_x3 := pm_rng x3
  have rg_x4 := pm_rng x4
  refine hC.1 0 0 _ _ rfl _ _ _ _ _ ?_
  refine And.intro (Exists.intro _ md_o) (Exists.intro _ (Exists.intro _ (Exists.intro _ (Exists.intro _ (And.intro (c_X11_isSpan D v f hv hf x1 x2 ) (And.intro rfl (fun r9 A9 h9 => ?_)))))))
  rcases h9 with ⟨y1, rfl, rfl, ⟨rfl, by1⟩ | ⟨rfl, by1⟩⟩
  · skip
    have k1 : (1 : Int32).toInt = 1 := rfl
    refine And.intro (fun c9 => absurd c9 (by decide)) (fun _ => ?_)
    have k0 : (0 : Int32).toInt = 0 := rfl
    have k4 : (4 : Int32).toInt = 4 := rfl
    refine Exists.intro _ (Exists.intro _ (Exists.intro _ (Exists.intro _ (And.intro (c_X11_isIn (md A0 g h q v f) x4 (0 : Int32) (4 : Int32) ) (And.intro rfl (fun r9 A9 h9 => ?_))))))
    rcases h9 with ⟨y2, rfl, rfl, ⟨rfl, by2⟩ | ⟨rfl, by2⟩⟩
    · skip
      refine And.intro (fun _ => ?_) (fun c9 => absurd c9 (by decide))
      refine hC.1 2 21 _ _ rfl _ _ _ _ _ ?_
      refine And.intro (Exists.intro _ md_o) (Exists.intro _ (Exists.intro _ (Exists.intro _ (Exists.intro _ (And.intro (V_X11_laysOrder D v f hv hf x1 x2 x4 (by omega)) (And.intro rfl (fun r9 A9 h9 => ?_)))))))
      obtain ⟨y3, v4, f4, rfl, rfl, hv4, hf4, hx4, hg4_0, hg4_1, hg4_12, hg4_13, hg4_14, hg4_15, hg4_7, hg4_8, hg4_9, hg4_10, hg4_11, by3⟩ := h9
      have hw4 : f4 2 = f 2 := hx4.trans rfl
      have hr4_0 : f4 0 = f 0 := hg4_0.trans rfl
      have hr4_1 : f4 1 = f 1 := hg4_1.trans rfl
      have hr4_12 : f4 12 = f 12 := hg4_12.trans rfl
      have hr4_13 : f4 13 = f 13 := hg4_13.trans rfl
      have hr4_14 : f4 14 = f 14 := hg4_14.trans rfl
      have hr4_15 : f4 15 = f 15 := hg4_15.trans rfl
      have hr4_7 : f4 7 = f 7 := hg4_7.trans rfl
      have hr4_8 : f4 8 = f 8 := hg4_8.trans rfl
      have hr4_9 : f4 9 = f 9 := hg4_9.trans rfl
      have hr4_10 : f4 10 = f 10 := hg4_10.trans rfl
      have hr4_11 : f4 11 = f 11 := hg4_11.trans rfl
      intro m6 em_36
      try have e6 : m6.toInt = (y3).toInt - (1) := by rw [em_36]; exact pm_subc _ _ (1) rfl (by omega) (by omega)
      refine Exists.intro _ (Exists.intro _ (Exists.intro _ (Exists.intro _ (And.intro (c_X11_isIn (md A0 g h q v4 f4) x3 (0 : Int32) m6 ) (And.intro rfl (fun r9 A9 h9 => ?_))))))
      rcases h9 with ⟨y7, rfl, rfl, ⟨rfl, by7⟩ | ⟨rfl, by7⟩⟩
      · skip
        refine And.intro (fun c9 => absurd c9 (by decide)) (fun _ => ?_)
        refine Exists.intro _ (And.intro md_o ?_)
        refine Exists.intro _ (Exists.intro _ (And.intro (Or.inl (md_a_row D)) (And.intro (by omega) ?_)))
        have w8 : (0 : Int) ≤ (f4 16 (x3).toInt.toNat).toInt ∧ (f4 16 (x3).toInt.toNat).toInt ≤ (23 : Int) := hf4 16 _
        refine hC.1 4 53 _ _ rfl _ _ _ _ _ ?_
        exact ⟨rfl, fun e9 => absurd e9 (by decide), rfl, (f4 16 (x3).toInt.toNat), v4, f4, rfl, rfl, hv4, hf4, hw4, hr4_0, hr4_1, hr4_12, hr4_13, hr4_14, hr4_15, hr4_7, hr4_8, hr4_9, hr4_10, hr4_11, by first | omega | (dsimp only; omega) | trivial⟩
      · skip
        refine And.intro (fun _ => ?_) (fun c9 => absurd c9 (by decide))
        refine hC.1 3 52 _ _ rfl _ _ _ _ _ ?_
        have km1 : (-1 : Int32).toInt = -1 := rfl
        refine hC.1 4 53 _ _ rfl _ _ _ _ _ ?_
        exact ⟨rfl, fun e9 => absurd e9 (by decide), rfl, (-1 : Int32), v4, f4, rfl, rfl, hv4, hf4, hw4, hr4_0, hr4_1, hr4_12, hr4_13, hr4_14, hr4_15, hr4_7, hr4_8, hr4_9, hr4_10, hr4_11, by first | omega | (dsimp only; omega) | trivial⟩
    · skip
      refine And.intro (fun c9 => absurd c9 (by decide)) (fun _ => ?_)
      refine hC.1 1 19 _ _ rfl _ _ _ _ _ ?_
      have km1 : (-1 : Int32).toInt = -1 := rfl
      exact ⟨rfl, fun e9 => absurd e9 (by decide), rfl, (-1 : Int32), v, f, rfl, rfl, hv, hf, rfl, rfl, rfl, rfl, rfl, rfl, rfl, rfl, rfl, rfl, rfl, rfl, by first | omega | (dsimp only; omega) | trivial⟩
  · skip
    have k0 : (0 : Int32).toInt = 0 := rfl
    refine And.intro (fun _ => ?_) (fun c9 => absurd c9 (by decide))
    refine hC.1 1 19 _ _ rfl _ _ _ _ _ ?_
    have km1 : (-1 : Int32).toInt = -1 := rfl
    exact ⟨rfl, fun e9 => absurd e9 (by decide), rfl, (-1 : Int32), v, f, rfl, rfl, hv, hf, rfl, rfl, rfl, rfl, rfl, rfl, rfl, rfl, rfl, rfl, rfl, rfl, by first | omega | (dsimp only; omega) | trivial⟩

set_option maxRecDepth 100000 in
set_option maxHeartbeats 2000000 in
theorem V_X11_least (D : md_D h q) (v : Nat → Int32) (f : Nat → Nat → Int32) (hv : md_V v) (hf : md_F f) (x1 : Int32) (x2 : Int32) (x3 : Int32)  : pm_Mt l g 242 3 0 0 [.ref h, .int x1, .int x2, .int x3] (md A0 g h q v f) (md_Qw A0 g h q f (fun r v2 f2 => f2 0 = f 0 ∧ f2 1 = f 1 ∧ f2 12 = f 12 ∧ f2 13 = f 13 ∧ f2 14 = f 14 ∧ f2 15 = f 15 ∧ f2 7 = f 7 ∧ f2 8 = f 8 ∧ f2 9 = f 9 ∧ f2 10 = f 10 ∧ f2 11 = f 11 ∧ (v2 0).toInt = (v 0).toInt ∧ (v2 1).toInt = (v 1).toInt ∧ (v2 2).toInt = (v 2).toInt ∧ (v2 3).toInt = (v 3).toInt ∧ (v2 4).toInt = (v 4).toInt ∧ (v2 5).toInt = (v 5).toInt ∧ (v2 6).toInt = (v 6).toInt)) := by
  refine mt_X11_least rfl (fun J hC => ?_)
  have hv9 := hv
  unfold md_V at hv9
  have rg_x1 := pm_rng x1
  have rg_x2 := pm_rng x2
  have rg_x3 := pm_rng x3
  refine hC.1 0 0 _ _ rfl _ _ _ _ _ ?_
  refine And.intro (Exists.intro _ md_o) (Exists.intro _ (Exists.intro _ (Exists.intro _ (Exists.intro _ (And.intro (c_X11_isSpan D v f hv hf x1 x2 ) (And.intro rfl (fun r9 A9 h9 => ?_)))))))
  rcases h9 with ⟨y1, rfl, rfl, ⟨rfl, by1⟩ | ⟨rfl, by1⟩⟩
  · skip
    have k1 : (1 : Int32).toInt = 1 := rfl
    refine And.intro (fun c9 => absurd c9 (by decide)) (fun _ => ?_)
    refine And.intro (fun c2 => ?_) (fun c2 => ?_)
    · skip
      refine hC.1 2 16 _ _ rfl _ _ _ _ _ ?_
      have k4 : (4 : Int32).toInt = 4 := rfl
      refine And.intro (Exists.intro _ md_o) (Exists.intro _ (Exists.intro _ (Exists.intro _ (Exists.intro _ (And.intro (V_X11_laysOrder D v f hv hf x1 x2 (4 : Int32) (by omega)) (And.intro rfl (fun r9 A9 h9 => ?_)))))))
      obtain ⟨y3, v4, f4, rfl, rfl, hv4, hf4, hx4, hg4_0, hg4_1, hg4_12, hg4_13, hg4_14, hg4_15, hg4_7, hg4_8, hg4_9, hg4_10, hg4_11, by3⟩ := h9
      have hw4 : f4 2 = f 2 := hx4.trans rfl
      have hr4_0 : f4 0 = f 0 := hg4_0.trans rfl
      have hr4_1 : f4 1 = f 1 := hg4_1.trans rfl
      have hr4_12 : f4 12 = f 12 := hg4_12.trans rfl
      have hr4_13 : f4 13 = f 13 := hg4_13.trans rfl
      have hr4_14 : f4 14 = f 14 := hg4_14.trans rfl
      have hr4_15 : f4 15 = f 15 := hg4_15.trans rfl
      have hr4_7 : f4 7 = f 7 := hg4_7.trans rfl
      have hr4_8 : f4 8 = f 8 := hg4_8.trans rfl
      have hr4_9 : f4 9 = f 9 := hg4_9.trans rfl
      have hr4_10 : f4 10 = f 10 := hg4_10.trans rfl
      have hr4_11 : f4 11 = f 11 := hg4_11.trans rfl
      have k0 : (0 : Int32).toInt = 0 := rfl
      have lp6 : ∀ (n : Nat) (z5_31 : Int32) (z6_31 : Int32), (1 ≤ z6_31.toInt) → ((30 - z6_31.toInt).toNat : Int) < (n : Int) → J 31 [some (.ref h), some (.int x1), some (.int x2), some (.int x3), some (.int y3), some (.int z5_31), some (.int z6_31)] [] (md A0 g h q v4 f4) 0 0 := by
        intro n
        induction n with
        | zero =>
          intro z5_31 z6_31 j0_31 j1_31
          omega
        | succ n ih7 =>
          intro z5_31 z6_31 j0_31 j1_31
          refine hC.1 3 31 _ _ rfl _ _ _ _ _ ?_
          refine And.intro (fun c8 => ?_) (fun c8 => ?_)
          · skip
            refine hC.1 4 62 _ _ rfl _ _ _ _ _ ?_
            exact ⟨rfl, fun e9 => absurd e9 (by decide), rfl, z5_31, v4, f4, rfl, rfl, hv4, hf4, hw4, hr4_0, hr4_1, hr4_12, hr4_13, hr4_14, hr4_15, hr4_7, hr4_8, hr4_9, hr4_10, hr4_11, by first | omega | (dsimp only; omega) | trivial⟩
          · skip
            refine Exists.intro _ (And.intro md_o ?_)
            refine Exists.intro _ (Exists.intro _ (And.intro (Or.inl (md_a_row D)) (And.intro (by omega) ?_)))
            have w9 : (0 : Int) ≤ (f4 16 (z6_31).toInt.toNat).toInt ∧ (f4 16 (z6_31).toInt.toNat).toInt ≤ (23 : Int) := hf4 16 _
            refine And.intro (Exists.intro _ md_o) (Exists.intro _ (Exists.intro _ (Exists.intro _ (Exists.intro _ (And.intro (c_X11_timesIn D v4 f4 hv4 hf4 x1 x2 (f4 16 (z6_31).toInt.toNat) (by omega) (by omega)) (And.intro rfl (fun r9 A9 h9 => ?_)))))))
            obtain ⟨y10, rfl, rfl, by10⟩ := h9
            intro m11 em_53
            try have e11 : m11.toInt = (z5_31).toInt + (y10).toInt := by rw [em_53]; exact pm_add _ _ (by omega) (by omega)
            intro m12 em_56
            try have e12 : m12.toInt = (z6_31).toInt + (1) := by rw [em_56]; exact pm_addc _ _ (1) rfl (by omega) (by omega)
            exact ih7 m11 m12 (by omega) (by omega)
      exact lp6 (((30 - x3.toInt).toNat : Int)).toNat.succ (0 : Int32) x3 (by omega) (by omega)
    · skip
      refine hC.1 1 14 _ _ rfl _ _ _ _ _ ?_
      have km1 : (-1 : Int32).toInt = -1 := rfl
      exact ⟨rfl, fun e9 => absurd e9 (by decide), rfl, (-1 : Int32), v, f, rfl, rfl, hv, hf, rfl, rfl, rfl, rfl, rfl, rfl, rfl, rfl, rfl, rfl, rfl, rfl, by first | omega | (dsimp only; omega) | trivial⟩
  · skip
    have k0 : (0 : Int32).toInt = 0 := rfl
    refine And.intro (fun _ => ?_) (fun c9 => absurd c9 (by decide))
    refine hC.1 1 14 _ _ rfl _ _ _ _ _ ?_
    have km1 : (-1 : Int32).toInt = -1 := rfl
    exact ⟨rfl, fun e9 => absurd e9 (by decide), rfl, (-1 : Int32), v, f, rfl, rfl, hv, hf, rfl, rfl, rfl, rfl, rfl, rfl, rfl, rfl, rfl, rfl, rfl, rfl, by first | omega | (dsimp only; omega) | trivial⟩

set_option maxRecDepth 100000 in
set_option maxHeartbeats 2000000 in
theorem V_X11_goOver (D : md_D h q) (v : Nat → Int32) (f : Nat → Nat → Int32) (hv : md_V v) (hf : md_F f) (x1 : Int32) (x2 : Int32) (x3 : Int32) (p0 : -1 ≤ x1.toInt ∧ x1.toInt < (v 0).toInt) : pm_Mt l g 259 2 0 0 [.ref h, .int x1, .int x2, .int x3] (md A0 g h q v f) (md_Qw A0 g h q f (fun r v2 f2 => f2 0 = f 0 ∧ f2 1 = f 1 ∧ f2 12 = f 12 ∧ f2 13 = f 13 ∧ f2 14 = f 14 ∧ f2 15 = f 15 ∧ f2 7 = f 7 ∧ f2 8 = f 8 ∧ f2 9 = f 9 ∧ f2 10 = f 10 ∧ f2 11 = f 11 ∧ (v2 0).toInt = (v 0).toInt ∧ (v2 1).toInt = (v 1).toInt ∧ (v2 2).toInt = (v 2).toInt ∧ (v2 3).toInt = (v 3).toInt ∧ (v2 4).toInt = (v 4).toInt ∧ (v2 5).toInt = (v 5).toInt ∧ (v2 6).toInt = (v 6).toInt)) := by
  refine mt_X11_goOver rfl (fun J hC => ?_)
  have hv9 := hv
  unfold md_V at hv9
  have rg_x1 := pm_rng x1
  have rg_x2 := pm_rng x2
  have rg_x3 := pm_rng x3
  refine hC.1 0 0 _ _ rfl _ _ _ _ _ ?_
  have k0 : (0 : Int32).toInt = 0 := rfl
  refine Exists.intro _ (And.intro md_o (And.intro rfl ?_))
  rw [md_p_shelfSet D]
  obtain ⟨v1, ev1⟩ : ∃ z9, z9 = upd v 7 (0 : Int32) := ⟨_, rfl⟩
  rw [← ev1]
  have ev1_0 : (v1 0).toInt = (v 0).toInt := by rw [ev1]; rfl
  have ev1_1 : (v1 1).toInt = (v 1).toInt := by rw [ev1]; rfl
  have ev1_2 : (v1 2).toInt = (v 2).toInt := by rw [ev1]; rfl
  have ev1_3 : (v1 3).toInt = (v 3).toInt := by rw [ev1]; rfl
  have ev1_4 : (v1 4).toInt = (v 4).toInt := by rw [ev1]; rfl
  have ev1_5 : (v1 5).toInt = (v 5).toInt := by rw [ev1]; rfl
  have ev1_6 : (v1 6).toInt = (v 6).toInt := by rw [ev1]; rfl
  have ev1_7 : (v1 7).toInt = ((0 : Int32)).toInt := by rw [ev1]; rfl
  have pn_5 : v1 7 = (0 : Int32) := by rw [ev1]; rfl
  have lp3 : ∀ (n : Nat) (z4_11 : Int32) (z5_11 : Int32) (v2 : Nat → Int32) (f2 : Nat → Nat → Int32), md_V v2 → md_F f2 → f2 2 = f 2 → f2 0 = f 0 → f2 1 = f 1 → f2 12 = f 12 → f2 13 = f 13 → f2 14 = f 14 → f2 15 = f 15 → f2 7 = f 7 → f2 8 = f 8 → f2 9 = f 9 → f2 10 = f 10 → f2 11 = f 11 → (0 ≤ z5_11.toInt ∧ z5_11.toInt ≤ x1.toInt + 1) → (goB (v2 7) (f2 0) z5_11.toInt) → (v2 0).toInt = (v 0).toInt → (v2 1).toInt = (v 1).toInt → (v2 2).toInt = (v 2).toInt → (v2 3).toInt = (v 3).toInt → (v2 4).toInt = (v 4).toInt → (v2 5).toInt = (v 5).toInt → (v2 6).toInt = (v 6).toInt → 200 - z5_11.toInt < (n : Int) → J 11 [some (.ref h), some (.int x1), some (.int x2), some (.int x3), some (.int z4_11), some (.int z5_11)] [] (md A0 g h q v2 f2) 0 0 := by
    intro n
    induction n with
    | zero =>
      intro z4_11 z5_11 v2 f2 hv2 hf2 hw2 hr2_0 hr2_1 hr2_12 hr2_13 hr2_14 hr2_15 hr2_7 hr2_8 hr2_9 hr2_10 hr2_11 j0_11 j1_11 j2_11 j3_11 j4_11 j5_11 j6_11 j7_11 j8_11 j9_11
      clear ev1_0 ev1_1 ev1_2 ev1_3 ev1_4 ev1_5 ev1_6 ev1_7
      omega
    | succ n ih4 =>
      intro z4_11 z5_11 v2 f2 hv2 hf2 hw2 hr2_0 hr2_1 hr2_12 hr2_13 hr2_14 hr2_15 hr2_7 hr2_8 hr2_9 hr2_10 hr2_11 j0_11 j1_11 j2_11 j3_11 j4_11 j5_11 j6_11 j7_11 j8_11 j9_11
      clear ev1_0 ev1_1 ev1_2 ev1_3 ev1_4 ev1_5 ev1_6 ev1_7
      refine hC.1 1 11 _ _ rfl _ _ _ _ _ ?_
      refine And.intro (fun c6 => ?_) (fun c6 => ?_)
      · skip
        refine hC.1 5 96 _ _ rfl _ _ _ _ _ ?_
        exact ⟨rfl, fun e9 => absurd e9 (by decide), rfl, z4_11, v2, f2, rfl, rfl, hv2, hf2, hw2, hr2_0, hr2_1, hr2_12, hr2_13, hr2_14, hr2_15, hr2_7, hr2_8, hr2_9, hr2_10, hr2_11, by first | omega | (dsimp only; omega) | trivial⟩
      · skip
        refine Exists.intro _ (And.intro md_o ?_)
        refine Exists.intro _ (And.intro md_o ?_)
        refine Exists.intro _ (Exists.intro _ (And.intro (Or.inl (md_a_colours D)) (And.intro (by omega) ?_)))
        have w7 : (0 : Int) ≤ (f2 0 (z5_11).toInt.toNat).toInt ∧ (f2 0 (z5_11).toInt.toNat).toInt ≤ (23 : Int) := hf2 0 _
        have k1 : (1 : Int32).toInt = 1 := rfl
        refine And.intro (fun c8 => ?_) (fun c8 => ?_)
        · skip
          have dc8 := pm_neI c8
          refine hC.1 2 38 _ _ rfl _ _ _ _ _ ?_
          intro m9 em_38
          try have e9 : m9.toInt = (z4_11).toInt + (1) := by rw [em_38]; exact pm_addc _ _ (1) rfl (by omega) (by omega)
          refine Exists.intro _ (And.intro md_o ?_)
          refine Exists.intro _ (Exists.intro _ (Exists.intro _ (Exists.intro _ (And.intro (c_X11_bits (md A0 g h q v2 f2) (v2 7) ) (And.intro rfl (fun r9 A9 h9 => ?_))))))
          obtain ⟨y10, rfl, rfl, by10⟩ := h9
          refine And.intro (fun c11 => ?_) (fun c11 => ?_)
          · skip
            have dc11 := pm_neI c11
            refine hC.1 3 72 _ _ rfl _ _ _ _ _ ?_
            refine Exists.intro _ (And.intro md_o ?_)
            refine Exists.intro _ (And.intro md_o ?_)
            refine Exists.intro _ (Exists.intro _ (And.intro (Or.inl (md_a_colours D)) (And.intro (by omega) ?_)))
            have w12 : (0 : Int) ≤ (f2 0 (z5_11).toInt.toNat).toInt ∧ (f2 0 (z5_11).toInt.toNat).toInt ≤ (23 : Int) := hf2 0 _
            refine Exists.intro _ (And.intro md_o (And.intro rfl ?_))
            rw [md_p_shelfSet D]
            obtain ⟨v13, ev13⟩ : ∃ z9, z9 = upd v2 7 ((v2 7) ||| ((1 : Int32) <<< ((f2 0 (z5_11).toInt.toNat) &&& 31))) := ⟨_, rfl⟩
            rw [← ev13]
            have ev13_0 : (v13 0).toInt = (v2 0).toInt := by rw [ev13]; rfl
            have ev13_1 : (v13 1).toInt = (v2 1).toInt := by rw [ev13]; rfl
            have ev13_2 : (v13 2).toInt = (v2 2).toInt := by rw [ev13]; rfl
            have ev13_3 : (v13 3).toInt = (v2 3).toInt := by rw [ev13]; rfl
            have ev13_4 : (v13 4).toInt = (v2 4).toInt := by rw [ev13]; rfl
            have ev13_5 : (v13 5).toInt = (v2 5).toInt := by rw [ev13]; rfl
            have ev13_6 : (v13 6).toInt = (v2 6).toInt := by rw [ev13]; rfl
            have ev13_7 : (v13 7).toInt = (((v2 7) ||| ((1 : Int32) <<< ((f2 0 (z5_11).toInt.toNat) &&& 31)))).toInt := by rw [ev13]; rfl
            have pn_87 : v13 7 = ((v2 7) ||| ((1 : Int32) <<< ((f2 0 (z5_11).toInt.toNat) &&& 31))) := by rw [ev13]; rfl
            refine hC.1 4 90 _ _ rfl _ _ _ _ _ ?_
            intro m14 em_90
            try have e14 : m14.toInt = (z5_11).toInt + (1) := by rw [em_90]; exact pm_addc _ _ (1) rfl (by omega) (by omega)
            have hv15 : md_V v13 := by unfold md_V; omega
            exact ih4 m9 m14 v13 f2 hv15 hf2 hw2 hr2_0 hr2_1 hr2_12 hr2_13 hr2_14 hr2_15 hr2_7 hr2_8 hr2_9 hr2_10 hr2_11 (by omega) (by first | exact go_mono j1_11 (by omega) | (rw [pn_87, pn_69]; exact go_or (go_and j1_11) (by omega) (by omega) rfl (by omega)) | (rw [pn_87]; exact go_or j1_11 (by omega) (by omega) rfl (by omega))) (by omega) (by omega) (by omega) (by omega) (by omega) (by omega) (by omega) (by omega)
          · skip
            have dc11 : (y10).toInt = (x2 : Int32).toInt := congrArg Int32.toInt c11
            refine Exists.intro _ (And.intro md_o ?_)
            refine And.intro (Exists.intro _ md_o) (Exists.intro _ (Exists.intro _ (Exists.intro _ (Exists.intro _ (And.intro (c_X11_goner D v2 f2 hv2 hf2 z5_11 x3 (by omega) (by exact j1_11)) (And.intro rfl (fun r9 A9 h9 => ?_)))))))
            obtain ⟨y16, rfl, rfl, by16⟩ := h9
            have km1 : (-1 : Int32).toInt = -1 := rfl
            refine Exists.intro _ (And.intro md_o (And.intro rfl ?_))
            rw [md_p_shelfSet D]
            obtain ⟨v17, ev17⟩ : ∃ z9, z9 = upd v2 7 ((v2 7) &&& (((1 : Int32) <<< (y16 &&& 31)) ^^^ (-1 : Int32))) := ⟨_, rfl⟩
            rw [← ev17]
            have ev17_0 : (v17 0).toInt = (v2 0).toInt := by rw [ev17]; rfl
            have ev17_1 : (v17 1).toInt = (v2 1).toInt := by rw [ev17]; rfl
            have ev17_2 : (v17 2).toInt = (v2 2).toInt := by rw [ev17]; rfl
            have ev17_3 : (v17 3).toInt = (v2 3).toInt := by rw [ev17]; rfl
            have ev17_4 : (v17 4).toInt = (v2 4).toInt := by rw [ev17]; rfl
            have ev17_5 : (v17 5).toInt = (v2 5).toInt := by rw [ev17]; rfl
            have ev17_6 : (v17 6).toInt = (v2 6).toInt := by rw [ev17]; rfl
            have ev17_7 : (v17 7).toInt = (((v2 7) &&& (((1 : Int32) <<< (y16 &&& 31)) ^^^ (-1 : Int32)))).toInt := by rw [ev17]; rfl
            have pn_69 : v17 7 = ((v2 7) &&& (((1 : Int32) <<< (y16 &&& 31)) ^^^ (-1 : Int32))) := by rw [ev17]; rfl
            refine hC.1 3 72 _ _ rfl _ _ _ _ _ ?_
            refine Exists.intro _ (And.intro md_o ?_)
            refine Exists.intro _ (And.intro md_o ?_)
            refine Exists.intro _ (Exists.intro _ (And.intro (Or.inl (md_a_colours D)) (And.intro (by omega) ?_)))
            have w18 : (0 : Int) ≤ (f2 0 (z5_11).toInt.toNat).toInt ∧ (f2 0 (z5_11).toInt.toNat).toInt ≤ (23 : Int) := hf2 0 _
            refine Exists.intro _ (And.intro md_o (And.intro rfl ?_))
            rw [md_p_shelfSet D]
            obtain ⟨v19, ev19⟩ : ∃ z9, z9 = upd v17 7 ((v17 7) ||| ((1 : Int32) <<< ((f2 0 (z5_11).toInt.toNat) &&& 31))) := ⟨_, rfl⟩
            rw [← ev19]
            have ev19_0 : (v19 0).toInt = (v17 0).toInt := by rw [ev19]; rfl
            have ev19_1 : (v19 1).toInt = (v17 1).toInt := by rw [ev19]; rfl
            have ev19_2 : (v19 2).toInt = (v17 2).toInt := by rw [ev19]; rfl
            have ev19_3 : (v19 3).toInt = (v17 3).toInt := by rw [ev19]; rfl
            have ev19_4 : (v19 4).toInt = (v17 4).toInt := by rw [ev19]; rfl
            have ev19_5 : (v19 5).toInt = (v17 5).toInt := by rw [ev19]; rfl
            have ev19_6 : (v19 6).toInt = (v17 6).toInt := by rw [ev19]; rfl
            have ev19_7 : (v19 7).toInt = (((v17 7) ||| ((1 : Int32) <<< ((f2 0 (z5_11).toInt.toNat) &&& 31)))).toInt := by rw [ev19]; rfl
            have pn_87 : v19 7 = ((v17 7) ||| ((1 : Int32) <<< ((f2 0 (z5_11).toInt.toNat) &&& 31))) := by rw [ev19]; rfl
            refine hC.1 4 90 _ _ rfl _ _ _ _ _ ?_
            intro m20 em_90
            try have e20 : m20.toInt = (z5_11).toInt + (1) := by rw [em_90]; exact pm_addc _ _ (1) rfl (by omega) (by omega)
            have hv21 : md_V v19 := by unfold md_V; omega
            exact ih4 m9 m20 v19 f2 hv21 hf2 hw2 hr2_0 hr2_1 hr2_12 hr2_13 hr2_14 hr2_15 hr2_7 hr2_8 hr2_9 hr2_10 hr2_11 (by omega) (by first | exact go_mono j1_11 (by omega) | (rw [pn_87, pn_69]; exact go_or (go_and j1_11) (by omega) (by omega) rfl (by omega)) | (rw [pn_87]; exact go_or j1_11 (by omega) (by omega) rfl (by omega))) (by omega) (by omega) (by omega) (by omega) (by omega) (by omega) (by omega) (by omega)
        · skip
          have dc8 : ((((v2 7) >>> ((f2 0 (z5_11).toInt.toNat) &&& 31)) &&& (1 : Int32))).toInt = ((1 : Int32) : Int32).toInt := congrArg Int32.toInt c8
          refine hC.1 4 90 _ _ rfl _ _ _ _ _ ?_
          intro m22 em_90
          try have e22 : m22.toInt = (z5_11).toInt + (1) := by rw [em_90]; exact pm_addc _ _ (1) rfl (by omega) (by omega)
          exact ih4 z4_11 m22 v2 f2 hv2 hf2 hw2 hr2_0 hr2_1 hr2_12 hr2_13 hr2_14 hr2_15 hr2_7 hr2_8 hr2_9 hr2_10 hr2_11 (by omega) (by first | exact go_mono j1_11 (by omega) | (rw [pn_87, pn_69]; exact go_or (go_and j1_11) (by omega) (by omega) rfl (by omega)) | (rw [pn_87]; exact go_or j1_11 (by omega) (by omega) rfl (by omega))) (by omega) (by omega) (by omega) (by omega) (by omega) (by omega) (by omega) (by omega)
  have hv23 : md_V v1 := by unfold md_V; omega
  exact lp3 (200 - (0 : Int32).toInt).toNat.succ (0 : Int32) (0 : Int32) v1 f hv23 hf rfl rfl rfl rfl rfl rfl rfl rfl rfl rfl rfl rfl (by omega) (by rw [pn_5]; exact go_0 _ _) (by omega) (by omega) (by omega) (by omega) (by omega) (by omega) (by omega) (by omega)

set_option maxRecDepth 100000 in
set_option maxHeartbeats 2000000 in
theorem V_X11_misses (D : md_D h q) (v : Nat → Int32) (f : Nat → Nat → Int32) (hv : md_V v) (hf : md_F f) (x1 : Int32) (x2 : Int32)  : pm_Mt l g 257 3 0 0 [.ref h, .int x1, .int x2] (md A0 g h q v f) (md_Qw A0 g h q f (fun r v2 f2 => f2 0 = f 0 ∧ f2 1 = f 1 ∧ f2 12 = f 12 ∧ f2 13 = f 13 ∧ f2 14 = f 14 ∧ f2 15 = f 15 ∧ f2 7 = f 7 ∧ f2 8 = f 8 ∧ f2 9 = f 9 ∧ f2 10 = f 10 ∧ f2 11 = f 11 ∧ (v2 0).toInt = (v 0).toInt ∧ (v2 1).toInt = (v 1).toInt ∧ (v2 2).toInt = (v 2).toInt ∧ (v2 3).toInt = (v 3).toInt ∧ (v2 4).toInt = (v 4).toInt ∧ (v2 5).toInt = (v 5).toInt ∧ (v2 6).toInt = (v 6).toInt)) := by
  refine mt_X11_misses rfl (fun J hC => ?_)
  have hv9 := hv
  unfold md_V at hv9
  have rg_x1 := pm_rng x1
  have rg_x2 := pm_rng x2
  refine hC.1 0 0 _ _ rfl _ _ _ _ _ ?_
  refine Exists.intro _ (Exists.intro _ (Exists.intro _ (Exists.intro _ (And.intro (c_X11_isShelf (md A0 g h q v f) x1 x2 ) (And.intro rfl (fun r9 A9 h9 => ?_))))))
  rcases h9 with ⟨y1, rfl, rfl, ⟨rfl, by1⟩ | ⟨rfl, by1⟩⟩
  · skip
    have k1 : (1 : Int32).toInt = 1 := rfl
    refine And.intro (fun c9 => absurd c9 (by decide)) (fun _ => ?_)
    refine Exists.intro _ (And.intro md_o ?_)
    intro m2 em_14
    try have e2 : m2.toInt = ((v 0)).toInt - (1) := by rw [em_14]; exact pm_subc _ _ (1) rfl (by omega) (by omega)
    refine And.intro (Exists.intro _ md_o) (Exists.intro _ (Exists.intro _ (Exists.intro _ (Exists.intro _ (And.intro (V_X11_goOver D v f hv hf m2 x1 x2 (by omega)) (And.intro rfl (fun r9 A9 h9 => ?_)))))))
    obtain ⟨y3, v4, f4, rfl, rfl, hv4, hf4, hx4, hg4_0, hg4_1, hg4_12, hg4_13, hg4_14, hg4_15, hg4_7, hg4_8, hg4_9, hg4_10, hg4_11, by3⟩ := h9
    have hw4 : f4 2 = f 2 := hx4.trans rfl
    have hr4_0 : f4 0 = f 0 := hg4_0.trans rfl
    have hr4_1 : f4 1 = f 1 := hg4_1.trans rfl
    have hr4_12 : f4 12 = f 12 := hg4_12.trans rfl
    have hr4_13 : f4 13 = f 13 := hg4_13.trans rfl
    have hr4_14 : f4 14 = f 14 := hg4_14.trans rfl
    have hr4_15 : f4 15 = f 15 := hg4_15.trans rfl
    have hr4_7 : f4 7 = f 7 := hg4_7.trans rfl
    have hr4_8 : f4 8 = f 8 := hg4_8.trans rfl
    have hr4_9 : f4 9 = f 9 := hg4_9.trans rfl
    have hr4_10 : f4 10 = f 10 := hg4_10.trans rfl
    have hr4_11 : f4 11 = f 11 := hg4_11.trans rfl
    refine hC.1 2 24 _ _ rfl _ _ _ _ _ ?_
    exact ⟨rfl, fun e9 => absurd e9 (by decide), rfl, y3, v4, f4, rfl, rfl, hv4, hf4, hw4, hr4_0, hr4_1, hr4_12, hr4_13, hr4_14, hr4_15, hr4_7, hr4_8, hr4_9, hr4_10, hr4_11, by first | omega | (dsimp only; omega) | trivial⟩
  · skip
    have k0 : (0 : Int32).toInt = 0 := rfl
    refine And.intro (fun _ => ?_) (fun c9 => absurd c9 (by decide))
    refine hC.1 1 23 _ _ rfl _ _ _ _ _ ?_
    have km1 : (-1 : Int32).toInt = -1 := rfl
    refine hC.1 2 24 _ _ rfl _ _ _ _ _ ?_
    exact ⟨rfl, fun e9 => absurd e9 (by decide), rfl, (-1 : Int32), v, f, rfl, rfl, hv, hf, rfl, rfl, rfl, rfl, rfl, rfl, rfl, rfl, rfl, rfl, rfl, rfl, by first | omega | (dsimp only; omega) | trivial⟩

set_option maxRecDepth 100000 in
set_option maxHeartbeats 2000000 in
theorem V_X11_shelf (D : md_D h q) (v : Nat → Int32) (f : Nat → Nat → Int32) (hv : md_V v) (hf : md_F f) (x1 : Int32) (x2 : Int32) (x3 : Int32)  : pm_Mt l g 262 3 0 0 [.ref h, .int x1, .int x2, .int x3] (md A0 g h q v f) (md_Qw A0 g h q f (fun r v2 f2 => f2 0 = f 0 ∧ f2 1 = f 1 ∧ f2 12 = f 12 ∧ f2 13 = f 13 ∧ f2 14 = f 14 ∧ f2 15 = f 15 ∧ f2 7 = f 7 ∧ f2 8 = f 8 ∧ f2 9 = f 9 ∧ f2 10 = f 10 ∧ f2 11 = f 11 ∧ (v2 0).toInt = (v 0).toInt ∧ (v2 1).toInt = (v 1).toInt ∧ (v2 2).toInt = (v 2).toInt ∧ (v2 3).toInt = (v 3).toInt ∧ (v2 4).toInt = (v 4).toInt ∧ (v2 5).toInt = (v 5).toInt ∧ (v2 6).toInt = (v 6).toInt)) := by
  refine mt_X11_shelf rfl (fun J hC => ?_)
  have hv9 := hv
  unfold md_V at hv9
  have rg_x1 := pm_rng x1
  have rg_x2 := pm_rng x2
  have rg_x3 := pm_rng x3
  refine hC.1 0 0 _ _ rfl _ _ _ _ _ ?_
  refine And.intro (Exists.intro _ md_o) (Exists.intro _ (Exists.intro _ (Exists.intro _ (Exists.intro _ (And.intro (c_X11_isPlace D v f hv hf x1 ) (And.intro rfl (fun r9 A9 h9 => ?_)))))))
  rcases h9 with ⟨y1, rfl, rfl, ⟨rfl, by1⟩ | ⟨rfl, by1⟩⟩
  · skip
    have k1 : (1 : Int32).toInt = 1 := rfl
    refine And.intro (fun c9 => absurd c9 (by decide)) (fun _ => ?_)
    refine Exists.intro _ (Exists.intro _ (Exists.intro _ (Exists.intro _ (And.intro (c_X11_isShelf (md A0 g h q v f) x2 x3 ) (And.intro rfl (fun r9 A9 h9 => ?_))))))
    rcases h9 with ⟨y2, rfl, rfl, ⟨rfl, by2⟩ | ⟨rfl, by2⟩⟩
    · skip
      refine And.intro (fun _ => ?_) (fun c9 => absurd c9 (by decide))
      refine hC.1 2 18 _ _ rfl _ _ _ _ _ ?_
      refine And.intro (Exists.intro _ md_o) (Exists.intro _ (Exists.intro _ (Exists.intro _ (Exists.intro _ (And.intro (V_X11_goOver D v f hv hf x1 x2 x3 (by omega)) (And.intro rfl (fun r9 A9 h9 => ?_)))))))
      obtain ⟨y3, v4, f4, rfl, rfl, hv4, hf4, hx4, hg4_0, hg4_1, hg4_12, hg4_13, hg4_14, hg4_15, hg4_7, hg4_8, hg4_9, hg4_10, hg4_11, by3⟩ := h9
      have hw4 : f4 2 = f 2 := hx4.trans rfl
      have hr4_0 : f4 0 = f 0 := hg4_0.trans rfl
      have hr4_1 : f4 1 = f 1 := hg4_1.trans rfl
      have hr4_12 : f4 12 = f 12 := hg4_12.trans rfl
      have hr4_13 : f4 13 = f 13 := hg4_13.trans rfl
      have hr4_14 : f4 14 = f 14 := hg4_14.trans rfl
      have hr4_15 : f4 15 = f 15 := hg4_15.trans rfl
      have hr4_7 : f4 7 = f 7 := hg4_7.trans rfl
      have hr4_8 : f4 8 = f 8 := hg4_8.trans rfl
      have hr4_9 : f4 9 = f 9 := hg4_9.trans rfl
      have hr4_10 : f4 10 = f 10 := hg4_10.trans rfl
      have hr4_11 : f4 11 = f 11 := hg4_11.trans rfl
      refine And.intro (fun c6 => ?_) (fun c6 => ?_)
      · skip
        refine hC.1 3 36 _ _ rfl _ _ _ _ _ ?_
        refine Exists.intro _ (And.intro md_o ?_)
        refine hC.1 4 40 _ _ rfl _ _ _ _ _ ?_
        exact ⟨rfl, fun e9 => absurd e9 (by decide), rfl, (v4 7), v4, f4, rfl, rfl, hv4, hf4, hw4, hr4_0, hr4_1, hr4_12, hr4_13, hr4_14, hr4_15, hr4_7, hr4_8, hr4_9, hr4_10, hr4_11, by first | omega | (dsimp only; omega) | trivial⟩
      · skip
        have km1 : (-1 : Int32).toInt = -1 := rfl
        refine hC.1 4 40 _ _ rfl _ _ _ _ _ ?_
        exact ⟨rfl, fun e9 => absurd e9 (by decide), rfl, (-1 : Int32), v4, f4, rfl, rfl, hv4, hf4, hw4, hr4_0, hr4_1, hr4_12, hr4_13, hr4_14, hr4_15, hr4_7, hr4_8, hr4_9, hr4_10, hr4_11, by first | omega | (dsimp only; omega) | trivial⟩
    · skip
      have k0 : (0 : Int32).toInt = 0 := rfl
      refine And.intro (fun c9 => absurd c9 (by decide)) (fun _ => ?_)
      refine hC.1 1 16 _ _ rfl _ _ _ _ _ ?_
      have km1 : (-1 : Int32).toInt = -1 := rfl
      exact ⟨rfl, fun e9 => absurd e9 (by decide), rfl, (-1 : Int32), v, f, rfl, rfl, hv, hf, rfl, rfl, rfl, rfl, rfl, rfl, rfl, rfl, rfl, rfl, rfl, rfl, by first | omega | (dsimp only; omega) | trivial⟩
  · skip
    have k0 : (0 : Int32).toInt = 0 := rfl
    refine And.intro (fun _ => ?_) (fun c9 => absurd c9 (by decide))
    refine hC.1 1 16 _ _ rfl _ _ _ _ _ ?_
    have km1 : (-1 : Int32).toInt = -1 := rfl
    exact ⟨rfl, fun e9 => absurd e9 (by decide), rfl, (-1 : Int32), v, f, rfl, rfl, hv, hf, rfl, rfl, rfl, rfl, rfl, rfl, rfl, rfl, rfl, rfl, rfl, rfl, by first | omega | (dsimp only; omega) | trivial⟩

end
end
section
section
variable {l : Launch} {g : pm_G} {A0 : pm_H} {h : Nat} {q : Nat → Nat}
set_option maxRecDepth 100000 in
set_option maxHeartbeats 2000000 in
theorem V_X11_suffices (D : md_D h q) (v : Nat → Int32) (f : Nat → Nat → Int32) (hv : md_V v) (hf : md_F f) (x1 : Int32) (x2 : Int32)  : pm_Mt l g 263 3 0 0 [.ref h, .int x1, .int x2] (md A0 g h q v f) (md_Qw A0 g h q f (fun r v2 f2 => f2 0 = f 0 ∧ f2 1 = f 1 ∧ f2 12 = f 12 ∧ f2 13 = f 13 ∧ f2 14 = f 14 ∧ f2 15 = f 15 ∧ f2 7 = f 7 ∧ f2 8 = f 8 ∧ f2 9 = f 9 ∧ f2 10 = f 10 ∧ f2 11 = f 11 ∧ (v2 0).toInt = (v 0).toInt ∧ (v2 1).toInt = (v 1).toInt ∧ (v2 2).toInt = (v 2).toInt ∧ (v2 3).toInt = (v 3).toInt ∧ (v2 4).toInt = (v 4).toInt ∧ (v2 5).toInt = (v 5).toInt ∧ (v2 6).toInt = (v 6).toInt)) := by
  refine mt_X11_suffices rfl (fun J hC => ?_)
  have hv9 := hv
  unfold md_V at hv9
  have rg_x1 := pm_rng x1
  have rg_x2 := pm_rng x2
  refine hC.1 0 0 _ _ rfl _ _ _ _ _ ?_
  refine And.intro (fun c1 => ?_) (fun c1 => ?_)
  · skip
    refine hC.1 1 13 _ _ rfl _ _ _ _ _ ?_
    have km1 : (-1 : Int32).toInt = -1 := rfl
    exact ⟨rfl, fun e9 => absurd e9 (by decide), rfl, (-1 : Int32), v, f, rfl, rfl, hv, hf, rfl, rfl, rfl, rfl, rfl, rfl, rfl, rfl, rfl, rfl, rfl, rfl, by first | omega | (dsimp only; omega) | trivial⟩
  · skip
    have k0 : (0 : Int32).toInt = 0 := rfl
    have k1 : (1 : Int32).toInt = 1 := rfl
    refine Exists.intro _ (Exists.intro _ (Exists.intro _ (Exists.intro _ (And.intro (c_X11_isIn (md A0 g h q v f) x2 (0 : Int32) (1 : Int32) ) (And.intro rfl (fun r9 A9 h9 => ?_))))))
    rcases h9 with ⟨y2, rfl, rfl, ⟨rfl, by2⟩ | ⟨rfl, by2⟩⟩
    · skip
      refine And.intro (fun _ => ?_) (fun c9 => absurd c9 (by decide))
      refine hC.1 2 15 _ _ rfl _ _ _ _ _ ?_
      have lp4 : ∀ (n : Nat) (z3_17 : Int32) (v3 : Nat → Int32) (f3 : Nat → Nat → Int32), md_V v3 → md_F f3 → f3 2 = f 2 → f3 0 = f 0 → f3 1 = f 1 → f3 12 = f 12 → f3 13 = f 13 → f3 14 = f 14 → f3 15 = f 15 → f3 7 = f 7 → f3 8 = f 8 → f3 9 = f 9 → f3 10 = f 10 → f3 11 = f 11 → (1 ≤ z3_17.toInt ∧ z3_17.toInt ≤ 25) → (v3 0).toInt = (v 0).toInt → (v3 1).toInt = (v 1).toInt → (v3 2).toInt = (v 2).toInt → (v3 3).toInt = (v 3).toInt → (v3 4).toInt = (v 4).toInt → (v3 5).toInt = (v 5).toInt → (v3 6).toInt = (v 6).toInt → 200 - z3_17.toInt < (n : Int) → J 17 [some (.ref h), some (.int x1), some (.int x2), some (.int z3_17)] [] (md A0 g h q v3 f3) 0 0 := by
        intro n
        induction n with
        | zero =>
          intro z3_17 v3 f3 hv3 hf3 hw3 hr3_0 hr3_1 hr3_12 hr3_13 hr3_14 hr3_15 hr3_7 hr3_8 hr3_9 hr3_10 hr3_11 j0_17 j1_17 j2_17 j3_17 j4_17 j5_17 j6_17 j7_17 j8_17
          omega
        | succ n ih5 =>
          intro z3_17 v3 f3 hv3 hf3 hw3 hr3_0 hr3_1 hr3_12 hr3_13 hr3_14 hr3_15 hr3_7 hr3_8 hr3_9 hr3_10 hr3_11 j0_17 j1_17 j2_17 j3_17 j4_17 j5_17 j6_17 j7_17 j8_17
          refine hC.1 3 17 _ _ rfl _ _ _ _ _ ?_
          have k24 : (24 : Int32).toInt = 24 := rfl
          refine And.intro (fun c7 => ?_) (fun c7 => ?_)
          · skip
            refine hC.1 5 47 _ _ rfl _ _ _ _ _ ?_
            have km1 : (-1 : Int32).toInt = -1 := rfl
            exact ⟨rfl, fun e9 => absurd e9 (by decide), rfl, (-1 : Int32), v3, f3, rfl, rfl, hv3, hf3, hw3, hr3_0, hr3_1, hr3_12, hr3_13, hr3_14, hr3_15, hr3_7, hr3_8, hr3_9, hr3_10, hr3_11, by first | omega | (dsimp only; omega) | trivial⟩
          · skip
            refine Exists.intro _ (And.intro md_o ?_)
            intro m8 em_29
            try have e8 : m8.toInt = ((v3 0)).toInt - (1) := by rw [em_29]; exact pm_subc _ _ (1) rfl (by omega) (by omega)
            refine And.intro (Exists.intro _ md_o) (Exists.intro _ (Exists.intro _ (Exists.intro _ (Exists.intro _ (And.intro (V_X11_goOver D v3 f3 hv3 hf3 m8 z3_17 x2 (by omega)) (And.intro rfl (fun r9 A9 h9 => ?_)))))))
            obtain ⟨y9, v10, f10, rfl, rfl, hv10, hf10, hx10, hg10_0, hg10_1, hg10_12, hg10_13, hg10_14, hg10_15, hg10_7, hg10_8, hg10_9, hg10_10, hg10_11, by9⟩ := h9
            have hw10 : f10 2 = f 2 := hx10.trans hw3
            have hr10_0 : f10 0 = f 0 := hg10_0.trans hr3_0
            have hr10_1 : f10 1 = f 1 := hg10_1.trans hr3_1
            have hr10_12 : f10 12 = f 12 := hg10_12.trans hr3_12
            have hr10_13 : f10 13 = f 13 := hg10_13.trans hr3_13
            have hr10_14 : f10 14 = f 14 := hg10_14.trans hr3_14
            have hr10_15 : f10 15 = f 15 := hg10_15.trans hr3_15
            have hr10_7 : f10 7 = f 7 := hg10_7.trans hr3_7
            have hr10_8 : f10 8 = f 8 := hg10_8.trans hr3_8
            have hr10_9 : f10 9 = f 9 := hg10_9.trans hr3_9
            have hr10_10 : f10 10 = f 10 := hg10_10.trans hr3_10
            have hr10_11 : f10 11 = f 11 := hg10_11.trans hr3_11
            refine And.intro (fun c12 => ?_) (fun c12 => ?_)
            · skip
              refine hC.1 4 41 _ _ rfl _ _ _ _ _ ?_
              intro m13 em_41
              try have e13 : m13.toInt = (z3_17).toInt + (1) := by rw [em_41]; exact pm_addc _ _ (1) rfl (by omega) (by omega)
              exact ih5 m13 v10 f10 hv10 hf10 hw10 hr10_0 hr10_1 hr10_12 hr10_13 hr10_14 hr10_15 hr10_7 hr10_8 hr10_9 hr10_10 hr10_11 (by omega) (by omega) (by omega) (by omega) (by omega) (by omega) (by omega) (by omega) (by omega)
            · skip
              exact ⟨rfl, fun e9 => absurd e9 (by decide), rfl, z3_17, v10, f10, rfl, rfl, hv10, hf10, hw10, hr10_0, hr10_1, hr10_12, hr10_13, hr10_14, hr10_15, hr10_7, hr10_8, hr10_9, hr10_10, hr10_11, by first | omega | (dsimp only; omega) | trivial⟩
      exact lp4 (200 - (1 : Int32).toInt).toNat.succ (1 : Int32) v f hv hf rfl rfl rfl rfl rfl rfl rfl rfl rfl rfl rfl rfl (by omega) (by omega) (by omega) (by omega) (by omega) (by omega) (by omega) (by omega) (by omega)
    · skip
      refine And.intro (fun c9 => absurd c9 (by decide)) (fun _ => ?_)
      refine hC.1 1 13 _ _ rfl _ _ _ _ _ ?_
      have km1 : (-1 : Int32).toInt = -1 := rfl
      exact ⟨rfl, fun e9 => absurd e9 (by decide), rfl, (-1 : Int32), v, f, rfl, rfl, hv, hf, rfl, rfl, rfl, rfl, rfl, rfl, rfl, rfl, rfl, rfl, rfl, rfl, by first | omega | (dsimp only; omega) | trivial⟩

set_option maxRecDepth 100000 in
set_option maxHeartbeats 2000000 in
theorem V_X11_layGaps (D : md_D h q) (v : Nat → Int32) (f : Nat → Nat → Int32) (hv : md_V v) (hf : md_F f)  : pm_Mt l g 268 1 0 0 [.ref h] (md A0 g h q v f) (md_Qv A0 g h q f (fun v2 f2 => f2 0 = f 0 ∧ f2 1 = f 1 ∧ f2 12 = f 12 ∧ f2 13 = f 13 ∧ f2 14 = f 14 ∧ f2 15 = f 15 ∧ f2 7 = f 7 ∧ f2 8 = f 8 ∧ f2 9 = f 9 ∧ f2 10 = f 10 ∧ f2 11 = f 11 ∧ (v2 0).toInt = (v 0).toInt ∧ (v2 1).toInt = (v 1).toInt ∧ (v2 2).toInt = (v 2).toInt ∧ (v2 3).toInt = (v 3).toInt ∧ (v2 4).toInt = (v 4).toInt ∧ (v2 5).toInt = (v 5).toInt ∧ (v2 6).toInt = (v 6).toInt)) := by
  refine mt_X11_layGaps rfl (fun J hC => ?_)
  have hv9 := hv
  unfold md_V at hv9
  refine hC.1 0 0 _ _ rfl _ _ _ _ _ ?_
  have k0 : (0 : Int32).toInt = 0 := rfl
  have lp2 : ∀ (n : Nat) (z1_2 : Int32) (v1 : Nat → Int32) (f1 : Nat → Nat → Int32), md_V v1 → md_F f1 → f1 2 = f 2 → f1 0 = f 0 → f1 1 = f 1 → f1 12 = f 12 → f1 13 = f 13 → f1 14 = f 14 → f1 15 = f 15 → f1 7 = f 7 → f1 8 = f 8 → f1 9 = f 9 → f1 10 = f 10 → f1 11 = f 11 → (0 ≤ z1_2.toInt ∧ z1_2.toInt ≤ (v 0).toInt) → (v1 0).toInt = (v 0).toInt → (v1 1).toInt = (v 1).toInt → (v1 2).toInt = (v 2).toInt → (v1 3).toInt = (v 3).toInt → (v1 4).toInt = (v 4).toInt → (v1 5).toInt = (v 5).toInt → (v1 6).toInt = (v 6).toInt → 200 - z1_2.toInt < (n : Int) → J 2 [some (.ref h), some (.int z1_2)] [] (md A0 g h q v1 f1) 0 0 := by
    intro n
    induction n with
    | zero =>
      intro z1_2 v1 f1 hv1 hf1 hw1 hr1_0 hr1_1 hr1_12 hr1_13 hr1_14 hr1_15 hr1_7 hr1_8 hr1_9 hr1_10 hr1_11 j0_2 j1_2 j2_2 j3_2 j4_2 j5_2 j6_2 j7_2 j8_2
      omega
    | succ n ih3 =>
      intro z1_2 v1 f1 hv1 hf1 hw1 hr1_0 hr1_1 hr1_12 hr1_13 hr1_14 hr1_15 hr1_7 hr1_8 hr1_9 hr1_10 hr1_11 j0_2 j1_2 j2_2 j3_2 j4_2 j5_2 j6_2 j7_2 j8_2
      refine hC.1 1 2 _ _ rfl _ _ _ _ _ ?_
      refine Exists.intro _ (And.intro md_o ?_)
      refine And.intro (fun c5 => ?_) (fun c5 => ?_)
      · skip
        refine hC.1 4 42 _ _ rfl _ _ _ _ _ ?_
        exact ⟨rfl, rfl, v1, f1, rfl, rfl, hv1, hf1, hw1, hr1_0, hr1_1, hr1_12, hr1_13, hr1_14, hr1_15, hr1_7, hr1_8, hr1_9, hr1_10, hr1_11, by first | omega | (dsimp only; omega) | trivial⟩
      · skip
        refine Exists.intro _ (And.intro md_o ?_)
        refine And.intro (Exists.intro _ md_o) (Exists.intro _ (Exists.intro _ (Exists.intro _ (Exists.intro _ (And.intro (c_X11_ahead D v1 f1 hv1 hf1 z1_2 (by omega)) (And.intro rfl (fun r9 A9 h9 => ?_)))))))
        obtain ⟨y6, rfl, rfl, by6⟩ := h9
        refine And.intro (fun c7 => ?_) (fun c7 => ?_)
        · skip
          refine hC.1 2 28 _ _ rfl _ _ _ _ _ ?_
          refine And.intro (Exists.intro _ md_o) (Exists.intro _ (Exists.intro _ (Exists.intro _ (Exists.intro _ (And.intro (c_X11_ahead D v1 f1 hv1 hf1 z1_2 (by omega)) (And.intro rfl (fun r9 A9 h9 => ?_)))))))
          obtain ⟨y8, rfl, rfl, by8⟩ := h9
          intro m9 em_34
          try have e9 : m9.toInt = (z1_2).toInt - (y8).toInt := by rw [em_34]; exact pm_sub _ _ (by omega) (by omega)
          refine hC.1 3 35 _ _ rfl _ _ _ _ _ ?_
          refine Exists.intro _ (Exists.intro _ (And.intro (md_a_gaps D) (And.intro (by omega) ?_)))
          rw [md_s_gaps D]
          obtain ⟨f10, ef10⟩ : ∃ z9, z9 = va_up f1 17 (upd (f1 17) (z1_2).toInt.toNat m9) := ⟨_, rfl⟩
          rw [← ef10]
          have hf10 : md_F f10 := by rw [ef10]; exact md_F_st hf1 17 _ _ (md_rng _ _ (by decide))
          have hw10 : f10 2 = f 2 := (show f10 2 = f1 2 by rw [ef10]; rfl).trans hw1
          have hr10_0 : f10 0 = f 0 := (show f10 0 = f1 0 by rw [ef10]; rfl).trans hr1_0
          have hr10_1 : f10 1 = f 1 := (show f10 1 = f1 1 by rw [ef10]; rfl).trans hr1_1
          have hr10_12 : f10 12 = f 12 := (show f10 12 = f1 12 by rw [ef10]; rfl).trans hr1_12
          have hr10_13 : f10 13 = f 13 := (show f10 13 = f1 13 by rw [ef10]; rfl).trans hr1_13
          have hr10_14 : f10 14 = f 14 := (show f10 14 = f1 14 by rw [ef10]; rfl).trans hr1_14
          have hr10_15 : f10 15 = f 15 := (show f10 15 = f1 15 by rw [ef10]; rfl).trans hr1_15
          have hr10_7 : f10 7 = f 7 := (show f10 7 = f1 7 by rw [ef10]; rfl).trans hr1_7
          have hr10_8 : f10 8 = f 8 := (show f10 8 = f1 8 by rw [ef10]; rfl).trans hr1_8
          have hr10_9 : f10 9 = f 9 := (show f10 9 = f1 9 by rw [ef10]; rfl).trans hr1_9
          have hr10_10 : f10 10 = f 10 := (show f10 10 = f1 10 by rw [ef10]; rfl).trans hr1_10
          have hr10_11 : f10 11 = f 11 := (show f10 11 = f1 11 by rw [ef10]; rfl).trans hr1_11
          have k1 : (1 : Int32).toInt = 1 := rfl
          intro m11 em_36
          try have e11 : m11.toInt = (z1_2).toInt + (1) := by rw [em_36]; exact pm_addc _ _ (1) rfl (by omega) (by omega)
          exact ih3 m11 v1 f10 hv1 hf10 hw10 hr10_0 hr10_1 hr10_12 hr10_13 hr10_14 hr10_15 hr10_7 hr10_8 hr10_9 hr10_10 hr10_11 (by omega) (by omega) (by omega) (by omega) (by omega) (by omega) (by omega) (by omega) (by omega)
        · skip
          have k268435456 : (268435456 : Int32).toInt = 268435456 := rfl
          refine hC.1 3 35 _ _ rfl _ _ _ _ _ ?_
          refine Exists.intro _ (Exists.intro _ (And.intro (md_a_gaps D) (And.intro (by omega) ?_)))
          rw [md_s_gaps D]
          obtain ⟨f12, ef12⟩ : ∃ z9, z9 = va_up f1 17 (upd (f1 17) (z1_2).toInt.toNat (268435456 : Int32)) := ⟨_, rfl⟩
          rw [← ef12]
          have hf12 : md_F f12 := by rw [ef12]; exact md_F_st hf1 17 _ _ (md_rng _ _ (by decide))
          have hw12 : f12 2 = f 2 := (show f12 2 = f1 2 by rw [ef12]; rfl).trans hw1
          have hr12_0 : f12 0 = f 0 := (show f12 0 = f1 0 by rw [ef12]; rfl).trans hr1_0
          have hr12_1 : f12 1 = f 1 := (show f12 1 = f1 1 by rw [ef12]; rfl).trans hr1_1
          have hr12_12 : f12 12 = f 12 := (show f12 12 = f1 12 by rw [ef12]; rfl).trans hr1_12
          have hr12_13 : f12 13 = f 13 := (show f12 13 = f1 13 by rw [ef12]; rfl).trans hr1_13
          have hr12_14 : f12 14 = f 14 := (show f12 14 = f1 14 by rw [ef12]; rfl).trans hr1_14
          have hr12_15 : f12 15 = f 15 := (show f12 15 = f1 15 by rw [ef12]; rfl).trans hr1_15
          have hr12_7 : f12 7 = f 7 := (show f12 7 = f1 7 by rw [ef12]; rfl).trans hr1_7
          have hr12_8 : f12 8 = f 8 := (show f12 8 = f1 8 by rw [ef12]; rfl).trans hr1_8
          have hr12_9 : f12 9 = f 9 := (show f12 9 = f1 9 by rw [ef12]; rfl).trans hr1_9
          have hr12_10 : f12 10 = f 10 := (show f12 10 = f1 10 by rw [ef12]; rfl).trans hr1_10
          have hr12_11 : f12 11 = f 11 := (show f12 11 = f1 11 by rw [ef12]; rfl).trans hr1_11
          have k1 : (1 : Int32).toInt = 1 := rfl
          intro m13 em_36
          try have e13 : m13.toInt = (z1_2).toInt + (1) := by rw [em_36]; exact pm_addc _ _ (1) rfl (by omega) (by omega)
          exact ih3 m13 v1 f12 hv1 hf12 hw12 hr12_0 hr12_1 hr12_12 hr12_13 hr12_14 hr12_15 hr12_7 hr12_8 hr12_9 hr12_10 hr12_11 (by omega) (by omega) (by omega) (by omega) (by omega) (by omega) (by omega) (by omega) (by omega)
  exact lp2 (200 - (0 : Int32).toInt).toNat.succ (0 : Int32) v f hv hf rfl rfl rfl rfl rfl rfl rfl rfl rfl rfl rfl rfl (by omega) (by omega) (by omega) (by omega) (by omega) (by omega) (by omega) (by omega) (by omega)

set_option maxRecDepth 100000 in
set_option maxHeartbeats 2000000 in
theorem V_X11_match (D : md_D h q) (v : Nat → Int32) (f : Nat → Nat → Int32) (hv : md_V v) (hf : md_F f) (x1 : Int32) (x2 : Int32) (x3 : Int32)  : pm_Mt l g 267 2 0 0 [.ref h, .int x1, .int x2, .int x3] (md A0 g h q v f) (md_Qw A0 g h q f (fun r v2 f2 => f2 0 = f 0 ∧ f2 1 = f 1 ∧ f2 12 = f 12 ∧ f2 13 = f 13 ∧ f2 14 = f 14 ∧ f2 15 = f 15 ∧ f2 7 = f 7 ∧ f2 8 = f 8 ∧ f2 9 = f 9 ∧ f2 10 = f 10 ∧ f2 11 = f 11 ∧ (v2 0).toInt = (v 0).toInt ∧ (v2 1).toInt = (v 1).toInt ∧ (v2 2).toInt = (v 2).toInt ∧ (v2 3).toInt = (v 3).toInt ∧ (v2 4).toInt = (v 4).toInt ∧ (v2 5).toInt = (v 5).toInt ∧ (v2 6).toInt = (v 6).toInt)) := by
  refine mt_X11_match rfl (fun J hC => ?_)
  have hv9 := hv
  unfold md_V at hv9
  have rg_x1 := pm_rng x1
  have rg_x2 := pm_rng x2
  have rg_x3 := pm_rng x3
  refine hC.1 0 0 _ _ rfl _ _ _ _ _ ?_
  refine And.intro (Exists.intro _ md_o) (Exists.intro _ (Exists.intro _ (Exists.intro _ (Exists.intro _ (And.intro (c_X11_isSpan D v f hv hf x1 x2 ) (And.intro rfl (fun r9 A9 h9 => ?_)))))))
  rcases h9 with ⟨y1, rfl, rfl, ⟨rfl, by1⟩ | ⟨rfl, by1⟩⟩
  · skip
    have k1 : (1 : Int32).toInt = 1 := rfl
    refine And.intro (fun c9 => absurd c9 (by decide)) (fun _ => ?_)
    have km1 : (-1 : Int32).toInt = -1 := rfl
    refine And.intro (fun c2 => ?_) (fun c2 => ?_)
    · skip
      refine hC.1 2 16 _ _ rfl _ _ _ _ _ ?_
      refine And.intro (Exists.intro _ md_o) (Exists.intro _ (Exists.intro _ (Exists.intro _ (Exists.intro _ (And.intro (V_X11_layGaps D v f hv hf  ) (And.intro rfl (fun r9 A9 h9 => ?_)))))))
      obtain ⟨v4, f4, rfl, rfl, hv4, hf4, hx4, hg4_0, hg4_1, hg4_12, hg4_13, hg4_14, hg4_15, hg4_7, hg4_8, hg4_9, hg4_10, hg4_11, by3⟩ := h9
      have hw4 : f4 2 = f 2 := hx4.trans rfl
      have hr4_0 : f4 0 = f 0 := hg4_0.trans rfl
      have hr4_1 : f4 1 = f 1 := hg4_1.trans rfl
      have hr4_12 : f4 12 = f 12 := hg4_12.trans rfl
      have hr4_13 : f4 13 = f 13 := hg4_13.trans rfl
      have hr4_14 : f4 14 = f 14 := hg4_14.trans rfl
      have hr4_15 : f4 15 = f 15 := hg4_15.trans rfl
      have hr4_7 : f4 7 = f 7 := hg4_7.trans rfl
      have hr4_8 : f4 8 = f 8 := hg4_8.trans rfl
      have hr4_9 : f4 9 = f 9 := hg4_9.trans rfl
      have hr4_10 : f4 10 = f 10 := hg4_10.trans rfl
      have hr4_11 : f4 11 = f 11 := hg4_11.trans rfl
      intro m6 em_22
      try have e6 : m6.toInt = (x2).toInt - (x1).toInt := by rw [em_22]; exact pm_sub _ _ (by omega) (by omega)
      intro m7 em_24
      try have e7 : m7.toInt = (m6).toInt + (1) := by rw [em_24]; exact pm_addc _ _ (1) rfl (by omega) (by omega)
      have k0 : (0 : Int32).toInt = 0 := rfl
      have lp8 : ∀ (n : Nat) (z5_33 : Int32) (z6_33 : Int32), (0 ≤ z6_33.toInt ∧ z6_33.toInt ≤ 161) → 200 - z6_33.toInt < (n : Int) → J 33 [some (.ref h), some (.int x1), some (.int x2), some (.int x3), some (.int m7), some (.int z5_33), some (.int z6_33)] [] (md A0 g h q v4 f4) 0 0 := by
        intro n
        induction n with
        | zero =>
          intro z5_33 z6_33 j0_33 j1_33
          omega
        | succ n ih9 =>
          intro z5_33 z6_33 j0_33 j1_33
          refine hC.1 3 33 _ _ rfl _ _ _ _ _ ?_
          intro m10 em_37
          try have e10 : m10.toInt = (z6_33).toInt + (m7).toInt := by rw [em_37]; exact pm_add _ _ (by omega) (by omega)
          refine Exists.intro _ (And.intro md_o ?_)
          refine And.intro (fun c11 => ?_) (fun c11 => ?_)
          · skip
            refine hC.1 7 80 _ _ rfl _ _ _ _ _ ?_
            refine And.intro (fun c12 => ?_) (fun c12 => ?_)
            · skip
              have dc12 := pm_neI c12
              refine hC.1 8 90 _ _ rfl _ _ _ _ _ ?_
              refine hC.1 9 91 _ _ rfl _ _ _ _ _ ?_
              exact ⟨rfl, fun e9 => absurd e9 (by decide), rfl, (-1 : Int32), v4, f4, rfl, rfl, hv4, hf4, hw4, hr4_0, hr4_1, hr4_12, hr4_13, hr4_14, hr4_15, hr4_7, hr4_8, hr4_9, hr4_10, hr4_11, by first | omega | (dsimp only; omega) | trivial⟩
            · skip
              have dc12 : (x3).toInt = ((-1 : Int32) : Int32).toInt := congrArg Int32.toInt c12
              refine hC.1 9 91 _ _ rfl _ _ _ _ _ ?_
              exact ⟨rfl, fun e9 => absurd e9 (by decide), rfl, z5_33, v4, f4, rfl, rfl, hv4, hf4, hw4, hr4_0, hr4_1, hr4_12, hr4_13, hr4_14, hr4_15, hr4_7, hr4_8, hr4_9, hr4_10, hr4_11, by first | omega | (dsimp only; omega) | trivial⟩
          · skip
            refine And.intro (Exists.intro _ md_o) (Exists.intro _ (Exists.intro _ (Exists.intro _ (Exists.intro _ (And.intro (c_X11_matched D v4 f4 hv4 hf4 x1 z6_33 m7 (by omega) (by omega) (by omega)) (And.intro rfl (fun r9 A9 h9 => ?_)))))))
            obtain ⟨y13, rfl, rfl, by13⟩ := h9
            refine And.intro (fun c14 => ?_) (fun c14 => ?_)
            · skip
              refine hC.1 4 62 _ _ rfl _ _ _ _ _ ?_
              refine And.intro (fun c15 => ?_) (fun c15 => ?_)
              · skip
                have dc15 := pm_neI c15
                refine hC.1 5 71 _ _ rfl _ _ _ _ _ ?_
                intro m16 em_71
                try have e16 : m16.toInt = (z5_33).toInt + (1) := by rw [em_71]; exact pm_addc _ _ (1) rfl (by omega) (by omega)
                refine hC.1 6 74 _ _ rfl _ _ _ _ _ ?_
                intro m17 em_74
                try have e17 : m17.toInt = (z6_33).toInt + (1) := by rw [em_74]; exact pm_addc _ _ (1) rfl (by omega) (by omega)
                exact ih9 m16 m17 (by omega) (by omega)
              · skip
                have dc15 : (z5_33).toInt = (x3 : Int32).toInt := congrArg Int32.toInt c15
                exact ⟨rfl, fun e9 => absurd e9 (by decide), rfl, z6_33, v4, f4, rfl, rfl, hv4, hf4, hw4, hr4_0, hr4_1, hr4_12, hr4_13, hr4_14, hr4_15, hr4_7, hr4_8, hr4_9, hr4_10, hr4_11, by first | omega | (dsimp only; omega) | trivial⟩
            · skip
              refine hC.1 6 74 _ _ rfl _ _ _ _ _ ?_
              intro m18 em_74
              try have e18 : m18.toInt = (z6_33).toInt + (1) := by rw [em_74]; exact pm_addc _ _ (1) rfl (by omega) (by omega)
              exact ih9 z5_33 m18 (by omega) (by omega)
      exact lp8 (200 - (0 : Int32).toInt).toNat.succ (0 : Int32) (0 : Int32) (by omega) (by omega)
    · skip
      refine hC.1 1 14 _ _ rfl _ _ _ _ _ ?_
      exact ⟨rfl, fun e9 => absurd e9 (by decide), rfl, (-1 : Int32), v, f, rfl, rfl, hv, hf, rfl, rfl, rfl, rfl, rfl, rfl, rfl, rfl, rfl, rfl, rfl, rfl, by first | omega | (dsimp only; omega) | trivial⟩
  · skip
    have k0 : (0 : Int32).toInt = 0 := rfl
    refine And.intro (fun _ => ?_) (fun c9 => absurd c9 (by decide))
    refine hC.1 1 14 _ _ rfl _ _ _ _ _ ?_
    have km1 : (-1 : Int32).toInt = -1 := rfl
    exact ⟨rfl, fun e9 => absurd e9 (by decide), rfl, (-1 : Int32), v, f, rfl, rfl, hv, hf, rfl, rfl, rfl, rfl, rfl, rfl, rfl, rfl, rfl, rfl, rfl, rfl, by first | omega | (dsimp only; omega) | trivial⟩

set_option maxRecDepth 100000 in
set_option maxHeartbeats 2000000 in
theorem V_X11_twin (D : md_D h q) (v : Nat → Int32) (f : Nat → Nat → Int32) (hv : md_V v) (hf : md_F f) (x1 : Int32)  : pm_Mt l g 270 2 0 0 [.ref h, .int x1] (md A0 g h q v f) (md_Qw A0 g h q f (fun r v2 f2 => f2 0 = f 0 ∧ f2 1 = f 1 ∧ f2 12 = f 12 ∧ f2 13 = f 13 ∧ f2 14 = f 14 ∧ f2 15 = f 15 ∧ f2 7 = f 7 ∧ f2 8 = f 8 ∧ f2 9 = f 9 ∧ f2 10 = f 10 ∧ f2 11 = f 11 ∧ (v2 0).toInt = (v 0).toInt ∧ (v2 1).toInt = (v 1).toInt ∧ (v2 2).toInt = (v 2).toInt ∧ (v2 3).toInt = (v 3).toInt ∧ (v2 4).toInt = (v 4).toInt ∧ (v2 5).toInt = (v 5).toInt ∧ (v2 6).toInt = (v 6).toInt)) := by
  refine mt_X11_twin rfl (fun J hC => ?_)
  have hv9 := hv
  unfold md_V at hv9
  have rg_x1 := pm_rng x1
  refine hC.1 0 0 _ _ rfl _ _ _ _ _ ?_
  have k0 : (0 : Int32).toInt = 0 := rfl
  have k1 : (1 : Int32).toInt = 1 := rfl
  refine Exists.intro _ (Exists.intro _ (Exists.intro _ (Exists.intro _ (And.intro (c_X11_isIn (md A0 g h q v f) x1 (0 : Int32) (1 : Int32) ) (And.intro rfl (fun r9 A9 h9 => ?_))))))
  rcases h9 with ⟨y1, rfl, rfl, ⟨rfl, by1⟩ | ⟨rfl, by1⟩⟩
  · skip
    refine And.intro (fun _ => ?_) (fun c9 => absurd c9 (by decide))
    refine hC.1 1 11 _ _ rfl _ _ _ _ _ ?_
    refine And.intro (Exists.intro _ md_o) (Exists.intro _ (Exists.intro _ (Exists.intro _ (Exists.intro _ (And.intro (V_X11_layGaps D v f hv hf  ) (And.intro rfl (fun r9 A9 h9 => ?_)))))))
    obtain ⟨v3, f3, rfl, rfl, hv3, hf3, hx3, hg3_0, hg3_1, hg3_12, hg3_13, hg3_14, hg3_15, hg3_7, hg3_8, hg3_9, hg3_10, hg3_11, by2⟩ := h9
    have hw3 : f3 2 = f 2 := hx3.trans rfl
    have hr3_0 : f3 0 = f 0 := hg3_0.trans rfl
    have hr3_1 : f3 1 = f 1 := hg3_1.trans rfl
    have hr3_12 : f3 12 = f 12 := hg3_12.trans rfl
    have hr3_13 : f3 13 = f 13 := hg3_13.trans rfl
    have hr3_14 : f3 14 = f 14 := hg3_14.trans rfl
    have hr3_15 : f3 15 = f 15 := hg3_15.trans rfl
    have hr3_7 : f3 7 = f 7 := hg3_7.trans rfl
    have hr3_8 : f3 8 = f 8 := hg3_8.trans rfl
    have hr3_9 : f3 9 = f 9 := hg3_9.trans rfl
    have hr3_10 : f3 10 = f 10 := hg3_10.trans rfl
    have hr3_11 : f3 11 = f 11 := hg3_11.trans rfl
    have km1 : (-1 : Int32).toInt = -1 := rfl
    have lp5 : ∀ (n : Nat) (z2_22 : Int32) (z3_22 : Int32) (z4_22 : Int32), (0 ≤ z4_22.toInt ∧ z4_22.toInt ≤ (v 0).toInt) → 200 - z4_22.toInt < (n : Int) → J 22 [some (.ref h), some (.int x1), some (.int z2_22), some (.int z3_22), some (.int z4_22), none, none] [] (md A0 g h q v3 f3) 0 0 := by
      intro n
      induction n with
      | zero =>
        intro z2_22 z3_22 z4_22 j0_22 j1_22
        omega
      | succ n ih6 =>
        intro z2_22 z3_22 z4_22 j0_22 j1_22
        refine hC.1 2 22 _ _ rfl _ _ _ _ _ ?_
        refine Exists.intro _ (And.intro md_o ?_)
        refine And.intro (fun c7 => ?_) (fun c7 => ?_)
        · skip
          refine hC.1 7 86 _ _ rfl _ _ _ _ _ ?_
          refine And.intro (fun c8 => ?_) (fun c8 => ?_)
          · skip
            refine hC.1 8 94 _ _ rfl _ _ _ _ _ ?_
            refine hC.1 10 99 _ _ rfl _ _ _ _ _ ?_
            exact ⟨rfl, fun e9 => absurd e9 (by decide), rfl, z2_22, v3, f3, rfl, rfl, hv3, hf3, hw3, hr3_0, hr3_1, hr3_12, hr3_13, hr3_14, hr3_15, hr3_7, hr3_8, hr3_9, hr3_10, hr3_11, by first | omega | (dsimp only; omega) | trivial⟩
          · skip
            refine And.intro (fun c9 => ?_) (fun c9 => ?_)
            · skip
              have dc9 := pm_neI c9
              refine hC.1 9 98 _ _ rfl _ _ _ _ _ ?_
              refine hC.1 10 99 _ _ rfl _ _ _ _ _ ?_
              exact ⟨rfl, fun e9 => absurd e9 (by decide), rfl, z3_22, v3, f3, rfl, rfl, hv3, hf3, hw3, hr3_0, hr3_1, hr3_12, hr3_13, hr3_14, hr3_15, hr3_7, hr3_8, hr3_9, hr3_10, hr3_11, by first | omega | (dsimp only; omega) | trivial⟩
            · skip
              have dc9 : (x1).toInt = (0 : Int32).toInt := congrArg Int32.toInt c9
              refine hC.1 8 94 _ _ rfl _ _ _ _ _ ?_
              refine hC.1 10 99 _ _ rfl _ _ _ _ _ ?_
              exact ⟨rfl, fun e9 => absurd e9 (by decide), rfl, z2_22, v3, f3, rfl, rfl, hv3, hf3, hw3, hr3_0, hr3_1, hr3_12, hr3_13, hr3_14, hr3_15, hr3_7, hr3_8, hr3_9, hr3_10, hr3_11, by first | omega | (dsimp only; omega) | trivial⟩
        · skip
          intro m10 em_34
          try have e10 : m10.toInt = (z4_22).toInt + (1) := by rw [em_34]; exact pm_addc _ _ (1) rfl (by omega) (by omega)
          have lp11 : ∀ (n : Nat) (z2_37 : Int32) (z3_37 : Int32) (z5_37 : Int32), (0 ≤ z5_37.toInt ∧ z5_37.toInt ≤ 161) → 200 - z5_37.toInt < (n : Int) → J 37 [some (.ref h), some (.int x1), some (.int z2_37), some (.int z3_37), some (.int z4_22), some (.int z5_37), none] [] (md A0 g h q v3 f3) 0 0 := by
            intro n
            induction n with
            | zero =>
              intro z2_37 z3_37 z5_37 j0_37 j1_37
              omega
            | succ n ih12 =>
              intro z2_37 z3_37 z5_37 j0_37 j1_37
              refine hC.1 3 37 _ _ rfl _ _ _ _ _ ?_
              refine Exists.intro _ (And.intro md_o ?_)
              refine And.intro (fun c13 => ?_) (fun c13 => ?_)
              · skip
                refine hC.1 6 80 _ _ rfl _ _ _ _ _ ?_
                intro m14 em_80
                try have e14 : m14.toInt = (z4_22).toInt + (1) := by rw [em_80]; exact pm_addc _ _ (1) rfl (by omega) (by omega)
                exact hC.2 [false, false, false, false, false, true, false] _ _ _ _ _ _ (ih6 z2_37 z3_37 m14 (by omega) (by omega))
              · skip
                have k160 : (160 : Int32).toInt = 160 := rfl
                refine And.intro (Exists.intro _ md_o) (Exists.intro _ (Exists.intro _ (Exists.intro _ (Exists.intro _ (And.intro (c_X11_matched D v3 f3 hv3 hf3 z4_22 z5_37 (160 : Int32) (by omega) (by omega) (by omega)) (And.intro rfl (fun r9 A9 h9 => ?_)))))))
                obtain ⟨y15, rfl, rfl, by15⟩ := h9
                refine And.intro (fun c16 => ?_) (fun c16 => ?_)
                · skip
                  refine hC.1 4 68 _ _ rfl _ _ _ _ _ ?_
                  refine hC.1 5 74 _ _ rfl _ _ _ _ _ ?_
                  intro m17 em_74
                  try have e17 : m17.toInt = (z5_37).toInt + (1) := by rw [em_74]; exact pm_addc _ _ (1) rfl (by omega) (by omega)
                  exact hC.2 [false, false, false, false, false, false, true] _ _ _ _ _ _ (ih12 z4_22 y15 m17 (by omega) (by omega))
                · skip
                  refine hC.1 5 74 _ _ rfl _ _ _ _ _ ?_
                  intro m18 em_74
                  try have e18 : m18.toInt = (z5_37).toInt + (1) := by rw [em_74]; exact pm_addc _ _ (1) rfl (by omega) (by omega)
                  exact hC.2 [false, false, false, false, false, false, true] _ _ _ _ _ _ (ih12 z2_37 z3_37 m18 (by omega) (by omega))
          exact lp11 (200 - m10.toInt).toNat.succ z2_22 z3_22 m10 (by omega) (by omega)
    exact lp5 (200 - (0 : Int32).toInt).toNat.succ (-1 : Int32) (0 : Int32) (0 : Int32) (by omega) (by omega)
  · skip
    refine And.intro (fun c9 => absurd c9 (by decide)) (fun _ => ?_)
    have km1 : (-1 : Int32).toInt = -1 := rfl
    exact ⟨rfl, fun e9 => absurd e9 (by decide), rfl, (-1 : Int32), v, f, rfl, rfl, hv, hf, rfl, rfl, rfl, rfl, rfl, rfl, rfl, rfl, rfl, rfl, rfl, rfl, by first | omega | (dsimp only; omega) | trivial⟩

end
end
section
section
variable {l : Launch} {g : pm_G} {A0 : pm_H} {h : Nat} {q : Nat → Nat}
set_option maxRecDepth 100000 in
set_option maxHeartbeats 2000000 in
theorem V_X11_layPart (D : md_D h q) (v : Nat → Int32) (f : Nat → Nat → Int32) (hv : md_V v) (hf : md_F f) (x1 : Int32) (x2 : Int32) (x3 : Int32) (p0 : 1 ≤ x1.toInt ∧ x1.toInt ≤ 8) (p1 : 0 ≤ x2.toInt ∧ x2.toInt ≤ (v 0).toInt) (p2 : x3.toInt = 161) : pm_Mt l g 274 1 0 0 [.ref h, .int x1, .int x2, .int x3] (md A0 g h q v f) (md_Qv A0 g h q f (fun v2 f2 => f2 0 = f 0 ∧ f2 1 = f 1 ∧ f2 12 = f 12 ∧ f2 13 = f 13 ∧ f2 14 = f 14 ∧ f2 15 = f 15 ∧ f2 7 = f 7 ∧ f2 8 = f 8 ∧ f2 9 = f 9 ∧ f2 10 = f 10 ∧ f2 11 = f 11 ∧ (v2 0).toInt = (v 0).toInt ∧ (v2 1).toInt = (v 1).toInt ∧ (v2 2).toInt = (v 2).toInt ∧ (v2 3).toInt = (v 3).toInt ∧ (v2 4).toInt = (v 4).toInt ∧ (v2 5).toInt = (v 5).toInt ∧ (v2 6).toInt = (v 6).toInt)) := by
  refine mt_X11_layPart rfl (fun J hC => ?_)
  have hv9 := hv
  unfold md_V at hv9
  have rg_x1 := pm_rng x1
  have rg_x2 := pm_rng x2
  have rg_x3 := pm_rng x3
  refine hC.1 0 0 _ _ rfl _ _ _ _ _ ?_
  have k0 : (0 : Int32).toInt = 0 := rfl
  have lp2 : ∀ (n : Nat) (z4_6 : Int32) (z5_6 : Int32) (v1 : Nat → Int32) (f1 : Nat → Nat → Int32), md_V v1 → md_F f1 → f1 2 = f 2 → f1 0 = f 0 → f1 1 = f 1 → f1 12 = f 12 → f1 13 = f 13 → f1 14 = f 14 → f1 15 = f 15 → f1 7 = f 7 → f1 8 = f 8 → f1 9 = f 9 → f1 10 = f 10 → f1 11 = f 11 → (0 ≤ z5_6.toInt ∧ z5_6.toInt ≤ (v 0).toInt) → (v1 0).toInt = (v 0).toInt → (v1 1).toInt = (v 1).toInt → (v1 2).toInt = (v 2).toInt → (v1 3).toInt = (v 3).toInt → (v1 4).toInt = (v 4).toInt → (v1 5).toInt = (v 5).toInt → (v1 6).toInt = (v 6).toInt → 200 - z5_6.toInt < (n : Int) → J 6 [some (.ref h), some (.int x1), some (.int x2), some (.int x3), some (.int z4_6), some (.int z5_6), none] [] (md A0 g h q v1 f1) 0 0 := by
    intro n
    induction n with
    | zero =>
      intro z4_6 z5_6 v1 f1 hv1 hf1 hw1 hr1_0 hr1_1 hr1_12 hr1_13 hr1_14 hr1_15 hr1_7 hr1_8 hr1_9 hr1_10 hr1_11 j0_6 j1_6 j2_6 j3_6 j4_6 j5_6 j6_6 j7_6 j8_6
      omega
    | succ n ih3 =>
      intro z4_6 z5_6 v1 f1 hv1 hf1 hw1 hr1_0 hr1_1 hr1_12 hr1_13 hr1_14 hr1_15 hr1_7 hr1_8 hr1_9 hr1_10 hr1_11 j0_6 j1_6 j2_6 j3_6 j4_6 j5_6 j6_6 j7_6 j8_6
      refine hC.1 1 6 _ _ rfl _ _ _ _ _ ?_
      refine Exists.intro _ (And.intro md_o ?_)
      refine And.intro (fun c5 => ?_) (fun c5 => ?_)
      · skip
        refine hC.1 4 105 _ _ rfl _ _ _ _ _ ?_
        exact ⟨rfl, rfl, v1, f1, rfl, rfl, hv1, hf1, hw1, hr1_0, hr1_1, hr1_12, hr1_13, hr1_14, hr1_15, hr1_7, hr1_8, hr1_9, hr1_10, hr1_11, by first | omega | (dsimp only; omega) | trivial⟩
      · skip
        have k1 : (1 : Int32).toInt = 1 := rfl
        refine Exists.intro _ (And.intro md_o ?_)
        refine Exists.intro _ (Exists.intro _ (And.intro (Or.inl (md_a_colours D)) (And.intro (by omega) ?_)))
        have w6 : (0 : Int) ≤ (f1 0 (z5_6).toInt.toNat).toInt ∧ (f1 0 (z5_6).toInt.toNat).toInt ≤ (23 : Int) := hf1 0 _
        refine Exists.intro _ (Exists.intro _ (Exists.intro _ (Exists.intro _ (And.intro (c_X11_bits (md A0 g h q v1 f1) (z4_6 ||| ((1 : Int32) <<< ((f1 0 (z5_6).toInt.toNat) &&& 31))) ) (And.intro rfl (fun r9 A9 h9 => ?_))))))
        obtain ⟨y7, rfl, rfl, by7⟩ := h9
        refine Exists.intro _ (And.intro md_o ?_)
        intro m8 em_41
        try have e8 : m8.toInt = (x1).toInt - (1) := by rw [em_41]; exact pm_subc _ _ (1) rfl (by omega) (by omega)
        intro m9 em_42
        try have e9 : m9.toInt = (161) * (m8).toInt := by rw [em_42]; exact pm_mulk _ _ (161) (by omega) (by omega) (by omega)
        intro m10 em_45
        try have e10 : m10.toInt = (m9).toInt + (z5_6).toInt := by rw [em_45]; exact pm_add _ _ (by omega) (by omega)
        intro m11 em_47
        try have e11 : m11.toInt = (m10).toInt + (1) := by rw [em_47]; exact pm_addc _ _ (1) rfl (by omega) (by omega)
        refine Exists.intro _ (Exists.intro _ (And.intro (Or.inl (md_a_worth D)) (And.intro (by omega) ?_)))
        intro m12 em_49
        try have e12 : m12.toInt = (y7).toInt + ((f1 18 (m11).toInt.toNat)).toInt := by rw [em_49]; exact pm_add _ _ (by omega) (by omega)
        refine Exists.intro _ (And.intro md_o ?_)
        intro m13 em_60
        try have e13 : m13.toInt = (161) * (x1).toInt := by rw [em_60]; exact pm_mulk _ _ (161) (by omega) (by omega) (by omega)
        intro m14 em_62
        try have e14 : m14.toInt = (m13).toInt + (x2).toInt := by rw [em_62]; exact pm_add _ _ (by omega) (by omega)
        refine Exists.intro _ (Exists.intro _ (And.intro (Or.inl (md_a_worth D)) (And.intro (by omega) ?_)))
        refine And.intro (fun c15 => ?_) (fun c15 => ?_)
        · skip
          refine hC.1 3 99 _ _ rfl _ _ _ _ _ ?_
          intro m16 em_99
          try have e16 : m16.toInt = (z5_6).toInt + (1) := by rw [em_99]; exact pm_addc _ _ (1) rfl (by omega) (by omega)
          exact hC.2 [false, false, false, false, false, false, true] _ _ _ _ _ _ (ih3 (z4_6 ||| ((1 : Int32) <<< ((f1 0 (z5_6).toInt.toNat) &&& 31))) m16 v1 f1 hv1 hf1 hw1 hr1_0 hr1_1 hr1_12 hr1_13 hr1_14 hr1_15 hr1_7 hr1_8 hr1_9 hr1_10 hr1_11 (by omega) (by omega) (by omega) (by omega) (by omega) (by omega) (by omega) (by omega) (by omega))
        · skip
          refine And.intro (fun c17 => ?_) (fun c17 => ?_)
          · skip
            refine hC.1 2 75 _ _ rfl _ _ _ _ _ ?_
            refine Exists.intro _ (And.intro md_o ?_)
            intro m18 em_81
            try have e18 : m18.toInt = (161) * (x1).toInt := by rw [em_81]; exact pm_mulk _ _ (161) (by omega) (by omega) (by omega)
            intro m19 em_83
            try have e19 : m19.toInt = (m18).toInt + (x2).toInt := by rw [em_83]; exact pm_add _ _ (by omega) (by omega)
            refine Exists.intro _ (Exists.intro _ (And.intro (md_a_worth D) (And.intro (by omega) ?_)))
            rw [md_s_worth D]
            obtain ⟨f20, ef20⟩ : ∃ z9, z9 = va_up f1 18 (upd (f1 18) (m19).toInt.toNat m12) := ⟨_, rfl⟩
            rw [← ef20]
            have hf20 : md_F f20 := by rw [ef20]; exact md_F_st hf1 18 _ _ (md_rng _ _ (by decide))
            have hw20 : f20 2 = f 2 := (show f20 2 = f1 2 by rw [ef20]; rfl).trans hw1
            have hr20_0 : f20 0 = f 0 := (show f20 0 = f1 0 by rw [ef20]; rfl).trans hr1_0
            have hr20_1 : f20 1 = f 1 := (show f20 1 = f1 1 by rw [ef20]; rfl).trans hr1_1
            have hr20_12 : f20 12 = f 12 := (show f20 12 = f1 12 by rw [ef20]; rfl).trans hr1_12
            have hr20_13 : f20 13 = f 13 := (show f20 13 = f1 13 by rw [ef20]; rfl).trans hr1_13
            have hr20_14 : f20 14 = f 14 := (show f20 14 = f1 14 by rw [ef20]; rfl).trans hr1_14
            have hr20_15 : f20 15 = f 15 := (show f20 15 = f1 15 by rw [ef20]; rfl).trans hr1_15
            have hr20_7 : f20 7 = f 7 := (show f20 7 = f1 7 by rw [ef20]; rfl).trans hr1_7
            have hr20_8 : f20 8 = f 8 := (show f20 8 = f1 8 by rw [ef20]; rfl).trans hr1_8
            have hr20_9 : f20 9 = f 9 := (show f20 9 = f1 9 by rw [ef20]; rfl).trans hr1_9
            have hr20_10 : f20 10 = f 10 := (show f20 10 = f1 10 by rw [ef20]; rfl).trans hr1_10
            have hr20_11 : f20 11 = f 11 := (show f20 11 = f1 11 by rw [ef20]; rfl).trans hr1_11
            refine Exists.intro _ (And.intro md_o ?_)
            intro m21 em_93
            try have e21 : m21.toInt = (161) * (x1).toInt := by rw [em_93]; exact pm_mulk _ _ (161) (by omega) (by omega) (by omega)
            intro m22 em_95
            try have e22 : m22.toInt = (m21).toInt + (x2).toInt := by rw [em_95]; exact pm_add _ _ (by omega) (by omega)
            refine Exists.intro _ (Exists.intro _ (And.intro (md_a_ends0 D) (And.intro (by omega) ?_)))
            rw [md_s_ends0 D]
            obtain ⟨f23, ef23⟩ : ∃ z9, z9 = va_up f20 19 (upd (f20 19) (m22).toInt.toNat z5_6) := ⟨_, rfl⟩
            rw [← ef23]
            have hf23 : md_F f23 := by rw [ef23]; exact md_F_st hf20 19 _ _ (by show (0 : Int) ≤ _ ∧ _ ≤ (159 : Int); omega)
            have hw23 : f23 2 = f 2 := (show f23 2 = f20 2 by rw [ef23]; rfl).trans hw20
            have hr23_0 : f23 0 = f 0 := (show f23 0 = f20 0 by rw [ef23]; rfl).trans hr20_0
            have hr23_1 : f23 1 = f 1 := (show f23 1 = f20 1 by rw [ef23]; rfl).trans hr20_1
            have hr23_12 : f23 12 = f 12 := (show f23 12 = f20 12 by rw [ef23]; rfl).trans hr20_12
            have hr23_13 : f23 13 = f 13 := (show f23 13 = f20 13 by rw [ef23]; rfl).trans hr20_13
            have hr23_14 : f23 14 = f 14 := (show f23 14 = f20 14 by rw [ef23]; rfl).trans hr20_14
            have hr23_15 : f23 15 = f 15 := (show f23 15 = f20 15 by rw [ef23]; rfl).trans hr20_15
            have hr23_7 : f23 7 = f 7 := (show f23 7 = f20 7 by rw [ef23]; rfl).trans hr20_7
            have hr23_8 : f23 8 = f 8 := (show f23 8 = f20 8 by rw [ef23]; rfl).trans hr20_8
            have hr23_9 : f23 9 = f 9 := (show f23 9 = f20 9 by rw [ef23]; rfl).trans hr20_9
            have hr23_10 : f23 10 = f 10 := (show f23 10 = f20 10 by rw [ef23]; rfl).trans hr20_10
            have hr23_11 : f23 11 = f 11 := (show f23 11 = f20 11 by rw [ef23]; rfl).trans hr20_11
            refine hC.1 3 99 _ _ rfl _ _ _ _ _ ?_
            intro m24 em_99
            try have e24 : m24.toInt = (z5_6).toInt + (1) := by rw [em_99]; exact pm_addc _ _ (1) rfl (by omega) (by omega)
            exact hC.2 [false, false, false, false, false, false, true] _ _ _ _ _ _ (ih3 (z4_6 ||| ((1 : Int32) <<< ((f1 0 (z5_6).toInt.toNat) &&& 31))) m24 v1 f23 hv1 hf23 hw23 hr23_0 hr23_1 hr23_12 hr23_13 hr23_14 hr23_15 hr23_7 hr23_8 hr23_9 hr23_10 hr23_11 (by omega) (by omega) (by omega) (by omega) (by omega) (by omega) (by omega) (by omega) (by omega))
          · skip
            refine hC.1 3 99 _ _ rfl _ _ _ _ _ ?_
            intro m25 em_99
            try have e25 : m25.toInt = (z5_6).toInt + (1) := by rw [em_99]; exact pm_addc _ _ (1) rfl (by omega) (by omega)
            exact hC.2 [false, false, false, false, false, false, true] _ _ _ _ _ _ (ih3 (z4_6 ||| ((1 : Int32) <<< ((f1 0 (z5_6).toInt.toNat) &&& 31))) m25 v1 f1 hv1 hf1 hw1 hr1_0 hr1_1 hr1_12 hr1_13 hr1_14 hr1_15 hr1_7 hr1_8 hr1_9 hr1_10 hr1_11 (by omega) (by omega) (by omega) (by omega) (by omega) (by omega) (by omega) (by omega) (by omega))
  exact lp2 (200 - x2.toInt).toNat.succ (0 : Int32) x2 v f hv hf rfl rfl rfl rfl rfl rfl rfl rfl rfl rfl rfl rfl (by omega) (by omega) (by omega) (by omega) (by omega) (by omega) (by omega) (by omega) (by omega)

set_option maxRecDepth 100000 in
set_option maxHeartbeats 2000000 in
theorem V_X11_layBest (D : md_D h q) (v : Nat → Int32) (f : Nat → Nat → Int32) (hv : md_V v) (hf : md_F f) (x1 : Int32) (p0 : 0 ≤ x1.toInt ∧ x1.toInt ≤ 8) : pm_Mt l g 273 2 0 0 [.ref h, .int x1] (md A0 g h q v f) (md_Qv A0 g h q f (fun v2 f2 => f2 0 = f 0 ∧ f2 1 = f 1 ∧ f2 12 = f 12 ∧ f2 13 = f 13 ∧ f2 14 = f 14 ∧ f2 15 = f 15 ∧ f2 7 = f 7 ∧ f2 8 = f 8 ∧ f2 9 = f 9 ∧ f2 10 = f 10 ∧ f2 11 = f 11 ∧ (v2 0).toInt = (v 0).toInt ∧ (v2 1).toInt = (v 1).toInt ∧ (v2 2).toInt = (v 2).toInt ∧ (v2 3).toInt = (v 3).toInt ∧ (v2 4).toInt = (v 4).toInt ∧ (v2 5).toInt = (v 5).toInt ∧ (v2 6).toInt = (v 6).toInt)) := by
  refine mt_X11_layBest rfl (fun J hC => ?_)
  have hv9 := hv
  unfold md_V at hv9
  have rg_x1 := pm_rng x1
  refine hC.1 0 0 _ _ rfl _ _ _ _ _ ?_
  have k161 : (161 : Int32).toInt = 161 := rfl
  have k0 : (0 : Int32).toInt = 0 := rfl
  have lp2 : ∀ (n : Nat) (z3_6 : Int32) (v1 : Nat → Int32) (f1 : Nat → Nat → Int32), md_V v1 → md_F f1 → f1 2 = f 2 → f1 0 = f 0 → f1 1 = f 1 → f1 12 = f 12 → f1 13 = f 13 → f1 14 = f 14 → f1 15 = f 15 → f1 7 = f 7 → f1 8 = f 8 → f1 9 = f 9 → f1 10 = f 10 → f1 11 = f 11 → (0 ≤ z3_6.toInt ∧ z3_6.toInt ≤ 9) → (v1 0).toInt = (v 0).toInt → (v1 1).toInt = (v 1).toInt → (v1 2).toInt = (v 2).toInt → (v1 3).toInt = (v 3).toInt → (v1 4).toInt = (v 4).toInt → (v1 5).toInt = (v 5).toInt → (v1 6).toInt = (v 6).toInt → 200 - z3_6.toInt < (n : Int) → J 6 [some (.ref h), some (.int x1), some (.int (161 : Int32)), some (.int z3_6), none] [] (md A0 g h q v1 f1) 0 0 := by
    intro n
    induction n with
    | zero =>
      intro z3_6 v1 f1 hv1 hf1 hw1 hr1_0 hr1_1 hr1_12 hr1_13 hr1_14 hr1_15 hr1_7 hr1_8 hr1_9 hr1_10 hr1_11 j0_6 j1_6 j2_6 j3_6 j4_6 j5_6 j6_6 j7_6 j8_6
      omega
    | succ n ih3 =>
      intro z3_6 v1 f1 hv1 hf1 hw1 hr1_0 hr1_1 hr1_12 hr1_13 hr1_14 hr1_15 hr1_7 hr1_8 hr1_9 hr1_10 hr1_11 j0_6 j1_6 j2_6 j3_6 j4_6 j5_6 j6_6 j7_6 j8_6
      refine hC.1 1 6 _ _ rfl _ _ _ _ _ ?_
      refine And.intro (fun c5 => ?_) (fun c5 => ?_)
      · skip
        refine hC.1 7 85 _ _ rfl _ _ _ _ _ ?_
        exact ⟨rfl, rfl, v1, f1, rfl, rfl, hv1, hf1, hw1, hr1_0, hr1_1, hr1_12, hr1_13, hr1_14, hr1_15, hr1_7, hr1_8, hr1_9, hr1_10, hr1_11, by first | omega | (dsimp only; omega) | trivial⟩
      · skip
        refine Exists.intro _ (And.intro md_o ?_)
        have lp7 : ∀ (n : Nat) (z4_17 : Int32) (v6 : Nat → Int32) (f6 : Nat → Nat → Int32), md_V v6 → md_F f6 → f6 2 = f 2 → f6 0 = f 0 → f6 1 = f 1 → f6 12 = f 12 → f6 13 = f 13 → f6 14 = f 14 → f6 15 = f 15 → f6 7 = f 7 → f6 8 = f 8 → f6 9 = f 9 → f6 10 = f 10 → f6 11 = f 11 → (-1 ≤ z4_17.toInt ∧ z4_17.toInt ≤ (v 0).toInt) → (v6 0).toInt = (v 0).toInt → (v6 1).toInt = (v 1).toInt → (v6 2).toInt = (v 2).toInt → (v6 3).toInt = (v 3).toInt → (v6 4).toInt = (v 4).toInt → (v6 5).toInt = (v 5).toInt → (v6 6).toInt = (v 6).toInt → z4_17.toInt + 1 < (n : Int) → J 17 [some (.ref h), some (.int x1), some (.int (161 : Int32)), some (.int z3_6), some (.int z4_17)] [] (md A0 g h q v6 f6) 0 0 := by
          intro n
          induction n with
          | zero =>
            intro z4_17 v6 f6 hv6 hf6 hw6 hr6_0 hr6_1 hr6_12 hr6_13 hr6_14 hr6_15 hr6_7 hr6_8 hr6_9 hr6_10 hr6_11 j0_17 j1_17 j2_17 j3_17 j4_17 j5_17 j6_17 j7_17 j8_17
            omega
          | succ n ih8 =>
            intro z4_17 v6 f6 hv6 hf6 hw6 hr6_0 hr6_1 hr6_12 hr6_13 hr6_14 hr6_15 hr6_7 hr6_8 hr6_9 hr6_10 hr6_11 j0_17 j1_17 j2_17 j3_17 j4_17 j5_17 j6_17 j7_17 j8_17
            refine hC.1 2 17 _ _ rfl _ _ _ _ _ ?_
            refine And.intro (fun c10 => ?_) (fun c10 => ?_)
            · skip
              refine hC.1 6 79 _ _ rfl _ _ _ _ _ ?_
              have k1 : (1 : Int32).toInt = 1 := rfl
              intro m11 em_79
              try have e11 : m11.toInt = (z3_6).toInt + (1) := by rw [em_79]; exact pm_addc _ _ (1) rfl (by omega) (by omega)
              exact hC.2 [false, false, false, false, true] _ _ _ _ _ _ (ih3 m11 v6 f6 hv6 hf6 hw6 hr6_0 hr6_1 hr6_12 hr6_13 hr6_14 hr6_15 hr6_7 hr6_8 hr6_9 hr6_10 hr6_11 (by omega) (by omega) (by omega) (by omega) (by omega) (by omega) (by omega) (by omega) (by omega))
            · skip
              refine Exists.intro _ (And.intro md_o ?_)
              intro m12 em_28
              try have e12 : m12.toInt = (161) * (z3_6).toInt := by rw [em_28]; exact pm_mulk _ _ (161) rfl (by omega) (by omega)
              intro m13 em_31
              try have e13 : m13.toInt = (m12).toInt + (z4_17).toInt := by rw [em_31]; exact pm_add _ _ (by omega) (by omega)
              refine And.intro (fun c14 => ?_) (fun c14 => ?_)
              · skip
                have dc14 := pm_neI c14
                refine hC.1 3 49 _ _ rfl _ _ _ _ _ ?_
                have km268435456 : (-268435456 : Int32).toInt = -268435456 := rfl
                refine hC.1 4 51 _ _ rfl _ _ _ _ _ ?_
                refine Exists.intro _ (Exists.intro _ (And.intro (md_a_worth D) (And.intro (by omega) ?_)))
                rw [md_s_worth D]
                obtain ⟨f15, ef15⟩ : ∃ z9, z9 = va_up f6 18 (upd (f6 18) (m13).toInt.toNat (-268435456 : Int32)) := ⟨_, rfl⟩
                rw [← ef15]
                have hf15 : md_F f15 := by rw [ef15]; exact md_F_st hf6 18 _ _ (md_rng _ _ (by decide))
                have hw15 : f15 2 = f 2 := (show f15 2 = f6 2 by rw [ef15]; rfl).trans hw6
                have hr15_0 : f15 0 = f 0 := (show f15 0 = f6 0 by rw [ef15]; rfl).trans hr6_0
                have hr15_1 : f15 1 = f 1 := (show f15 1 = f6 1 by rw [ef15]; rfl).trans hr6_1
                have hr15_12 : f15 12 = f 12 := (show f15 12 = f6 12 by rw [ef15]; rfl).trans hr6_12
                have hr15_13 : f15 13 = f 13 := (show f15 13 = f6 13 by rw [ef15]; rfl).trans hr6_13
                have hr15_14 : f15 14 = f 14 := (show f15 14 = f6 14 by rw [ef15]; rfl).trans hr6_14
                have hr15_15 : f15 15 = f 15 := (show f15 15 = f6 15 by rw [ef15]; rfl).trans hr6_15
                have hr15_7 : f15 7 = f 7 := (show f15 7 = f6 7 by rw [ef15]; rfl).trans hr6_7
                have hr15_8 : f15 8 = f 8 := (show f15 8 = f6 8 by rw [ef15]; rfl).trans hr6_8
                have hr15_9 : f15 9 = f 9 := (show f15 9 = f6 9 by rw [ef15]; rfl).trans hr6_9
                have hr15_10 : f15 10 = f 10 := (show f15 10 = f6 10 by rw [ef15]; rfl).trans hr6_10
                have hr15_11 : f15 11 = f 11 := (show f15 11 = f6 11 by rw [ef15]; rfl).trans hr6_11
                refine And.intro (fun c16 => ?_) (fun c16 => ?_)
                · skip
                  refine hC.1 5 73 _ _ rfl _ _ _ _ _ ?_
                  have km1 : (-1 : Int32).toInt = -1 := rfl
                  intro m17 em_73
                  try have e17 : m17.toInt = (z4_17).toInt + (-1) := by rw [em_73]; exact pm_addc _ _ (-1) rfl (by omega) (by omega)
                  exact ih8 m17 v6 f15 hv6 hf15 hw15 hr15_0 hr15_1 hr15_12 hr15_13 hr15_14 hr15_15 hr15_7 hr15_8 hr15_9 hr15_10 hr15_11 (by omega) (by omega) (by omega) (by omega) (by omega) (by omega) (by omega) (by omega) (by omega)
                · skip
                  refine Exists.intro _ (And.intro md_o ?_)
                  refine And.intro (fun c18 => ?_) (fun c18 => ?_)
                  · skip
                    refine hC.1 5 73 _ _ rfl _ _ _ _ _ ?_
                    have km1 : (-1 : Int32).toInt = -1 := rfl
                    intro m19 em_73
                    try have e19 : m19.toInt = (z4_17).toInt + (-1) := by rw [em_73]; exact pm_addc _ _ (-1) rfl (by omega) (by omega)
                    exact ih8 m19 v6 f15 hv6 hf15 hw15 hr15_0 hr15_1 hr15_12 hr15_13 hr15_14 hr15_15 hr15_7 hr15_8 hr15_9 hr15_10 hr15_11 (by omega) (by omega) (by omega) (by omega) (by omega) (by omega) (by omega) (by omega) (by omega)
                  · skip
                    refine And.intro (Exists.intro _ md_o) (Exists.intro _ (Exists.intro _ (Exists.intro _ (Exists.intro _ (And.intro (V_X11_layPart D v6 f15 hv6 hf15 z3_6 z4_17 (161 : Int32) (by omega) (by omega) (by omega)) (And.intro rfl (fun r9 A9 h9 => ?_)))))))
                    obtain ⟨v21, f21, rfl, rfl, hv21, hf21, hx21, hg21_0, hg21_1, hg21_12, hg21_13, hg21_14, hg21_15, hg21_7, hg21_8, hg21_9, hg21_10, hg21_11, by20⟩ := h9
                    have hw21 : f21 2 = f 2 := hx21.trans hw15
                    have hr21_0 : f21 0 = f 0 := hg21_0.trans hr15_0
                    have hr21_1 : f21 1 = f 1 := hg21_1.trans hr15_1
                    have hr21_12 : f21 12 = f 12 := hg21_12.trans hr15_12
                    have hr21_13 : f21 13 = f 13 := hg21_13.trans hr15_13
                    have hr21_14 : f21 14 = f 14 := hg21_14.trans hr15_14
                    have hr21_15 : f21 15 = f 15 := hg21_15.trans hr15_15
                    have hr21_7 : f21 7 = f 7 := hg21_7.trans hr15_7
                    have hr21_8 : f21 8 = f 8 := hg21_8.trans hr15_8
                    have hr21_9 : f21 9 = f 9 := hg21_9.trans hr15_9
                    have hr21_10 : f21 10 = f 10 := hg21_10.trans hr15_10
                    have hr21_11 : f21 11 = f 11 := hg21_11.trans hr15_11
                    refine hC.1 5 73 _ _ rfl _ _ _ _ _ ?_
                    have km1 : (-1 : Int32).toInt = -1 := rfl
                    intro m23 em_73
                    try have e23 : m23.toInt = (z4_17).toInt + (-1) := by rw [em_73]; exact pm_addc _ _ (-1) rfl (by omega) (by omega)
                    exact ih8 m23 v21 f21 hv21 hf21 hw21 hr21_0 hr21_1 hr21_12 hr21_13 hr21_14 hr21_15 hr21_7 hr21_8 hr21_9 hr21_10 hr21_11 (by omega) (by omega) (by omega) (by omega) (by omega) (by omega) (by omega) (by omega) (by omega)
              · skip
                have dc14 : (z3_6).toInt = (0 : Int32).toInt := congrArg Int32.toInt c14
                refine Exists.intro _ (And.intro md_o ?_)
                refine And.intro (fun c24 => ?_) (fun c24 => ?_)
                · skip
                  have dc24 := pm_neI c24
                  refine hC.1 3 49 _ _ rfl _ _ _ _ _ ?_
                  have km268435456 : (-268435456 : Int32).toInt = -268435456 := rfl
                  refine hC.1 4 51 _ _ rfl _ _ _ _ _ ?_
                  refine Exists.intro _ (Exists.intro _ (And.intro (md_a_worth D) (And.intro (by omega) ?_)))
                  rw [md_s_worth D]
                  obtain ⟨f25, ef25⟩ : ∃ z9, z9 = va_up f6 18 (upd (f6 18) (m13).toInt.toNat (-268435456 : Int32)) := ⟨_, rfl⟩
                  rw [← ef25]
                  have hf25 : md_F f25 := by rw [ef25]; exact md_F_st hf6 18 _ _ (md_rng _ _ (by decide))
                  have hw25 : f25 2 = f 2 := (show f25 2 = f6 2 by rw [ef25]; rfl).trans hw6
                  have hr25_0 : f25 0 = f 0 := (show f25 0 = f6 0 by rw [ef25]; rfl).trans hr6_0
                  have hr25_1 : f25 1 = f 1 := (show f25 1 = f6 1 by rw [ef25]; rfl).trans hr6_1
                  have hr25_12 : f25 12 = f 12 := (show f25 12 = f6 12 by rw [ef25]; rfl).trans hr6_12
                  have hr25_13 : f25 13 = f 13 := (show f25 13 = f6 13 by rw [ef25]; rfl).trans hr6_13
                  have hr25_14 : f25 14 = f 14 := (show f25 14 = f6 14 by rw [ef25]; rfl).trans hr6_14
                  have hr25_15 : f25 15 = f 15 := (show f25 15 = f6 15 by rw [ef25]; rfl).trans hr6_15
                  have hr25_7 : f25 7 = f 7 := (show f25 7 = f6 7 by rw [ef25]; rfl).trans hr6_7
                  have hr25_8 : f25 8 = f 8 := (show f25 8 = f6 8 by rw [ef25]; rfl).trans hr6_8
                  have hr25_9 : f25 9 = f 9 := (show f25 9 = f6 9 by rw [ef25]; rfl).trans hr6_9
                  have hr25_10 : f25 10 = f 10 := (show f25 10 = f6 10 by rw [ef25]; rfl).trans hr6_10
                  have hr25_11 : f25 11 = f 11 := (show f25 11 = f6 11 by rw [ef25]; rfl).trans hr6_11
                  refine And.intro (fun c26 => ?_) (fun c26 => ?_)
                  · skip
                    refine hC.1 5 73 _ _ rfl _ _ _ _ _ ?_
                    have km1 : (-1 : Int32).toInt = -1 := rfl
                    intro m27 em_73
                    try have e27 : m27.toInt = (z4_17).toInt + (-1) := by rw [em_73]; exact pm_addc _ _ (-1) rfl (by omega) (by omega)
                    exact ih8 m27 v6 f25 hv6 hf25 hw25 hr25_0 hr25_1 hr25_12 hr25_13 hr25_14 hr25_15 hr25_7 hr25_8 hr25_9 hr25_10 hr25_11 (by omega) (by omega) (by omega) (by omega) (by omega) (by omega) (by omega) (by omega) (by omega)
                  · skip
                    refine Exists.intro _ (And.intro md_o ?_)
                    refine And.intro (fun c28 => ?_) (fun c28 => ?_)
                    · skip
                      refine hC.1 5 73 _ _ rfl _ _ _ _ _ ?_
                      have km1 : (-1 : Int32).toInt = -1 := rfl
                      intro m29 em_73
                      try have e29 : m29.toInt = (z4_17).toInt + (-1) := by rw [em_73]; exact pm_addc _ _ (-1) rfl (by omega) (by omega)
                      exact ih8 m29 v6 f25 hv6 hf25 hw25 hr25_0 hr25_1 hr25_12 hr25_13 hr25_14 hr25_15 hr25_7 hr25_8 hr25_9 hr25_10 hr25_11 (by omega) (by omega) (by omega) (by omega) (by omega) (by omega) (by omega) (by omega) (by omega)
                    · skip
                      refine And.intro (Exists.intro _ md_o) (Exists.intro _ (Exists.intro _ (Exists.intro _ (Exists.intro _ (And.intro (V_X11_layPart D v6 f25 hv6 hf25 z3_6 z4_17 (161 : Int32) (by omega) (by omega) (by omega)) (And.intro rfl (fun r9 A9 h9 => ?_)))))))
                      obtain ⟨v31, f31, rfl, rfl, hv31, hf31, hx31, hg31_0, hg31_1, hg31_12, hg31_13, hg31_14, hg31_15, hg31_7, hg31_8, hg31_9, hg31_10, hg31_11, by30⟩ := h9
                      have hw31 : f31 2 = f 2 := hx31.trans hw25
                      have hr31_0 : f31 0 = f 0 := hg31_0.trans hr25_0
                      have hr31_1 : f31 1 = f 1 := hg31_1.trans hr25_1
                      have hr31_12 : f31 12 = f 12 := hg31_12.trans hr25_12
                      have hr31_13 : f31 13 = f 13 := hg31_13.trans hr25_13
                      have hr31_14 : f31 14 = f 14 := hg31_14.trans hr25_14
                      have hr31_15 : f31 15 = f 15 := hg31_15.trans hr25_15
                      have hr31_7 : f31 7 = f 7 := hg31_7.trans hr25_7
                      have hr31_8 : f31 8 = f 8 := hg31_8.trans hr25_8
                      have hr31_9 : f31 9 = f 9 := hg31_9.trans hr25_9
                      have hr31_10 : f31 10 = f 10 := hg31_10.trans hr25_10
                      have hr31_11 : f31 11 = f 11 := hg31_11.trans hr25_11
                      refine hC.1 5 73 _ _ rfl _ _ _ _ _ ?_
                      have km1 : (-1 : Int32).toInt = -1 := rfl
                      intro m33 em_73
                      try have e33 : m33.toInt = (z4_17).toInt + (-1) := by rw [em_73]; exact pm_addc _ _ (-1) rfl (by omega) (by omega)
                      exact ih8 m33 v31 f31 hv31 hf31 hw31 hr31_0 hr31_1 hr31_12 hr31_13 hr31_14 hr31_15 hr31_7 hr31_8 hr31_9 hr31_10 hr31_11 (by omega) (by omega) (by omega) (by omega) (by omega) (by omega) (by omega) (by omega) (by omega)
                · skip
                  have dc24 : (z4_17).toInt = ((v6 0) : Int32).toInt := congrArg Int32.toInt c24
                  refine hC.1 4 51 _ _ rfl _ _ _ _ _ ?_
                  refine Exists.intro _ (Exists.intro _ (And.intro (md_a_worth D) (And.intro (by omega) ?_)))
                  rw [md_s_worth D]
                  obtain ⟨f34, ef34⟩ : ∃ z9, z9 = va_up f6 18 (upd (f6 18) (m13).toInt.toNat (0 : Int32)) := ⟨_, rfl⟩
                  rw [← ef34]
                  have hf34 : md_F f34 := by rw [ef34]; exact md_F_st hf6 18 _ _ (md_rng _ _ (by decide))
                  have hw34 : f34 2 = f 2 := (show f34 2 = f6 2 by rw [ef34]; rfl).trans hw6
                  have hr34_0 : f34 0 = f 0 := (show f34 0 = f6 0 by rw [ef34]; rfl).trans hr6_0
                  have hr34_1 : f34 1 = f 1 := (show f34 1 = f6 1 by rw [ef34]; rfl).trans hr6_1
                  have hr34_12 : f34 12 = f 12 := (show f34 12 = f6 12 by rw [ef34]; rfl).trans hr6_12
                  have hr34_13 : f34 13 = f 13 := (show f34 13 = f6 13 by rw [ef34]; rfl).trans hr6_13
                  have hr34_14 : f34 14 = f 14 := (show f34 14 = f6 14 by rw [ef34]; rfl).trans hr6_14
                  have hr34_15 : f34 15 = f 15 := (show f34 15 = f6 15 by rw [ef34]; rfl).trans hr6_15
                  have hr34_7 : f34 7 = f 7 := (show f34 7 = f6 7 by rw [ef34]; rfl).trans hr6_7
                  have hr34_8 : f34 8 = f 8 := (show f34 8 = f6 8 by rw [ef34]; rfl).trans hr6_8
                  have hr34_9 : f34 9 = f 9 := (show f34 9 = f6 9 by rw [ef34]; rfl).trans hr6_9
                  have hr34_10 : f34 10 = f 10 := (show f34 10 = f6 10 by rw [ef34]; rfl).trans hr6_10
                  have hr34_11 : f34 11 = f 11 := (show f34 11 = f6 11 by rw [ef34]; rfl).trans hr6_11
                  refine And.intro (fun c35 => ?_) (fun c35 => ?_)
                  · skip
                    refine hC.1 5 73 _ _ rfl _ _ _ _ _ ?_
                    have km1 : (-1 : Int32).toInt = -1 := rfl
                    intro m36 em_73
                    try have e36 : m36.toInt = (z4_17).toInt + (-1) := by rw [em_73]; exact pm_addc _ _ (-1) rfl (by omega) (by omega)
                    exact ih8 m36 v6 f34 hv6 hf34 hw34 hr34_0 hr34_1 hr34_12 hr34_13 hr34_14 hr34_15 hr34_7 hr34_8 hr34_9 hr34_10 hr34_11 (by omega) (by omega) (by omega) (by omega) (by omega) (by omega) (by omega) (by omega) (by omega)
                  · skip
                    refine Exists.intro _ (And.intro md_o ?_)
                    refine And.intro (fun c37 => ?_) (fun c37 => ?_)
                    · skip
                      refine hC.1 5 73 _ _ rfl _ _ _ _ _ ?_
                      have km1 : (-1 : Int32).toInt = -1 := rfl
                      intro m38 em_73
                      try have e38 : m38.toInt = (z4_17).toInt + (-1) := by rw [em_73]; exact pm_addc _ _ (-1) rfl (by omega) (by omega)
                      exact ih8 m38 v6 f34 hv6 hf34 hw34 hr34_0 hr34_1 hr34_12 hr34_13 hr34_14 hr34_15 hr34_7 hr34_8 hr34_9 hr34_10 hr34_11 (by omega) (by omega) (by omega) (by omega) (by omega) (by omega) (by omega) (by omega) (by omega)
                    · skip
                      refine And.intro (Exists.intro _ md_o) (Exists.intro _ (Exists.intro _ (Exists.intro _ (Exists.intro _ (And.intro (V_X11_layPart D v6 f34 hv6 hf34 z3_6 z4_17 (161 : Int32) (by omega) (by omega) (by omega)) (And.intro rfl (fun r9 A9 h9 => ?_)))))))
                      obtain ⟨v40, f40, rfl, rfl, hv40, hf40, hx40, hg40_0, hg40_1, hg40_12, hg40_13, hg40_14, hg40_15, hg40_7, hg40_8, hg40_9, hg40_10, hg40_11, by39⟩ := h9
                      have hw40 : f40 2 = f 2 := hx40.trans hw34
                      have hr40_0 : f40 0 = f 0 := hg40_0.trans hr34_0
                      have hr40_1 : f40 1 = f 1 := hg40_1.trans hr34_1
                      have hr40_12 : f40 12 = f 12 := hg40_12.trans hr34_12
                      have hr40_13 : f40 13 = f 13 := hg40_13.trans hr34_13
                      have hr40_14 : f40 14 = f 14 := hg40_14.trans hr34_14
                      have hr40_15 : f40 15 = f 15 := hg40_15.trans hr34_15
                      have hr40_7 : f40 7 = f 7 := hg40_7.trans hr34_7
                      have hr40_8 : f40 8 = f 8 := hg40_8.trans hr34_8
                      have hr40_9 : f40 9 = f 9 := hg40_9.trans hr34_9
                      have hr40_10 : f40 10 = f 10 := hg40_10.trans hr34_10
                      have hr40_11 : f40 11 = f 11 := hg40_11.trans hr34_11
                      refine hC.1 5 73 _ _ rfl _ _ _ _ _ ?_
                      have km1 : (-1 : Int32).toInt = -1 := rfl
                      intro m42 em_73
                      try have e42 : m42.toInt = (z4_17).toInt + (-1) := by rw [em_73]; exact pm_addc _ _ (-1) rfl (by omega) (by omega)
                      exact ih8 m42 v40 f40 hv40 hf40 hw40 hr40_0 hr40_1 hr40_12 hr40_13 hr40_14 hr40_15 hr40_7 hr40_8 hr40_9 hr40_10 hr40_11 (by omega) (by omega) (by omega) (by omega) (by omega) (by omega) (by omega) (by omega) (by omega)
        exact lp7 ((v1 0).toInt + 1).toNat.succ (v1 0) v1 f1 hv1 hf1 hw1 hr1_0 hr1_1 hr1_12 hr1_13 hr1_14 hr1_15 hr1_7 hr1_8 hr1_9 hr1_10 hr1_11 (by omega) (by omega) (by omega) (by omega) (by omega) (by omega) (by omega) (by omega) (by omega)
  exact lp2 (200 - (0 : Int32).toInt).toNat.succ (0 : Int32) v f hv hf rfl rfl rfl rfl rfl rfl rfl rfl rfl rfl rfl rfl (by omega) (by omega) (by omega) (by omega) (by omega) (by omega) (by omega) (by omega) (by omega)

end
end
