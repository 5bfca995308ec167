section
variable {l : Launch} {g : pm_G} {A0 : pm_H} {K nn dn : Nat} {q : Nat → Nat} {w : Nat → Int32} {e : Nat → Nat → Int32} {v : Nat → Int32} {f : Nat → Nat → Int32}
set_option maxRecDepth 100000 in
set_option maxHeartbeats 2000000 in
theorem H_X10_swap (hI : cw_I K nn dn q w e) (hs : cw_S v f) (x1 : Int32) (x2 : Int32) (x3 : Int32) (x4 : Int32) (p0 : (w 0).toInt < 100000) : pm_Mt l g 34 5 4 485 [.ref (q 0), .int x1, .int x2, .int x3, .int x4] (cw A0 g K nn dn q w e v f) (cw_Qb A0 g K nn q (fun r K2 nn2 dn2 w2 e2 => e2 15 = e 15 ∧ (∃ x : Int32, r = some (.int x) ∧ (((w2 0).toInt ≤ (w 0).toInt + 1 ∧ (w 0).toInt ≤ (w2 0).toInt) ∧ (∀ L, rp (w nn) (e (nn + 1)) (e (nn + 2)) L → (nn : Int) = 40 + 4 * ((w 0).toInt % 41) → rp (w2 nn2) (e2 (nn2 + 1)) (e2 (nn2 + 2)) ((ed_swap L x1 x2 x3 x4).getD L) ∧ (w2 0).toInt = (w 0).toInt + edn (ed_swap L x1 x2 x3 x4) ∧ (w2 1).toInt = (w 1).toInt + edn (ed_swap L x1 x2 x3 x4) * (0) ∧ (nn2 : Int) = 40 + 4 * ((w2 0).toInt % 41) ∧ (bd (w nn) (e (nn + 1)) (e (nn + 3)) → bd (w2 nn2) (e2 (nn2 + 1)) (e2 (nn2 + 3)))))))) := by
  refine mt_X10_swap rfl (fun J hC => ?_)
  have ro_nn : cw_ro K nn := hI.2.1.2.1
  have ro_dn : cw_ro K dn := hI.2.1.2.2.1
  have hu1 := hI.2.1
  unfold cw_W at hu1
  have zs2 := cw_sz hI ro_nn
  have zs3 := cw_sz hI ro_dn
  have rg_x1 := pm_rng x1
  have rg_x2 := pm_rng x2
  have rg_x3 := pm_rng x3
  have rg_x4 := pm_rng x4
  refine hC.1 0 0 _ _ rfl _ _ _ _ _ ?_
  refine Exists.intro _ (And.intro (cw_o0 hI.1) ?_)
  refine Exists.intro _ (And.intro (cw_o1 hI.1) ?_)
  refine And.intro (Exists.intro _ (cw_ro_o hI.1 ro_nn)) (Exists.intro _ (Exists.intro _ (Exists.intro _ (Exists.intro _ (And.intro (c_X7_isSpan hI hs ro_nn x1 x2 ) (And.intro rfl (fun r9 A9 h9 => ?_)))))))
  rcases h9 with ⟨y4, rfl, rfl, ⟨rfl, by4⟩ | ⟨rfl, by4⟩⟩
  · skip
    have k1 : (1 : Int32).toInt = 1 := rfl
    refine And.intro (fun c9 => absurd c9 (by decide)) (fun _ => ?_)
    refine And.intro (Exists.intro _ (cw_ro_o hI.1 ro_nn)) (Exists.intro _ (Exists.intro _ (Exists.intro _ (Exists.intro _ (And.intro (c_X7_isSpan hI hs ro_nn x3 x4 ) (And.intro rfl (fun r9 A9 h9 => ?_)))))))
    rcases h9 with ⟨y6, rfl, rfl, ⟨rfl, by6⟩ | ⟨rfl, by6⟩⟩
    · skip
      refine And.intro (fun _ => ?_) (fun c9 => absurd c9 (by decide))
      refine hC.1 2 32 _ _ rfl _ _ _ _ _ ?_
      refine And.intro (fun c8 => ?_) (fun c8 => ?_)
      · skip
        refine hC.1 3 47 _ _ rfl _ _ _ _ _ ?_
        refine And.intro (fun c9 => ?_) (fun c9 => ?_)
        · skip
          refine hC.1 4 65 _ _ rfl _ _ _ _ _ ?_
          have km1 : (-1 : Int32).toInt = -1 := rfl
          refine hC.1 5 66 _ _ rfl _ _ _ _ _ ?_
          exact ⟨rfl, fun e9 => absurd e9 (by decide), rfl, K, nn, dn, q, w, e, v, f, rfl, hI, hs, cw_X_r, rfl, (-1 : Int32), rfl, by first | omega | (dsimp only; omega) | trivial, by first | (intro L hL hN; have hl := hL.1; rw [ed_swap, if_pos (by omega), if_neg (by omega)]; have t1 := hb_59 L hL hN (by omega); exact ⟨t1.1, by show _ = _ + (1 : Int); omega, by show _ = _ + (1 : Int) * _; omega, t1.2.2.2.1, t1.2.2.2.2⟩) | (intro L hL hN; have hl := hL.1; rw [ed_swap, if_neg (by omega)]; exact ⟨hL, by show _ = _ + (0 : Int); omega, by show _ = _ + (0 : Int) * _; omega, hN, fun h8 => h8⟩)⟩
        · skip
          refine And.intro (Exists.intro _ (cw_o0 hI.1)) (Exists.intro _ (Exists.intro _ (Exists.intro _ (Exists.intro _ (And.intro (H_X10_swapInOrder hI hs x3 x4 x1 x2 (by omega) (by omega)) (And.intro rfl (fun r9 A9 h9 => ?_)))))))
          obtain ⟨K11, nn11, dn11, q11, w11, e11, v11, f11, rfl, hI11, hs11, hX11, hy11, y10, rfl, by10⟩ := h9
          have hq11_0 : q 0 = q11 0 := (hX11.2.1 0 (by omega)).symm
          have hq11_nn : q nn = q11 nn := (hX11.2.1 nn (by omega)).symm
          rw [hq11_0, hq11_nn]
          have hx11 : e11 15 = e 15 := hy11.trans rfl
          have hu12 := hI11.2.1
          unfold cw_W at hu12
          have hb_59 := by10.2
          refine hC.1 5 66 _ _ rfl _ _ _ _ _ ?_
          exact ⟨rfl, fun e9 => absurd e9 (by decide), rfl, K11, nn11, dn11, q11, w11, e11, v11, f11, rfl, hI11, hs11, hX11, hx11, y10, rfl, by first | omega | (dsimp only; omega) | trivial, by first | (intro L hL hN; have hl := hL.1; rw [ed_swap, if_pos (by omega), if_neg (by omega)]; have t1 := hb_59 L hL hN (by omega); exact ⟨t1.1, by show _ = _ + (1 : Int); omega, by show _ = _ + (1 : Int) * _; omega, t1.2.2.2.1, t1.2.2.2.2⟩) | (intro L hL hN; have hl := hL.1; rw [ed_swap, if_neg (by omega)]; exact ⟨hL, by show _ = _ + (0 : Int); omega, by show _ = _ + (0 : Int) * _; omega, hN, fun h8 => h8⟩)⟩
      · skip
        refine And.intro (Exists.intro _ (cw_o0 hI.1)) (Exists.intro _ (Exists.intro _ (Exists.intro _ (Exists.intro _ (And.intro (H_X10_swapInOrder hI hs x1 x2 x3 x4 (by omega) (by omega)) (And.intro rfl (fun r9 A9 h9 => ?_)))))))
        obtain ⟨K14, nn14, dn14, q14, w14, e14, v14, f14, rfl, hI14, hs14, hX14, hy14, y13, rfl, by13⟩ := h9
        have hq14_0 : q 0 = q14 0 := (hX14.2.1 0 (by omega)).symm
        have hq14_nn : q nn = q14 nn := (hX14.2.1 nn (by omega)).symm
        rw [hq14_0, hq14_nn]
        have hx14 : e14 15 = e 15 := hy14.trans rfl
        have hu15 := hI14.2.1
        unfold cw_W at hu15
        have hb_43 := by13.2
        exact ⟨rfl, fun e9 => absurd e9 (by decide), rfl, K14, nn14, dn14, q14, w14, e14, v14, f14, rfl, hI14, hs14, hX14, hx14, y13, rfl, by first | omega | (dsimp only; omega) | trivial, by intro L hL hN; have hl := hL.1; rw [ed_swap, if_pos (by omega), if_pos (by omega)]; have t1 := hb_43 L hL hN (by omega); exact ⟨t1.1, by show _ = _ + (1 : Int); omega, by show _ = _ + (1 : Int) * _; omega, t1.2.2.2.1, t1.2.2.2.2⟩⟩
    · skip
      have k0 : (0 : Int32).toInt = 0 := rfl
      refine And.intro (fun c9 => absurd c9 (by decide)) (fun _ => ?_)
      refine hC.1 1 30 _ _ rfl _ _ _ _ _ ?_
      have km1 : (-1 : Int32).toInt = -1 := rfl
      exact ⟨rfl, fun e9 => absurd e9 (by decide), rfl, K, nn, dn, q, w, e, v, f, rfl, hI, hs, cw_X_r, rfl, (-1 : Int32), rfl, by first | omega | (dsimp only; omega) | trivial, by intro L hL hN; have hl := hL.1; rw [ed_swap, if_neg (by omega)]; exact ⟨hL, by show _ = _ + (0 : Int); omega, by show _ = _ + (0 : Int) * _; omega, hN, fun h8 => h8⟩⟩
  · skip
    have k0 : (0 : Int32).toInt = 0 := rfl
    refine And.intro (fun _ => ?_) (fun c9 => absurd c9 (by decide))
    refine hC.1 1 30 _ _ rfl _ _ _ _ _ ?_
    have km1 : (-1 : Int32).toInt = -1 := rfl
    exact ⟨rfl, fun e9 => absurd e9 (by decide), rfl, K, nn, dn, q, w, e, v, f, rfl, hI, hs, cw_X_r, rfl, (-1 : Int32), rfl, by first | omega | (dsimp only; omega) | trivial, by intro L hL hN; have hl := hL.1; rw [ed_swap, if_neg (by omega)]; exact ⟨hL, by show _ = _ + (0 : Int); omega, by show _ = _ + (0 : Int) * _; omega, hN, fun h8 => h8⟩⟩

end
