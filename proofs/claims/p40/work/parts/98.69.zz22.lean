section
variable {l : Launch} {g : pm_G} {A0 : pm_H} {K nn dn : Nat} {q : Nat → Nat} {w : Nat → Int32} {e : Nat → Nat → Int32} {v : Nat → Int32} {f : Nat → Nat → Int32}
set_option maxRecDepth 100000 in
set_option maxHeartbeats 2000000 in
theorem V_X10_ask (hI : cw_I K nn dn q w e) (hs : cw_S v f) (x1 : Int32) (x2 : Int32)  : pm_Mt l g 158 2 0 0 [.ref (q 0), .int x1, .int x2] (cw A0 g K nn dn q w e v f) (cw_Qt A0 g K nn dn q (fun r w2 e2 => e2 15 = e 15 ∧ (∃ x : Int32, r = some (.int x) ∧ (((w2 0).toInt = (w 0).toInt ∧ (w2 1).toInt = (w 1).toInt ∧ (w2 2).toInt = (w 2).toInt) ∧ ((∀ i9, 40 ≤ i9 → w2 i9 = w i9 ∧ e2 i9 = e i9) ∧ QST ((w 3).toInt < 30 ∧ 0 ≤ nextEq (e (nn + 2)) x1 0 (w nn).toInt.toNat ∧ 0 ≤ nextEq (e (nn + 2)) x2 0 (w nn).toInt.toNat) (-1) x1 x2 (w 3) (w2 3) x (e 35) (e 36) (e 37) (e 38) (e 39) (e2 35) (e2 36) (e2 37) (e2 38) (e2 39)))))) := by
  refine mt_X10_ask rfl (fun J hC => ?_)
  have ro_nn : cw_ro K nn := hI.2.1.2.1
  have ro_dn : cw_ro K dn := hI.2.1.2.2.1
  have hu1 := hI.2.1
  unfold cw_W at hu1
  have rg_x1 := pm_rng x1
  have rg_x2 := pm_rng x2
  refine hC.1 0 0 _ _ rfl _ _ _ _ _ ?_
  refine Exists.intro _ (And.intro (cw_o0 hI.1) ?_)
  refine Exists.intro _ (And.intro (cw_o1 hI.1) ?_)
  refine And.intro (Exists.intro _ (cw_ro_o hI.1 ro_nn)) (Exists.intro _ (Exists.intro _ (Exists.intro _ (Exists.intro _ (And.intro (V_X7_hasName hI hs ro_nn x1 ) (And.intro rfl (fun r9 A9 h9 => ?_)))))))
  rcases h9 with ⟨y2, rfl, rfl, ⟨rfl, by2⟩ | ⟨rfl, by2⟩⟩
  · skip
    have k1 : (1 : Int32).toInt = 1 := rfl
    have ya_9 := by2
    refine And.intro (fun c9 => absurd c9 (by decide)) (fun _ => ?_)
    refine And.intro (Exists.intro _ (cw_ro_o hI.1 ro_nn)) (Exists.intro _ (Exists.intro _ (Exists.intro _ (Exists.intro _ (And.intro (V_X7_hasName hI hs ro_nn x2 ) (And.intro rfl (fun r9 A9 h9 => ?_)))))))
    rcases h9 with ⟨y4, rfl, rfl, ⟨rfl, by4⟩ | ⟨rfl, by4⟩⟩
    · skip
      have yb_9 := by4
      refine And.intro (fun c9 => absurd c9 (by decide)) (fun _ => ?_)
      refine Exists.intro _ (And.intro (cw_o0 hI.1) ?_)
      have km1 : (-1 : Int32).toInt = -1 := rfl
      refine And.intro (Exists.intro _ (cw_o9 hI.1)) (Exists.intro _ (Exists.intro _ (Exists.intro _ (Exists.intro _ (And.intro (V_X5_add hI hs (-1 : Int32) x1 x2 ) (And.intro rfl (fun r9 A9 h9 => ?_)))))))
      rcases h9 with ⟨w7, e7, v7, f7, rfl, hI7, hs7, hy7, y6, rfl, by6⟩
      have hx7 : e7 15 = e 15 := hy7.trans rfl
      have hu8 := hI7.2.1
      unfold cw_W at hu8
      have hb_31 := by6.2
      refine hC.1 2 38 _ _ rfl _ _ _ _ _ ?_
      exact ⟨rfl, fun e9 => absurd e9 (by decide), rfl, w7, e7, v7, f7, rfl, hI7, hs7, hx7, y6, rfl, by first | omega | (dsimp only; omega) | trivial, by first | (exact ⟨hb_31.1, QST_i hb_31.2 ⟨fun h9 => ⟨h9.2, ya_9, yb_9⟩, fun h9 => (by omega)⟩⟩) | (exact ⟨fun _ _ => ⟨rfl, rfl⟩, Or.inl ⟨fun h9 => absurd h9.2.1 ya_9, rfl, rfl, rfl, rfl, rfl, rfl, rfl⟩⟩) | (exact ⟨fun _ _ => ⟨rfl, rfl⟩, Or.inl ⟨fun h9 => absurd h9.2.2 yb_9, rfl, rfl, rfl, rfl, rfl, rfl, rfl⟩⟩)⟩
    · skip
      have k0 : (0 : Int32).toInt = 0 := rfl
      have yb_9 := by4
      refine And.intro (fun _ => ?_) (fun c9 => absurd c9 (by decide))
      refine hC.1 1 37 _ _ rfl _ _ _ _ _ ?_
      have km1 : (-1 : Int32).toInt = -1 := rfl
      refine hC.1 2 38 _ _ rfl _ _ _ _ _ ?_
      exact ⟨rfl, fun e9 => absurd e9 (by decide), rfl, w, e, v, f, rfl, hI, hs, rfl, (-1 : Int32), rfl, by first | omega | (dsimp only; omega) | trivial, by first | (exact ⟨hb_31.1, QST_i hb_31.2 ⟨fun h9 => ⟨h9.2, ya_9, yb_9⟩, fun h9 => (by omega)⟩⟩) | (exact ⟨fun _ _ => ⟨rfl, rfl⟩, Or.inl ⟨fun h9 => absurd h9.2.1 ya_9, rfl, rfl, rfl, rfl, rfl, rfl, rfl⟩⟩) | (exact ⟨fun _ _ => ⟨rfl, rfl⟩, Or.inl ⟨fun h9 => absurd h9.2.2 yb_9, rfl, rfl, rfl, rfl, rfl, rfl, rfl⟩⟩)⟩
  · skip
    have k0 : (0 : Int32).toInt = 0 := rfl
    have ya_9 := by2
    refine And.intro (fun _ => ?_) (fun c9 => absurd c9 (by decide))
    refine hC.1 1 37 _ _ rfl _ _ _ _ _ ?_
    have km1 : (-1 : Int32).toInt = -1 := rfl
    refine hC.1 2 38 _ _ rfl _ _ _ _ _ ?_
    exact ⟨rfl, fun e9 => absurd e9 (by decide), rfl, w, e, v, f, rfl, hI, hs, rfl, (-1 : Int32), rfl, by first | omega | (dsimp only; omega) | trivial, by first | (exact ⟨hb_31.1, QST_i hb_31.2 ⟨fun h9 => ⟨h9.2, ya_9, yb_9⟩, fun h9 => (by omega)⟩⟩) | (exact ⟨fun _ _ => ⟨rfl, rfl⟩, Or.inl ⟨fun h9 => absurd h9.2.1 ya_9, rfl, rfl, rfl, rfl, rfl, rfl, rfl⟩⟩) | (exact ⟨fun _ _ => ⟨rfl, rfl⟩, Or.inl ⟨fun h9 => absurd h9.2.2 yb_9, rfl, rfl, rfl, rfl, rfl, rfl, rfl⟩⟩)⟩

end
