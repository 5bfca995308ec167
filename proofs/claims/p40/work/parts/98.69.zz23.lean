section
variable {l : Launch} {g : pm_G} {A0 : pm_H} {K nn dn : Nat} {q : Nat → Nat} {w : Nat → Int32} {e : Nat → Nat → Int32} {v : Nat → Int32} {f : Nat → Nat → Int32}
set_option maxRecDepth 100000 in
set_option maxHeartbeats 2000000 in
theorem V_X10_askOf (hI : cw_I K nn dn q w e) (hs : cw_S v f) (x1 : Int32) (x2 : Int32) (x3 : Int32)  : pm_Mt l g 160 2 0 0 [.ref (q 0), .int x1, .int x2, .int x3] (cw A0 g K nn dn q w e v f) (cw_Qt A0 g K nn dn q (fun r w2 e2 => e2 15 = e 15 ∧ (∃ x : Int32, r = some (.int x) ∧ (((w2 0).toInt = (w 0).toInt ∧ (w2 1).toInt = (w 1).toInt ∧ (w2 2).toInt = (w 2).toInt) ∧ ((∀ i9, 40 ≤ i9 → w2 i9 = w i9 ∧ e2 i9 = e i9) ∧ QST ((w 3).toInt < 30 ∧ kno (w 0).toInt x1.toInt ∧ 0 ≤ nextEq (cM e x1.toInt) x2 0 (cN w x1.toInt).toNat ∧ 0 ≤ nextEq (cM e x1.toInt) x3 0 (cN w x1.toInt).toNat) x1 x2 x3 (w 3) (w2 3) x (e 35) (e 36) (e 37) (e 38) (e 39) (e2 35) (e2 36) (e2 37) (e2 38) (e2 39)))))) := by
  refine mt_X10_askOf rfl (fun J hC => ?_)
  have ro_nn : cw_ro K nn := hI.2.1.2.1
  have ro_dn : cw_ro K dn := hI.2.1.2.2.1
  have hu1 := hI.2.1
  unfold cw_W at hu1
  have rg_x1 := pm_rng x1
  have rg_x2 := pm_rng x2
  have rg_x3 := pm_rng x3
  refine hC.1 0 0 _ _ rfl _ _ _ _ _ ?_
  refine Exists.intro _ (And.intro (cw_o0 hI.1) ?_)
  refine And.intro (Exists.intro _ (cw_o1 hI.1)) (Exists.intro _ (Exists.intro _ (Exists.intro _ (Exists.intro _ (And.intro (F_X9_behind hI hs x1 ) (And.intro rfl (fun r9 A9 h9 => ?_)))))))
  rcases h9 with ⟨rfl, ⟨rfl, hn3⟩ | ⟨o3, rfl, ho3, hn3, he3⟩⟩
  · skip
    have kn_5 := hn3
    unfold kno at hn3
    refine hC.1 1 33 _ _ rfl _ _ _ _ _ ?_
    have km1 : (-1 : Int32).toInt = -1 := rfl
    exact ⟨rfl, fun e9 => absurd e9 (by decide), rfl, w, e, v, f, rfl, hI, hs, rfl, (-1 : Int32), rfl, by first | omega | (dsimp only; omega) | trivial, by first | (exact ⟨hb_42.1, QST_i hb_42.2 ⟨fun h9 => ⟨h9.2, kn_5, ya_9, yb_9⟩, fun h9 => (by omega)⟩⟩) | (exact ⟨fun _ _ => ⟨rfl, rfl⟩, Or.inl ⟨fun h9 => kn_5 h9.2.1, rfl, rfl, rfl, rfl, rfl, rfl, rfl⟩⟩) | (exact ⟨fun _ _ => ⟨rfl, rfl⟩, Or.inl ⟨fun h9 => ya_9 h9.2.2.1, rfl, rfl, rfl, rfl, rfl, rfl, rfl⟩⟩) | (exact ⟨fun _ _ => ⟨rfl, rfl⟩, Or.inl ⟨fun h9 => yb_9 h9.2.2.2, rfl, rfl, rfl, rfl, rfl, rfl, rfl⟩⟩)⟩
  · skip
    have kn_5 := hn3
    have ke_5 := he3
    have ko_5 : ∀ z9 : Nat, (z9 : Int) = 40 + 4 * ((x1).toInt % 41) → z9 = o3 := fun z9 h9 => (by omega)
    unfold kno at hn3
    have yo_9 : cro x1.toInt = o3 := ko_5 (cro x1.toInt) (cro_i kn_5.1)
    have yM_9 : cM e x1.toInt = e (o3 + 2) := (by unfold cM; rw [yo_9])
    have yN_9 : cN w x1.toInt = (w o3).toInt := (by unfold cN; rw [yo_9])
    refine And.intro (Exists.intro _ (cw_ro_o hI.1 ho3)) (Exists.intro _ (Exists.intro _ (Exists.intro _ (Exists.intro _ (And.intro (V_X7_hasName hI hs ho3 x2 ) (And.intro rfl (fun r9 A9 h9 => ?_)))))))
    rcases h9 with ⟨y4, rfl, rfl, ⟨rfl, by4⟩ | ⟨rfl, by4⟩⟩
    · skip
      have k1 : (1 : Int32).toInt = 1 := rfl
      have ya_9 := by4
      rw [← yM_9, ← yN_9] at ya_9
      refine And.intro (fun c9 => absurd c9 (by decide)) (fun _ => ?_)
      refine And.intro (Exists.intro _ (cw_ro_o hI.1 ho3)) (Exists.intro _ (Exists.intro _ (Exists.intro _ (Exists.intro _ (And.intro (V_X7_hasName hI hs ho3 x3 ) (And.intro rfl (fun r9 A9 h9 => ?_)))))))
      rcases h9 with ⟨y6, rfl, rfl, ⟨rfl, by6⟩ | ⟨rfl, by6⟩⟩
      · skip
        have yb_9 := by6
        rw [← yM_9, ← yN_9] at yb_9
        refine And.intro (fun _ => ?_) (fun c9 => absurd c9 (by decide))
        refine hC.1 2 35 _ _ rfl _ _ _ _ _ ?_
        refine Exists.intro _ (And.intro (cw_o0 hI.1) ?_)
        refine And.intro (Exists.intro _ (cw_o9 hI.1)) (Exists.intro _ (Exists.intro _ (Exists.intro _ (Exists.intro _ (And.intro (V_X5_add hI hs x1 x2 x3 ) (And.intro rfl (fun r9 A9 h9 => ?_)))))))
        rcases h9 with ⟨w9, e9, v9, f9, rfl, hI9, hs9, hy9, y8, rfl, by8⟩
        have hx9 : e9 15 = e 15 := hy9.trans rfl
        have hu10 := hI9.2.1
        unfold cw_W at hu10
        have hb_42 := by8.2
        exact ⟨rfl, fun e9 => absurd e9 (by decide), rfl, w9, e9, v9, f9, rfl, hI9, hs9, hx9, y8, rfl, by first | omega | (dsimp only; omega) | trivial, by first | (exact ⟨hb_42.1, QST_i hb_42.2 ⟨fun h9 => ⟨h9.2, kn_5, ya_9, yb_9⟩, fun h9 => (by omega)⟩⟩) | (exact ⟨fun _ _ => ⟨rfl, rfl⟩, Or.inl ⟨fun h9 => kn_5 h9.2.1, rfl, rfl, rfl, rfl, rfl, rfl, rfl⟩⟩) | (exact ⟨fun _ _ => ⟨rfl, rfl⟩, Or.inl ⟨fun h9 => ya_9 h9.2.2.1, rfl, rfl, rfl, rfl, rfl, rfl, rfl⟩⟩) | (exact ⟨fun _ _ => ⟨rfl, rfl⟩, Or.inl ⟨fun h9 => yb_9 h9.2.2.2, rfl, rfl, rfl, rfl, rfl, rfl, rfl⟩⟩)⟩
      · skip
        have k0 : (0 : Int32).toInt = 0 := rfl
        have yb_9 := by6
        rw [← yM_9, ← yN_9] at yb_9
        refine And.intro (fun c9 => absurd c9 (by decide)) (fun _ => ?_)
        refine hC.1 1 33 _ _ rfl _ _ _ _ _ ?_
        have km1 : (-1 : Int32).toInt = -1 := rfl
        exact ⟨rfl, fun e9 => absurd e9 (by decide), rfl, w, e, v, f, rfl, hI, hs, rfl, (-1 : Int32), rfl, by first | omega | (dsimp only; omega) | trivial, by first | (exact ⟨hb_42.1, QST_i hb_42.2 ⟨fun h9 => ⟨h9.2, kn_5, ya_9, yb_9⟩, fun h9 => (by omega)⟩⟩) | (exact ⟨fun _ _ => ⟨rfl, rfl⟩, Or.inl ⟨fun h9 => kn_5 h9.2.1, rfl, rfl, rfl, rfl, rfl, rfl, rfl⟩⟩) | (exact ⟨fun _ _ => ⟨rfl, rfl⟩, Or.inl ⟨fun h9 => ya_9 h9.2.2.1, rfl, rfl, rfl, rfl, rfl, rfl, rfl⟩⟩) | (exact ⟨fun _ _ => ⟨rfl, rfl⟩, Or.inl ⟨fun h9 => yb_9 h9.2.2.2, rfl, rfl, rfl, rfl, rfl, rfl, rfl⟩⟩)⟩
    · skip
      have k0 : (0 : Int32).toInt = 0 := rfl
      have ya_9 := by4
      rw [← yM_9, ← yN_9] at ya_9
      refine And.intro (fun _ => ?_) (fun c9 => absurd c9 (by decide))
      refine hC.1 1 33 _ _ rfl _ _ _ _ _ ?_
      have km1 : (-1 : Int32).toInt = -1 := rfl
      exact ⟨rfl, fun e9 => absurd e9 (by decide), rfl, w, e, v, f, rfl, hI, hs, rfl, (-1 : Int32), rfl, by first | omega | (dsimp only; omega) | trivial, by first | (exact ⟨hb_42.1, QST_i hb_42.2 ⟨fun h9 => ⟨h9.2, kn_5, ya_9, yb_9⟩, fun h9 => (by omega)⟩⟩) | (exact ⟨fun _ _ => ⟨rfl, rfl⟩, Or.inl ⟨fun h9 => kn_5 h9.2.1, rfl, rfl, rfl, rfl, rfl, rfl, rfl⟩⟩) | (exact ⟨fun _ _ => ⟨rfl, rfl⟩, Or.inl ⟨fun h9 => ya_9 h9.2.2.1, rfl, rfl, rfl, rfl, rfl, rfl, rfl⟩⟩) | (exact ⟨fun _ _ => ⟨rfl, rfl⟩, Or.inl ⟨fun h9 => yb_9 h9.2.2.2, rfl, rfl, rfl, rfl, rfl, rfl, rfl⟩⟩)⟩

end
