section
variable {l : Launch} {g : pm_G} {A0 : pm_H} {h : Nat} {q : Nat → Nat}
set_option maxRecDepth 100000 in
set_option maxHeartbeats 2000000 in
theorem F_X11_exchange (D : md_D h q) (v : Nat → Int32) (f : Nat → Nat → Int32) (hv : md_V v) (hf : md_F f) (x1 : Int32) (x2 : Int32) (p0 : (v 4).toInt < 100000) : pm_Mt l g 182 5 0 0 [.ref h, .int x1, .int x2] (md A0 g h q v f) (md_Qw A0 g h q f (fun r v2 f2 => ((v2 6).toInt = (v 6).toInt ∧ (v2 4).toInt ≤ (v 4).toInt + 1 ∧ (v 4).toInt ≤ (v2 4).toInt) ∧ (∀ L, rp (v 0) (f 0) (f 1) L → rp (v2 0) (f2 0) (f2 1) ((ed_exch L x1 x2).getD L) ∧ (v2 4).toInt = (v 4).toInt + edn (ed_exch L x1 x2) ∧ (v2 3).toInt = (v 3).toInt + edn (ed_exch L x1 x2) * (0)))) := by
  refine mt_X11_exchange rfl (fun J hC => ?_)
  have hv9 := hv
  unfold md_V at hv9
  have rg_x1 := pm_rng x1
  have rg_x2 := pm_rng x2
  refine hC.1 0 0 _ _ rfl _ _ _ _ _ ?_
  refine Exists.intro _ (Exists.intro _ (Exists.intro _ (Exists.intro _ (And.intro (c_X11_isColour (md A0 g h q v f) x1 ) (And.intro rfl (fun r9 A9 h9 => ?_))))))
  rcases h9 with ⟨y1, rfl, rfl, ⟨rfl, by1⟩ | ⟨rfl, by1⟩⟩
  · skip
    have k1 : (1 : Int32).toInt = 1 := rfl
    refine And.intro (fun c9 => absurd c9 (by decide)) (fun _ => ?_)
    refine Exists.intro _ (Exists.intro _ (Exists.intro _ (Exists.intro _ (And.intro (c_X11_isColour (md A0 g h q v f) x2 ) (And.intro rfl (fun r9 A9 h9 => ?_))))))
    rcases h9 with ⟨y2, rfl, rfl, ⟨rfl, by2⟩ | ⟨rfl, by2⟩⟩
    · skip
      refine And.intro (fun c9 => absurd c9 (by decide)) (fun _ => ?_)
      refine And.intro (fun c3 => ?_) (fun c3 => ?_)
      · skip
        have dc3 : (x1).toInt = (x2 : Int32).toInt := congrArg Int32.toInt c3
        refine hC.1 1 36 _ _ rfl _ _ _ _ _ ?_
        have km1 : (-1 : Int32).toInt = -1 := rfl
        refine hC.1 2 37 _ _ rfl _ _ _ _ _ ?_
        exact ⟨rfl, fun e9 => absurd e9 (by decide), rfl, (-1 : Int32), v, f, rfl, rfl, hv, hf, rfl, by first | omega | (dsimp only; omega) | trivial, by first | (intro L hL; have hl := hL.1; rw [ed_exch, if_pos (by omega)]; have nm9 : ¬ x1 = -1 := fun e9 => (by have e8 := congrArg Int32.toInt e9; have e7 : (-1 : Int32).toInt = -1 := rfl; omega); have t9 := hb_30 L (fun c => if c = x1 then x2 else if c = x2 then x1 else c) (hp_30 L hL) (fun c9 => (by by_cases q9 : c9 = x1; (simp [q9]); (simp [q9, nm9, show ¬ (1 : Int32) = 0 by decide]))) (by omega) (by omega) (by omega); rw [show (0 : Int32).toInt = 0 from rfl, ← hmm9, show mm9.toInt = (L.length : Int) - 1 by (rw [hmm9]; omega), rc_all] at t9; exact ⟨t9, by show _ = _ + (1 : Int); omega, by show _ = _ + (1 : Int) * _; omega⟩) | (intro L hL; have hl := hL.1; rw [ed_exch, if_neg (by omega)]; exact ⟨hL, by show _ = _ + (0 : Int); omega, by show _ = _ + (0 : Int) * _; omega⟩)⟩
      · skip
        have dc3 := pm_neI c3
        have k0 : (0 : Int32).toInt = 0 := rfl
        refine Exists.intro _ (And.intro md_o ?_)
        intro m4 em_26
        try have e4 : m4.toInt = ((v 0)).toInt - (1) := by rw [em_26]; exact pm_subc _ _ (1) rfl (by omega) (by omega)
        obtain ⟨mm9, hmm9⟩ : ∃ z9, z9 = m4 := ⟨_, rfl⟩
        have hp_30 : ∀ L, rp (v 0) (f 0) (f 1) L → rp (v 0) (f 0) (f 1) L := fun L h => rp_fr h (by omega) rfl rfl
        refine And.intro (Exists.intro _ md_o) (Exists.intro _ (Exists.intro _ (Exists.intro _ (Exists.intro _ (And.intro (F_X11_recolours D v f hv hf (0 : Int32) m4 x1 x2 (1 : Int32) (by omega) (by omega) (by omega)) (And.intro rfl (fun r9 A9 h9 => ?_)))))))
        obtain ⟨y5, v6, f6, rfl, rfl, hv6, hf6, hx6, by5⟩ := h9
        have hw6 : f6 2 = f 2 := hx6.trans rfl
        have hu7 := hv6
        unfold md_V at hu7
        have hb_30 := by5.2
        have sq6 : (v6 3).toInt = (v 3).toInt ∧ (v6 6).toInt = (v 6).toInt := by omega
        have sp6 := by5.1.2.2
        clear by5
        refine hC.1 2 37 _ _ rfl _ _ _ _ _ ?_
        exact ⟨rfl, fun e9 => absurd e9 (by decide), rfl, y5, v6, f6, rfl, rfl, hv6, hf6, hw6, by first | omega | (dsimp only; omega) | trivial, by first | (intro L hL; have hl := hL.1; rw [ed_exch, if_pos (by omega)]; have nm9 : ¬ x1 = -1 := fun e9 => (by have e8 := congrArg Int32.toInt e9; have e7 : (-1 : Int32).toInt = -1 := rfl; omega); have t9 := hb_30 L (fun c => if c = x1 then x2 else if c = x2 then x1 else c) (hp_30 L hL) (fun c9 => (by by_cases q9 : c9 = x1; (simp [q9]); (simp [q9, nm9, show ¬ (1 : Int32) = 0 by decide]))) (by omega) (by omega) (by omega); rw [show (0 : Int32).toInt = 0 from rfl, ← hmm9, show mm9.toInt = (L.length : Int) - 1 by (rw [hmm9]; omega), rc_all] at t9; exact ⟨t9, by show _ = _ + (1 : Int); omega, by show _ = _ + (1 : Int) * _; omega⟩) | (intro L hL; have hl := hL.1; rw [ed_exch, if_neg (by omega)]; exact ⟨hL, by show _ = _ + (0 : Int); omega, by show _ = _ + (0 : Int) * _; omega⟩)⟩
    · skip
      have k0 : (0 : Int32).toInt = 0 := rfl
      refine And.intro (fun _ => ?_) (fun c9 => absurd c9 (by decide))
      refine hC.1 1 36 _ _ rfl _ _ _ _ _ ?_
      have km1 : (-1 : Int32).toInt = -1 := rfl
      refine hC.1 2 37 _ _ rfl _ _ _ _ _ ?_
      exact ⟨rfl, fun e9 => absurd e9 (by decide), rfl, (-1 : Int32), v, f, rfl, rfl, hv, hf, rfl, by first | omega | (dsimp only; omega) | trivial, by first | (intro L hL; have hl := hL.1; rw [ed_exch, if_pos (by omega)]; have nm9 : ¬ x1 = -1 := fun e9 => (by have e8 := congrArg Int32.toInt e9; have e7 : (-1 : Int32).toInt = -1 := rfl; omega); have t9 := hb_30 L (fun c => if c = x1 then x2 else if c = x2 then x1 else c) (hp_30 L hL) (fun c9 => (by by_cases q9 : c9 = x1; (simp [q9]); (simp [q9, nm9, show ¬ (1 : Int32) = 0 by decide]))) (by omega) (by omega) (by omega); rw [show (0 : Int32).toInt = 0 from rfl, ← hmm9, show mm9.toInt = (L.length : Int) - 1 by (rw [hmm9]; omega), rc_all] at t9; exact ⟨t9, by show _ = _ + (1 : Int); omega, by show _ = _ + (1 : Int) * _; omega⟩) | (intro L hL; have hl := hL.1; rw [ed_exch, if_neg (by omega)]; exact ⟨hL, by show _ = _ + (0 : Int); omega, by show _ = _ + (0 : Int) * _; omega⟩)⟩
  · skip
    have k0 : (0 : Int32).toInt = 0 := rfl
    refine And.intro (fun _ => ?_) (fun c9 => absurd c9 (by decide))
    refine hC.1 1 36 _ _ rfl _ _ _ _ _ ?_
    have km1 : (-1 : Int32).toInt = -1 := rfl
    refine hC.1 2 37 _ _ rfl _ _ _ _ _ ?_
    exact ⟨rfl, fun e9 => absurd e9 (by decide), rfl, (-1 : Int32), v, f, rfl, rfl, hv, hf, rfl, by first | omega | (dsimp only; omega) | trivial, by first | (intro L hL; have hl := hL.1; rw [ed_exch, if_pos (by omega)]; have nm9 : ¬ x1 = -1 := fun e9 => (by have e8 := congrArg Int32.toInt e9; have e7 : (-1 : Int32).toInt = -1 := rfl; omega); have t9 := hb_30 L (fun c => if c = x1 then x2 else if c = x2 then x1 else c) (hp_30 L hL) (fun c9 => (by by_cases q9 : c9 = x1; (simp [q9]); (simp [q9, nm9, show ¬ (1 : Int32) = 0 by decide]))) (by omega) (by omega) (by omega); rw [show (0 : Int32).toInt = 0 from rfl, ← hmm9, show mm9.toInt = (L.length : Int) - 1 by (rw [hmm9]; omega), rc_all] at t9; exact ⟨t9, by show _ = _ + (1 : Int); omega, by show _ = _ + (1 : Int) * _; omega⟩) | (intro L hL; have hl := hL.1; rw [ed_exch, if_neg (by omega)]; exact ⟨hL, by show _ = _ + (0 : Int); omega, by show _ = _ + (0 : Int) * _; omega⟩)⟩

end
