section
variable {l : Launch} {g : pm_G} {A0 : pm_H} {h : Nat} {q : Nat → Nat}
set_option maxRecDepth 100000 in
set_option maxHeartbeats 2000000 in
theorem c_X11_swap (D : md_D h q) (v : Nat → Int32) (f : Nat → Nat → Int32) (hv : md_V v) (hf : md_F f) (x1 : Int32) (x2 : Int32) (x3 : Int32) (x4 : Int32) (p0 : (v 4).toInt < 100000) : pm_Mt l g 191 4 0 0 [.ref h, .int x1, .int x2, .int x3, .int x4] (md A0 g h q v f) (md_Qw A0 g h q f (fun r v2 f2 => (v2 4).toInt ≤ (v 4).toInt + 1 ∧ (v 4).toInt ≤ (v2 4).toInt)) := by
  refine mt_X11_swap rfl (fun J hC => ?_)
  have hv9 := hv
  unfold md_V at hv9
  have rg_x1 := pm_rng x1
  have rg_x2 := pm_rng x2
  have rg_x3 := pm_rng x3
  have rg_x4 := pm_rng x4
  refine hC.1 0 0 _ _ rfl _ _ _ _ _ ?_
  refine And.intro (Exists.intro _ md_o) (Exists.intro _ (Exists.intro _ (Exists.intro _ (Exists.intro _ (And.intro (c_X11_isSpan D v f hv hf x1 x2 ) (And.intro rfl (fun r9 A9 h9 => ?_)))))))
  rcases h9 with ⟨y1, rfl, rfl, ⟨rfl, by1⟩ | ⟨rfl, by1⟩⟩
  · skip
    have k1 : (1 : Int32).toInt = 1 := rfl
    refine And.intro (fun c9 => absurd c9 (by decide)) (fun _ => ?_)
    refine And.intro (Exists.intro _ md_o) (Exists.intro _ (Exists.intro _ (Exists.intro _ (Exists.intro _ (And.intro (c_X11_isSpan D v f hv hf x3 x4 ) (And.intro rfl (fun r9 A9 h9 => ?_)))))))
    rcases h9 with ⟨y2, rfl, rfl, ⟨rfl, by2⟩ | ⟨rfl, by2⟩⟩
    · skip
      refine And.intro (fun c9 => absurd c9 (by decide)) (fun _ => ?_)
      refine And.intro (fun c3 => ?_) (fun c3 => ?_)
      · skip
        refine hC.1 2 32 _ _ rfl _ _ _ _ _ ?_
        refine And.intro (fun c4 => ?_) (fun c4 => ?_)
        · skip
          refine hC.1 3 41 _ _ rfl _ _ _ _ _ ?_
          have k0 : (0 : Int32).toInt = 0 := rfl
          refine hC.1 4 42 _ _ rfl _ _ _ _ _ ?_
          refine And.intro (fun _ => ?_) (fun c9 => absurd c9 (by decide))
          refine hC.1 5 53 _ _ rfl _ _ _ _ _ ?_
          refine hC.1 6 54 _ _ rfl _ _ _ _ _ ?_
          refine And.intro (fun _ => ?_) (fun c9 => absurd c9 (by decide))
          refine hC.1 7 65 _ _ rfl _ _ _ _ _ ?_
          refine hC.1 8 67 _ _ rfl _ _ _ _ _ ?_
          refine And.intro (fun _ => ?_) (fun c9 => absurd c9 (by decide))
          refine hC.1 9 78 _ _ rfl _ _ _ _ _ ?_
          refine hC.1 10 79 _ _ rfl _ _ _ _ _ ?_
          refine And.intro (fun _ => ?_) (fun c9 => absurd c9 (by decide))
          refine hC.1 11 91 _ _ rfl _ _ _ _ _ ?_
          refine hC.1 12 92 _ _ rfl _ _ _ _ _ ?_
          refine And.intro (Exists.intro _ md_o) (Exists.intro _ (Exists.intro _ (Exists.intro _ (Exists.intro _ (And.intro (c_X11_begins D v f hv hf  ) (And.intro rfl (fun r9 A9 h9 => ?_)))))))
          obtain ⟨v6, f6, rfl, rfl, hv6, hf6, hx6, hg6_0, by5⟩ := h9
          have hw6 : f6 2 = f 2 := hx6.trans rfl
          have hu7 := hv6
          unfold md_V at hu7
          refine And.intro (Exists.intro _ md_o) (Exists.intro _ (Exists.intro _ (Exists.intro _ (Exists.intro _ (And.intro (c_X11_laysFrom D v6 f6 hv6 hf6 (0 : Int32) x3 (by omega) (by omega) (by omega)) (And.intro rfl (fun r9 A9 h9 => ?_)))))))
          obtain ⟨v9, f9, rfl, rfl, hv9, hf9, hx9, hg9_0, by8⟩ := h9
          have hw9 : f9 2 = f 2 := hx9.trans hw6
          have hu10 := hv9
          unfold md_V at hu10
          intro m11 em_111
          try have e11 : m11.toInt = (x2).toInt + (1) := by rw [em_111]; exact pm_addc _ _ (1) rfl (by omega) (by omega)
          refine And.intro (Exists.intro _ md_o) (Exists.intro _ (Exists.intro _ (Exists.intro _ (Exists.intro _ (And.intro (c_X11_laysFrom D v9 f9 hv9 hf9 x1 m11 (by omega) (by omega) (by omega)) (And.intro rfl (fun r9 A9 h9 => ?_)))))))
          obtain ⟨v13, f13, rfl, rfl, hv13, hf13, hx13, hg13_0, by12⟩ := h9
          have hw13 : f13 2 = f 2 := hx13.trans hw9
          have hu14 := hv13
          unfold md_V at hu14
          intro m15 em_119
          try have e15 : m15.toInt = (x4).toInt + (1) := by rw [em_119]; exact pm_addc _ _ (1) rfl (by omega) (by omega)
          refine And.intro (Exists.intro _ md_o) (Exists.intro _ (Exists.intro _ (Exists.intro _ (Exists.intro _ (And.intro (c_X11_laysFrom D v13 f13 hv13 hf13 m15 x1 (by omega) (by omega) (by omega)) (And.intro rfl (fun r9 A9 h9 => ?_)))))))
          obtain ⟨v17, f17, rfl, rfl, hv17, hf17, hx17, hg17_0, by16⟩ := h9
          have hw17 : f17 2 = f 2 := hx17.trans hw13
          have hu18 := hv17
          unfold md_V at hu18
          intro m19 em_131
          try have e19 : m19.toInt = (x4).toInt + (1) := by rw [em_131]; exact pm_addc _ _ (1) rfl (by omega) (by omega)
          refine And.intro (Exists.intro _ md_o) (Exists.intro _ (Exists.intro _ (Exists.intro _ (Exists.intro _ (And.intro (c_X11_laysFrom D v17 f17 hv17 hf17 x3 m19 (by omega) (by omega) (by omega)) (And.intro rfl (fun r9 A9 h9 => ?_)))))))
          obtain ⟨v21, f21, rfl, rfl, hv21, hf21, hx21, hg21_0, by20⟩ := h9
          have hw21 : f21 2 = f 2 := hx21.trans hw17
          have hu22 := hv21
          unfold md_V at hu22
          intro m23 em_139
          try have e23 : m23.toInt = (x2).toInt + (1) := by rw [em_139]; exact pm_addc _ _ (1) rfl (by omega) (by omega)
          refine Exists.intro _ (And.intro md_o ?_)
          refine And.intro (Exists.intro _ md_o) (Exists.intro _ (Exists.intro _ (Exists.intro _ (Exists.intro _ (And.intro (c_X11_laysFrom D v21 f21 hv21 hf21 m23 (v21 0) (by omega) (by omega) (by omega)) (And.intro rfl (fun r9 A9 h9 => ?_)))))))
          obtain ⟨v25, f25, rfl, rfl, hv25, hf25, hx25, hg25_0, by24⟩ := h9
          have hw25 : f25 2 = f 2 := hx25.trans hw21
          have hu26 := hv25
          unfold md_V at hu26
          refine And.intro (Exists.intro _ md_o) (Exists.intro _ (Exists.intro _ (Exists.intro _ (Exists.intro _ (And.intro (c_X11_ends D v25 f25 hv25 hf25  (by omega)) (And.intro rfl (fun r9 A9 h9 => ?_)))))))
          obtain ⟨y27, v28, f28, rfl, rfl, hv28, hf28, hx28, by27⟩ := h9
          have hw28 : f28 2 = f 2 := hx28.trans hw25
          have hu29 := hv28
          unfold md_V at hu29
          exact ⟨rfl, fun e9 => absurd e9 (by decide), rfl, y27, v28, f28, rfl, rfl, hv28, hf28, hw28, by first | trivial | omega | (dsimp only; omega)⟩
        · skip
          refine hC.1 4 42 _ _ rfl _ _ _ _ _ ?_
          refine And.intro (fun c9 => absurd c9 (by decide)) (fun _ => ?_)
          refine hC.1 6 54 _ _ rfl _ _ _ _ _ ?_
          refine And.intro (fun c9 => absurd c9 (by decide)) (fun _ => ?_)
          refine hC.1 8 67 _ _ rfl _ _ _ _ _ ?_
          refine And.intro (fun c9 => absurd c9 (by decide)) (fun _ => ?_)
          refine hC.1 10 79 _ _ rfl _ _ _ _ _ ?_
          refine And.intro (fun c9 => absurd c9 (by decide)) (fun _ => ?_)
          refine hC.1 12 92 _ _ rfl _ _ _ _ _ ?_
          refine And.intro (Exists.intro _ md_o) (Exists.intro _ (Exists.intro _ (Exists.intro _ (Exists.intro _ (And.intro (c_X11_begins D v f hv hf  ) (And.intro rfl (fun r9 A9 h9 => ?_)))))))
          obtain ⟨v31, f31, rfl, rfl, hv31, hf31, hx31, hg31_0, by30⟩ := h9
          have hw31 : f31 2 = f 2 := hx31.trans rfl
          have hu32 := hv31
          unfold md_V at hu32
          have k0 : (0 : Int32).toInt = 0 := rfl
          refine And.intro (Exists.intro _ md_o) (Exists.intro _ (Exists.intro _ (Exists.intro _ (Exists.intro _ (And.intro (c_X11_laysFrom D v31 f31 hv31 hf31 (0 : Int32) x1 (by omega) (by omega) (by omega)) (And.intro rfl (fun r9 A9 h9 => ?_)))))))
          obtain ⟨v34, f34, rfl, rfl, hv34, hf34, hx34, hg34_0, by33⟩ := h9
          have hw34 : f34 2 = f 2 := hx34.trans hw31
          have hu35 := hv34
          unfold md_V at hu35
          intro m36 em_111
          try have e36 : m36.toInt = (x4).toInt + (1) := by rw [em_111]; exact pm_addc _ _ (1) rfl (by omega) (by omega)
          refine And.intro (Exists.intro _ md_o) (Exists.intro _ (Exists.intro _ (Exists.intro _ (Exists.intro _ (And.intro (c_X11_laysFrom D v34 f34 hv34 hf34 x3 m36 (by omega) (by omega) (by omega)) (And.intro rfl (fun r9 A9 h9 => ?_)))))))
          obtain ⟨v38, f38, rfl, rfl, hv38, hf38, hx38, hg38_0, by37⟩ := h9
          have hw38 : f38 2 = f 2 := hx38.trans hw34
          have hu39 := hv38
          unfold md_V at hu39
          intro m40 em_119
          try have e40 : m40.toInt = (x2).toInt + (1) := by rw [em_119]; exact pm_addc _ _ (1) rfl (by omega) (by omega)
          refine And.intro (Exists.intro _ md_o) (Exists.intro _ (Exists.intro _ (Exists.intro _ (Exists.intro _ (And.intro (c_X11_laysFrom D v38 f38 hv38 hf38 m40 x3 (by omega) (by omega) (by omega)) (And.intro rfl (fun r9 A9 h9 => ?_)))))))
          obtain ⟨v42, f42, rfl, rfl, hv42, hf42, hx42, hg42_0, by41⟩ := h9
          have hw42 : f42 2 = f 2 := hx42.trans hw38
          have hu43 := hv42
          unfold md_V at hu43
          intro m44 em_131
          try have e44 : m44.toInt = (x2).toInt + (1) := by rw [em_131]; exact pm_addc _ _ (1) rfl (by omega) (by omega)
          refine And.intro (Exists.intro _ md_o) (Exists.intro _ (Exists.intro _ (Exists.intro _ (Exists.intro _ (And.intro (c_X11_laysFrom D v42 f42 hv42 hf42 x1 m44 (by omega) (by omega) (by omega)) (And.intro rfl (fun r9 A9 h9 => ?_)))))))
          obtain ⟨v46, f46, rfl, rfl, hv46, hf46, hx46, hg46_0, by45⟩ := h9
          have hw46 : f46 2 = f 2 := hx46.trans hw42
          have hu47 := hv46
          unfold md_V at hu47
          intro m48 em_139
          try have e48 : m48.toInt = (x4).toInt + (1) := by rw [em_139]; exact pm_addc _ _ (1) rfl (by omega) (by omega)
          refine Exists.intro _ (And.intro md_o ?_)
          refine And.intro (Exists.intro _ md_o) (Exists.intro _ (Exists.intro _ (Exists.intro _ (Exists.intro _ (And.intro (c_X11_laysFrom D v46 f46 hv46 hf46 m48 (v46 0) (by omega) (by omega) (by omega)) (And.intro rfl (fun r9 A9 h9 => ?_)))))))
          obtain ⟨v50, f50, rfl, rfl, hv50, hf50, hx50, hg50_0, by49⟩ := h9
          have hw50 : f50 2 = f 2 := hx50.trans hw46
          have hu51 := hv50
          unfold md_V at hu51
          refine And.intro (Exists.intro _ md_o) (Exists.intro _ (Exists.intro _ (Exists.intro _ (Exists.intro _ (And.intro (c_X11_ends D v50 f50 hv50 hf50  (by omega)) (And.intro rfl (fun r9 A9 h9 => ?_)))))))
          obtain ⟨y52, v53, f53, rfl, rfl, hv53, hf53, hx53, by52⟩ := h9
          have hw53 : f53 2 = f 2 := hx53.trans hw50
          have hu54 := hv53
          unfold md_V at hu54
          exact ⟨rfl, fun e9 => absurd e9 (by decide), rfl, y52, v53, f53, rfl, rfl, hv53, hf53, hw53, by first | trivial | omega | (dsimp only; omega)⟩
      · skip
        refine And.intro (fun c55 => ?_) (fun c55 => ?_)
        · skip
          refine hC.1 2 32 _ _ rfl _ _ _ _ _ ?_
          refine And.intro (fun c56 => ?_) (fun c56 => ?_)
          · skip
            refine hC.1 3 41 _ _ rfl _ _ _ _ _ ?_
            have k0 : (0 : Int32).toInt = 0 := rfl
            refine hC.1 4 42 _ _ rfl _ _ _ _ _ ?_
            refine And.intro (fun _ => ?_) (fun c9 => absurd c9 (by decide))
            refine hC.1 5 53 _ _ rfl _ _ _ _ _ ?_
            refine hC.1 6 54 _ _ rfl _ _ _ _ _ ?_
            refine And.intro (fun _ => ?_) (fun c9 => absurd c9 (by decide))
            refine hC.1 7 65 _ _ rfl _ _ _ _ _ ?_
            refine hC.1 8 67 _ _ rfl _ _ _ _ _ ?_
            refine And.intro (fun _ => ?_) (fun c9 => absurd c9 (by decide))
            refine hC.1 9 78 _ _ rfl _ _ _ _ _ ?_
            refine hC.1 10 79 _ _ rfl _ _ _ _ _ ?_
            refine And.intro (fun _ => ?_) (fun c9 => absurd c9 (by decide))
            refine hC.1 11 91 _ _ rfl _ _ _ _ _ ?_
            refine hC.1 12 92 _ _ rfl _ _ _ _ _ ?_
            refine And.intro (Exists.intro _ md_o) (Exists.intro _ (Exists.intro _ (Exists.intro _ (Exists.intro _ (And.intro (c_X11_begins D v f hv hf  ) (And.intro rfl (fun r9 A9 h9 => ?_)))))))
            obtain ⟨v58, f58, rfl, rfl, hv58, hf58, hx58, hg58_0, by57⟩ := h9
            have hw58 : f58 2 = f 2 := hx58.trans rfl
            have hu59 := hv58
            unfold md_V at hu59
            refine And.intro (Exists.intro _ md_o) (Exists.intro _ (Exists.intro _ (Exists.intro _ (Exists.intro _ (And.intro (c_X11_laysFrom D v58 f58 hv58 hf58 (0 : Int32) x3 (by omega) (by omega) (by omega)) (And.intro rfl (fun r9 A9 h9 => ?_)))))))
            obtain ⟨v61, f61, rfl, rfl, hv61, hf61, hx61, hg61_0, by60⟩ := h9
            have hw61 : f61 2 = f 2 := hx61.trans hw58
            have hu62 := hv61
            unfold md_V at hu62
            intro m63 em_111
            try have e63 : m63.toInt = (x2).toInt + (1) := by rw [em_111]; exact pm_addc _ _ (1) rfl (by omega) (by omega)
            refine And.intro (Exists.intro _ md_o) (Exists.intro _ (Exists.intro _ (Exists.intro _ (Exists.intro _ (And.intro (c_X11_laysFrom D v61 f61 hv61 hf61 x1 m63 (by omega) (by omega) (by omega)) (And.intro rfl (fun r9 A9 h9 => ?_)))))))
            obtain ⟨v65, f65, rfl, rfl, hv65, hf65, hx65, hg65_0, by64⟩ := h9
            have hw65 : f65 2 = f 2 := hx65.trans hw61
            have hu66 := hv65
            unfold md_V at hu66
            intro m67 em_119
            try have e67 : m67.toInt = (x4).toInt + (1) := by rw [em_119]; exact pm_addc _ _ (1) rfl (by omega) (by omega)
            refine And.intro (Exists.intro _ md_o) (Exists.intro _ (Exists.intro _ (Exists.intro _ (Exists.intro _ (And.intro (c_X11_laysFrom D v65 f65 hv65 hf65 m67 x1 (by omega) (by omega) (by omega)) (And.intro rfl (fun r9 A9 h9 => ?_)))))))
            obtain ⟨v69, f69, rfl, rfl, hv69, hf69, hx69, hg69_0, by68⟩ := h9
            have hw69 : f69 2 = f 2 := hx69.trans hw65
            have hu70 := hv69
            unfold md_V at hu70
            intro m71 em_131
            try have e71 : m71.toInt = (x4).toInt + (1) := by rw [em_131]; exact pm_addc _ _ (1) rfl (by omega) (by omega)
            refine And.intro (Exists.intro _ md_o) (Exists.intro _ (Exists.intro _ (Exists.intro _ (Exists.intro _ (And.intro (c_X11_laysFrom D v69 f69 hv69 hf69 x3 m71 (by omega) (by omega) (by omega)) (And.intro rfl (fun r9 A9 h9 => ?_)))))))
            obtain ⟨v73, f73, rfl, rfl, hv73, hf73, hx73, hg73_0, by72⟩ := h9
            have hw73 : f73 2 = f 2 := hx73.trans hw69
            have hu74 := hv73
            unfold md_V at hu74
            intro m75 em_139
            try have e75 : m75.toInt = (x2).toInt + (1) := by rw [em_139]; exact pm_addc _ _ (1) rfl (by omega) (by omega)
            refine Exists.intro _ (And.intro md_o ?_)
            refine And.intro (Exists.intro _ md_o) (Exists.intro _ (Exists.intro _ (Exists.intro _ (Exists.intro _ (And.intro (c_X11_laysFrom D v73 f73 hv73 hf73 m75 (v73 0) (by omega) (by omega) (by omega)) (And.intro rfl (fun r9 A9 h9 => ?_)))))))
            obtain ⟨v77, f77, rfl, rfl, hv77, hf77, hx77, hg77_0, by76⟩ := h9
            have hw77 : f77 2 = f 2 := hx77.trans hw73
            have hu78 := hv77
            unfold md_V at hu78
            refine And.intro (Exists.intro _ md_o) (Exists.intro _ (Exists.intro _ (Exists.intro _ (Exists.intro _ (And.intro (c_X11_ends D v77 f77 hv77 hf77  (by omega)) (And.intro rfl (fun r9 A9 h9 => ?_)))))))
            obtain ⟨y79, v80, f80, rfl, rfl, hv80, hf80, hx80, by79⟩ := h9
            have hw80 : f80 2 = f 2 := hx80.trans hw77
            have hu81 := hv80
            unfold md_V at hu81
            exact ⟨rfl, fun e9 => absurd e9 (by decide), rfl, y79, v80, f80, rfl, rfl, hv80, hf80, hw80, by first | trivial | omega | (dsimp only; omega)⟩
          · skip
            refine hC.1 4 42 _ _ rfl _ _ _ _ _ ?_
            refine And.intro (fun c9 => absurd c9 (by decide)) (fun _ => ?_)
            refine hC.1 6 54 _ _ rfl _ _ _ _ _ ?_
            refine And.intro (fun c9 => absurd c9 (by decide)) (fun _ => ?_)
            refine hC.1 8 67 _ _ rfl _ _ _ _ _ ?_
            refine And.intro (fun c9 => absurd c9 (by decide)) (fun _ => ?_)
            refine hC.1 10 79 _ _ rfl _ _ _ _ _ ?_
            refine And.intro (fun c9 => absurd c9 (by decide)) (fun _ => ?_)
            refine hC.1 12 92 _ _ rfl _ _ _ _ _ ?_
            refine And.intro (Exists.intro _ md_o) (Exists.intro _ (Exists.intro _ (Exists.intro _ (Exists.intro _ (And.intro (c_X11_begins D v f hv hf  ) (And.intro rfl (fun r9 A9 h9 => ?_)))))))
            obtain ⟨v83, f83, rfl, rfl, hv83, hf83, hx83, hg83_0, by82⟩ := h9
            have hw83 : f83 2 = f 2 := hx83.trans rfl
            have hu84 := hv83
            unfold md_V at hu84
            have k0 : (0 : Int32).toInt = 0 := rfl
            refine And.intro (Exists.intro _ md_o) (Exists.intro _ (Exists.intro _ (Exists.intro _ (Exists.intro _ (And.intro (c_X11_laysFrom D v83 f83 hv83 hf83 (0 : Int32) x1 (by omega) (by omega) (by omega)) (And.intro rfl (fun r9 A9 h9 => ?_)))))))
            obtain ⟨v86, f86, rfl, rfl, hv86, hf86, hx86, hg86_0, by85⟩ := h9
            have hw86 : f86 2 = f 2 := hx86.trans hw83
            have hu87 := hv86
            unfold md_V at hu87
            intro m88 em_111
            try have e88 : m88.toInt = (x4).toInt + (1) := by rw [em_111]; exact pm_addc _ _ (1) rfl (by omega) (by omega)
            refine And.intro (Exists.intro _ md_o) (Exists.intro _ (Exists.intro _ (Exists.intro _ (Exists.intro _ (And.intro (c_X11_laysFrom D v86 f86 hv86 hf86 x3 m88 (by omega) (by omega) (by omega)) (And.intro rfl (fun r9 A9 h9 => ?_)))))))
            obtain ⟨v90, f90, rfl, rfl, hv90, hf90, hx90, hg90_0, by89⟩ := h9
            have hw90 : f90 2 = f 2 := hx90.trans hw86
            have hu91 := hv90
            unfold md_V at hu91
            intro m92 em_119
            try have e92 : m92.toInt = (x2).toInt + (1) := by rw [em_119]; exact pm_addc _ _ (1) rfl (by omega) (by omega)
            refine And.intro (Exists.intro _ md_o) (Exists.intro _ (Exists.intro _ (Exists.intro _ (Exists.intro _ (And.intro (c_X11_laysFrom D v90 f90 hv90 hf90 m92 x3 (by omega) (by omega) (by omega)) (And.intro rfl (fun r9 A9 h9 => ?_)))))))
            obtain ⟨v94, f94, rfl, rfl, hv94, hf94, hx94, hg94_0, by93⟩ := h9
            have hw94 : f94 2 = f 2 := hx94.trans hw90
            have hu95 := hv94
            unfold md_V at hu95
            intro m96 em_131
            try have e96 : m96.toInt = (x2).toInt + (1) := by rw [em_131]; exact pm_addc _ _ (1) rfl (by omega) (by omega)
            refine And.intro (Exists.intro _ md_o) (Exists.intro _ (Exists.intro _ (Exists.intro _ (Exists.intro _ (And.intro (c_X11_laysFrom D v94 f94 hv94 hf94 x1 m96 (by omega) (by omega) (by omega)) (And.intro rfl (fun r9 A9 h9 => ?_)))))))
            obtain ⟨v98, f98, rfl, rfl, hv98, hf98, hx98, hg98_0, by97⟩ := h9
            have hw98 : f98 2 = f 2 := hx98.trans hw94
            have hu99 := hv98
            unfold md_V at hu99
            intro m100 em_139
            try have e100 : m100.toInt = (x4).toInt + (1) := by rw [em_139]; exact pm_addc _ _ (1) rfl (by omega) (by omega)
            refine Exists.intro _ (And.intro md_o ?_)
            refine And.intro (Exists.intro _ md_o) (Exists.intro _ (Exists.intro _ (Exists.intro _ (Exists.intro _ (And.intro (c_X11_laysFrom D v98 f98 hv98 hf98 m100 (v98 0) (by omega) (by omega) (by omega)) (And.intro rfl (fun r9 A9 h9 => ?_)))))))
            obtain ⟨v102, f102, rfl, rfl, hv102, hf102, hx102, hg102_0, by101⟩ := h9
            have hw102 : f102 2 = f 2 := hx102.trans hw98
            have hu103 := hv102
            unfold md_V at hu103
            refine And.intro (Exists.intro _ md_o) (Exists.intro _ (Exists.intro _ (Exists.intro _ (Exists.intro _ (And.intro (c_X11_ends D v102 f102 hv102 hf102  (by omega)) (And.intro rfl (fun r9 A9 h9 => ?_)))))))
            obtain ⟨y104, v105, f105, rfl, rfl, hv105, hf105, hx105, by104⟩ := h9
            have hw105 : f105 2 = f 2 := hx105.trans hw102
            have hu106 := hv105
            unfold md_V at hu106
            exact ⟨rfl, fun e9 => absurd e9 (by decide), rfl, y104, v105, f105, rfl, rfl, hv105, hf105, hw105, by first | trivial | omega | (dsimp only; omega)⟩
        · skip
          refine hC.1 1 30 _ _ rfl _ _ _ _ _ ?_
          have km1 : (-1 : Int32).toInt = -1 := rfl
          exact ⟨rfl, fun e9 => absurd e9 (by decide), rfl, (-1 : Int32), v, f, rfl, rfl, hv, hf, rfl, by first | trivial | omega | (dsimp only; omega)⟩
    · skip
      have k0 : (0 : Int32).toInt = 0 := rfl
      refine And.intro (fun _ => ?_) (fun c9 => absurd c9 (by decide))
      refine hC.1 1 30 _ _ rfl _ _ _ _ _ ?_
      have km1 : (-1 : Int32).toInt = -1 := rfl
      exact ⟨rfl, fun e9 => absurd e9 (by decide), rfl, (-1 : Int32), v, f, rfl, rfl, hv, hf, rfl, by first | trivial | omega | (dsimp only; omega)⟩
  · skip
    have k0 : (0 : Int32).toInt = 0 := rfl
    refine And.intro (fun _ => ?_) (fun c9 => absurd c9 (by decide))
    refine hC.1 1 30 _ _ rfl _ _ _ _ _ ?_
    have km1 : (-1 : Int32).toInt = -1 := rfl
    exact ⟨rfl, fun e9 => absurd e9 (by decide), rfl, (-1 : Int32), v, f, rfl, rfl, hv, hf, rfl, by first | trivial | omega | (dsimp only; omega)⟩

set_option maxRecDepth 100000 in
set_option maxHeartbeats 2000000 in
theorem c_X11_copy (D : md_D h q) (v : Nat → Int32) (f : Nat → Nat → Int32) (hv : md_V v) (hf : md_F f) (x1 : Int32) (x2 : Int32) (x3 : Int32) (p0 : (v 4).toInt < 100000) : pm_Mt l g 192 4 0 0 [.ref h, .int x1, .int x2, .int x3] (md A0 g h q v f) (md_Qw A0 g h q f (fun r v2 f2 => (v2 4).toInt ≤ (v 4).toInt + 1 ∧ (v 4).toInt ≤ (v2 4).toInt)) := by
  refine mt_X11_copy rfl (fun J hC => ?_)
  have hv9 := hv
  unfold md_V at hv9
  have rg_x1 := pm_rng x1
  have rg_x2 := pm_rng x2
  have rg_x3 := pm_rng x3
  refine hC.1 0 0 _ _ rfl _ _ _ _ _ ?_
  refine And.intro (Exists.intro _ md_o) (Exists.intro _ (Exists.intro _ (Exists.intro _ (Exists.intro _ (And.intro (c_X11_isSpan D v f hv hf x1 x2 ) (And.intro rfl (fun r9 A9 h9 => ?_)))))))
  rcases h9 with ⟨y1, rfl, rfl, ⟨rfl, by1⟩ | ⟨rfl, by1⟩⟩
  · skip
    have k1 : (1 : Int32).toInt = 1 := rfl
    refine And.intro (fun c9 => absurd c9 (by decide)) (fun _ => ?_)
    have k0 : (0 : Int32).toInt = 0 := rfl
    refine Exists.intro _ (And.intro md_o ?_)
    refine Exists.intro _ (Exists.intro _ (Exists.intro _ (Exists.intro _ (And.intro (c_X11_isIn (md A0 g h q v f) x3 (0 : Int32) (v 0) ) (And.intro rfl (fun r9 A9 h9 => ?_))))))
    rcases h9 with ⟨y2, rfl, rfl, ⟨rfl, by2⟩ | ⟨rfl, by2⟩⟩
    · skip
      refine And.intro (fun c9 => absurd c9 (by decide)) (fun _ => ?_)
      intro m3 em_24
      try have e3 : m3.toInt = (x2).toInt - (x1).toInt := by rw [em_24]; exact pm_sub _ _ (by omega) (by omega)
      intro m4 em_26
      try have e4 : m4.toInt = (m3).toInt + (1) := by rw [em_26]; exact pm_addc _ _ (1) rfl (by omega) (by omega)
      refine And.intro (Exists.intro _ md_o) (Exists.intro _ (Exists.intro _ (Exists.intro _ (Exists.intro _ (And.intro (c_X11_hasRoom D v f hv hf m4 (by omega)) (And.intro rfl (fun r9 A9 h9 => ?_)))))))
      rcases h9 with ⟨y5, rfl, rfl, ⟨rfl, by5⟩ | ⟨rfl, by5⟩⟩
      · skip
        refine And.intro (fun _ => ?_) (fun c9 => absurd c9 (by decide))
        refine hC.1 2 35 _ _ rfl _ _ _ _ _ ?_
        refine And.intro (Exists.intro _ md_o) (Exists.intro _ (Exists.intro _ (Exists.intro _ (Exists.intro _ (And.intro (c_X11_begins D v f hv hf  ) (And.intro rfl (fun r9 A9 h9 => ?_)))))))
        obtain ⟨v7, f7, rfl, rfl, hv7, hf7, hx7, hg7_0, by6⟩ := h9
        have hw7 : f7 2 = f 2 := hx7.trans rfl
        have hu8 := hv7
        unfold md_V at hu8
        refine And.intro (Exists.intro _ md_o) (Exists.intro _ (Exists.intro _ (Exists.intro _ (Exists.intro _ (And.intro (c_X11_laysFrom D v7 f7 hv7 hf7 (0 : Int32) x3 (by omega) (by omega) (by omega)) (And.intro rfl (fun r9 A9 h9 => ?_)))))))
        obtain ⟨v10, f10, rfl, rfl, hv10, hf10, hx10, hg10_0, by9⟩ := h9
        have hw10 : f10 2 = f 2 := hx10.trans hw7
        have hu11 := hv10
        unfold md_V at hu11
        have lp13 : ∀ (n : Nat) (z4_48 : Int32) (v12 : Nat → Int32) (f12 : Nat → Nat → Int32), md_V v12 → md_F f12 → f12 2 = f 2 → x1.toInt ≤ z4_48.toInt ∧ z4_48.toInt ≤ x2.toInt + 1 → (v12 0).toInt = (v 0).toInt ∧ (v12 4).toInt = (v 4).toInt ∧ (v12 2).toInt = x3.toInt + (z4_48.toInt - x1.toInt) ∧ (v12 3).toInt = (v 3).toInt + (z4_48.toInt - x1.toInt) → 200 - z4_48.toInt < (n : Int) → J 48 [some (.ref h), some (.int x1), some (.int x2), some (.int x3), some (.int z4_48)] [] (md A0 g h q v12 f12) 0 0 := by
          intro n
          induction n with
          | zero =>
            intro z4_48 v12 f12 hv12 hf12 hw12 j0_48 j1_48 j2_48
            omega
          | succ n ih14 =>
            intro z4_48 v12 f12 hv12 hf12 hw12 j0_48 j1_48 j2_48
            refine hC.1 3 48 _ _ rfl _ _ _ _ _ ?_
            have hu15 := hv12
            unfold md_V at hu15
            refine And.intro (fun c16 => ?_) (fun c16 => ?_)
            · skip
              refine hC.1 4 71 _ _ rfl _ _ _ _ _ ?_
              refine Exists.intro _ (And.intro md_o ?_)
              refine And.intro (Exists.intro _ md_o) (Exists.intro _ (Exists.intro _ (Exists.intro _ (Exists.intro _ (And.intro (c_X11_laysFrom D v12 f12 hv12 hf12 x3 (v12 0) (by omega) (by omega) (by omega)) (And.intro rfl (fun r9 A9 h9 => ?_)))))))
              obtain ⟨v18, f18, rfl, rfl, hv18, hf18, hx18, hg18_0, by17⟩ := h9
              have hw18 : f18 2 = f 2 := hx18.trans hw12
              have hu19 := hv18
              unfold md_V at hu19
              refine And.intro (Exists.intro _ md_o) (Exists.intro _ (Exists.intro _ (Exists.intro _ (Exists.intro _ (And.intro (c_X11_ends D v18 f18 hv18 hf18  (by omega)) (And.intro rfl (fun r9 A9 h9 => ?_)))))))
              obtain ⟨y20, v21, f21, rfl, rfl, hv21, hf21, hx21, by20⟩ := h9
              have hw21 : f21 2 = f 2 := hx21.trans hw18
              have hu22 := hv21
              unfold md_V at hu22
              exact ⟨rfl, fun e9 => absurd e9 (by decide), rfl, y20, v21, f21, rfl, rfl, hv21, hf21, hw21, by first | trivial | omega | (dsimp only; omega)⟩
            · skip
              refine Exists.intro _ (And.intro md_o ?_)
              refine Exists.intro _ (Exists.intro _ (And.intro (Or.inl (md_a_colours D)) (And.intro (by omega) ?_)))
              have w23 : (0 : Int) ≤ (f12 0 (z4_48).toInt.toNat).toInt ∧ (f12 0 (z4_48).toInt.toNat).toInt ≤ (23 : Int) := hf12 0 _
              refine And.intro (Exists.intro _ md_o) (Exists.intro _ (Exists.intro _ (Exists.intro _ (Exists.intro _ (And.intro (c_X11_laysNew D v12 f12 hv12 hf12 (f12 0 (z4_48).toInt.toNat) (by omega) (by omega) (by omega)) (And.intro rfl (fun r9 A9 h9 => ?_)))))))
              obtain ⟨v25, f25, rfl, rfl, hv25, hf25, hx25, hg25_0, by24⟩ := h9
              have hw25 : f25 2 = f 2 := hx25.trans hw12
              have hu26 := hv25
              unfold md_V at hu26
              intro m27 em_65
              try have e27 : m27.toInt = (z4_48).toInt + (1) := by rw [em_65]; exact pm_addc _ _ (1) rfl (by omega) (by omega)
              exact ih14 m27 v25 f25 hv25 hf25 hw25 (by omega) (by omega) (by omega)
        exact lp13 (200 - x1.toInt).toNat.succ x1 v10 f10 hv10 hf10 hw10 (by omega) (by omega) (by omega)
      · skip
        refine And.intro (fun c9 => absurd c9 (by decide)) (fun _ => ?_)
        refine hC.1 1 33 _ _ rfl _ _ _ _ _ ?_
        have km1 : (-1 : Int32).toInt = -1 := rfl
        exact ⟨rfl, fun e9 => absurd e9 (by decide), rfl, (-1 : Int32), v, f, rfl, rfl, hv, hf, rfl, by first | trivial | omega | (dsimp only; omega)⟩
    · skip
      refine And.intro (fun _ => ?_) (fun c9 => absurd c9 (by decide))
      refine hC.1 1 33 _ _ rfl _ _ _ _ _ ?_
      have km1 : (-1 : Int32).toInt = -1 := rfl
      exact ⟨rfl, fun e9 => absurd e9 (by decide), rfl, (-1 : Int32), v, f, rfl, rfl, hv, hf, rfl, by first | trivial | omega | (dsimp only; omega)⟩
  · skip
    have k0 : (0 : Int32).toInt = 0 := rfl
    refine And.intro (fun _ => ?_) (fun c9 => absurd c9 (by decide))
    refine hC.1 1 33 _ _ rfl _ _ _ _ _ ?_
    have km1 : (-1 : Int32).toInt = -1 := rfl
    exact ⟨rfl, fun e9 => absurd e9 (by decide), rfl, (-1 : Int32), v, f, rfl, rfl, hv, hf, rfl, by first | trivial | omega | (dsimp only; omega)⟩

set_option maxRecDepth 100000 in
set_option maxHeartbeats 2000000 in
theorem c_X11_draw (D : md_D h q) (v : Nat → Int32) (f : Nat → Nat → Int32) (hv : md_V v) (hf : md_F f) (x1 : Int32) (x2 : Int32) (x3 : Int32) (p0 : (v 4).toInt < 100000) : pm_Mt l g 193 4 0 0 [.ref h, .int x1, .int x2, .int x3] (md A0 g h q v f) (md_Qw A0 g h q f (fun r v2 f2 => (v2 4).toInt ≤ (v 4).toInt + 1 ∧ (v 4).toInt ≤ (v2 4).toInt)) := by
  refine mt_X11_draw rfl (fun J hC => ?_)
  have hv9 := hv
  unfold md_V at hv9
  have rg_x1 := pm_rng x1
  have rg_x2 := pm_rng x2
  have rg_x3 := pm_rng x3
  refine hC.1 0 0 _ _ rfl _ _ _ _ _ ?_
  have k0 : (0 : Int32).toInt = 0 := rfl
  have k9999 : (9999 : Int32).toInt = 9999 := rfl
  refine Exists.intro _ (Exists.intro _ (Exists.intro _ (Exists.intro _ (And.intro (c_X11_isIn (md A0 g h q v f) x1 (0 : Int32) (9999 : Int32) ) (And.intro rfl (fun r9 A9 h9 => ?_))))))
  rcases h9 with ⟨y1, rfl, rfl, ⟨rfl, by1⟩ | ⟨rfl, by1⟩⟩
  · skip
    have k1 : (1 : Int32).toInt = 1 := rfl
    refine And.intro (fun c9 => absurd c9 (by decide)) (fun _ => ?_)
    have k160 : (160 : Int32).toInt = 160 := rfl
    refine Exists.intro _ (Exists.intro _ (Exists.intro _ (Exists.intro _ (And.intro (c_X11_isIn (md A0 g h q v f) x2 (1 : Int32) (160 : Int32) ) (And.intro rfl (fun r9 A9 h9 => ?_))))))
    rcases h9 with ⟨y2, rfl, rfl, ⟨rfl, by2⟩ | ⟨rfl, by2⟩⟩
    · skip
      refine And.intro (fun c9 => absurd c9 (by decide)) (fun _ => ?_)
      have k24 : (24 : Int32).toInt = 24 := rfl
      refine Exists.intro _ (Exists.intro _ (Exists.intro _ (Exists.intro _ (And.intro (c_X11_isIn (md A0 g h q v f) x3 (1 : Int32) (24 : Int32) ) (And.intro rfl (fun r9 A9 h9 => ?_))))))
      rcases h9 with ⟨y3, rfl, rfl, ⟨rfl, by3⟩ | ⟨rfl, by3⟩⟩
      · skip
        refine And.intro (fun c9 => absurd c9 (by decide)) (fun _ => ?_)
        refine And.intro (Exists.intro _ md_o) (Exists.intro _ (Exists.intro _ (Exists.intro _ (Exists.intro _ (And.intro (c_X11_hasRoom D v f hv hf x2 (by omega)) (And.intro rfl (fun r9 A9 h9 => ?_)))))))
        rcases h9 with ⟨y4, rfl, rfl, ⟨rfl, by4⟩ | ⟨rfl, by4⟩⟩
        · skip
          refine And.intro (fun _ => ?_) (fun c9 => absurd c9 (by decide))
          refine hC.1 2 42 _ _ rfl _ _ _ _ _ ?_
          refine And.intro (Exists.intro _ md_o) (Exists.intro _ (Exists.intro _ (Exists.intro _ (Exists.intro _ (And.intro (c_X11_begins D v f hv hf  ) (And.intro rfl (fun r9 A9 h9 => ?_)))))))
          obtain ⟨v6, f6, rfl, rfl, hv6, hf6, hx6, hg6_0, by5⟩ := h9
          have hw6 : f6 2 = f 2 := hx6.trans rfl
          have hu7 := hv6
          unfold md_V at hu7
          refine Exists.intro _ (And.intro md_o ?_)
          refine And.intro (Exists.intro _ md_o) (Exists.intro _ (Exists.intro _ (Exists.intro _ (Exists.intro _ (And.intro (c_X11_laysFrom D v6 f6 hv6 hf6 (0 : Int32) (v6 0) (by omega) (by omega) (by omega)) (And.intro rfl (fun r9 A9 h9 => ?_)))))))
          obtain ⟨v9, f9, rfl, rfl, hv9, hf9, hx9, hg9_0, by8⟩ := h9
          have hw9 : f9 2 = f 2 := hx9.trans hw6
          have hu10 := hv9
          unfold md_V at hu10
          have lp12 : ∀ (n : Nat) (z4_61 : Int32) (z5_61 : Int32) (v11 : Nat → Int32) (f11 : Nat → Nat → Int32), md_V v11 → md_F f11 → f11 2 = f 2 → 0 ≤ z5_61.toInt ∧ z5_61.toInt ≤ x2.toInt → 0 ≤ z4_61.toInt ∧ z4_61.toInt ≤ 10006 → (v11 0).toInt = (v 0).toInt ∧ (v11 4).toInt = (v 4).toInt ∧ (v11 2).toInt = (v 0).toInt + z5_61.toInt ∧ (v11 3).toInt = (v 3).toInt + z5_61.toInt → 200 - z5_61.toInt < (n : Int) → J 61 [some (.ref h), some (.int x1), some (.int x2), some (.int x3), some (.int z4_61), some (.int z5_61)] [] (md A0 g h q v11 f11) 0 0 := by
            intro n
            induction n with
            | zero =>
              intro z4_61 z5_61 v11 f11 hv11 hf11 hw11 j0_61 j1_61 j2_61 j3_61
              omega
            | succ n ih13 =>
              intro z4_61 z5_61 v11 f11 hv11 hf11 hw11 j0_61 j1_61 j2_61 j3_61
              refine hC.1 3 61 _ _ rfl _ _ _ _ _ ?_
              have hu14 := hv11
              unfold md_V at hu14
              refine And.intro (fun c15 => ?_) (fun c15 => ?_)
              · skip
                refine hC.1 4 96 _ _ rfl _ _ _ _ _ ?_
                refine And.intro (Exists.intro _ md_o) (Exists.intro _ (Exists.intro _ (Exists.intro _ (Exists.intro _ (And.intro (c_X11_ends D v11 f11 hv11 hf11  (by omega)) (And.intro rfl (fun r9 A9 h9 => ?_)))))))
                obtain ⟨y16, v17, f17, rfl, rfl, hv17, hf17, hx17, by16⟩ := h9
                have hw17 : f17 2 = f 2 := hx17.trans hw11
                have hu18 := hv17
                unfold md_V at hu18
                exact ⟨rfl, fun e9 => absurd e9 (by decide), rfl, y16, v17, f17, rfl, rfl, hv17, hf17, hw17, by first | trivial | omega | (dsimp only; omega)⟩
              · skip
                have k137 : (137 : Int32).toInt = 137 := rfl
                intro m19 em_72
                try have e19 : m19.toInt = 137 * (z4_61).toInt := by rw [em_72]; exact pm_mulk _ _ 137 rfl (by omega) (by omega)
                have k71 : (71 : Int32).toInt = 71 := rfl
                intro m20 em_75
                try have e20 : m20.toInt = (m19).toInt + (71) := by rw [em_75]; exact pm_addc _ _ (71) rfl (by omega) (by omega)
                have k10007 : (10007 : Int32).toInt = 10007 := rfl
                refine And.intro (by decide) ?_
                intro m21 em_79
                try have e21 := pm_rem m20 (10007 : Int32) (by omega) (by omega)
                try rw [← em_79] at e21
                refine And.intro (fun e9 => by have e8 := congrArg Int32.toInt e9; have e7 : (0 : Int32).toInt = 0 := rfl; omega) ?_
                intro m22 em_86
                try have e22 := pm_rem m21 x3 (by omega) (by omega)
                try rw [← em_86] at e22
                refine And.intro (Exists.intro _ md_o) (Exists.intro _ (Exists.intro _ (Exists.intro _ (Exists.intro _ (And.intro (c_X11_laysNew D v11 f11 hv11 hf11 m22 (by omega) (by omega) (by omega)) (And.intro rfl (fun r9 A9 h9 => ?_)))))))
                obtain ⟨v24, f24, rfl, rfl, hv24, hf24, hx24, hg24_0, by23⟩ := h9
                have hw24 : f24 2 = f 2 := hx24.trans hw11
                have hu25 := hv24
                unfold md_V at hu25
                intro m26 em_90
                try have e26 : m26.toInt = (z5_61).toInt + (1) := by rw [em_90]; exact pm_addc _ _ (1) rfl (by omega) (by omega)
                exact ih13 m21 m26 v24 f24 hv24 hf24 hw24 (by omega) (by omega) (by omega) (by omega)
          exact lp12 (200 - (0 : Int32).toInt).toNat.succ x1 (0 : Int32) v9 f9 hv9 hf9 hw9 (by omega) (by omega) (by omega) (by omega)
        · skip
          refine And.intro (fun c9 => absurd c9 (by decide)) (fun _ => ?_)
          refine hC.1 1 40 _ _ rfl _ _ _ _ _ ?_
          have km1 : (-1 : Int32).toInt = -1 := rfl
          exact ⟨rfl, fun e9 => absurd e9 (by decide), rfl, (-1 : Int32), v, f, rfl, rfl, hv, hf, rfl, by first | trivial | omega | (dsimp only; omega)⟩
      · skip
        refine And.intro (fun _ => ?_) (fun c9 => absurd c9 (by decide))
        refine hC.1 1 40 _ _ rfl _ _ _ _ _ ?_
        have km1 : (-1 : Int32).toInt = -1 := rfl
        exact ⟨rfl, fun e9 => absurd e9 (by decide), rfl, (-1 : Int32), v, f, rfl, rfl, hv, hf, rfl, by first | trivial | omega | (dsimp only; omega)⟩
    · skip
      refine And.intro (fun _ => ?_) (fun c9 => absurd c9 (by decide))
      refine hC.1 1 40 _ _ rfl _ _ _ _ _ ?_
      have km1 : (-1 : Int32).toInt = -1 := rfl
      exact ⟨rfl, fun e9 => absurd e9 (by decide), rfl, (-1 : Int32), v, f, rfl, rfl, hv, hf, rfl, by first | trivial | omega | (dsimp only; omega)⟩
  · skip
    refine And.intro (fun _ => ?_) (fun c9 => absurd c9 (by decide))
    refine hC.1 1 40 _ _ rfl _ _ _ _ _ ?_
    have km1 : (-1 : Int32).toInt = -1 := rfl
    exact ⟨rfl, fun e9 => absurd e9 (by decide), rfl, (-1 : Int32), v, f, rfl, rfl, hv, hf, rfl, by first | trivial | omega | (dsimp only; omega)⟩

end
