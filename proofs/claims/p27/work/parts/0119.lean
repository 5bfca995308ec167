section
variable {l : Launch} {g : pm_G} {ro : Nat → Option (Nat × (Nat → Int32))} {d mc ms : Nat} {Ret : Option Value → pm_H → Nat → Nat → Prop} {J : pm_J} {fin : Nat} {r : List pm_Op} {L : pm_L} {st : List Value} {c s t i k : Nat} {z : Int32}
variable {A0 : pm_H} {h : Nat} {q : Nat → Nat} {v : Nat → Int32} {f : Nat → Nat → Int32}
theorem qgm_many {n : _} (h9 : pm_wp l g ro d mc ms Ret J fin r L (.int (v 0) :: st) (md A0 g h q v f) c s) : pm_wp l g ro d mc ms Ret J fin ((.getfield n, t, 11, 7, z) :: r) L (.ref h :: st) (md A0 g h q v f) c s := ⟨_, md_o, h9⟩
end
