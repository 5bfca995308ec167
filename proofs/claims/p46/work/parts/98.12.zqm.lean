/-! the reference: a field, a place of a row, read and written -/
section
variable {l : Launch} {g : pm_G} {ro : Nat → Option (Nat × (Nat → Int32))} {d mc ms : Nat} {Ret : Option Value → pm_H → Nat → Nat → Prop} {J : pm_J} {fin : Nat} {r : List pm_Op} {L : pm_L} {st : List Value} {c s t i k : Nat} {z : Int32}
variable {A0 : pm_H} {h : Nat} {q : Nat → Nat} {v : Nat → Int32} {f : Nat → Nat → Int32}
theorem qgm_colours {n : _} (h9 : pm_wp l g ro d mc ms Ret J fin r L (.ref (q 0) :: st) (md A0 g h q v f) c s) : pm_wp l g ro d mc ms Ret J fin ((.getfield n, t, 11, 0, z) :: r) L (.ref h :: st) (md A0 g h q v f) c s := ⟨_, md_o, h9⟩
theorem qlm_colours {x : Int32} (D : md_D h q) (hx : 0 ≤ x.toInt ∧ x.toInt < (160 : Nat)) (h9 : pm_wp l g ro d mc ms Ret J fin r L (.int (f 0 x.toInt.toNat) :: st) (md A0 g h q v f) c s) : pm_wp l g ro d mc ms Ret J fin ((.iaload, t, i, k, z) :: r) L (.int x :: .ref (q 0) :: st) (md A0 g h q v f) c s := ⟨_, _, Or.inl (md_a_colours D), hx, h9⟩
theorem qgm_names {n : _} (h9 : pm_wp l g ro d mc ms Ret J fin r L (.ref (q 1) :: st) (md A0 g h q v f) c s) : pm_wp l g ro d mc ms Ret J fin ((.getfield n, t, 11, 1, z) :: r) L (.ref h :: st) (md A0 g h q v f) c s := ⟨_, md_o, h9⟩
theorem qlm_names {x : Int32} (D : md_D h q) (hx : 0 ≤ x.toInt ∧ x.toInt < (160 : Nat)) (h9 : pm_wp l g ro d mc ms Ret J fin r L (.int (f 1 x.toInt.toNat) :: st) (md A0 g h q v f) c s) : pm_wp l g ro d mc ms Ret J fin ((.iaload, t, i, k, z) :: r) L (.int x :: .ref (q 1) :: st) (md A0 g h q v f) c s := ⟨_, _, Or.inl (md_a_names D), hx, h9⟩
theorem qgm_weights {n : _} (h9 : pm_wp l g ro d mc ms Ret J fin r L (.ref (q 2) :: st) (md A0 g h q v f) c s) : pm_wp l g ro d mc ms Ret J fin ((.getfield n, t, 11, 2, z) :: r) L (.ref h :: st) (md A0 g h q v f) c s := ⟨_, md_o, h9⟩
theorem qlm_weights {x : Int32} (D : md_D h q) (hx : 0 ≤ x.toInt ∧ x.toInt < (24 : Nat)) (h9 : pm_wp l g ro d mc ms Ret J fin r L (.int (f 2 x.toInt.toNat) :: st) (md A0 g h q v f) c s) : pm_wp l g ro d mc ms Ret J fin ((.iaload, t, i, k, z) :: r) L (.int x :: .ref (q 2) :: st) (md A0 g h q v f) c s := ⟨_, _, Or.inl (md_a_weights D), hx, h9⟩
theorem qgm_many {n : _} (h9 : pm_wp l g ro d mc ms Ret J fin r L (.int (v 0) :: st) (md A0 g h q v f) c s) : pm_wp l g ro d mc ms Ret J fin ((.getfield n, t, 11, 7, z) :: r) L (.ref h :: st) (md A0 g h q v f) c s := ⟨_, md_o, h9⟩
theorem qgm_given {n : _} (h9 : pm_wp l g ro d mc ms Ret J fin r L (.int (v 3) :: st) (md A0 g h q v f) c s) : pm_wp l g ro d mc ms Ret J fin ((.getfield n, t, 11, 10, z) :: r) L (.ref h :: st) (md A0 g h q v f) c s := ⟨_, md_o, h9⟩
theorem qgm_edits {n : _} (h9 : pm_wp l g ro d mc ms Ret J fin r L (.int (v 4) :: st) (md A0 g h q v f) c s) : pm_wp l g ro d mc ms Ret J fin ((.getfield n, t, 11, 11, z) :: r) L (.ref h :: st) (md A0 g h q v f) c s := ⟨_, md_o, h9⟩
theorem qgm_touchedAll {n : _} (h9 : pm_wp l g ro d mc ms Ret J fin r L (.int (v 5) :: st) (md A0 g h q v f) c s) : pm_wp l g ro d mc ms Ret J fin ((.getfield n, t, 11, 12, z) :: r) L (.ref h :: st) (md A0 g h q v f) c s := ⟨_, md_o, h9⟩
theorem qgm_askedOne {n : _} (h9 : pm_wp l g ro d mc ms Ret J fin r L (.ref (q 7) :: st) (md A0 g h q v f) c s) : pm_wp l g ro d mc ms Ret J fin ((.getfield n, t, 11, 13, z) :: r) L (.ref h :: st) (md A0 g h q v f) c s := ⟨_, md_o, h9⟩
theorem qlm_askedOne {x : Int32} (D : md_D h q) (hx : 0 ≤ x.toInt ∧ x.toInt < (30 : Nat)) (h9 : pm_wp l g ro d mc ms Ret J fin r L (.int (f 7 x.toInt.toNat) :: st) (md A0 g h q v f) c s) : pm_wp l g ro d mc ms Ret J fin ((.iaload, t, i, k, z) :: r) L (.int x :: .ref (q 7) :: st) (md A0 g h q v f) c s := ⟨_, _, Or.inl (md_a_askedOne D), hx, h9⟩
theorem qsm_askedOne {x y : Int32} (D : md_D h q) (hx : 0 ≤ x.toInt ∧ x.toInt < (30 : Nat)) (h9 : ∀ f9 : Nat → Nat → Int32, f9 = va_up f 7 (upd (f 7) x.toInt.toNat y) → pm_wp l g ro d mc ms Ret J fin r L st (md A0 g h q v f9) c s) : pm_wp l g ro d mc ms Ret J fin ((.iastore, t, i, k, z) :: r) L (.int y :: .int x :: .ref (q 7) :: st) (md A0 g h q v f) c s := ⟨_, _, md_a_askedOne D, hx, by
  have h8 := h9 _ rfl
  rw [← md_s_askedOne D] at h8
  exact h8⟩
theorem qgm_askedOther {n : _} (h9 : pm_wp l g ro d mc ms Ret J fin r L (.ref (q 8) :: st) (md A0 g h q v f) c s) : pm_wp l g ro d mc ms Ret J fin ((.getfield n, t, 11, 14, z) :: r) L (.ref h :: st) (md A0 g h q v f) c s := ⟨_, md_o, h9⟩
theorem qlm_askedOther {x : Int32} (D : md_D h q) (hx : 0 ≤ x.toInt ∧ x.toInt < (30 : Nat)) (h9 : pm_wp l g ro d mc ms Ret J fin r L (.int (f 8 x.toInt.toNat) :: st) (md A0 g h q v f) c s) : pm_wp l g ro d mc ms Ret J fin ((.iaload, t, i, k, z) :: r) L (.int x :: .ref (q 8) :: st) (md A0 g h q v f) c s := ⟨_, _, Or.inl (md_a_askedOther D), hx, h9⟩
theorem qsm_askedOther {x y : Int32} (D : md_D h q) (hx : 0 ≤ x.toInt ∧ x.toInt < (30 : Nat)) (h9 : ∀ f9 : Nat → Nat → Int32, f9 = va_up f 8 (upd (f 8) x.toInt.toNat y) → pm_wp l g ro d mc ms Ret J fin r L st (md A0 g h q v f9) c s) : pm_wp l g ro d mc ms Ret J fin ((.iastore, t, i, k, z) :: r) L (.int y :: .int x :: .ref (q 8) :: st) (md A0 g h q v f) c s := ⟨_, _, md_a_askedOther D, hx, by
  have h8 := h9 _ rfl
  rw [← md_s_askedOther D] at h8
  exact h8⟩
theorem qgm_answerCount {n : _} (h9 : pm_wp l g ro d mc ms Ret J fin r L (.ref (q 9) :: st) (md A0 g h q v f) c s) : pm_wp l g ro d mc ms Ret J fin ((.getfield n, t, 11, 15, z) :: r) L (.ref h :: st) (md A0 g h q v f) c s := ⟨_, md_o, h9⟩
theorem qlm_answerCount {x : Int32} (D : md_D h q) (hx : 0 ≤ x.toInt ∧ x.toInt < (30 : Nat)) (h9 : pm_wp l g ro d mc ms Ret J fin r L (.int (f 9 x.toInt.toNat) :: st) (md A0 g h q v f) c s) : pm_wp l g ro d mc ms Ret J fin ((.iaload, t, i, k, z) :: r) L (.int x :: .ref (q 9) :: st) (md A0 g h q v f) c s := ⟨_, _, Or.inl (md_a_answerCount D), hx, h9⟩
theorem qsm_answerCount {x y : Int32} (D : md_D h q) (hx : 0 ≤ x.toInt ∧ x.toInt < (30 : Nat)) (h9 : ∀ f9 : Nat → Nat → Int32, f9 = va_up f 9 (upd (f 9) x.toInt.toNat y) → pm_wp l g ro d mc ms Ret J fin r L st (md A0 g h q v f9) c s) : pm_wp l g ro d mc ms Ret J fin ((.iastore, t, i, k, z) :: r) L (.int y :: .int x :: .ref (q 9) :: st) (md A0 g h q v f) c s := ⟨_, _, md_a_answerCount D, hx, by
  have h8 := h9 _ rfl
  rw [← md_s_answerCount D] at h8
  exact h8⟩
theorem qgm_answerWeight {n : _} (h9 : pm_wp l g ro d mc ms Ret J fin r L (.ref (q 10) :: st) (md A0 g h q v f) c s) : pm_wp l g ro d mc ms Ret J fin ((.getfield n, t, 11, 16, z) :: r) L (.ref h :: st) (md A0 g h q v f) c s := ⟨_, md_o, h9⟩
theorem qlm_answerWeight {x : Int32} (D : md_D h q) (hx : 0 ≤ x.toInt ∧ x.toInt < (30 : Nat)) (h9 : pm_wp l g ro d mc ms Ret J fin r L (.int (f 10 x.toInt.toNat) :: st) (md A0 g h q v f) c s) : pm_wp l g ro d mc ms Ret J fin ((.iaload, t, i, k, z) :: r) L (.int x :: .ref (q 10) :: st) (md A0 g h q v f) c s := ⟨_, _, Or.inl (md_a_answerWeight D), hx, h9⟩
theorem qsm_answerWeight {x y : Int32} (D : md_D h q) (hx : 0 ≤ x.toInt ∧ x.toInt < (30 : Nat)) (h9 : ∀ f9 : Nat → Nat → Int32, f9 = va_up f 10 (upd (f 10) x.toInt.toNat y) → pm_wp l g ro d mc ms Ret J fin r L st (md A0 g h q v f9) c s) : pm_wp l g ro d mc ms Ret J fin ((.iastore, t, i, k, z) :: r) L (.int y :: .int x :: .ref (q 10) :: st) (md A0 g h q v f) c s := ⟨_, _, md_a_answerWeight D, hx, by
  have h8 := h9 _ rfl
  rw [← md_s_answerWeight D] at h8
  exact h8⟩
theorem qgm_askedMany {n : _} (h9 : pm_wp l g ro d mc ms Ret J fin r L (.int (v 6) :: st) (md A0 g h q v f) c s) : pm_wp l g ro d mc ms Ret J fin ((.getfield n, t, 11, 17, z) :: r) L (.ref h :: st) (md A0 g h q v f) c s := ⟨_, md_o, h9⟩
theorem qum_askedMany {n : _} {x : Int32} (D : md_D h q) (h9 : ∀ v9 : Nat → Int32, v9 = upd v 6 x → pm_wp l g ro d mc ms Ret J fin r L st (md A0 g h q v9 f) c s) : pm_wp l g ro d mc ms Ret J fin ((.putfield n, t, 11, 17, 0) :: r) L (.int x :: .ref h :: st) (md A0 g h q v f) c s := ⟨_, md_o, rfl, by
  have h8 := h9 _ rfl
  rw [← md_p_askedMany D] at h8
  exact h8⟩
theorem qgm_askedEdit {n : _} (h9 : pm_wp l g ro d mc ms Ret J fin r L (.ref (q 11) :: st) (md A0 g h q v f) c s) : pm_wp l g ro d mc ms Ret J fin ((.getfield n, t, 11, 18, z) :: r) L (.ref h :: st) (md A0 g h q v f) c s := ⟨_, md_o, h9⟩
theorem qlm_askedEdit {x : Int32} (D : md_D h q) (hx : 0 ≤ x.toInt ∧ x.toInt < (30 : Nat)) (h9 : pm_wp l g ro d mc ms Ret J fin r L (.int (f 11 x.toInt.toNat) :: st) (md A0 g h q v f) c s) : pm_wp l g ro d mc ms Ret J fin ((.iaload, t, i, k, z) :: r) L (.int x :: .ref (q 11) :: st) (md A0 g h q v f) c s := ⟨_, _, Or.inl (md_a_askedEdit D), hx, h9⟩
theorem qsm_askedEdit {x y : Int32} (D : md_D h q) (hx : 0 ≤ x.toInt ∧ x.toInt < (30 : Nat)) (h9 : ∀ f9 : Nat → Nat → Int32, f9 = va_up f 11 (upd (f 11) x.toInt.toNat y) → pm_wp l g ro d mc ms Ret J fin r L st (md A0 g h q v f9) c s) : pm_wp l g ro d mc ms Ret J fin ((.iastore, t, i, k, z) :: r) L (.int y :: .int x :: .ref (q 11) :: st) (md A0 g h q v f) c s := ⟨_, _, md_a_askedEdit D, hx, by
  have h8 := h9 _ rfl
  rw [← md_s_askedEdit D] at h8
  exact h8⟩
theorem qgm_wasColours {n : _} (h9 : pm_wp l g ro d mc ms Ret J fin r L (.ref (q 12) :: st) (md A0 g h q v f) c s) : pm_wp l g ro d mc ms Ret J fin ((.getfield n, t, 11, 19, z) :: r) L (.ref h :: st) (md A0 g h q v f) c s := ⟨_, md_o, h9⟩
theorem qlm_wasColours {x : Int32} (D : md_D h q) (hx : 0 ≤ x.toInt ∧ x.toInt < (6400 : Nat)) (h9 : pm_wp l g ro d mc ms Ret J fin r L (.int (f 12 x.toInt.toNat) :: st) (md A0 g h q v f) c s) : pm_wp l g ro d mc ms Ret J fin ((.iaload, t, i, k, z) :: r) L (.int x :: .ref (q 12) :: st) (md A0 g h q v f) c s := ⟨_, _, Or.inl (md_a_wasColours D), hx, h9⟩
theorem qgm_wasNames {n : _} (h9 : pm_wp l g ro d mc ms Ret J fin r L (.ref (q 13) :: st) (md A0 g h q v f) c s) : pm_wp l g ro d mc ms Ret J fin ((.getfield n, t, 11, 20, z) :: r) L (.ref h :: st) (md A0 g h q v f) c s := ⟨_, md_o, h9⟩
theorem qlm_wasNames {x : Int32} (D : md_D h q) (hx : 0 ≤ x.toInt ∧ x.toInt < (6400 : Nat)) (h9 : pm_wp l g ro d mc ms Ret J fin r L (.int (f 13 x.toInt.toNat) :: st) (md A0 g h q v f) c s) : pm_wp l g ro d mc ms Ret J fin ((.iaload, t, i, k, z) :: r) L (.int x :: .ref (q 13) :: st) (md A0 g h q v f) c s := ⟨_, _, Or.inl (md_a_wasNames D), hx, h9⟩
theorem qgm_wasMany {n : _} (h9 : pm_wp l g ro d mc ms Ret J fin r L (.ref (q 14) :: st) (md A0 g h q v f) c s) : pm_wp l g ro d mc ms Ret J fin ((.getfield n, t, 11, 21, z) :: r) L (.ref h :: st) (md A0 g h q v f) c s := ⟨_, md_o, h9⟩
theorem qlm_wasMany {x : Int32} (D : md_D h q) (hx : 0 ≤ x.toInt ∧ x.toInt < (40 : Nat)) (h9 : pm_wp l g ro d mc ms Ret J fin r L (.int (f 14 x.toInt.toNat) :: st) (md A0 g h q v f) c s) : pm_wp l g ro d mc ms Ret J fin ((.iaload, t, i, k, z) :: r) L (.int x :: .ref (q 14) :: st) (md A0 g h q v f) c s := ⟨_, _, Or.inl (md_a_wasMany D), hx, h9⟩
theorem qgm_worth {n : _} (h9 : pm_wp l g ro d mc ms Ret J fin r L (.ref (q 18) :: st) (md A0 g h q v f) c s) : pm_wp l g ro d mc ms Ret J fin ((.getfield n, t, 11, 26, z) :: r) L (.ref h :: st) (md A0 g h q v f) c s := ⟨_, md_o, h9⟩
theorem qlm_worth {x : Int32} (D : md_D h q) (hx : 0 ≤ x.toInt ∧ x.toInt < (1449 : Nat)) (h9 : pm_wp l g ro d mc ms Ret J fin r L (.int (f 18 x.toInt.toNat) :: st) (md A0 g h q v f) c s) : pm_wp l g ro d mc ms Ret J fin ((.iaload, t, i, k, z) :: r) L (.int x :: .ref (q 18) :: st) (md A0 g h q v f) c s := ⟨_, _, Or.inl (md_a_worth D), hx, h9⟩
theorem qsm_worth {x y : Int32} (D : md_D h q) (hx : 0 ≤ x.toInt ∧ x.toInt < (1449 : Nat)) (h9 : ∀ f9 : Nat → Nat → Int32, f9 = va_up f 18 (upd (f 18) x.toInt.toNat y) → pm_wp l g ro d mc ms Ret J fin r L st (md A0 g h q v f9) c s) : pm_wp l g ro d mc ms Ret J fin ((.iastore, t, i, k, z) :: r) L (.int y :: .int x :: .ref (q 18) :: st) (md A0 g h q v f) c s := ⟨_, _, md_a_worth D, hx, by
  have h8 := h9 _ rfl
  rw [← md_s_worth D] at h8
  exact h8⟩
theorem qgm_ends0 {n : _} (h9 : pm_wp l g ro d mc ms Ret J fin r L (.ref (q 19) :: st) (md A0 g h q v f) c s) : pm_wp l g ro d mc ms Ret J fin ((.getfield n, t, 11, 27, z) :: r) L (.ref h :: st) (md A0 g h q v f) c s := ⟨_, md_o, h9⟩
theorem qlm_ends0 {x : Int32} (D : md_D h q) (hx : 0 ≤ x.toInt ∧ x.toInt < (1449 : Nat)) (h9 : pm_wp l g ro d mc ms Ret J fin r L (.int (f 19 x.toInt.toNat) :: st) (md A0 g h q v f) c s) : pm_wp l g ro d mc ms Ret J fin ((.iaload, t, i, k, z) :: r) L (.int x :: .ref (q 19) :: st) (md A0 g h q v f) c s := ⟨_, _, Or.inl (md_a_ends0 D), hx, h9⟩
theorem qsm_ends0 {x y : Int32} (D : md_D h q) (hx : 0 ≤ x.toInt ∧ x.toInt < (1449 : Nat)) (h9 : ∀ f9 : Nat → Nat → Int32, f9 = va_up f 19 (upd (f 19) x.toInt.toNat y) → pm_wp l g ro d mc ms Ret J fin r L st (md A0 g h q v f9) c s) : pm_wp l g ro d mc ms Ret J fin ((.iastore, t, i, k, z) :: r) L (.int y :: .int x :: .ref (q 19) :: st) (md A0 g h q v f) c s := ⟨_, _, md_a_ends0 D, hx, by
  have h8 := h9 _ rfl
  rw [← md_s_ends0 D] at h8
  exact h8⟩
end

