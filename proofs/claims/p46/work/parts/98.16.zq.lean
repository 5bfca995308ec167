/-! the class: a field, a place of a row, read and written -/
section
variable {l : Launch} {g : pm_G} {ro : Nat → Option (Nat × (Nat → Int32))} {d mc ms : Nat} {Ret : Option Value → pm_H → Nat → Nat → Prop} {J : pm_J} {fin : Nat} {r : List pm_Op} {L : pm_L} {st : List Value} {c s t i k : Nat} {z : Int32}
variable {A0 : pm_H} {K nn dn : Nat} {q : Nat → Nat} {w : Nat → Int32} {e : Nat → Nat → Int32} {v : Nat → Int32} {f : Nat → Nat → Int32}
theorem qgc_0_0 {n : _} (D : gw_D (40 + 4 * K) q) (h9 : pm_wp l g ro d mc ms Ret J fin r L (.ref (q 1) :: st) (cw A0 g K nn dn q w e v f) c s) : pm_wp l g ro d mc ms Ret J fin ((.getfield n, t, 10, 0, z) :: r) L (.ref (q 0) :: st) (cw A0 g K nn dn q w e v f) c s := ⟨_, cw_o0 D, h9⟩
theorem qgc_0_1 {n : _} (D : gw_D (40 + 4 * K) q) (h9 : pm_wp l g ro d mc ms Ret J fin r L (.ref (q 2) :: st) (cw A0 g K nn dn q w e v f) c s) : pm_wp l g ro d mc ms Ret J fin ((.getfield n, t, 10, 1, z) :: r) L (.ref (q 0) :: st) (cw A0 g K nn dn q w e v f) c s := ⟨_, cw_o0 D, h9⟩
theorem qgc_0_7 {n : _} (D : gw_D (40 + 4 * K) q) (h9 : pm_wp l g ro d mc ms Ret J fin r L (.ref (q 8) :: st) (cw A0 g K nn dn q w e v f) c s) : pm_wp l g ro d mc ms Ret J fin ((.getfield n, t, 10, 7, z) :: r) L (.ref (q 0) :: st) (cw A0 g K nn dn q w e v f) c s := ⟨_, cw_o0 D, h9⟩
theorem qgc_0_8 {n : _} (D : gw_D (40 + 4 * K) q) (h9 : pm_wp l g ro d mc ms Ret J fin r L (.ref (q 9) :: st) (cw A0 g K nn dn q w e v f) c s) : pm_wp l g ro d mc ms Ret J fin ((.getfield n, t, 10, 8, z) :: r) L (.ref (q 0) :: st) (cw A0 g K nn dn q w e v f) c s := ⟨_, cw_o0 D, h9⟩
theorem qgc_1_0 {n : _} (D : gw_D (40 + 4 * K) q) (h9 : pm_wp l g ro d mc ms Ret J fin r L (.ref (q 10) :: st) (cw A0 g K nn dn q w e v f) c s) : pm_wp l g ro d mc ms Ret J fin ((.getfield n, t, 9, 0, z) :: r) L (.ref (q 1) :: st) (cw A0 g K nn dn q w e v f) c s := ⟨_, cw_o1 D, h9⟩
theorem qgc_1_4 {n : _} (D : gw_D (40 + 4 * K) q) (h9 : pm_wp l g ro d mc ms Ret J fin r L (.ref (q nn) :: st) (cw A0 g K nn dn q w e v f) c s) : pm_wp l g ro d mc ms Ret J fin ((.getfield n, t, 9, 4, z) :: r) L (.ref (q 1) :: st) (cw A0 g K nn dn q w e v f) c s := ⟨_, cw_o1 D, h9⟩
theorem qgc_1_5 {n : _} (D : gw_D (40 + 4 * K) q) (h9 : pm_wp l g ro d mc ms Ret J fin r L (.int (w 0) :: st) (cw A0 g K nn dn q w e v f) c s) : pm_wp l g ro d mc ms Ret J fin ((.getfield n, t, 9, 5, z) :: r) L (.ref (q 1) :: st) (cw A0 g K nn dn q w e v f) c s := ⟨_, cw_o1 D, h9⟩
theorem qgc_1_6 {n : _} (D : gw_D (40 + 4 * K) q) (h9 : pm_wp l g ro d mc ms Ret J fin r L (.int (w 1) :: st) (cw A0 g K nn dn q w e v f) c s) : pm_wp l g ro d mc ms Ret J fin ((.getfield n, t, 9, 6, z) :: r) L (.ref (q 1) :: st) (cw A0 g K nn dn q w e v f) c s := ⟨_, cw_o1 D, h9⟩
theorem qgc_1_7 {n : _} (D : gw_D (40 + 4 * K) q) (h9 : pm_wp l g ro d mc ms Ret J fin r L (.int (w 2) :: st) (cw A0 g K nn dn q w e v f) c s) : pm_wp l g ro d mc ms Ret J fin ((.getfield n, t, 9, 7, z) :: r) L (.ref (q 1) :: st) (cw A0 g K nn dn q w e v f) c s := ⟨_, cw_o1 D, h9⟩
theorem qgc_2_0 {n : _} (D : gw_D (40 + 4 * K) q) (h9 : pm_wp l g ro d mc ms Ret J fin r L (.ref (q 14) :: st) (cw A0 g K nn dn q w e v f) c s) : pm_wp l g ro d mc ms Ret J fin ((.getfield n, t, 2, 0, z) :: r) L (.ref (q 2) :: st) (cw A0 g K nn dn q w e v f) c s := ⟨_, cw_o2 D, h9⟩
theorem qgc_2_1 {n : _} (D : gw_D (40 + 4 * K) q) (h9 : pm_wp l g ro d mc ms Ret J fin r L (.ref (q 15) :: st) (cw A0 g K nn dn q w e v f) c s) : pm_wp l g ro d mc ms Ret J fin ((.getfield n, t, 2, 1, z) :: r) L (.ref (q 2) :: st) (cw A0 g K nn dn q w e v f) c s := ⟨_, cw_o2 D, h9⟩
theorem qgc_2_2 {n : _} (D : gw_D (40 + 4 * K) q) (h9 : pm_wp l g ro d mc ms Ret J fin r L (.int (v 1) :: st) (cw A0 g K nn dn q w e v f) c s) : pm_wp l g ro d mc ms Ret J fin ((.getfield n, t, 2, 2, z) :: r) L (.ref (q 2) :: st) (cw A0 g K nn dn q w e v f) c s := ⟨_, cw_o2 D, h9⟩
theorem quc_2_2 {n : _} {x : Int32} (D : gw_D (40 + 4 * K) q) (h9 : ∀ v9 : Nat → Int32, v9 = upd v 1 x → pm_wp l g ro d mc ms Ret J fin r L st (cw A0 g K nn dn q w e v9 f) c s) : pm_wp l g ro d mc ms Ret J fin ((.putfield n, t, 2, 2, 0) :: r) L (.int x :: .ref (q 2) :: st) (cw A0 g K nn dn q w e v f) c s := ⟨_, cw_o2 D, rfl, by
  have h8 := h9 _ rfl
  rw [← cw_p_length D] at h8
  exact h8⟩
theorem qgc_2_3 {n : _} (D : gw_D (40 + 4 * K) q) (h9 : pm_wp l g ro d mc ms Ret J fin r L (.int (v 2) :: st) (cw A0 g K nn dn q w e v f) c s) : pm_wp l g ro d mc ms Ret J fin ((.getfield n, t, 2, 3, z) :: r) L (.ref (q 2) :: st) (cw A0 g K nn dn q w e v f) c s := ⟨_, cw_o2 D, h9⟩
theorem quc_2_3 {n : _} {x : Int32} (D : gw_D (40 + 4 * K) q) (h9 : ∀ v9 : Nat → Int32, v9 = upd v 2 x → pm_wp l g ro d mc ms Ret J fin r L st (cw A0 g K nn dn q w e v9 f) c s) : pm_wp l g ro d mc ms Ret J fin ((.putfield n, t, 2, 3, 0) :: r) L (.int x :: .ref (q 2) :: st) (cw A0 g K nn dn q w e v f) c s := ⟨_, cw_o2 D, rfl, by
  have h8 := h9 _ rfl
  rw [← cw_p_kinds D] at h8
  exact h8⟩
theorem qgc_2_4 {n : _} (D : gw_D (40 + 4 * K) q) (h9 : pm_wp l g ro d mc ms Ret J fin r L (.int (v 3) :: st) (cw A0 g K nn dn q w e v f) c s) : pm_wp l g ro d mc ms Ret J fin ((.getfield n, t, 2, 4, z) :: r) L (.ref (q 2) :: st) (cw A0 g K nn dn q w e v f) c s := ⟨_, cw_o2 D, h9⟩
theorem quc_2_4 {n : _} {x : Int32} (D : gw_D (40 + 4 * K) q) (h9 : ∀ v9 : Nat → Int32, v9 = upd v 3 x → pm_wp l g ro d mc ms Ret J fin r L st (cw A0 g K nn dn q w e v9 f) c s) : pm_wp l g ro d mc ms Ret J fin ((.putfield n, t, 2, 4, 0) :: r) L (.int x :: .ref (q 2) :: st) (cw A0 g K nn dn q w e v f) c s := ⟨_, cw_o2 D, rfl, by
  have h8 := h9 _ rfl
  rw [← cw_p_bits D] at h8
  exact h8⟩
theorem qgc_2_5 {n : _} (D : gw_D (40 + 4 * K) q) (h9 : pm_wp l g ro d mc ms Ret J fin r L (.int (v 4) :: st) (cw A0 g K nn dn q w e v f) c s) : pm_wp l g ro d mc ms Ret J fin ((.getfield n, t, 2, 5, z) :: r) L (.ref (q 2) :: st) (cw A0 g K nn dn q w e v f) c s := ⟨_, cw_o2 D, h9⟩
theorem quc_2_5 {n : _} {x : Int32} (D : gw_D (40 + 4 * K) q) (h9 : ∀ v9 : Nat → Int32, v9 = upd v 4 x → pm_wp l g ro d mc ms Ret J fin r L st (cw A0 g K nn dn q w e v9 f) c s) : pm_wp l g ro d mc ms Ret J fin ((.putfield n, t, 2, 5, 0) :: r) L (.int x :: .ref (q 2) :: st) (cw A0 g K nn dn q w e v f) c s := ⟨_, cw_o2 D, rfl, by
  have h8 := h9 _ rfl
  rw [← cw_p_mass D] at h8
  exact h8⟩
theorem qgc_8_0 {n : _} (D : gw_D (40 + 4 * K) q) (h9 : pm_wp l g ro d mc ms Ret J fin r L (.ref (q 11) :: st) (cw A0 g K nn dn q w e v f) c s) : pm_wp l g ro d mc ms Ret J fin ((.getfield n, t, 3, 0, z) :: r) L (.ref (q 8) :: st) (cw A0 g K nn dn q w e v f) c s := ⟨_, cw_o8 D, h9⟩
theorem qgc_9_0 {n : _} (D : gw_D (40 + 4 * K) q) (h9 : pm_wp l g ro d mc ms Ret J fin r L (.ref (q 35) :: st) (cw A0 g K nn dn q w e v f) c s) : pm_wp l g ro d mc ms Ret J fin ((.getfield n, t, 5, 0, z) :: r) L (.ref (q 9) :: st) (cw A0 g K nn dn q w e v f) c s := ⟨_, cw_o9 D, h9⟩
theorem qgc_9_1 {n : _} (D : gw_D (40 + 4 * K) q) (h9 : pm_wp l g ro d mc ms Ret J fin r L (.ref (q 36) :: st) (cw A0 g K nn dn q w e v f) c s) : pm_wp l g ro d mc ms Ret J fin ((.getfield n, t, 5, 1, z) :: r) L (.ref (q 9) :: st) (cw A0 g K nn dn q w e v f) c s := ⟨_, cw_o9 D, h9⟩
theorem qgc_9_2 {n : _} (D : gw_D (40 + 4 * K) q) (h9 : pm_wp l g ro d mc ms Ret J fin r L (.ref (q 37) :: st) (cw A0 g K nn dn q w e v f) c s) : pm_wp l g ro d mc ms Ret J fin ((.getfield n, t, 5, 2, z) :: r) L (.ref (q 9) :: st) (cw A0 g K nn dn q w e v f) c s := ⟨_, cw_o9 D, h9⟩
theorem qgc_9_3 {n : _} (D : gw_D (40 + 4 * K) q) (h9 : pm_wp l g ro d mc ms Ret J fin r L (.ref (q 38) :: st) (cw A0 g K nn dn q w e v f) c s) : pm_wp l g ro d mc ms Ret J fin ((.getfield n, t, 5, 3, z) :: r) L (.ref (q 9) :: st) (cw A0 g K nn dn q w e v f) c s := ⟨_, cw_o9 D, h9⟩
theorem qgc_9_4 {n : _} (D : gw_D (40 + 4 * K) q) (h9 : pm_wp l g ro d mc ms Ret J fin r L (.ref (q 39) :: st) (cw A0 g K nn dn q w e v f) c s) : pm_wp l g ro d mc ms Ret J fin ((.getfield n, t, 5, 4, z) :: r) L (.ref (q 9) :: st) (cw A0 g K nn dn q w e v f) c s := ⟨_, cw_o9 D, h9⟩
theorem qgc_9_5 {n : _} (D : gw_D (40 + 4 * K) q) (h9 : pm_wp l g ro d mc ms Ret J fin r L (.int (w 3) :: st) (cw A0 g K nn dn q w e v f) c s) : pm_wp l g ro d mc ms Ret J fin ((.getfield n, t, 5, 5, z) :: r) L (.ref (q 9) :: st) (cw A0 g K nn dn q w e v f) c s := ⟨_, cw_o9 D, h9⟩
theorem quc_9_5 {n : _} {x : Int32} (D : gw_D (40 + 4 * K) q) (h9 : ∀ w9 : Nat → Int32, w9 = upd w 3 x → pm_wp l g ro d mc ms Ret J fin r L st (cw A0 g K nn dn q w9 e v f) c s) : pm_wp l g ro d mc ms Ret J fin ((.putfield n, t, 5, 5, 0) :: r) L (.int x :: .ref (q 9) :: st) (cw A0 g K nn dn q w e v f) c s := ⟨_, cw_o9 D, rfl, by
  have h8 := h9 _ rfl
  rw [← cw_p_number D] at h8
  exact h8⟩
theorem qgr_0 {n : _} {o : Nat} (D : gw_D (40 + 4 * K) q) (ho : cw_ro K o) (h9 : pm_wp l g ro d mc ms Ret J fin r L (.ref (q (o + 1)) :: st) (cw A0 g K nn dn q w e v f) c s) : pm_wp l g ro d mc ms Ret J fin ((.getfield n, t, 7, 0, z) :: r) L (.ref (q o) :: st) (cw A0 g K nn dn q w e v f) c s := ⟨_, cw_ro_o D ho, h9⟩
theorem qgr_1 {n : _} {o : Nat} (D : gw_D (40 + 4 * K) q) (ho : cw_ro K o) (h9 : pm_wp l g ro d mc ms Ret J fin r L (.ref (q (o + 2)) :: st) (cw A0 g K nn dn q w e v f) c s) : pm_wp l g ro d mc ms Ret J fin ((.getfield n, t, 7, 1, z) :: r) L (.ref (q o) :: st) (cw A0 g K nn dn q w e v f) c s := ⟨_, cw_ro_o D ho, h9⟩
theorem qgr_3 {n : _} {o : Nat} (D : gw_D (40 + 4 * K) q) (ho : cw_ro K o) (h9 : pm_wp l g ro d mc ms Ret J fin r L (.int (w o) :: st) (cw A0 g K nn dn q w e v f) c s) : pm_wp l g ro d mc ms Ret J fin ((.getfield n, t, 7, 3, z) :: r) L (.ref (q o) :: st) (cw A0 g K nn dn q w e v f) c s := ⟨_, cw_ro_o D ho, h9⟩
theorem qlc_14 {x : Int32} (D : gw_D (40 + 4 * K) q) (hx : 0 ≤ x.toInt ∧ x.toInt < (24 : Nat)) (h9 : pm_wp l g ro d mc ms Ret J fin r L (.int (f 14 x.toInt.toNat) :: st) (cw A0 g K nn dn q w e v f) c s) : pm_wp l g ro d mc ms Ret J fin ((.iaload, t, i, k, z) :: r) L (.int x :: .ref (q 14) :: st) (cw A0 g K nn dn q w e v f) c s := ⟨_, _, Or.inl (cw_a14 D), hx, h9⟩
theorem qsc_14 {x y : Int32} (D : gw_D (40 + 4 * K) q) (hx : 0 ≤ x.toInt ∧ x.toInt < (24 : Nat)) (h9 : ∀ f9 : Nat → Nat → Int32, f9 = va_up f 14 (upd (f 14) x.toInt.toNat y) → pm_wp l g ro d mc ms Ret J fin r L st (cw A0 g K nn dn q w e v f9) c s) : pm_wp l g ro d mc ms Ret J fin ((.iastore, t, i, k, z) :: r) L (.int y :: .int x :: .ref (q 14) :: st) (cw A0 g K nn dn q w e v f) c s := ⟨_, _, cw_a14 D, hx, by
  have h8 := h9 _ rfl
  rw [← cw_s14 D] at h8
  exact h8⟩
theorem qlc_15 {x : Int32} (D : gw_D (40 + 4 * K) q) (hx : 0 ≤ x.toInt ∧ x.toInt < (24 : Nat)) (h9 : pm_wp l g ro d mc ms Ret J fin r L (.int (e 15 x.toInt.toNat) :: st) (cw A0 g K nn dn q w e v f) c s) : pm_wp l g ro d mc ms Ret J fin ((.iaload, t, i, k, z) :: r) L (.int x :: .ref (q 15) :: st) (cw A0 g K nn dn q w e v f) c s := ⟨_, _, Or.inl (cw_a15 D), hx, h9⟩
theorem qlc_35 {x : Int32} (D : gw_D (40 + 4 * K) q) (hx : 0 ≤ x.toInt ∧ x.toInt < (30 : Nat)) (h9 : pm_wp l g ro d mc ms Ret J fin r L (.int (e 35 x.toInt.toNat) :: st) (cw A0 g K nn dn q w e v f) c s) : pm_wp l g ro d mc ms Ret J fin ((.iaload, t, i, k, z) :: r) L (.int x :: .ref (q 35) :: st) (cw A0 g K nn dn q w e v f) c s := ⟨_, _, Or.inl (cw_a35 D), hx, h9⟩
theorem qsc_35 {x y : Int32} (D : gw_D (40 + 4 * K) q) (hx : 0 ≤ x.toInt ∧ x.toInt < (30 : Nat)) (h9 : ∀ e9 : Nat → Nat → Int32, e9 = va_up e 35 (upd (e 35) x.toInt.toNat y) → pm_wp l g ro d mc ms Ret J fin r L st (cw A0 g K nn dn q w e9 v f) c s) : pm_wp l g ro d mc ms Ret J fin ((.iastore, t, i, k, z) :: r) L (.int y :: .int x :: .ref (q 35) :: st) (cw A0 g K nn dn q w e v f) c s := ⟨_, _, cw_a35 D, hx, by
  have h8 := h9 _ rfl
  rw [← cw_s35 D] at h8
  exact h8⟩
theorem qlc_36 {x : Int32} (D : gw_D (40 + 4 * K) q) (hx : 0 ≤ x.toInt ∧ x.toInt < (30 : Nat)) (h9 : pm_wp l g ro d mc ms Ret J fin r L (.int (e 36 x.toInt.toNat) :: st) (cw A0 g K nn dn q w e v f) c s) : pm_wp l g ro d mc ms Ret J fin ((.iaload, t, i, k, z) :: r) L (.int x :: .ref (q 36) :: st) (cw A0 g K nn dn q w e v f) c s := ⟨_, _, Or.inl (cw_a36 D), hx, h9⟩
theorem qsc_36 {x y : Int32} (D : gw_D (40 + 4 * K) q) (hx : 0 ≤ x.toInt ∧ x.toInt < (30 : Nat)) (h9 : ∀ e9 : Nat → Nat → Int32, e9 = va_up e 36 (upd (e 36) x.toInt.toNat y) → pm_wp l g ro d mc ms Ret J fin r L st (cw A0 g K nn dn q w e9 v f) c s) : pm_wp l g ro d mc ms Ret J fin ((.iastore, t, i, k, z) :: r) L (.int y :: .int x :: .ref (q 36) :: st) (cw A0 g K nn dn q w e v f) c s := ⟨_, _, cw_a36 D, hx, by
  have h8 := h9 _ rfl
  rw [← cw_s36 D] at h8
  exact h8⟩
theorem qlc_37 {x : Int32} (D : gw_D (40 + 4 * K) q) (hx : 0 ≤ x.toInt ∧ x.toInt < (30 : Nat)) (h9 : pm_wp l g ro d mc ms Ret J fin r L (.int (e 37 x.toInt.toNat) :: st) (cw A0 g K nn dn q w e v f) c s) : pm_wp l g ro d mc ms Ret J fin ((.iaload, t, i, k, z) :: r) L (.int x :: .ref (q 37) :: st) (cw A0 g K nn dn q w e v f) c s := ⟨_, _, Or.inl (cw_a37 D), hx, h9⟩
theorem qsc_37 {x y : Int32} (D : gw_D (40 + 4 * K) q) (hx : 0 ≤ x.toInt ∧ x.toInt < (30 : Nat)) (h9 : ∀ e9 : Nat → Nat → Int32, e9 = va_up e 37 (upd (e 37) x.toInt.toNat y) → pm_wp l g ro d mc ms Ret J fin r L st (cw A0 g K nn dn q w e9 v f) c s) : pm_wp l g ro d mc ms Ret J fin ((.iastore, t, i, k, z) :: r) L (.int y :: .int x :: .ref (q 37) :: st) (cw A0 g K nn dn q w e v f) c s := ⟨_, _, cw_a37 D, hx, by
  have h8 := h9 _ rfl
  rw [← cw_s37 D] at h8
  exact h8⟩
theorem qlc_38 {x : Int32} (D : gw_D (40 + 4 * K) q) (hx : 0 ≤ x.toInt ∧ x.toInt < (30 : Nat)) (h9 : pm_wp l g ro d mc ms Ret J fin r L (.int (e 38 x.toInt.toNat) :: st) (cw A0 g K nn dn q w e v f) c s) : pm_wp l g ro d mc ms Ret J fin ((.iaload, t, i, k, z) :: r) L (.int x :: .ref (q 38) :: st) (cw A0 g K nn dn q w e v f) c s := ⟨_, _, Or.inl (cw_a38 D), hx, h9⟩
theorem qsc_38 {x y : Int32} (D : gw_D (40 + 4 * K) q) (hx : 0 ≤ x.toInt ∧ x.toInt < (30 : Nat)) (h9 : ∀ e9 : Nat → Nat → Int32, e9 = va_up e 38 (upd (e 38) x.toInt.toNat y) → pm_wp l g ro d mc ms Ret J fin r L st (cw A0 g K nn dn q w e9 v f) c s) : pm_wp l g ro d mc ms Ret J fin ((.iastore, t, i, k, z) :: r) L (.int y :: .int x :: .ref (q 38) :: st) (cw A0 g K nn dn q w e v f) c s := ⟨_, _, cw_a38 D, hx, by
  have h8 := h9 _ rfl
  rw [← cw_s38 D] at h8
  exact h8⟩
theorem qlc_39 {x : Int32} (D : gw_D (40 + 4 * K) q) (hx : 0 ≤ x.toInt ∧ x.toInt < (30 : Nat)) (h9 : pm_wp l g ro d mc ms Ret J fin r L (.int (e 39 x.toInt.toNat) :: st) (cw A0 g K nn dn q w e v f) c s) : pm_wp l g ro d mc ms Ret J fin ((.iaload, t, i, k, z) :: r) L (.int x :: .ref (q 39) :: st) (cw A0 g K nn dn q w e v f) c s := ⟨_, _, Or.inl (cw_a39 D), hx, h9⟩
theorem qsc_39 {x y : Int32} (D : gw_D (40 + 4 * K) q) (hx : 0 ≤ x.toInt ∧ x.toInt < (30 : Nat)) (h9 : ∀ e9 : Nat → Nat → Int32, e9 = va_up e 39 (upd (e 39) x.toInt.toNat y) → pm_wp l g ro d mc ms Ret J fin r L st (cw A0 g K nn dn q w e9 v f) c s) : pm_wp l g ro d mc ms Ret J fin ((.iastore, t, i, k, z) :: r) L (.int y :: .int x :: .ref (q 39) :: st) (cw A0 g K nn dn q w e v f) c s := ⟨_, _, cw_a39 D, hx, by
  have h8 := h9 _ rfl
  rw [← cw_s39 D] at h8
  exact h8⟩
theorem qlc_r1 {x : Int32} {o : Nat} (D : gw_D (40 + 4 * K) q) (ho : cw_ro K o) (hx : 0 ≤ x.toInt ∧ x.toInt < (160 : Nat)) (h9 : pm_wp l g ro d mc ms Ret J fin r L (.int (e (o + 1) x.toInt.toNat) :: st) (cw A0 g K nn dn q w e v f) c s) : pm_wp l g ro d mc ms Ret J fin ((.iaload, t, i, k, z) :: r) L (.int x :: .ref (q (o + 1)) :: st) (cw A0 g K nn dn q w e v f) c s := ⟨_, _, Or.inl (cw_ro_1 D ho), hx, h9⟩
theorem qlc_r2 {x : Int32} {o : Nat} (D : gw_D (40 + 4 * K) q) (ho : cw_ro K o) (hx : 0 ≤ x.toInt ∧ x.toInt < (160 : Nat)) (h9 : pm_wp l g ro d mc ms Ret J fin r L (.int (e (o + 2) x.toInt.toNat) :: st) (cw A0 g K nn dn q w e v f) c s) : pm_wp l g ro d mc ms Ret J fin ((.iaload, t, i, k, z) :: r) L (.int x :: .ref (q (o + 2)) :: st) (cw A0 g K nn dn q w e v f) c s := ⟨_, _, Or.inl (cw_ro_2 D ho), hx, h9⟩
theorem qlc_w {x : Int32} {j : Nat} (D : gw_D (40 + 4 * K) q) (hj : j < 9) (hx : 0 ≤ x.toInt ∧ x.toInt < (161 : Nat)) (h9 : pm_wp l g ro d mc ms Ret J fin r L (.int (f (26 + j) x.toInt.toNat) :: st) (cw A0 g K nn dn q w e v f) c s) : pm_wp l g ro d mc ms Ret J fin ((.iaload, t, i, k, z) :: r) L (.int x :: .ref (q (26 + j)) :: st) (cw A0 g K nn dn q w e v f) c s := ⟨_, _, Or.inl (cw_wr D hj), hx, h9⟩
theorem qsc_w {x y : Int32} {j : Nat} (D : gw_D (40 + 4 * K) q) (hj : j < 9) (hx : 0 ≤ x.toInt ∧ x.toInt < (161 : Nat)) (h9 : ∀ f9 : Nat → Nat → Int32, f9 = va_up f (26 + j) (upd (f (26 + j)) x.toInt.toNat y) → pm_wp l g ro d mc ms Ret J fin r L st (cw A0 g K nn dn q w e v f9) c s) : pm_wp l g ro d mc ms Ret J fin ((.iastore, t, i, k, z) :: r) L (.int y :: .int x :: .ref (q (26 + j)) :: st) (cw A0 g K nn dn q w e v f) c s := ⟨_, _, cw_wr D hj, hx, by
  have h8 := h9 _ rfl
  rw [← cw_swr D hj] at h8
  exact h8⟩
end

