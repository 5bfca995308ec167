
theorem d3_182 {A : ByteArray} {pc : Nat} {i : Nat} (h : f3_ 182 (fun x y => x * 256 + y == i) (A.data.toList.drop pc) = true) : decode A pc = .ok (.invokevirtual i, 3) := by
  obtain ⟨x, y, h1, h2, h3, h4⟩ := f3_ok h
  have e : x * 256 + y = i := eq_of_beq h4
  subst e
  exact dec_of ((rd_b h1).trans ((rd_b (rd_u2 h2 h3)).trans rfl))
theorem d3_183 {A : ByteArray} {pc : Nat} {i : Nat} (h : f3_ 183 (fun x y => x * 256 + y == i) (A.data.toList.drop pc) = true) : decode A pc = .ok (.invokespecial i, 3) := by
  obtain ⟨x, y, h1, h2, h3, h4⟩ := f3_ok h
  have e : x * 256 + y = i := eq_of_beq h4
  subst e
  exact dec_of ((rd_b h1).trans ((rd_b (rd_u2 h2 h3)).trans rfl))
theorem d3_184 {A : ByteArray} {pc : Nat} {i : Nat} (h : f3_ 184 (fun x y => x * 256 + y == i) (A.data.toList.drop pc) = true) : decode A pc = .ok (.invokestatic i, 3) := by
  obtain ⟨x, y, h1, h2, h3, h4⟩ := f3_ok h
  have e : x * 256 + y = i := eq_of_beq h4
  subst e
  exact dec_of ((rd_b h1).trans ((rd_b (rd_u2 h2 h3)).trans rfl))
theorem d3_187 {A : ByteArray} {pc : Nat} {i : Nat} (h : f3_ 187 (fun x y => x * 256 + y == i) (A.data.toList.drop pc) = true) : decode A pc = .ok (.new i, 3) := by
  obtain ⟨x, y, h1, h2, h3, h4⟩ := f3_ok h
  have e : x * 256 + y = i := eq_of_beq h4
  subst e
  exact dec_of ((rd_b h1).trans ((rd_b (rd_u2 h2 h3)).trans rfl))
theorem d3_167 {A : ByteArray} {pc : Nat} {z : Int} (h : f3_ 167 (fun x y => decide (Reader.signed 16 (x * 256 + y) = z)) (A.data.toList.drop pc) = true) : decode A pc = .ok (.goto z, 3) := by
  obtain ⟨x, y, h1, h2, h3, h4⟩ := f3_ok h
  have e := of_decide_eq_true h4
  subst e
  exact dec_of ((rd_b h1).trans ((rd_b (rd_s2 h2 h3)).trans rfl))
theorem d3_198 {A : ByteArray} {pc : Nat} {z : Int} (h : f3_ 198 (fun x y => decide (Reader.signed 16 (x * 256 + y) = z)) (A.data.toList.drop pc) = true) : decode A pc = .ok (.ifnull z, 3) := by
  obtain ⟨x, y, h1, h2, h3, h4⟩ := f3_ok h
  have e := of_decide_eq_true h4
  subst e
  exact dec_of ((rd_b h1).trans ((rd_b (rd_s2 h2 h3)).trans rfl))
theorem d3_199 {A : ByteArray} {pc : Nat} {z : Int} (h : f3_ 199 (fun x y => decide (Reader.signed 16 (x * 256 + y) = z)) (A.data.toList.drop pc) = true) : decode A pc = .ok (.ifnonnull z, 3) := by
  obtain ⟨x, y, h1, h2, h3, h4⟩ := f3_ok h
  have e := of_decide_eq_true h4
  subst e
  exact dec_of ((rd_b h1).trans ((rd_b (rd_s2 h2 h3)).trans rfl))
theorem d3_17 {A : ByteArray} {pc : Nat} {z : Int} (h : f3_ 17 (fun x y => decide (Reader.signed 16 (x * 256 + y) = z)) (A.data.toList.drop pc) = true) : decode A pc = .ok (.sipush z, 3) := by
  obtain ⟨x, y, h1, h2, h3, h4⟩ := f3_ok h
  have e := of_decide_eq_true h4
  subst e
  exact dec_of ((rd_b h1).trans ((rd_b (rd_s2 h2 h3)).trans rfl))
theorem d3_153 {A : ByteArray} {pc : Nat} {z : Int} (h : f3_ 153 (fun x y => decide (Reader.signed 16 (x * 256 + y) = z)) (A.data.toList.drop pc) = true) : decode A pc = .ok (.ifCond .eq z, 3) := by
  obtain ⟨x, y, h1, h2, h3, h4⟩ := f3_ok h
  have e := of_decide_eq_true h4
  subst e
  exact dec_of ((rd_b h1).trans ((rd_b (rd_s2 h2 h3)).trans rfl))
theorem d3_154 {A : ByteArray} {pc : Nat} {z : Int} (h : f3_ 154 (fun x y => decide (Reader.signed 16 (x * 256 + y) = z)) (A.data.toList.drop pc) = true) : decode A pc = .ok (.ifCond .ne z, 3) := by
  obtain ⟨x, y, h1, h2, h3, h4⟩ := f3_ok h
  have e := of_decide_eq_true h4
  subst e
  exact dec_of ((rd_b h1).trans ((rd_b (rd_s2 h2 h3)).trans rfl))
theorem d3_155 {A : ByteArray} {pc : Nat} {z : Int} (h : f3_ 155 (fun x y => decide (Reader.signed 16 (x * 256 + y) = z)) (A.data.toList.drop pc) = true) : decode A pc = .ok (.ifCond .lt z, 3) := by
  obtain ⟨x, y, h1, h2, h3, h4⟩ := f3_ok h
  have e := of_decide_eq_true h4
  subst e
  exact dec_of ((rd_b h1).trans ((rd_b (rd_s2 h2 h3)).trans rfl))
theorem d3_156 {A : ByteArray} {pc : Nat} {z : Int} (h : f3_ 156 (fun x y => decide (Reader.signed 16 (x * 256 + y) = z)) (A.data.toList.drop pc) = true) : decode A pc = .ok (.ifCond .ge z, 3) := by
  obtain ⟨x, y, h1, h2, h3, h4⟩ := f3_ok h
  have e := of_decide_eq_true h4
  subst e
  exact dec_of ((rd_b h1).trans ((rd_b (rd_s2 h2 h3)).trans rfl))
theorem d3_157 {A : ByteArray} {pc : Nat} {z : Int} (h : f3_ 157 (fun x y => decide (Reader.signed 16 (x * 256 + y) = z)) (A.data.toList.drop pc) = true) : decode A pc = .ok (.ifCond .gt z, 3) := by
  obtain ⟨x, y, h1, h2, h3, h4⟩ := f3_ok h
  have e := of_decide_eq_true h4
  subst e
  exact dec_of ((rd_b h1).trans ((rd_b (rd_s2 h2 h3)).trans rfl))
theorem d3_158 {A : ByteArray} {pc : Nat} {z : Int} (h : f3_ 158 (fun x y => decide (Reader.signed 16 (x * 256 + y) = z)) (A.data.toList.drop pc) = true) : decode A pc = .ok (.ifCond .le z, 3) := by
  obtain ⟨x, y, h1, h2, h3, h4⟩ := f3_ok h
  have e := of_decide_eq_true h4
  subst e
  exact dec_of ((rd_b h1).trans ((rd_b (rd_s2 h2 h3)).trans rfl))
theorem d3_159 {A : ByteArray} {pc : Nat} {z : Int} (h : f3_ 159 (fun x y => decide (Reader.signed 16 (x * 256 + y) = z)) (A.data.toList.drop pc) = true) : decode A pc = .ok (.if_icmp .eq z, 3) := by
  obtain ⟨x, y, h1, h2, h3, h4⟩ := f3_ok h
  have e := of_decide_eq_true h4
  subst e
  exact dec_of ((rd_b h1).trans ((rd_b (rd_s2 h2 h3)).trans rfl))
theorem d3_160 {A : ByteArray} {pc : Nat} {z : Int} (h : f3_ 160 (fun x y => decide (Reader.signed 16 (x * 256 + y) = z)) (A.data.toList.drop pc) = true) : decode A pc = .ok (.if_icmp .ne z, 3) := by
  obtain ⟨x, y, h1, h2, h3, h4⟩ := f3_ok h
  have e := of_decide_eq_true h4
  subst e
  exact dec_of ((rd_b h1).trans ((rd_b (rd_s2 h2 h3)).trans rfl))
theorem d3_161 {A : ByteArray} {pc : Nat} {z : Int} (h : f3_ 161 (fun x y => decide (Reader.signed 16 (x * 256 + y) = z)) (A.data.toList.drop pc) = true) : decode A pc = .ok (.if_icmp .lt z, 3) := by
  obtain ⟨x, y, h1, h2, h3, h4⟩ := f3_ok h
  have e := of_decide_eq_true h4
  subst e
  exact dec_of ((rd_b h1).trans ((rd_b (rd_s2 h2 h3)).trans rfl))
theorem d3_162 {A : ByteArray} {pc : Nat} {z : Int} (h : f3_ 162 (fun x y => decide (Reader.signed 16 (x * 256 + y) = z)) (A.data.toList.drop pc) = true) : decode A pc = .ok (.if_icmp .ge z, 3) := by
  obtain ⟨x, y, h1, h2, h3, h4⟩ := f3_ok h
  have e := of_decide_eq_true h4
  subst e
  exact dec_of ((rd_b h1).trans ((rd_b (rd_s2 h2 h3)).trans rfl))
theorem d3_163 {A : ByteArray} {pc : Nat} {z : Int} (h : f3_ 163 (fun x y => decide (Reader.signed 16 (x * 256 + y) = z)) (A.data.toList.drop pc) = true) : decode A pc = .ok (.if_icmp .gt z, 3) := by
  obtain ⟨x, y, h1, h2, h3, h4⟩ := f3_ok h
  have e := of_decide_eq_true h4
  subst e
  exact dec_of ((rd_b h1).trans ((rd_b (rd_s2 h2 h3)).trans rfl))
theorem d3_164 {A : ByteArray} {pc : Nat} {z : Int} (h : f3_ 164 (fun x y => decide (Reader.signed 16 (x * 256 + y) = z)) (A.data.toList.drop pc) = true) : decode A pc = .ok (.if_icmp .le z, 3) := by
  obtain ⟨x, y, h1, h2, h3, h4⟩ := f3_ok h
  have e := of_decide_eq_true h4
  subst e
  exact dec_of ((rd_b h1).trans ((rd_b (rd_s2 h2 h3)).trans rfl))
