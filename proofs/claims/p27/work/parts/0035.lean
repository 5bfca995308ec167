
theorem d1_61 {A : ByteArray} {pc : Nat} (h : f1_ 61 (A.data.toList.drop pc) = true) : decode A pc = .ok (.istore_n 2, 1) := dec_of ((rd_b (f1_ok h)).trans rfl)
theorem d1_62 {A : ByteArray} {pc : Nat} (h : f1_ 62 (A.data.toList.drop pc) = true) : decode A pc = .ok (.istore_n 3, 1) := dec_of ((rd_b (f1_ok h)).trans rfl)
theorem d1_75 {A : ByteArray} {pc : Nat} (h : f1_ 75 (A.data.toList.drop pc) = true) : decode A pc = .ok (.astore_n 0, 1) := dec_of ((rd_b (f1_ok h)).trans rfl)
theorem d1_76 {A : ByteArray} {pc : Nat} (h : f1_ 76 (A.data.toList.drop pc) = true) : decode A pc = .ok (.astore_n 1, 1) := dec_of ((rd_b (f1_ok h)).trans rfl)
theorem d1_77 {A : ByteArray} {pc : Nat} (h : f1_ 77 (A.data.toList.drop pc) = true) : decode A pc = .ok (.astore_n 2, 1) := dec_of ((rd_b (f1_ok h)).trans rfl)
theorem d1_78 {A : ByteArray} {pc : Nat} (h : f1_ 78 (A.data.toList.drop pc) = true) : decode A pc = .ok (.astore_n 3, 1) := dec_of ((rd_b (f1_ok h)).trans rfl)
theorem d1_79 {A : ByteArray} {pc : Nat} (h : f1_ 79 (A.data.toList.drop pc) = true) : decode A pc = .ok (.iastore, 1) := dec_of ((rd_b (f1_ok h)).trans rfl)
theorem d1_83 {A : ByteArray} {pc : Nat} (h : f1_ 83 (A.data.toList.drop pc) = true) : decode A pc = .ok (.aastore, 1) := dec_of ((rd_b (f1_ok h)).trans rfl)
theorem d1_87 {A : ByteArray} {pc : Nat} (h : f1_ 87 (A.data.toList.drop pc) = true) : decode A pc = .ok (.pop, 1) := dec_of ((rd_b (f1_ok h)).trans rfl)
theorem d1_88 {A : ByteArray} {pc : Nat} (h : f1_ 88 (A.data.toList.drop pc) = true) : decode A pc = .ok (.pop2, 1) := dec_of ((rd_b (f1_ok h)).trans rfl)
theorem d1_89 {A : ByteArray} {pc : Nat} (h : f1_ 89 (A.data.toList.drop pc) = true) : decode A pc = .ok (.dup, 1) := dec_of ((rd_b (f1_ok h)).trans rfl)
theorem d1_92 {A : ByteArray} {pc : Nat} (h : f1_ 92 (A.data.toList.drop pc) = true) : decode A pc = .ok (.dup2, 1) := dec_of ((rd_b (f1_ok h)).trans rfl)
theorem d1_96 {A : ByteArray} {pc : Nat} (h : f1_ 96 (A.data.toList.drop pc) = true) : decode A pc = .ok (.iadd, 1) := dec_of ((rd_b (f1_ok h)).trans rfl)
theorem d1_100 {A : ByteArray} {pc : Nat} (h : f1_ 100 (A.data.toList.drop pc) = true) : decode A pc = .ok (.isub, 1) := dec_of ((rd_b (f1_ok h)).trans rfl)
theorem d1_104 {A : ByteArray} {pc : Nat} (h : f1_ 104 (A.data.toList.drop pc) = true) : decode A pc = .ok (.imul, 1) := dec_of ((rd_b (f1_ok h)).trans rfl)
theorem d1_108 {A : ByteArray} {pc : Nat} (h : f1_ 108 (A.data.toList.drop pc) = true) : decode A pc = .ok (.idiv, 1) := dec_of ((rd_b (f1_ok h)).trans rfl)
theorem d1_112 {A : ByteArray} {pc : Nat} (h : f1_ 112 (A.data.toList.drop pc) = true) : decode A pc = .ok (.irem, 1) := dec_of ((rd_b (f1_ok h)).trans rfl)
theorem d1_116 {A : ByteArray} {pc : Nat} (h : f1_ 116 (A.data.toList.drop pc) = true) : decode A pc = .ok (.ineg, 1) := dec_of ((rd_b (f1_ok h)).trans rfl)
theorem d1_120 {A : ByteArray} {pc : Nat} (h : f1_ 120 (A.data.toList.drop pc) = true) : decode A pc = .ok (.ishl, 1) := dec_of ((rd_b (f1_ok h)).trans rfl)
theorem d1_122 {A : ByteArray} {pc : Nat} (h : f1_ 122 (A.data.toList.drop pc) = true) : decode A pc = .ok (.ishr, 1) := dec_of ((rd_b (f1_ok h)).trans rfl)
theorem d1_124 {A : ByteArray} {pc : Nat} (h : f1_ 124 (A.data.toList.drop pc) = true) : decode A pc = .ok (.iushr, 1) := dec_of ((rd_b (f1_ok h)).trans rfl)
theorem d1_126 {A : ByteArray} {pc : Nat} (h : f1_ 126 (A.data.toList.drop pc) = true) : decode A pc = .ok (.iand, 1) := dec_of ((rd_b (f1_ok h)).trans rfl)
theorem d1_128 {A : ByteArray} {pc : Nat} (h : f1_ 128 (A.data.toList.drop pc) = true) : decode A pc = .ok (.ior, 1) := dec_of ((rd_b (f1_ok h)).trans rfl)
theorem d1_130 {A : ByteArray} {pc : Nat} (h : f1_ 130 (A.data.toList.drop pc) = true) : decode A pc = .ok (.ixor, 1) := dec_of ((rd_b (f1_ok h)).trans rfl)
theorem d1_133 {A : ByteArray} {pc : Nat} (h : f1_ 133 (A.data.toList.drop pc) = true) : decode A pc = .ok (.i2l, 1) := dec_of ((rd_b (f1_ok h)).trans rfl)
theorem d1_148 {A : ByteArray} {pc : Nat} (h : f1_ 148 (A.data.toList.drop pc) = true) : decode A pc = .ok (.lcmp, 1) := dec_of ((rd_b (f1_ok h)).trans rfl)
theorem d1_172 {A : ByteArray} {pc : Nat} (h : f1_ 172 (A.data.toList.drop pc) = true) : decode A pc = .ok (.ireturn, 1) := dec_of ((rd_b (f1_ok h)).trans rfl)
theorem d1_173 {A : ByteArray} {pc : Nat} (h : f1_ 173 (A.data.toList.drop pc) = true) : decode A pc = .ok (.lreturn, 1) := dec_of ((rd_b (f1_ok h)).trans rfl)
theorem d1_176 {A : ByteArray} {pc : Nat} (h : f1_ 176 (A.data.toList.drop pc) = true) : decode A pc = .ok (.areturn, 1) := dec_of ((rd_b (f1_ok h)).trans rfl)
theorem d1_177 {A : ByteArray} {pc : Nat} (h : f1_ 177 (A.data.toList.drop pc) = true) : decode A pc = .ok (.return_, 1) := dec_of ((rd_b (f1_ok h)).trans rfl)
theorem d1_190 {A : ByteArray} {pc : Nat} (h : f1_ 190 (A.data.toList.drop pc) = true) : decode A pc = .ok (.arraylength, 1) := dec_of ((rd_b (f1_ok h)).trans rfl)
theorem d2_21 {A : ByteArray} {pc : Nat} {i : Nat} (h : f2_ 21 (fun x => x == i) (A.data.toList.drop pc) = true) : decode A pc = .ok (.iload i, 2) := by
  obtain ⟨x, h1, h2, h3⟩ := f2_ok h
  have e : x = i := eq_of_beq h3
  subst e
  exact dec_of ((rd_b h1).trans ((rd_b h2).trans rfl))
theorem d2_25 {A : ByteArray} {pc : Nat} {i : Nat} (h : f2_ 25 (fun x => x == i) (A.data.toList.drop pc) = true) : decode A pc = .ok (.aload i, 2) := by
  obtain ⟨x, h1, h2, h3⟩ := f2_ok h
  have e : x = i := eq_of_beq h3
  subst e
  exact dec_of ((rd_b h1).trans ((rd_b h2).trans rfl))
theorem d2_54 {A : ByteArray} {pc : Nat} {i : Nat} (h : f2_ 54 (fun x => x == i) (A.data.toList.drop pc) = true) : decode A pc = .ok (.istore i, 2) := by
  obtain ⟨x, h1, h2, h3⟩ := f2_ok h
  have e : x = i := eq_of_beq h3
  subst e
  exact dec_of ((rd_b h1).trans ((rd_b h2).trans rfl))
theorem d2_58 {A : ByteArray} {pc : Nat} {i : Nat} (h : f2_ 58 (fun x => x == i) (A.data.toList.drop pc) = true) : decode A pc = .ok (.astore i, 2) := by
  obtain ⟨x, h1, h2, h3⟩ := f2_ok h
  have e : x = i := eq_of_beq h3
  subst e
  exact dec_of ((rd_b h1).trans ((rd_b h2).trans rfl))
theorem d2_18 {A : ByteArray} {pc : Nat} {i : Nat} (h : f2_ 18 (fun x => x == i) (A.data.toList.drop pc) = true) : decode A pc = .ok (.ldc i, 2) := by
  obtain ⟨x, h1, h2, h3⟩ := f2_ok h
  have e : x = i := eq_of_beq h3
  subst e
  exact dec_of ((rd_b h1).trans ((rd_b h2).trans rfl))
theorem d2_16 {A : ByteArray} {pc : Nat} {z : Int} (h : f2_ 16 (fun x => decide (Reader.signed 8 x = z)) (A.data.toList.drop pc) = true) : decode A pc = .ok (.bipush z, 2) := by
  obtain ⟨x, h1, h2, h3⟩ := f2_ok h
  have e := of_decide_eq_true h3
  subst e
  exact dec_of ((rd_b h1).trans ((rd_b (rd_s1 h2)).trans rfl))
theorem d3_132 {A : ByteArray} {pc : Nat} {i : Nat} {z : Int} (h : f3_ 132 (fun x y => x == i && decide (Reader.signed 8 y = z)) (A.data.toList.drop pc) = true) : decode A pc = .ok (.iinc i z, 3) := by
  obtain ⟨x, y, h1, h2, h3, h4⟩ := f3_ok h
  have h5 := Bool.and_eq_true_iff.mp h4
  have e : x = i := eq_of_beq h5.1
  have e2 := of_decide_eq_true h5.2
  subst e e2
  exact dec_of ((rd_b h1).trans ((rd_b h2).trans ((rd_b (rd_s1 h3)).trans rfl)))
theorem d3_180 {A : ByteArray} {pc : Nat} {i : Nat} (h : f3_ 180 (fun x y => x * 256 + y == i) (A.data.toList.drop pc) = true) : decode A pc = .ok (.getfield i, 3) := by
  obtain ⟨x, y, h1, h2, h3, h4⟩ := f3_ok h
  have e : x * 256 + y = i := eq_of_beq h4
  subst e
  exact dec_of ((rd_b h1).trans ((rd_b (rd_u2 h2 h3)).trans rfl))
theorem d3_181 {A : ByteArray} {pc : Nat} {i : Nat} (h : f3_ 181 (fun x y => x * 256 + y == i) (A.data.toList.drop pc) = true) : decode A pc = .ok (.putfield i, 3) := by
  obtain ⟨x, y, h1, h2, h3, h4⟩ := f3_ok h
  have e : x * 256 + y = i := eq_of_beq h4
  subst e
  exact dec_of ((rd_b h1).trans ((rd_b (rd_u2 h2 h3)).trans rfl))
