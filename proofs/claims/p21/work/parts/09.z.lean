/-! blocks checked byte by byte: a byte or three of the code tell the instruction -/
def f1_ (n : Nat) (bs : List UInt8) : Bool := match bs with
  | b :: _ => b.toNat == n
  | [] => false
def f2_ (n : Nat) (g : Nat → Bool) (bs : List UInt8) : Bool := match bs with
  | b :: x :: _ => b.toNat == n && g x.toNat
  | _ => false
def f3_ (n : Nat) (g : Nat → Nat → Bool) (bs : List UInt8) : Bool := match bs with
  | b :: x :: y :: _ => b.toNat == n && g x.toNat y.toNat
  | _ => false
theorem rd_b {α β : Type} {r : Decoder α} {f : α → Decoder β} {A : ByteArray} {p p2 : Nat} {a : α} (h : r.runAt A p = .ok (a, p2)) : (r >>= f).runAt A p = (f a).runAt A p2 := by
  have h2 : r A p = .ok (a, p2) := h
  show Except.bind (r A p) _ = _
  rw [h2]
  rfl
theorem rd_m {α β : Type} {r : Decoder α} {f : α → β} {A : ByteArray} {p p2 : Nat} {a : α} (h : r.runAt A p = .ok (a, p2)) : ((f <$> r : Decoder β)).runAt A p = .ok (f a, p2) := by
  have h2 : r A p = .ok (a, p2) := h
  show Except.bind (r A p) _ = _
  rw [h2]
  rfl
theorem rd_1 {A : ByteArray} {p : Nat} {b : UInt8} {t : List UInt8} (h : A.data.toList.drop p = b :: t) : (Reader.u1 : Decoder Nat).runAt A p = .ok (b.toNat, p + 1) := by
  have h1 : p < A.data.toList.length := by
    by_cases q : p < A.data.toList.length
    · exact q
    · rw [List.drop_eq_nil_of_le (by omega)] at h
      exact absurd h (by simp)
  have h2 : p < A.size := by
    have : A.data.toList.length = A.size := rfl
    omega
  have h3 : A[p] = b := by
    have h4 := List.drop_eq_getElem_cons h1
    rw [h] at h4
    have h5 : b = A.data.toList[p] := (List.cons.inj h4).1
    rw [h5]
    rfl
  have e : (Reader.u1 : Decoder Nat) A p = (dite (p < A.size) (fun h => ((do set (p + 1); pure (A[p]'h).toNat) : Decoder Nat)) (fun _ => throw (HasTruncated.truncated p))) A p := rfl
  show (Reader.u1 : Decoder Nat) A p = _
  rw [e, dif_pos h2]
  show Except.ok ((A[p]'h2).toNat, p + 1) = _
  rw [h3]
theorem rd_n {A : ByteArray} {p : Nat} {b : UInt8} {t : List UInt8} (h : A.data.toList.drop p = b :: t) : A.data.toList.drop (p + 1) = t := by
  rw [← List.drop_drop, h]
  rfl
theorem f1_ok {A : ByteArray} {p n : Nat} (h : f1_ n (A.data.toList.drop p) = true) : (Reader.u1 : Decoder Nat).runAt A p = .ok (n, p + 1) := by
  cases e : A.data.toList.drop p with
  | nil => rw [e] at h; exact absurd (show false = true from h) (by decide)
  | cons b t =>
    rw [e] at h
    have h1 : b.toNat = n := eq_of_beq h
    rw [← h1]
    exact rd_1 e
theorem f2_ok {A : ByteArray} {p n : Nat} {g : Nat → Bool} (h : f2_ n g (A.data.toList.drop p) = true) : ∃ x : Nat, (Reader.u1 : Decoder Nat).runAt A p = .ok (n, p + 1) ∧ (Reader.u1 : Decoder Nat).runAt A (p + 1) = .ok (x, p + 2) ∧ g x = true := by
  rcases e : A.data.toList.drop p with _ | ⟨b, _ | ⟨x, t⟩⟩
  · rw [e] at h; exact absurd (show false = true from h) (by decide)
  · rw [e] at h; exact absurd (show false = true from h) (by decide)
  · rw [e] at h
    have h1 := Bool.and_eq_true_iff.mp h
    have h2 : b.toNat = n := eq_of_beq h1.1
    refine ⟨x.toNat, ?_, rd_1 (rd_n e), h1.2⟩
    rw [← h2]
    exact rd_1 e
theorem f3_ok {A : ByteArray} {p n : Nat} {g : Nat → Nat → Bool} (h : f3_ n g (A.data.toList.drop p) = true) : ∃ x y : Nat, (Reader.u1 : Decoder Nat).runAt A p = .ok (n, p + 1) ∧ (Reader.u1 : Decoder Nat).runAt A (p + 1) = .ok (x, p + 2) ∧ (Reader.u1 : Decoder Nat).runAt A (p + 2) = .ok (y, p + 3) ∧ g x y = true := by
  rcases e : A.data.toList.drop p with _ | ⟨b, _ | ⟨x, _ | ⟨y, t⟩⟩⟩
  · rw [e] at h; exact absurd (show false = true from h) (by decide)
  · rw [e] at h; exact absurd (show false = true from h) (by decide)
  · rw [e] at h; exact absurd (show false = true from h) (by decide)
  · rw [e] at h
    have h1 := Bool.and_eq_true_iff.mp h
    have h2 : b.toNat = n := eq_of_beq h1.1
    refine ⟨x.toNat, y.toNat, ?_, rd_1 (rd_n e), rd_1 (rd_n (rd_n e)), h1.2⟩
    rw [← h2]
    exact rd_1 e
theorem rd_u2 {A : ByteArray} {p x y : Nat} (h1 : (Reader.u1 : Decoder Nat).runAt A p = .ok (x, p + 1)) (h2 : (Reader.u1 : Decoder Nat).runAt A (p + 1) = .ok (y, p + 2)) : (Reader.u2 : Decoder Nat).runAt A p = .ok (x * 256 + y, p + 2) := (rd_b h1).trans ((rd_b h2).trans rfl)
theorem rd_s2 {A : ByteArray} {p x y : Nat} (h1 : (Reader.u1 : Decoder Nat).runAt A p = .ok (x, p + 1)) (h2 : (Reader.u1 : Decoder Nat).runAt A (p + 1) = .ok (y, p + 2)) : (Reader.s2 : Decoder Int).runAt A p = .ok (Reader.signed 16 (x * 256 + y), p + 2) := rd_m (rd_u2 h1 h2)
theorem rd_s1 {A : ByteArray} {p x : Nat} (h1 : (Reader.u1 : Decoder Nat).runAt A p = .ok (x, p + 1)) : (Reader.s1 : Decoder Int).runAt A p = .ok (Reader.signed 8 x, p + 1) := rd_m h1
theorem dec_of {A : ByteArray} {pc n : Nat} {ins : Instr} (h : (Decoder.instr pc).runAt A pc = .ok (ins, pc + n)) : decode A pc = .ok (ins, n) := by
  unfold decode
  rw [h]
  show Except.ok (ins, pc + n - pc) = _
  rw [Nat.add_sub_cancel_left]
theorem d1_1 {A : ByteArray} {pc : Nat} (h : f1_ 1 (A.data.toList.drop pc) = true) : decode A pc = .ok (.aconst_null, 1) := dec_of ((rd_b (f1_ok h)).trans rfl)
theorem d1_2 {A : ByteArray} {pc : Nat} (h : f1_ 2 (A.data.toList.drop pc) = true) : decode A pc = .ok (.iconst (-1), 1) := dec_of ((rd_b (f1_ok h)).trans rfl)
theorem d1_3 {A : ByteArray} {pc : Nat} (h : f1_ 3 (A.data.toList.drop pc) = true) : decode A pc = .ok (.iconst (0), 1) := dec_of ((rd_b (f1_ok h)).trans rfl)
theorem d1_4 {A : ByteArray} {pc : Nat} (h : f1_ 4 (A.data.toList.drop pc) = true) : decode A pc = .ok (.iconst (1), 1) := dec_of ((rd_b (f1_ok h)).trans rfl)
theorem d1_5 {A : ByteArray} {pc : Nat} (h : f1_ 5 (A.data.toList.drop pc) = true) : decode A pc = .ok (.iconst (2), 1) := dec_of ((rd_b (f1_ok h)).trans rfl)
theorem d1_6 {A : ByteArray} {pc : Nat} (h : f1_ 6 (A.data.toList.drop pc) = true) : decode A pc = .ok (.iconst (3), 1) := dec_of ((rd_b (f1_ok h)).trans rfl)
theorem d1_7 {A : ByteArray} {pc : Nat} (h : f1_ 7 (A.data.toList.drop pc) = true) : decode A pc = .ok (.iconst (4), 1) := dec_of ((rd_b (f1_ok h)).trans rfl)
theorem d1_8 {A : ByteArray} {pc : Nat} (h : f1_ 8 (A.data.toList.drop pc) = true) : decode A pc = .ok (.iconst (5), 1) := dec_of ((rd_b (f1_ok h)).trans rfl)
theorem d1_26 {A : ByteArray} {pc : Nat} (h : f1_ 26 (A.data.toList.drop pc) = true) : decode A pc = .ok (.iload_n 0, 1) := dec_of ((rd_b (f1_ok h)).trans rfl)
theorem d1_27 {A : ByteArray} {pc : Nat} (h : f1_ 27 (A.data.toList.drop pc) = true) : decode A pc = .ok (.iload_n 1, 1) := dec_of ((rd_b (f1_ok h)).trans rfl)
theorem d1_28 {A : ByteArray} {pc : Nat} (h : f1_ 28 (A.data.toList.drop pc) = true) : decode A pc = .ok (.iload_n 2, 1) := dec_of ((rd_b (f1_ok h)).trans rfl)
theorem d1_29 {A : ByteArray} {pc : Nat} (h : f1_ 29 (A.data.toList.drop pc) = true) : decode A pc = .ok (.iload_n 3, 1) := dec_of ((rd_b (f1_ok h)).trans rfl)
theorem d1_42 {A : ByteArray} {pc : Nat} (h : f1_ 42 (A.data.toList.drop pc) = true) : decode A pc = .ok (.aload_n 0, 1) := dec_of ((rd_b (f1_ok h)).trans rfl)
theorem d1_43 {A : ByteArray} {pc : Nat} (h : f1_ 43 (A.data.toList.drop pc) = true) : decode A pc = .ok (.aload_n 1, 1) := dec_of ((rd_b (f1_ok h)).trans rfl)
theorem d1_44 {A : ByteArray} {pc : Nat} (h : f1_ 44 (A.data.toList.drop pc) = true) : decode A pc = .ok (.aload_n 2, 1) := dec_of ((rd_b (f1_ok h)).trans rfl)
theorem d1_45 {A : ByteArray} {pc : Nat} (h : f1_ 45 (A.data.toList.drop pc) = true) : decode A pc = .ok (.aload_n 3, 1) := dec_of ((rd_b (f1_ok h)).trans rfl)
theorem d1_46 {A : ByteArray} {pc : Nat} (h : f1_ 46 (A.data.toList.drop pc) = true) : decode A pc = .ok (.iaload, 1) := dec_of ((rd_b (f1_ok h)).trans rfl)
theorem d1_50 {A : ByteArray} {pc : Nat} (h : f1_ 50 (A.data.toList.drop pc) = true) : decode A pc = .ok (.aaload, 1) := dec_of ((rd_b (f1_ok h)).trans rfl)
theorem d1_59 {A : ByteArray} {pc : Nat} (h : f1_ 59 (A.data.toList.drop pc) = true) : decode A pc = .ok (.istore_n 0, 1) := dec_of ((rd_b (f1_ok h)).trans rfl)
theorem d1_60 {A : ByteArray} {pc : Nat} (h : f1_ 60 (A.data.toList.drop pc) = true) : decode A pc = .ok (.istore_n 1, 1) := dec_of ((rd_b (f1_ok h)).trans rfl)
theorem d1_61 {A : ByteArray} {pc : Nat} (h : f1_ 61 (A.data.toList.drop pc) = true) : decode A pc = .ok (.istore_n 2, 1) := dec_of ((rd_b (f1_ok h)).trans rfl)
theorem d1_62 {A : ByteArray} {pc : Nat} (h : f1_ 62 (A.data.toList.drop pc) = true) : decode A pc = .ok (.istore_n 3, 1) := dec_of ((rd_b (f1_ok h)).trans rfl)
theorem d1_75 {A : ByteArray} {pc : Nat} (h : f1_ 75 (A.data.toList.drop pc) = true) : decode A pc = .ok (.astore_n 0, 1) := dec_of ((rd_b (f1_ok h)).trans rfl)
theorem d1_76 {A : ByteArray} {pc : Nat} (h : f1_ 76 (A.data.toList.drop pc) = true) : decode A pc = .ok (.astore_n 1, 1) := dec_of ((rd_b (f1_ok h)).trans rfl)
theorem d1_77 {A : ByteArray} {pc : Nat} (h : f1_ 77 (A.data.toList.drop pc) = true) : decode A pc = .ok (.astore_n 2, 1) := dec_of ((rd_b (f1_ok h)).trans rfl)
theorem d1_78 {A : ByteArray} {pc : Nat} (h : f1_ 78 (A.data.toList.drop pc) = true) : decode A pc = .ok (.astore_n 3, 1) := dec_of ((rd_b (f1_ok h)).trans rfl)
theorem d1_79 {A : ByteArray} {pc : Nat} (h : f1_ 79 (A.data.toList.drop pc) = true) : decode A pc = .ok (.iastore, 1) := dec_of ((rd_b (f1_ok h)).trans rfl)
theorem d1_83 {A : ByteArray} {pc : Nat} (h : f1_ 83 (A.data.toList.drop pc) = true) : decode A pc = .ok (.aastore, 1) := dec_of ((rd_b (f1_ok h)).trans rfl)
theorem d1_87 {A : ByteArray} {pc : Nat} (h : f1_ 87 (A.data.toList.drop pc) = true) : decode A pc = .ok (.pop, 1) := dec_of ((rd_b (f1_ok h)).trans rfl)
theorem d1_88 {A : ByteArray} {pc : Nat} (h : f1_ 88 (A.data.toList.drop pc) = true) : decode A pc = .ok (.pop2, 1) := dec_of ((rd_b (f1_ok h)).trans rfl)
theorem d1_89 {A : ByteArray} {pc : Nat} (h : f1_ 89 (A.data.toList.drop pc) = true) : decode A pc = .ok (.dup, 1) := dec_of ((rd_b (f1_ok h)).trans rfl)
theorem d1_92 {A : ByteArray} {pc : Nat} (h : f1_ 92 (A.data.toList.drop pc) = true) : decode A pc = .ok (.dup2, 1) := dec_of ((rd_b (f1_ok h)).trans rfl)
theorem d1_96 {A : ByteArray} {pc : Nat} (h : f1_ 96 (A.data.toList.drop pc) = true) : decode A pc = .ok (.iadd, 1) := dec_of ((rd_b (f1_ok h)).trans rfl)
theorem d1_100 {A : ByteArray} {pc : Nat} (h : f1_ 100 (A.data.toList.drop pc) = true) : decode A pc = .ok (.isub, 1) := dec_of ((rd_b (f1_ok h)).trans rfl)
theorem d1_104 {A : ByteArray} {pc : Nat} (h : f1_ 104 (A.data.toList.drop pc) = true) : decode A pc = .ok (.imul, 1) := dec_of ((rd_b (f1_ok h)).trans rfl)
theorem d1_108 {A : ByteArray} {pc : Nat} (h : f1_ 108 (A.data.toList.drop pc) = true) : decode A pc = .ok (.idiv, 1) := dec_of ((rd_b (f1_ok h)).trans rfl)
theorem d1_112 {A : ByteArray} {pc : Nat} (h : f1_ 112 (A.data.toList.drop pc) = true) : decode A pc = .ok (.irem, 1) := dec_of ((rd_b (f1_ok h)).trans rfl)
theorem d1_116 {A : ByteArray} {pc : Nat} (h : f1_ 116 (A.data.toList.drop pc) = true) : decode A pc = .ok (.ineg, 1) := dec_of ((rd_b (f1_ok h)).trans rfl)
theorem d1_120 {A : ByteArray} {pc : Nat} (h : f1_ 120 (A.data.toList.drop pc) = true) : decode A pc = .ok (.ishl, 1) := dec_of ((rd_b (f1_ok h)).trans rfl)
theorem d1_122 {A : ByteArray} {pc : Nat} (h : f1_ 122 (A.data.toList.drop pc) = true) : decode A pc = .ok (.ishr, 1) := dec_of ((rd_b (f1_ok h)).trans rfl)
theorem d1_124 {A : ByteArray} {pc : Nat} (h : f1_ 124 (A.data.toList.drop pc) = true) : decode A pc = .ok (.iushr, 1) := dec_of ((rd_b (f1_ok h)).trans rfl)
theorem d1_126 {A : ByteArray} {pc : Nat} (h : f1_ 126 (A.data.toList.drop pc) = true) : decode A pc = .ok (.iand, 1) := dec_of ((rd_b (f1_ok h)).trans rfl)
theorem d1_128 {A : ByteArray} {pc : Nat} (h : f1_ 128 (A.data.toList.drop pc) = true) : decode A pc = .ok (.ior, 1) := dec_of ((rd_b (f1_ok h)).trans rfl)
theorem d1_130 {A : ByteArray} {pc : Nat} (h : f1_ 130 (A.data.toList.drop pc) = true) : decode A pc = .ok (.ixor, 1) := dec_of ((rd_b (f1_ok h)).trans rfl)
theorem d1_133 {A : ByteArray} {pc : Nat} (h : f1_ 133 (A.data.toList.drop pc) = true) : decode A pc = .ok (.i2l, 1) := dec_of ((rd_b (f1_ok h)).trans rfl)
theorem d1_148 {A : ByteArray} {pc : Nat} (h : f1_ 148 (A.data.toList.drop pc) = true) : decode A pc = .ok (.lcmp, 1) := dec_of ((rd_b (f1_ok h)).trans rfl)
theorem d1_172 {A : ByteArray} {pc : Nat} (h : f1_ 172 (A.data.toList.drop pc) = true) : decode A pc = .ok (.ireturn, 1) := dec_of ((rd_b (f1_ok h)).trans rfl)
theorem d1_173 {A : ByteArray} {pc : Nat} (h : f1_ 173 (A.data.toList.drop pc) = true) : decode A pc = .ok (.lreturn, 1) := dec_of ((rd_b (f1_ok h)).trans rfl)
theorem d1_176 {A : ByteArray} {pc : Nat} (h : f1_ 176 (A.data.toList.drop pc) = true) : decode A pc = .ok (.areturn, 1) := dec_of ((rd_b (f1_ok h)).trans rfl)
theorem d1_177 {A : ByteArray} {pc : Nat} (h : f1_ 177 (A.data.toList.drop pc) = true) : decode A pc = .ok (.return_, 1) := dec_of ((rd_b (f1_ok h)).trans rfl)
theorem d1_190 {A : ByteArray} {pc : Nat} (h : f1_ 190 (A.data.toList.drop pc) = true) : decode A pc = .ok (.arraylength, 1) := dec_of ((rd_b (f1_ok h)).trans rfl)
theorem d2_21 {A : ByteArray} {pc : Nat} {i : Nat} (h : f2_ 21 (fun x => x == i) (A.data.toList.drop pc) = true) : decode A pc = .ok (.iload i, 2) := by
  obtain ⟨x, h1, h2, h3⟩ := f2_ok h
  have e : x = i := eq_of_beq h3
  subst e
  exact dec_of ((rd_b h1).trans ((rd_b h2).trans rfl))
theorem d2_25 {A : ByteArray} {pc : Nat} {i : Nat} (h : f2_ 25 (fun x => x == i) (A.data.toList.drop pc) = true) : decode A pc = .ok (.aload i, 2) := by
  obtain ⟨x, h1, h2, h3⟩ := f2_ok h
  have e : x = i := eq_of_beq h3
  subst e
  exact dec_of ((rd_b h1).trans ((rd_b h2).trans rfl))
theorem d2_54 {A : ByteArray} {pc : Nat} {i : Nat} (h : f2_ 54 (fun x => x == i) (A.data.toList.drop pc) = true) : decode A pc = .ok (.istore i, 2) := by
  obtain ⟨x, h1, h2, h3⟩ := f2_ok h
  have e : x = i := eq_of_beq h3
  subst e
  exact dec_of ((rd_b h1).trans ((rd_b h2).trans rfl))
theorem d2_58 {A : ByteArray} {pc : Nat} {i : Nat} (h : f2_ 58 (fun x => x == i) (A.data.toList.drop pc) = true) : decode A pc = .ok (.astore i, 2) := by
  obtain ⟨x, h1, h2, h3⟩ := f2_ok h
  have e : x = i := eq_of_beq h3
  subst e
  exact dec_of ((rd_b h1).trans ((rd_b h2).trans rfl))
theorem d2_18 {A : ByteArray} {pc : Nat} {i : Nat} (h : f2_ 18 (fun x => x == i) (A.data.toList.drop pc) = true) : decode A pc = .ok (.ldc i, 2) := by
  obtain ⟨x, h1, h2, h3⟩ := f2_ok h
  have e : x = i := eq_of_beq h3
  subst e
  exact dec_of ((rd_b h1).trans ((rd_b h2).trans rfl))
theorem d2_16 {A : ByteArray} {pc : Nat} {z : Int} (h : f2_ 16 (fun x => decide (Reader.signed 8 x = z)) (A.data.toList.drop pc) = true) : decode A pc = .ok (.bipush z, 2) := by
  obtain ⟨x, h1, h2, h3⟩ := f2_ok h
  have e := of_decide_eq_true h3
  subst e
  exact dec_of ((rd_b h1).trans ((rd_b (rd_s1 h2)).trans rfl))
theorem d3_132 {A : ByteArray} {pc : Nat} {i : Nat} {z : Int} (h : f3_ 132 (fun x y => x == i && decide (Reader.signed 8 y = z)) (A.data.toList.drop pc) = true) : decode A pc = .ok (.iinc i z, 3) := by
  obtain ⟨x, y, h1, h2, h3, h4⟩ := f3_ok h
  have h5 := Bool.and_eq_true_iff.mp h4
  have e : x = i := eq_of_beq h5.1
  have e2 := of_decide_eq_true h5.2
  subst e e2
  exact dec_of ((rd_b h1).trans ((rd_b h2).trans ((rd_b (rd_s1 h3)).trans rfl)))
theorem d3_180 {A : ByteArray} {pc : Nat} {i : Nat} (h : f3_ 180 (fun x y => x * 256 + y == i) (A.data.toList.drop pc) = true) : decode A pc = .ok (.getfield i, 3) := by
  obtain ⟨x, y, h1, h2, h3, h4⟩ := f3_ok h
  have e : x * 256 + y = i := eq_of_beq h4
  subst e
  exact dec_of ((rd_b h1).trans ((rd_b (rd_u2 h2 h3)).trans rfl))
theorem d3_181 {A : ByteArray} {pc : Nat} {i : Nat} (h : f3_ 181 (fun x y => x * 256 + y == i) (A.data.toList.drop pc) = true) : decode A pc = .ok (.putfield i, 3) := by
  obtain ⟨x, y, h1, h2, h3, h4⟩ := f3_ok h
  have e : x * 256 + y = i := eq_of_beq h4
  subst e
  exact dec_of ((rd_b h1).trans ((rd_b (rd_u2 h2 h3)).trans rfl))
theorem d3_182 {A : ByteArray} {pc : Nat} {i : Nat} (h : f3_ 182 (fun x y => x * 256 + y == i) (A.data.toList.drop pc) = true) : decode A pc = .ok (.invokevirtual i, 3) := by
  obtain ⟨x, y, h1, h2, h3, h4⟩ := f3_ok h
  have e : x * 256 + y = i := eq_of_beq h4
  subst e
  exact dec_of ((rd_b h1).trans ((rd_b (rd_u2 h2 h3)).trans rfl))
theorem d3_183 {A : ByteArray} {pc : Nat} {i : Nat} (h : f3_ 183 (fun x y => x * 256 + y == i) (A.data.toList.drop pc) = true) : decode A pc = .ok (.invokespecial i, 3) := by
  obtain ⟨x, y, h1, h2, h3, h4⟩ := f3_ok h
  have e : x * 256 + y = i := eq_of_beq h4
  subst e
  exact dec_of ((rd_b h1).trans ((rd_b (rd_u2 h2 h3)).trans rfl))
theorem d3_184 {A : ByteArray} {pc : Nat} {i : Nat} (h : f3_ 184 (fun x y => x * 256 + y == i) (A.data.toList.drop pc) = true) : decode A pc = .ok (.invokestatic i, 3) := by
  obtain ⟨x, y, h1, h2, h3, h4⟩ := f3_ok h
  have e : x * 256 + y = i := eq_of_beq h4
  subst e
  exact dec_of ((rd_b h1).trans ((rd_b (rd_u2 h2 h3)).trans rfl))
theorem d3_187 {A : ByteArray} {pc : Nat} {i : Nat} (h : f3_ 187 (fun x y => x * 256 + y == i) (A.data.toList.drop pc) = true) : decode A pc = .ok (.new i, 3) := by
  obtain ⟨x, y, h1, h2, h3, h4⟩ := f3_ok h
  have e : x * 256 + y = i := eq_of_beq h4
  subst e
  exact dec_of ((rd_b h1).trans ((rd_b (rd_u2 h2 h3)).trans rfl))
theorem d3_167 {A : ByteArray} {pc : Nat} {z : Int} (h : f3_ 167 (fun x y => decide (Reader.signed 16 (x * 256 + y) = z)) (A.data.toList.drop pc) = true) : decode A pc = .ok (.goto z, 3) := by
  obtain ⟨x, y, h1, h2, h3, h4⟩ := f3_ok h
  have e := of_decide_eq_true h4
  subst e
  exact dec_of ((rd_b h1).trans ((rd_b (rd_s2 h2 h3)).trans rfl))
theorem d3_198 {A : ByteArray} {pc : Nat} {z : Int} (h : f3_ 198 (fun x y => decide (Reader.signed 16 (x * 256 + y) = z)) (A.data.toList.drop pc) = true) : decode A pc = .ok (.ifnull z, 3) := by
  obtain ⟨x, y, h1, h2, h3, h4⟩ := f3_ok h
  have e := of_decide_eq_true h4
  subst e
  exact dec_of ((rd_b h1).trans ((rd_b (rd_s2 h2 h3)).trans rfl))
theorem d3_199 {A : ByteArray} {pc : Nat} {z : Int} (h : f3_ 199 (fun x y => decide (Reader.signed 16 (x * 256 + y) = z)) (A.data.toList.drop pc) = true) : decode A pc = .ok (.ifnonnull z, 3) := by
  obtain ⟨x, y, h1, h2, h3, h4⟩ := f3_ok h
  have e := of_decide_eq_true h4
  subst e
  exact dec_of ((rd_b h1).trans ((rd_b (rd_s2 h2 h3)).trans rfl))
theorem d3_17 {A : ByteArray} {pc : Nat} {z : Int} (h : f3_ 17 (fun x y => decide (Reader.signed 16 (x * 256 + y) = z)) (A.data.toList.drop pc) = true) : decode A pc = .ok (.sipush z, 3) := by
  obtain ⟨x, y, h1, h2, h3, h4⟩ := f3_ok h
  have e := of_decide_eq_true h4
  subst e
  exact dec_of ((rd_b h1).trans ((rd_b (rd_s2 h2 h3)).trans rfl))
theorem d3_153 {A : ByteArray} {pc : Nat} {z : Int} (h : f3_ 153 (fun x y => decide (Reader.signed 16 (x * 256 + y) = z)) (A.data.toList.drop pc) = true) : decode A pc = .ok (.ifCond .eq z, 3) := by
  obtain ⟨x, y, h1, h2, h3, h4⟩ := f3_ok h
  have e := of_decide_eq_true h4
  subst e
  exact dec_of ((rd_b h1).trans ((rd_b (rd_s2 h2 h3)).trans rfl))
theorem d3_154 {A : ByteArray} {pc : Nat} {z : Int} (h : f3_ 154 (fun x y => decide (Reader.signed 16 (x * 256 + y) = z)) (A.data.toList.drop pc) = true) : decode A pc = .ok (.ifCond .ne z, 3) := by
  obtain ⟨x, y, h1, h2, h3, h4⟩ := f3_ok h
  have e := of_decide_eq_true h4
  subst e
  exact dec_of ((rd_b h1).trans ((rd_b (rd_s2 h2 h3)).trans rfl))
theorem d3_155 {A : ByteArray} {pc : Nat} {z : Int} (h : f3_ 155 (fun x y => decide (Reader.signed 16 (x * 256 + y) = z)) (A.data.toList.drop pc) = true) : decode A pc = .ok (.ifCond .lt z, 3) := by
  obtain ⟨x, y, h1, h2, h3, h4⟩ := f3_ok h
  have e := of_decide_eq_true h4
  subst e
  exact dec_of ((rd_b h1).trans ((rd_b (rd_s2 h2 h3)).trans rfl))
theorem d3_156 {A : ByteArray} {pc : Nat} {z : Int} (h : f3_ 156 (fun x y => decide (Reader.signed 16 (x * 256 + y) = z)) (A.data.toList.drop pc) = true) : decode A pc = .ok (.ifCond .ge z, 3) := by
  obtain ⟨x, y, h1, h2, h3, h4⟩ := f3_ok h
  have e := of_decide_eq_true h4
  subst e
  exact dec_of ((rd_b h1).trans ((rd_b (rd_s2 h2 h3)).trans rfl))
theorem d3_157 {A : ByteArray} {pc : Nat} {z : Int} (h : f3_ 157 (fun x y => decide (Reader.signed 16 (x * 256 + y) = z)) (A.data.toList.drop pc) = true) : decode A pc = .ok (.ifCond .gt z, 3) := by
  obtain ⟨x, y, h1, h2, h3, h4⟩ := f3_ok h
  have e := of_decide_eq_true h4
  subst e
  exact dec_of ((rd_b h1).trans ((rd_b (rd_s2 h2 h3)).trans rfl))
theorem d3_158 {A : ByteArray} {pc : Nat} {z : Int} (h : f3_ 158 (fun x y => decide (Reader.signed 16 (x * 256 + y) = z)) (A.data.toList.drop pc) = true) : decode A pc = .ok (.ifCond .le z, 3) := by
  obtain ⟨x, y, h1, h2, h3, h4⟩ := f3_ok h
  have e := of_decide_eq_true h4
  subst e
  exact dec_of ((rd_b h1).trans ((rd_b (rd_s2 h2 h3)).trans rfl))
theorem d3_159 {A : ByteArray} {pc : Nat} {z : Int} (h : f3_ 159 (fun x y => decide (Reader.signed 16 (x * 256 + y) = z)) (A.data.toList.drop pc) = true) : decode A pc = .ok (.if_icmp .eq z, 3) := by
  obtain ⟨x, y, h1, h2, h3, h4⟩ := f3_ok h
  have e := of_decide_eq_true h4
  subst e
  exact dec_of ((rd_b h1).trans ((rd_b (rd_s2 h2 h3)).trans rfl))
theorem d3_160 {A : ByteArray} {pc : Nat} {z : Int} (h : f3_ 160 (fun x y => decide (Reader.signed 16 (x * 256 + y) = z)) (A.data.toList.drop pc) = true) : decode A pc = .ok (.if_icmp .ne z, 3) := by
  obtain ⟨x, y, h1, h2, h3, h4⟩ := f3_ok h
  have e := of_decide_eq_true h4
  subst e
  exact dec_of ((rd_b h1).trans ((rd_b (rd_s2 h2 h3)).trans rfl))
theorem d3_161 {A : ByteArray} {pc : Nat} {z : Int} (h : f3_ 161 (fun x y => decide (Reader.signed 16 (x * 256 + y) = z)) (A.data.toList.drop pc) = true) : decode A pc = .ok (.if_icmp .lt z, 3) := by
  obtain ⟨x, y, h1, h2, h3, h4⟩ := f3_ok h
  have e := of_decide_eq_true h4
  subst e
  exact dec_of ((rd_b h1).trans ((rd_b (rd_s2 h2 h3)).trans rfl))
theorem d3_162 {A : ByteArray} {pc : Nat} {z : Int} (h : f3_ 162 (fun x y => decide (Reader.signed 16 (x * 256 + y) = z)) (A.data.toList.drop pc) = true) : decode A pc = .ok (.if_icmp .ge z, 3) := by
  obtain ⟨x, y, h1, h2, h3, h4⟩ := f3_ok h
  have e := of_decide_eq_true h4
  subst e
  exact dec_of ((rd_b h1).trans ((rd_b (rd_s2 h2 h3)).trans rfl))
theorem d3_163 {A : ByteArray} {pc : Nat} {z : Int} (h : f3_ 163 (fun x y => decide (Reader.signed 16 (x * 256 + y) = z)) (A.data.toList.drop pc) = true) : decode A pc = .ok (.if_icmp .gt z, 3) := by
  obtain ⟨x, y, h1, h2, h3, h4⟩ := f3_ok h
  have e := of_decide_eq_true h4
  subst e
  exact dec_of ((rd_b h1).trans ((rd_b (rd_s2 h2 h3)).trans rfl))
theorem d3_164 {A : ByteArray} {pc : Nat} {z : Int} (h : f3_ 164 (fun x y => decide (Reader.signed 16 (x * 256 + y) = z)) (A.data.toList.drop pc) = true) : decode A pc = .ok (.if_icmp .le z, 3) := by
  obtain ⟨x, y, h1, h2, h3, h4⟩ := f3_ok h
  have e := of_decide_eq_true h4
  subst e
  exact dec_of ((rd_b h1).trans ((rd_b (rd_s2 h2 h3)).trans rfl))
def fdq (len : Nat) (bs : List UInt8) (ins : Instr) : Bool := match ins with
  | .iconst k => decide (len = 1) && ((decide (k = (-1)) && f1_ 2 bs) || (decide (k = 0) && f1_ 3 bs) || (decide (k = 1) && f1_ 4 bs) || (decide (k = 2) && f1_ 5 bs) || (decide (k = 3) && f1_ 6 bs) || (decide (k = 4) && f1_ 7 bs) || (decide (k = 5) && f1_ 8 bs))
  | .iload_n k => decide (len = 1) && ((decide (k = 0) && f1_ 26 bs) || (decide (k = 1) && f1_ 27 bs) || (decide (k = 2) && f1_ 28 bs) || (decide (k = 3) && f1_ 29 bs))
  | .aload_n k => decide (len = 1) && ((decide (k = 0) && f1_ 42 bs) || (decide (k = 1) && f1_ 43 bs) || (decide (k = 2) && f1_ 44 bs) || (decide (k = 3) && f1_ 45 bs))
  | .istore_n k => decide (len = 1) && ((decide (k = 0) && f1_ 59 bs) || (decide (k = 1) && f1_ 60 bs) || (decide (k = 2) && f1_ 61 bs) || (decide (k = 3) && f1_ 62 bs))
  | .astore_n k => decide (len = 1) && ((decide (k = 0) && f1_ 75 bs) || (decide (k = 1) && f1_ 76 bs) || (decide (k = 2) && f1_ 77 bs) || (decide (k = 3) && f1_ 78 bs))
  | .aconst_null => decide (len = 1) && (f1_ 1 bs)
  | .iaload => decide (len = 1) && (f1_ 46 bs)
  | .aaload => decide (len = 1) && (f1_ 50 bs)
  | .iastore => decide (len = 1) && (f1_ 79 bs)
  | .aastore => decide (len = 1) && (f1_ 83 bs)
  | .pop => decide (len = 1) && (f1_ 87 bs)
  | .pop2 => decide (len = 1) && (f1_ 88 bs)
  | .dup => decide (len = 1) && (f1_ 89 bs)
  | .dup2 => decide (len = 1) && (f1_ 92 bs)
  | .iadd => decide (len = 1) && (f1_ 96 bs)
  | .isub => decide (len = 1) && (f1_ 100 bs)
  | .imul => decide (len = 1) && (f1_ 104 bs)
  | .idiv => decide (len = 1) && (f1_ 108 bs)
  | .irem => decide (len = 1) && (f1_ 112 bs)
  | .ineg => decide (len = 1) && (f1_ 116 bs)
  | .ishl => decide (len = 1) && (f1_ 120 bs)
  | .ishr => decide (len = 1) && (f1_ 122 bs)
  | .iushr => decide (len = 1) && (f1_ 124 bs)
  | .iand => decide (len = 1) && (f1_ 126 bs)
  | .ior => decide (len = 1) && (f1_ 128 bs)
  | .ixor => decide (len = 1) && (f1_ 130 bs)
  | .i2l => decide (len = 1) && (f1_ 133 bs)
  | .lcmp => decide (len = 1) && (f1_ 148 bs)
  | .ireturn => decide (len = 1) && (f1_ 172 bs)
  | .lreturn => decide (len = 1) && (f1_ 173 bs)
  | .areturn => decide (len = 1) && (f1_ 176 bs)
  | .return_ => decide (len = 1) && (f1_ 177 bs)
  | .arraylength => decide (len = 1) && (f1_ 190 bs)
  | .iload i => decide (len = 2) && (f2_ 21 (fun x => x == i) bs)
  | .aload i => decide (len = 2) && (f2_ 25 (fun x => x == i) bs)
  | .istore i => decide (len = 2) && (f2_ 54 (fun x => x == i) bs)
  | .astore i => decide (len = 2) && (f2_ 58 (fun x => x == i) bs)
  | .ldc i => decide (len = 2) && (f2_ 18 (fun x => x == i) bs)
  | .bipush z => decide (len = 2) && (f2_ 16 (fun x => decide (Reader.signed 8 x = z)) bs)
  | .iinc i z => decide (len = 3) && (f3_ 132 (fun x y => x == i && decide (Reader.signed 8 y = z)) bs)
  | .getfield i => decide (len = 3) && (f3_ 180 (fun x y => x * 256 + y == i) bs)
  | .putfield i => decide (len = 3) && (f3_ 181 (fun x y => x * 256 + y == i) bs)
  | .invokevirtual i => decide (len = 3) && (f3_ 182 (fun x y => x * 256 + y == i) bs)
  | .invokespecial i => decide (len = 3) && (f3_ 183 (fun x y => x * 256 + y == i) bs)
  | .invokestatic i => decide (len = 3) && (f3_ 184 (fun x y => x * 256 + y == i) bs)
  | .new i => decide (len = 3) && (f3_ 187 (fun x y => x * 256 + y == i) bs)
  | .goto z => decide (len = 3) && (f3_ 167 (fun x y => decide (Reader.signed 16 (x * 256 + y) = z)) bs)
  | .ifnull z => decide (len = 3) && (f3_ 198 (fun x y => decide (Reader.signed 16 (x * 256 + y) = z)) bs)
  | .ifnonnull z => decide (len = 3) && (f3_ 199 (fun x y => decide (Reader.signed 16 (x * 256 + y) = z)) bs)
  | .sipush z => decide (len = 3) && (f3_ 17 (fun x y => decide (Reader.signed 16 (x * 256 + y) = z)) bs)
  | .ifCond .eq z => decide (len = 3) && (f3_ 153 (fun x y => decide (Reader.signed 16 (x * 256 + y) = z)) bs)
  | .ifCond .ne z => decide (len = 3) && (f3_ 154 (fun x y => decide (Reader.signed 16 (x * 256 + y) = z)) bs)
  | .ifCond .lt z => decide (len = 3) && (f3_ 155 (fun x y => decide (Reader.signed 16 (x * 256 + y) = z)) bs)
  | .ifCond .ge z => decide (len = 3) && (f3_ 156 (fun x y => decide (Reader.signed 16 (x * 256 + y) = z)) bs)
  | .ifCond .gt z => decide (len = 3) && (f3_ 157 (fun x y => decide (Reader.signed 16 (x * 256 + y) = z)) bs)
  | .ifCond .le z => decide (len = 3) && (f3_ 158 (fun x y => decide (Reader.signed 16 (x * 256 + y) = z)) bs)
  | .if_icmp .eq z => decide (len = 3) && (f3_ 159 (fun x y => decide (Reader.signed 16 (x * 256 + y) = z)) bs)
  | .if_icmp .ne z => decide (len = 3) && (f3_ 160 (fun x y => decide (Reader.signed 16 (x * 256 + y) = z)) bs)
  | .if_icmp .lt z => decide (len = 3) && (f3_ 161 (fun x y => decide (Reader.signed 16 (x * 256 + y) = z)) bs)
  | .if_icmp .ge z => decide (len = 3) && (f3_ 162 (fun x y => decide (Reader.signed 16 (x * 256 + y) = z)) bs)
  | .if_icmp .gt z => decide (len = 3) && (f3_ 163 (fun x y => decide (Reader.signed 16 (x * 256 + y) = z)) bs)
  | .if_icmp .le z => decide (len = 3) && (f3_ 164 (fun x y => decide (Reader.signed 16 (x * 256 + y) = z)) bs)
  | _ => false
theorem fdq_ok {A : ByteArray} {pc len : Nat} {ins : Instr} (h : fdq len (A.data.toList.drop pc) ins = true) : decode A pc = .ok (ins, len) := by
  unfold fdq at h
  split at h
  · skip
    have h1 := Bool.and_eq_true_iff.mp h
    rw [of_decide_eq_true h1.1]
    have h2 := h1.2
    simp only [Bool.or_eq_true, Bool.and_eq_true, decide_eq_true_eq] at h2
    rcases h2 with ((((((⟨e, h3⟩) | ⟨e, h3⟩) | ⟨e, h3⟩) | ⟨e, h3⟩) | ⟨e, h3⟩) | ⟨e, h3⟩) | ⟨e, h3⟩
    · rw [e]; exact d1_2 h3
    · rw [e]; exact d1_3 h3
    · rw [e]; exact d1_4 h3
    · rw [e]; exact d1_5 h3
    · rw [e]; exact d1_6 h3
    · rw [e]; exact d1_7 h3
    · rw [e]; exact d1_8 h3
  · skip
    have h1 := Bool.and_eq_true_iff.mp h
    rw [of_decide_eq_true h1.1]
    have h2 := h1.2
    simp only [Bool.or_eq_true, Bool.and_eq_true, decide_eq_true_eq] at h2
    rcases h2 with (((⟨e, h3⟩) | ⟨e, h3⟩) | ⟨e, h3⟩) | ⟨e, h3⟩
    · rw [e]; exact d1_26 h3
    · rw [e]; exact d1_27 h3
    · rw [e]; exact d1_28 h3
    · rw [e]; exact d1_29 h3
  · skip
    have h1 := Bool.and_eq_true_iff.mp h
    rw [of_decide_eq_true h1.1]
    have h2 := h1.2
    simp only [Bool.or_eq_true, Bool.and_eq_true, decide_eq_true_eq] at h2
    rcases h2 with (((⟨e, h3⟩) | ⟨e, h3⟩) | ⟨e, h3⟩) | ⟨e, h3⟩
    · rw [e]; exact d1_42 h3
    · rw [e]; exact d1_43 h3
    · rw [e]; exact d1_44 h3
    · rw [e]; exact d1_45 h3
  · skip
    have h1 := Bool.and_eq_true_iff.mp h
    rw [of_decide_eq_true h1.1]
    have h2 := h1.2
    simp only [Bool.or_eq_true, Bool.and_eq_true, decide_eq_true_eq] at h2
    rcases h2 with (((⟨e, h3⟩) | ⟨e, h3⟩) | ⟨e, h3⟩) | ⟨e, h3⟩
    · rw [e]; exact d1_59 h3
    · rw [e]; exact d1_60 h3
    · rw [e]; exact d1_61 h3
    · rw [e]; exact d1_62 h3
  · skip
    have h1 := Bool.and_eq_true_iff.mp h
    rw [of_decide_eq_true h1.1]
    have h2 := h1.2
    simp only [Bool.or_eq_true, Bool.and_eq_true, decide_eq_true_eq] at h2
    rcases h2 with (((⟨e, h3⟩) | ⟨e, h3⟩) | ⟨e, h3⟩) | ⟨e, h3⟩
    · rw [e]; exact d1_75 h3
    · rw [e]; exact d1_76 h3
    · rw [e]; exact d1_77 h3
    · rw [e]; exact d1_78 h3
  · skip
    have h1 := Bool.and_eq_true_iff.mp h
    rw [of_decide_eq_true h1.1]
    exact d1_1 h1.2
  · skip
    have h1 := Bool.and_eq_true_iff.mp h
    rw [of_decide_eq_true h1.1]
    exact d1_46 h1.2
  · skip
    have h1 := Bool.and_eq_true_iff.mp h
    rw [of_decide_eq_true h1.1]
    exact d1_50 h1.2
  · skip
    have h1 := Bool.and_eq_true_iff.mp h
    rw [of_decide_eq_true h1.1]
    exact d1_79 h1.2
  · skip
    have h1 := Bool.and_eq_true_iff.mp h
    rw [of_decide_eq_true h1.1]
    exact d1_83 h1.2
  · skip
    have h1 := Bool.and_eq_true_iff.mp h
    rw [of_decide_eq_true h1.1]
    exact d1_87 h1.2
  · skip
    have h1 := Bool.and_eq_true_iff.mp h
    rw [of_decide_eq_true h1.1]
    exact d1_88 h1.2
  · skip
    have h1 := Bool.and_eq_true_iff.mp h
    rw [of_decide_eq_true h1.1]
    exact d1_89 h1.2
  · skip
    have h1 := Bool.and_eq_true_iff.mp h
    rw [of_decide_eq_true h1.1]
    exact d1_92 h1.2
  · skip
    have h1 := Bool.and_eq_true_iff.mp h
    rw [of_decide_eq_true h1.1]
    exact d1_96 h1.2
  · skip
    have h1 := Bool.and_eq_true_iff.mp h
    rw [of_decide_eq_true h1.1]
    exact d1_100 h1.2
  · skip
    have h1 := Bool.and_eq_true_iff.mp h
    rw [of_decide_eq_true h1.1]
    exact d1_104 h1.2
  · skip
    have h1 := Bool.and_eq_true_iff.mp h
    rw [of_decide_eq_true h1.1]
    exact d1_108 h1.2
  · skip
    have h1 := Bool.and_eq_true_iff.mp h
    rw [of_decide_eq_true h1.1]
    exact d1_112 h1.2
  · skip
    have h1 := Bool.and_eq_true_iff.mp h
    rw [of_decide_eq_true h1.1]
    exact d1_116 h1.2
  · skip
    have h1 := Bool.and_eq_true_iff.mp h
    rw [of_decide_eq_true h1.1]
    exact d1_120 h1.2
  · skip
    have h1 := Bool.and_eq_true_iff.mp h
    rw [of_decide_eq_true h1.1]
    exact d1_122 h1.2
  · skip
    have h1 := Bool.and_eq_true_iff.mp h
    rw [of_decide_eq_true h1.1]
    exact d1_124 h1.2
  · skip
    have h1 := Bool.and_eq_true_iff.mp h
    rw [of_decide_eq_true h1.1]
    exact d1_126 h1.2
  · skip
    have h1 := Bool.and_eq_true_iff.mp h
    rw [of_decide_eq_true h1.1]
    exact d1_128 h1.2
  · skip
    have h1 := Bool.and_eq_true_iff.mp h
    rw [of_decide_eq_true h1.1]
    exact d1_130 h1.2
  · skip
    have h1 := Bool.and_eq_true_iff.mp h
    rw [of_decide_eq_true h1.1]
    exact d1_133 h1.2
  · skip
    have h1 := Bool.and_eq_true_iff.mp h
    rw [of_decide_eq_true h1.1]
    exact d1_148 h1.2
  · skip
    have h1 := Bool.and_eq_true_iff.mp h
    rw [of_decide_eq_true h1.1]
    exact d1_172 h1.2
  · skip
    have h1 := Bool.and_eq_true_iff.mp h
    rw [of_decide_eq_true h1.1]
    exact d1_173 h1.2
  · skip
    have h1 := Bool.and_eq_true_iff.mp h
    rw [of_decide_eq_true h1.1]
    exact d1_176 h1.2
  · skip
    have h1 := Bool.and_eq_true_iff.mp h
    rw [of_decide_eq_true h1.1]
    exact d1_177 h1.2
  · skip
    have h1 := Bool.and_eq_true_iff.mp h
    rw [of_decide_eq_true h1.1]
    exact d1_190 h1.2
  · skip
    have h1 := Bool.and_eq_true_iff.mp h
    rw [of_decide_eq_true h1.1]
    exact d2_21 h1.2
  · skip
    have h1 := Bool.and_eq_true_iff.mp h
    rw [of_decide_eq_true h1.1]
    exact d2_25 h1.2
  · skip
    have h1 := Bool.and_eq_true_iff.mp h
    rw [of_decide_eq_true h1.1]
    exact d2_54 h1.2
  · skip
    have h1 := Bool.and_eq_true_iff.mp h
    rw [of_decide_eq_true h1.1]
    exact d2_58 h1.2
  · skip
    have h1 := Bool.and_eq_true_iff.mp h
    rw [of_decide_eq_true h1.1]
    exact d2_18 h1.2
  · skip
    have h1 := Bool.and_eq_true_iff.mp h
    rw [of_decide_eq_true h1.1]
    exact d2_16 h1.2
  · skip
    have h1 := Bool.and_eq_true_iff.mp h
    rw [of_decide_eq_true h1.1]
    exact d3_132 h1.2
  · skip
    have h1 := Bool.and_eq_true_iff.mp h
    rw [of_decide_eq_true h1.1]
    exact d3_180 h1.2
  · skip
    have h1 := Bool.and_eq_true_iff.mp h
    rw [of_decide_eq_true h1.1]
    exact d3_181 h1.2
  · skip
    have h1 := Bool.and_eq_true_iff.mp h
    rw [of_decide_eq_true h1.1]
    exact d3_182 h1.2
  · skip
    have h1 := Bool.and_eq_true_iff.mp h
    rw [of_decide_eq_true h1.1]
    exact d3_183 h1.2
  · skip
    have h1 := Bool.and_eq_true_iff.mp h
    rw [of_decide_eq_true h1.1]
    exact d3_184 h1.2
  · skip
    have h1 := Bool.and_eq_true_iff.mp h
    rw [of_decide_eq_true h1.1]
    exact d3_187 h1.2
  · skip
    have h1 := Bool.and_eq_true_iff.mp h
    rw [of_decide_eq_true h1.1]
    exact d3_167 h1.2
  · skip
    have h1 := Bool.and_eq_true_iff.mp h
    rw [of_decide_eq_true h1.1]
    exact d3_198 h1.2
  · skip
    have h1 := Bool.and_eq_true_iff.mp h
    rw [of_decide_eq_true h1.1]
    exact d3_199 h1.2
  · skip
    have h1 := Bool.and_eq_true_iff.mp h
    rw [of_decide_eq_true h1.1]
    exact d3_17 h1.2
  · skip
    have h1 := Bool.and_eq_true_iff.mp h
    rw [of_decide_eq_true h1.1]
    exact d3_153 h1.2
  · skip
    have h1 := Bool.and_eq_true_iff.mp h
    rw [of_decide_eq_true h1.1]
    exact d3_154 h1.2
  · skip
    have h1 := Bool.and_eq_true_iff.mp h
    rw [of_decide_eq_true h1.1]
    exact d3_155 h1.2
  · skip
    have h1 := Bool.and_eq_true_iff.mp h
    rw [of_decide_eq_true h1.1]
    exact d3_156 h1.2
  · skip
    have h1 := Bool.and_eq_true_iff.mp h
    rw [of_decide_eq_true h1.1]
    exact d3_157 h1.2
  · skip
    have h1 := Bool.and_eq_true_iff.mp h
    rw [of_decide_eq_true h1.1]
    exact d3_158 h1.2
  · skip
    have h1 := Bool.and_eq_true_iff.mp h
    rw [of_decide_eq_true h1.1]
    exact d3_159 h1.2
  · skip
    have h1 := Bool.and_eq_true_iff.mp h
    rw [of_decide_eq_true h1.1]
    exact d3_160 h1.2
  · skip
    have h1 := Bool.and_eq_true_iff.mp h
    rw [of_decide_eq_true h1.1]
    exact d3_161 h1.2
  · skip
    have h1 := Bool.and_eq_true_iff.mp h
    rw [of_decide_eq_true h1.1]
    exact d3_162 h1.2
  · skip
    have h1 := Bool.and_eq_true_iff.mp h
    rw [of_decide_eq_true h1.1]
    exact d3_163 h1.2
  · skip
    have h1 := Bool.and_eq_true_iff.mp h
    rw [of_decide_eq_true h1.1]
    exact d3_164 h1.2
  · exact absurd h (by decide)
def pm_okF (own nL : Nat) (isI : Bool) (ret : Option FieldType) (cc : ByteArray) (fin : Nat) : List UInt8 → Nat → List pm_Op → Bool
  | _, pc, [] => decide (pc = fin)
  | bs, pc, (ins, len, i, k, z) :: r => (fdq len bs ins || decide (decode cc pc = .ok (ins, len))) && ((pm_isTab ins || decide (len = pm_ln ins)) && (pm_rs own nL isI ret pc ins i k z && (pm_tm ins || pm_okF own nL isI ret cc fin (bs.drop len) (pc + len) r)))
theorem okF_ok {own nL : Nat} {isI : Bool} {ret : Option FieldType} {cc : ByteArray} {fin : Nat} : ∀ (pc : Nat) (ops : List pm_Op), pm_okF own nL isI ret cc fin (cc.data.toList.drop pc) pc ops = true → pm_ok own nL isI ret cc fin pc ops = true
  | _, [], h => h
  | pc, (ins, len, i, k, z) :: r, h => by
    have h1 := Bool.and_eq_true_iff.mp h
    have h2 := Bool.and_eq_true_iff.mp h1.2
    have h3 := Bool.and_eq_true_iff.mp h2.2
    have q1 : decode cc pc = .ok (ins, len) := by
      rcases Bool.or_eq_true_iff.mp h1.1 with a | a
      · exact fdq_ok a
      · exact of_decide_eq_true a
    have q2 : (pm_tm ins || pm_ok own nL isI ret cc fin (pc + len) r) = true := by
      rcases Bool.or_eq_true_iff.mp h3.2 with a | a
      · rw [a]; rfl
      · rw [List.drop_drop] at a
        rw [okF_ok (pc + len) r a, Bool.or_true]
    show (decide (decode cc pc = .ok (ins, len)) && ((pm_isTab ins || decide (len = pm_ln ins)) && (pm_rs own nL isI ret pc ins i k z && (pm_tm ins || pm_ok own nL isI ret cc fin (pc + len) r)))) = true
    rw [decide_eq_true q1, h2.1, h3.1, q2]
    rfl
theorem oksF_ok {own mx : Nat} {isI : Bool} {rt : Option FieldType} {cc : ByteArray} {b : pm_B} (h : b.all (fun q => pm_okF own mx isI rt cc q.2.2 (cc.data.toList.drop q.1) q.1 q.2.1) = true) : pm_oks own isI mx rt cc b = true := List.all_eq_true.mpr (fun q hq => okF_ok q.1 q.2.1 (List.all_eq_true.mp h q hq))
