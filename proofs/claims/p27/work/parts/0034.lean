
def f1_ (n : Nat) (bs : List UInt8) : Bool := match bs with
  | b :: _ => b.toNat == n
  | [] => false
def f2_ (n : Nat) (g : Nat → Bool) (bs : List UInt8) : Bool := match bs with
  | b :: x :: _ => b.toNat == n && g x.toNat
  | _ => false
def f3_ (n : Nat) (g : Nat → Nat → Bool) (bs : List UInt8) : Bool := match bs with
  | b :: x :: y :: _ => b.toNat == n && g x.toNat y.toNat
  | _ => false
theorem rd_b {α β : Type} {r : Decoder α} {f : α → Decoder β} {A : ByteArray} {p p2 : Nat} {a : α} (h : r.runAt A p = .ok (a, p2)) : (r >>= f).runAt A p = (f a).runAt A p2 := by
  have h2 : r A p = .ok (a, p2) := h
  show Except.bind (r A p) _ = _
  rw [h2]
  rfl
theorem rd_m {α β : Type} {r : Decoder α} {f : α → β} {A : ByteArray} {p p2 : Nat} {a : α} (h : r.runAt A p = .ok (a, p2)) : ((f <$> r : Decoder β)).runAt A p = .ok (f a, p2) := by
  have h2 : r A p = .ok (a, p2) := h
  show Except.bind (r A p) _ = _
  rw [h2]
  rfl
theorem rd_1 {A : ByteArray} {p : Nat} {b : UInt8} {t : List UInt8} (h : A.data.toList.drop p = b :: t) : (Reader.u1 : Decoder Nat).runAt A p = .ok (b.toNat, p + 1) := by
  have h1 : p < A.data.toList.length := by
    by_cases q : p < A.data.toList.length
    · exact q
    · rw [List.drop_eq_nil_of_le (by omega)] at h
      exact absurd h (by simp)
  have h2 : p < A.size := by
    have : A.data.toList.length = A.size := rfl
    omega
  have h3 : A[p] = b := by
    have h4 := List.drop_eq_getElem_cons h1
    rw [h] at h4
    have h5 : b = A.data.toList[p] := (List.cons.inj h4).1
    rw [h5]
    rfl
  have e : (Reader.u1 : Decoder Nat) A p = (dite (p < A.size) (fun h => ((do set (p + 1); pure (A[p]'h).toNat) : Decoder Nat)) (fun _ => throw (HasTruncated.truncated p))) A p := rfl
  show (Reader.u1 : Decoder Nat) A p = _
  rw [e, dif_pos h2]
  show Except.ok ((A[p]'h2).toNat, p + 1) = _
  rw [h3]
theorem rd_n {A : ByteArray} {p : Nat} {b : UInt8} {t : List UInt8} (h : A.data.toList.drop p = b :: t) : A.data.toList.drop (p + 1) = t := by
  rw [← List.drop_drop, h]
  rfl
theorem f1_ok {A : ByteArray} {p n : Nat} (h : f1_ n (A.data.toList.drop p) = true) : (Reader.u1 : Decoder Nat).runAt A p = .ok (n, p + 1) := by
  cases e : A.data.toList.drop p with
  | nil => rw [e] at h; exact absurd (show false = true from h) (by decide)
  | cons b t =>
    rw [e] at h
    have h1 : b.toNat = n := eq_of_beq h
    rw [← h1]
    exact rd_1 e
theorem f2_ok {A : ByteArray} {p n : Nat} {g : Nat → Bool} (h : f2_ n g (A.data.toList.drop p) = true) : ∃ x : Nat, (Reader.u1 : Decoder Nat).runAt A p = .ok (n, p + 1) ∧ (Reader.u1 : Decoder Nat).runAt A (p + 1) = .ok (x, p + 2) ∧ g x = true := by
  rcases e : A.data.toList.drop p with _ | ⟨b, _ | ⟨x, t⟩⟩
  · rw [e] at h; exact absurd (show false = true from h) (by decide)
  · rw [e] at h; exact absurd (show false = true from h) (by decide)
  · rw [e] at h
    have h1 := Bool.and_eq_true_iff.mp h
    have h2 : b.toNat = n := eq_of_beq h1.1
    refine ⟨x.toNat, ?_, rd_1 (rd_n e), h1.2⟩
    rw [← h2]
    exact rd_1 e
theorem f3_ok {A : ByteArray} {p n : Nat} {g : Nat → Nat → Bool} (h : f3_ n g (A.data.toList.drop p) = true) : ∃ x y : Nat, (Reader.u1 : Decoder Nat).runAt A p = .ok (n, p + 1) ∧ (Reader.u1 : Decoder Nat).runAt A (p + 1) = .ok (x, p + 2) ∧ (Reader.u1 : Decoder Nat).runAt A (p + 2) = .ok (y, p + 3) ∧ g x y = true := by
  rcases e : A.data.toList.drop p with _ | ⟨b, _ | ⟨x, _ | ⟨y, t⟩⟩⟩
  · rw [e] at h; exact absurd (show false = true from h) (by decide)
  · rw [e] at h; exact absurd (show false = true from h) (by decide)
  · rw [e] at h; exact absurd (show false = true from h) (by decide)
  · rw [e] at h
    have h1 := Bool.and_eq_true_iff.mp h
    have h2 : b.toNat = n := eq_of_beq h1.1
    refine ⟨x.toNat, y.toNat, ?_, rd_1 (rd_n e), rd_1 (rd_n (rd_n e)), h1.2⟩
    rw [← h2]
    exact rd_1 e
theorem rd_u2 {A : ByteArray} {p x y : Nat} (h1 : (Reader.u1 : Decoder Nat).runAt A p = .ok (x, p + 1)) (h2 : (Reader.u1 : Decoder Nat).runAt A (p + 1) = .ok (y, p + 2)) : (Reader.u2 : Decoder Nat).runAt A p = .ok (x * 256 + y, p + 2) := (rd_b h1).trans ((rd_b h2).trans rfl)
theorem rd_s2 {A : ByteArray} {p x y : Nat} (h1 : (Reader.u1 : Decoder Nat).runAt A p = .ok (x, p + 1)) (h2 : (Reader.u1 : Decoder Nat).runAt A (p + 1) = .ok (y, p + 2)) : (Reader.s2 : Decoder Int).runAt A p = .ok (Reader.signed 16 (x * 256 + y), p + 2) := rd_m (rd_u2 h1 h2)
theorem rd_s1 {A : ByteArray} {p x : Nat} (h1 : (Reader.u1 : Decoder Nat).runAt A p = .ok (x, p + 1)) : (Reader.s1 : Decoder Int).runAt A p = .ok (Reader.signed 8 x, p + 1) := rd_m h1
theorem dec_of {A : ByteArray} {pc n : Nat} {ins : Instr} (h : (Decoder.instr pc).runAt A pc = .ok (ins, pc + n)) : decode A pc = .ok (ins, n) := by
  unfold decode
  rw [h]
  show Except.ok (ins, pc + n - pc) = _
  rw [Nat.add_sub_cancel_left]
theorem d1_1 {A : ByteArray} {pc : Nat} (h : f1_ 1 (A.data.toList.drop pc) = true) : decode A pc = .ok (.aconst_null, 1) := dec_of ((rd_b (f1_ok h)).trans rfl)
theorem d1_2 {A : ByteArray} {pc : Nat} (h : f1_ 2 (A.data.toList.drop pc) = true) : decode A pc = .ok (.iconst (-1), 1) := dec_of ((rd_b (f1_ok h)).trans rfl)
theorem d1_3 {A : ByteArray} {pc : Nat} (h : f1_ 3 (A.data.toList.drop pc) = true) : decode A pc = .ok (.iconst (0), 1) := dec_of ((rd_b (f1_ok h)).trans rfl)
theorem d1_4 {A : ByteArray} {pc : Nat} (h : f1_ 4 (A.data.toList.drop pc) = true) : decode A pc = .ok (.iconst (1), 1) := dec_of ((rd_b (f1_ok h)).trans rfl)
theorem d1_5 {A : ByteArray} {pc : Nat} (h : f1_ 5 (A.data.toList.drop pc) = true) : decode A pc = .ok (.iconst (2), 1) := dec_of ((rd_b (f1_ok h)).trans rfl)
theorem d1_6 {A : ByteArray} {pc : Nat} (h : f1_ 6 (A.data.toList.drop pc) = true) : decode A pc = .ok (.iconst (3), 1) := dec_of ((rd_b (f1_ok h)).trans rfl)
theorem d1_7 {A : ByteArray} {pc : Nat} (h : f1_ 7 (A.data.toList.drop pc) = true) : decode A pc = .ok (.iconst (4), 1) := dec_of ((rd_b (f1_ok h)).trans rfl)
theorem d1_8 {A : ByteArray} {pc : Nat} (h : f1_ 8 (A.data.toList.drop pc) = true) : decode A pc = .ok (.iconst (5), 1) := dec_of ((rd_b (f1_ok h)).trans rfl)
theorem d1_26 {A : ByteArray} {pc : Nat} (h : f1_ 26 (A.data.toList.drop pc) = true) : decode A pc = .ok (.iload_n 0, 1) := dec_of ((rd_b (f1_ok h)).trans rfl)
theorem d1_27 {A : ByteArray} {pc : Nat} (h : f1_ 27 (A.data.toList.drop pc) = true) : decode A pc = .ok (.iload_n 1, 1) := dec_of ((rd_b (f1_ok h)).trans rfl)
theorem d1_28 {A : ByteArray} {pc : Nat} (h : f1_ 28 (A.data.toList.drop pc) = true) : decode A pc = .ok (.iload_n 2, 1) := dec_of ((rd_b (f1_ok h)).trans rfl)
theorem d1_29 {A : ByteArray} {pc : Nat} (h : f1_ 29 (A.data.toList.drop pc) = true) : decode A pc = .ok (.iload_n 3, 1) := dec_of ((rd_b (f1_ok h)).trans rfl)
theorem d1_42 {A : ByteArray} {pc : Nat} (h : f1_ 42 (A.data.toList.drop pc) = true) : decode A pc = .ok (.aload_n 0, 1) := dec_of ((rd_b (f1_ok h)).trans rfl)
theorem d1_43 {A : ByteArray} {pc : Nat} (h : f1_ 43 (A.data.toList.drop pc) = true) : decode A pc = .ok (.aload_n 1, 1) := dec_of ((rd_b (f1_ok h)).trans rfl)
theorem d1_44 {A : ByteArray} {pc : Nat} (h : f1_ 44 (A.data.toList.drop pc) = true) : decode A pc = .ok (.aload_n 2, 1) := dec_of ((rd_b (f1_ok h)).trans rfl)
theorem d1_45 {A : ByteArray} {pc : Nat} (h : f1_ 45 (A.data.toList.drop pc) = true) : decode A pc = .ok (.aload_n 3, 1) := dec_of ((rd_b (f1_ok h)).trans rfl)
theorem d1_46 {A : ByteArray} {pc : Nat} (h : f1_ 46 (A.data.toList.drop pc) = true) : decode A pc = .ok (.iaload, 1) := dec_of ((rd_b (f1_ok h)).trans rfl)
theorem d1_50 {A : ByteArray} {pc : Nat} (h : f1_ 50 (A.data.toList.drop pc) = true) : decode A pc = .ok (.aaload, 1) := dec_of ((rd_b (f1_ok h)).trans rfl)
theorem d1_59 {A : ByteArray} {pc : Nat} (h : f1_ 59 (A.data.toList.drop pc) = true) : decode A pc = .ok (.istore_n 0, 1) := dec_of ((rd_b (f1_ok h)).trans rfl)
theorem d1_60 {A : ByteArray} {pc : Nat} (h : f1_ 60 (A.data.toList.drop pc) = true) : decode A pc = .ok (.istore_n 1, 1) := dec_of ((rd_b (f1_ok h)).trans rfl)
