
theorem fdq_ok {A : ByteArray} {pc len : Nat} {ins : Instr} (h : fdq len (A.data.toList.drop pc) ins = true) : decode A pc = .ok (ins, len) := by
  unfold fdq at h
  split at h
  · skip
    have h1 := Bool.and_eq_true_iff.mp h
    rw [of_decide_eq_true h1.1]
    have h2 := h1.2
    simp only [Bool.or_eq_true, Bool.and_eq_true, decide_eq_true_eq] at h2
    rcases h2 with ((((((⟨e, h3⟩) | ⟨e, h3⟩) | ⟨e, h3⟩) | ⟨e, h3⟩) | ⟨e, h3⟩) | ⟨e, h3⟩) | ⟨e, h3⟩
    · rw [e]; exact d1_2 h3
    · rw [e]; exact d1_3 h3
    · rw [e]; exact d1_4 h3
    · rw [e]; exact d1_5 h3
    · rw [e]; exact d1_6 h3
    · rw [e]; exact d1_7 h3
    · rw [e]; exact d1_8 h3
  · skip
    have h1 := Bool.and_eq_true_iff.mp h
    rw [of_decide_eq_true h1.1]
    have h2 := h1.2
    simp only [Bool.or_eq_true, Bool.and_eq_true, decide_eq_true_eq] at h2
    rcases h2 with (((⟨e, h3⟩) | ⟨e, h3⟩) | ⟨e, h3⟩) | ⟨e, h3⟩
    · rw [e]; exact d1_26 h3
    · rw [e]; exact d1_27 h3
    · rw [e]; exact d1_28 h3
    · rw [e]; exact d1_29 h3
  · skip
    have h1 := Bool.and_eq_true_iff.mp h
    rw [of_decide_eq_true h1.1]
    have h2 := h1.2
    simp only [Bool.or_eq_true, Bool.and_eq_true, decide_eq_true_eq] at h2
    rcases h2 with (((⟨e, h3⟩) | ⟨e, h3⟩) | ⟨e, h3⟩) | ⟨e, h3⟩
    · rw [e]; exact d1_42 h3
    · rw [e]; exact d1_43 h3
    · rw [e]; exact d1_44 h3
    · rw [e]; exact d1_45 h3
  · skip
    have h1 := Bool.and_eq_true_iff.mp h
    rw [of_decide_eq_true h1.1]
    have h2 := h1.2
    simp only [Bool.or_eq_true, Bool.and_eq_true, decide_eq_true_eq] at h2
    rcases h2 with (((⟨e, h3⟩) | ⟨e, h3⟩) | ⟨e, h3⟩) | ⟨e, h3⟩
    · rw [e]; exact d1_59 h3
    · rw [e]; exact d1_60 h3
    · rw [e]; exact d1_61 h3
    · rw [e]; exact d1_62 h3
  · skip
    have h1 := Bool.and_eq_true_iff.mp h
    rw [of_decide_eq_true h1.1]
    have h2 := h1.2
    simp only [Bool.or_eq_true, Bool.and_eq_true, decide_eq_true_eq] at h2
    rcases h2 with (((⟨e, h3⟩) | ⟨e, h3⟩) | ⟨e, h3⟩) | ⟨e, h3⟩
    · rw [e]; exact d1_75 h3
    · rw [e]; exact d1_76 h3
    · rw [e]; exact d1_77 h3
    · rw [e]; exact d1_78 h3
  · skip
    have h1 := Bool.and_eq_true_iff.mp h
    rw [of_decide_eq_true h1.1]
    exact d1_1 h1.2
  · skip
    have h1 := Bool.and_eq_true_iff.mp h
    rw [of_decide_eq_true h1.1]
    exact d1_46 h1.2
  · skip
    have h1 := Bool.and_eq_true_iff.mp h
    rw [of_decide_eq_true h1.1]
    exact d1_50 h1.2
  · skip
    have h1 := Bool.and_eq_true_iff.mp h
    rw [of_decide_eq_true h1.1]
    exact d1_79 h1.2
  · skip
    have h1 := Bool.and_eq_true_iff.mp h
    rw [of_decide_eq_true h1.1]
    exact d1_83 h1.2
  · skip
    have h1 := Bool.and_eq_true_iff.mp h
    rw [of_decide_eq_true h1.1]
    exact d1_87 h1.2
  · skip
    have h1 := Bool.and_eq_true_iff.mp h
    rw [of_decide_eq_true h1.1]
    exact d1_88 h1.2
  · skip
    have h1 := Bool.and_eq_true_iff.mp h
    rw [of_decide_eq_true h1.1]
    exact d1_89 h1.2
  · skip
    have h1 := Bool.and_eq_true_iff.mp h
    rw [of_decide_eq_true h1.1]
    exact d1_92 h1.2
  · skip
    have h1 := Bool.and_eq_true_iff.mp h
    rw [of_decide_eq_true h1.1]
    exact d1_96 h1.2
  · skip
    have h1 := Bool.and_eq_true_iff.mp h
    rw [of_decide_eq_true h1.1]
    exact d1_100 h1.2
  · skip
    have h1 := Bool.and_eq_true_iff.mp h
    rw [of_decide_eq_true h1.1]
    exact d1_104 h1.2
  · skip
    have h1 := Bool.and_eq_true_iff.mp h
    rw [of_decide_eq_true h1.1]
    exact d1_108 h1.2
  · skip
    have h1 := Bool.and_eq_true_iff.mp h
    rw [of_decide_eq_true h1.1]
    exact d1_112 h1.2
  · skip
    have h1 := Bool.and_eq_true_iff.mp h
    rw [of_decide_eq_true h1.1]
    exact d1_116 h1.2
  · skip
    have h1 := Bool.and_eq_true_iff.mp h
    rw [of_decide_eq_true h1.1]
    exact d1_120 h1.2
  · skip
    have h1 := Bool.and_eq_true_iff.mp h
    rw [of_decide_eq_true h1.1]
    exact d1_122 h1.2
  · skip
    have h1 := Bool.and_eq_true_iff.mp h
    rw [of_decide_eq_true h1.1]
    exact d1_124 h1.2
  · skip
    have h1 := Bool.and_eq_true_iff.mp h
    rw [of_decide_eq_true h1.1]
    exact d1_126 h1.2
  · skip
    have h1 := Bool.and_eq_true_iff.mp h
    rw [of_decide_eq_true h1.1]
    exact d1_128 h1.2
  · skip
    have h1 := Bool.and_eq_true_iff.mp h
    rw [of_decide_eq_true h1.1]
    exact d1_130 h1.2
  · skip
    have h1 := Bool.and_eq_true_iff.mp h
    rw [of_decide_eq_true h1.1]
    exact d1_133 h1.2
  · skip
    have h1 := Bool.and_eq_true_iff.mp h
    rw [of_decide_eq_true h1.1]
    exact d1_148 h1.2
  · skip
    have h1 := Bool.and_eq_true_iff.mp h
    rw [of_decide_eq_true h1.1]
    exact d1_172 h1.2
  · skip
    have h1 := Bool.and_eq_true_iff.mp h
    rw [of_decide_eq_true h1.1]
    exact d1_173 h1.2
  · skip
    have h1 := Bool.and_eq_true_iff.mp h
    rw [of_decide_eq_true h1.1]
    exact d1_176 h1.2
  · skip
    have h1 := Bool.and_eq_true_iff.mp h
    rw [of_decide_eq_true h1.1]
    exact d1_177 h1.2
  · skip
    have h1 := Bool.and_eq_true_iff.mp h
    rw [of_decide_eq_true h1.1]
    exact d1_190 h1.2
  · skip
    have h1 := Bool.and_eq_true_iff.mp h
    rw [of_decide_eq_true h1.1]
    exact d2_21 h1.2
  · skip
    have h1 := Bool.and_eq_true_iff.mp h
    rw [of_decide_eq_true h1.1]
    exact d2_25 h1.2
  · skip
    have h1 := Bool.and_eq_true_iff.mp h
    rw [of_decide_eq_true h1.1]
    exact d2_54 h1.2
  · skip
    have h1 := Bool.and_eq_true_iff.mp h
    rw [of_decide_eq_true h1.1]
    exact d2_58 h1.2
  · skip
    have h1 := Bool.and_eq_true_iff.mp h
    rw [of_decide_eq_true h1.1]
    exact d2_18 h1.2
  · skip
    have h1 := Bool.and_eq_true_iff.mp h
    rw [of_decide_eq_true h1.1]
    exact d2_16 h1.2
  · skip
    have h1 := Bool.and_eq_true_iff.mp h
    rw [of_decide_eq_true h1.1]
    exact d3_132 h1.2
  · skip
    have h1 := Bool.and_eq_true_iff.mp h
    rw [of_decide_eq_true h1.1]
    exact d3_180 h1.2
  · skip
    have h1 := Bool.and_eq_true_iff.mp h
    rw [of_decide_eq_true h1.1]
    exact d3_181 h1.2
  · skip
    have h1 := Bool.and_eq_true_iff.mp h
    rw [of_decide_eq_true h1.1]
    exact d3_182 h1.2
  · skip
    have h1 := Bool.and_eq_true_iff.mp h
    rw [of_decide_eq_true h1.1]
    exact d3_183 h1.2
  · skip
    have h1 := Bool.and_eq_true_iff.mp h
    rw [of_decide_eq_true h1.1]
    exact d3_184 h1.2
  · skip
    have h1 := Bool.and_eq_true_iff.mp h
    rw [of_decide_eq_true h1.1]
    exact d3_187 h1.2
  · skip
    have h1 := Bool.and_eq_true_iff.mp h
    rw [of_decide_eq_true h1.1]
    exact d3_167 h1.2
  · skip
    have h1 := Bool.and_eq_true_iff.mp h
    rw [of_decide_eq_true h1.1]
    exact d3_198 h1.2
  · skip
    have h1 := Bool.and_eq_true_iff.mp h
    rw [of_decide_eq_true h1.1]
    exact d3_199 h1.2
  · skip
    have h1 := Bool.and_eq_true_iff.mp h
    rw [of_decide_eq_true h1.1]
    exact d3_17 h1.2
  · skip
    have h1 := Bool.and_eq_true_iff.mp h
    rw [of_decide_eq_true h1.1]
    exact d3_153 h1.2
  · skip
    have h1 := Bool.and_eq_true_iff.mp h
    rw [of_decide_eq_true h1.1]
    exact d3_154 h1.2
  · skip
    have h1 := Bool.and_eq_true_iff.mp h
    rw [of_decide_eq_true h1.1]
    exact d3_155 h1.2
  · skip
    have h1 := Bool.and_eq_true_iff.mp h
    rw [of_decide_eq_true h1.1]
    exact d3_156 h1.2
  · skip
    have h1 := Bool.and_eq_true_iff.mp h
    rw [of_decide_eq_true h1.1]
    exact d3_157 h1.2
  · skip
    have h1 := Bool.and_eq_true_iff.mp h
    rw [of_decide_eq_true h1.1]
    exact d3_158 h1.2
  · skip
    have h1 := Bool.and_eq_true_iff.mp h
    rw [of_decide_eq_true h1.1]
    exact d3_159 h1.2
  · skip
    have h1 := Bool.and_eq_true_iff.mp h
    rw [of_decide_eq_true h1.1]
    exact d3_160 h1.2
  · skip
    have h1 := Bool.and_eq_true_iff.mp h
    rw [of_decide_eq_true h1.1]
    exact d3_161 h1.2
  · skip
    have h1 := Bool.and_eq_true_iff.mp h
    rw [of_decide_eq_true h1.1]
    exact d3_162 h1.2
  · skip
    have h1 := Bool.and_eq_true_iff.mp h
    rw [of_decide_eq_true h1.1]
    exact d3_163 h1.2
  · skip
    have h1 := Bool.and_eq_true_iff.mp h
    rw [of_decide_eq_true h1.1]
    exact d3_164 h1.2
  · exact absurd h (by decide)
