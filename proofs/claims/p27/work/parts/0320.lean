
set_option maxRecDepth 100000 in
set_option maxHeartbeats 4000000 in
theorem cw_init_of {A : pm_H} {g : pm_G} {a : Nat} {a1 : Nat} {a1_3 : Nat} {a4_3 : Nat} {a7_3 : Nat} {a10_3 : Nat} {a1_12_3 : Nat} {a4_12_3 : Nat} {a7_12_3 : Nat} {a5 : Nat} {a1_7 : Nat} {a4_7 : Nat} {a9 : Nat} {a1_11 : Nat} {a4_11 : Nat} {a13 : Nat} {a1_15 : Nat} {a4_15 : Nat} {a7_15 : Nat} {a17 : Nat} {a1_19 : Nat} {a21 : Nat} {a1_23 : Nat} {a4_23 : Nat} {a7_23 : Nat} {a25 : Nat} {a1_27 : Nat} {a29 : Nat} {a1_31 : Nat} {r1_31 : Nat → Nat} {a33 : Nat} {a1_35 : Nat} {a4_35 : Nat} {a7_35 : Nat} {a10_35 : Nat} {a13_35 : Nat} (nd : (List.map Prod.fst ((a13_35, pm_ia g 30 (fun _ => 0)) :: (a10_35, pm_ia g 30 (fun _ => 0)) :: (a7_35, pm_ia g 30 (fun _ => 0)) :: (a4_35, pm_ia g 30 (fun _ => 0)) :: (a1_35, pm_ia g 30 (fun _ => 0)) :: (a33, pm_ob 5 [.ref a1_35, .ref a4_35, .ref a7_35, .ref a10_35, .ref a13_35, .int 0]) :: ((r1_31 8), pm_ia g 161 (fun _ => 0)) :: ((r1_31 7), pm_ia g 161 (fun _ => 0)) :: ((r1_31 6), pm_ia g 161 (fun _ => 0)) :: ((r1_31 5), pm_ia g 161 (fun _ => 0)) :: ((r1_31 4), pm_ia g 161 (fun _ => 0)) :: ((r1_31 3), pm_ia g 161 (fun _ => 0)) :: ((r1_31 2), pm_ia g 161 (fun _ => 0)) :: ((r1_31 1), pm_ia g 161 (fun _ => 0)) :: ((r1_31 0), pm_ia g 161 (fun _ => 0)) :: (a1_31, pm_ma g 9 (fun j => if j < 9 then some (r1_31 j) else none)) :: (a29, pm_ob 3 [.ref a1_31]) :: (a1_27, pm_ia g 160 (fun _ => 0)) :: (a25, pm_ob 4 [.ref a1_27, .int 0, .int 0]) :: (a7_23, pm_ia g 24 (fun _ => 0)) :: (a4_23, pm_ia g 24 (fun _ => 0)) :: (a1_23, pm_ia g 160 (fun _ => 0)) :: (a21, pm_ob 8 [.ref a1_23, .ref a4_23, .ref a7_23, .int 0, .int 0]) :: (a1_19, pm_ia g 24 (fun _ => 0)) :: (a17, pm_ob 6 [.ref a1_19, .int 0, .int 0, .int 0, .int 0]) :: (a7_15, pm_ia g 24 (fun _ => 0)) :: (a4_15, pm_ia g 24 (fun _ => 0)) :: (a1_15, pm_ia g 160 (fun _ => 0)) :: (a13, pm_ob 1 [.ref a1_15, .ref a4_15, .ref a7_15, .int 0, .int 0]) :: (a4_11, pm_ia g 160 (fun _ => 0)) :: (a1_11, pm_ia g 24 (fun _ => 0)) :: (a9, pm_ob 0 [.ref a1_11, .ref a4_11, .int 0]) :: (a4_7, pm_ia g 24 (fun j => if j < 24 then (1 : Int32) else 0)) :: (a1_7, pm_ia g 24 (fun _ => 0)) :: (a5, pm_ob 2 [.ref a1_7, .ref a4_7, .int 0, .int 0, .int 0, .int 0]) :: (a7_12_3, pm_ia g 160 (fun _ => 0)) :: (a4_12_3, pm_ia g 160 (fun _ => 0)) :: (a1_12_3, pm_ia g 160 (fun _ => 0)) :: (a10_3, pm_ob 7 [.ref a1_12_3, .ref a4_12_3, .ref a7_12_3, .int 0, .int 0]) :: (a7_3, pm_ia g 24 (fun _ => 0)) :: (a4_3, pm_ia g 160 (fun _ => 0)) :: (a1_3, pm_ra g 41 (va_up (fun _ => none) (0 : Int32).toInt.toNat (some a10_3))) :: (a1, pm_ob 9 [.ref a1_3, .ref a4_3, .ref a7_3, .ref a10_3, .ref a10_3, .int 0, .int 0, .int 0]) :: (a, pm_ob 10 [.ref a1, .ref a5, .ref a9, .ref a13, .ref a17, .ref a21, .ref a25, .ref a29, .ref a33]) :: [])).Nodup) (f0 : A a1 = none) (f1 : A a1_3 = none) (f2 : A a4_3 = none) (f3 : A a7_3 = none) (f4 : A a10_3 = none) (f5 : A a1_12_3 = none) (f6 : A a4_12_3 = none) (f7 : A a7_12_3 = none) (f8 : A a5 = none) (f9 : A a1_7 = none) (f10 : A a4_7 = none) (f11 : A a9 = none) (f12 : A a1_11 = none) (f13 : A a4_11 = none) (f14 : A a13 = none) (f15 : A a1_15 = none) (f16 : A a4_15 = none) (f17 : A a7_15 = none) (f18 : A a17 = none) (f19 : A a1_19 = none) (f20 : A a21 = none) (f21 : A a1_23 = none) (f22 : A a4_23 = none) (f23 : A a7_23 = none) (f24 : A a25 = none) (f25 : A a1_27 = none) (f26 : A a29 = none) (f27 : A a1_31 = none) (f28 : A (r1_31 0) = none) (f29 : A (r1_31 1) = none) (f30 : A (r1_31 2) = none) (f31 : A (r1_31 3) = none) (f32 : A (r1_31 4) = none) (f33 : A (r1_31 5) = none) (f34 : A (r1_31 6) = none) (f35 : A (r1_31 7) = none) (f36 : A (r1_31 8) = none) (f37 : A a33 = none) (f38 : A a1_35 = none) (f39 : A a4_35 = none) (f40 : A a7_35 = none) (f41 : A a10_35 = none) (f42 : A a13_35 = none) : ∃ q : Nat → Nat, q 0 = a ∧ al A ((a13_35, pm_ia g 30 (fun _ => 0)) :: (a10_35, pm_ia g 30 (fun _ => 0)) :: (a7_35, pm_ia g 30 (fun _ => 0)) :: (a4_35, pm_ia g 30 (fun _ => 0)) :: (a1_35, pm_ia g 30 (fun _ => 0)) :: (a33, pm_ob 5 [.ref a1_35, .ref a4_35, .ref a7_35, .ref a10_35, .ref a13_35, .int 0]) :: ((r1_31 8), pm_ia g 161 (fun _ => 0)) :: ((r1_31 7), pm_ia g 161 (fun _ => 0)) :: ((r1_31 6), pm_ia g 161 (fun _ => 0)) :: ((r1_31 5), pm_ia g 161 (fun _ => 0)) :: ((r1_31 4), pm_ia g 161 (fun _ => 0)) :: ((r1_31 3), pm_ia g 161 (fun _ => 0)) :: ((r1_31 2), pm_ia g 161 (fun _ => 0)) :: ((r1_31 1), pm_ia g 161 (fun _ => 0)) :: ((r1_31 0), pm_ia g 161 (fun _ => 0)) :: (a1_31, pm_ma g 9 (fun j => if j < 9 then some (r1_31 j) else none)) :: (a29, pm_ob 3 [.ref a1_31]) :: (a1_27, pm_ia g 160 (fun _ => 0)) :: (a25, pm_ob 4 [.ref a1_27, .int 0, .int 0]) :: (a7_23, pm_ia g 24 (fun _ => 0)) :: (a4_23, pm_ia g 24 (fun _ => 0)) :: (a1_23, pm_ia g 160 (fun _ => 0)) :: (a21, pm_ob 8 [.ref a1_23, .ref a4_23, .ref a7_23, .int 0, .int 0]) :: (a1_19, pm_ia g 24 (fun _ => 0)) :: (a17, pm_ob 6 [.ref a1_19, .int 0, .int 0, .int 0, .int 0]) :: (a7_15, pm_ia g 24 (fun _ => 0)) :: (a4_15, pm_ia g 24 (fun _ => 0)) :: (a1_15, pm_ia g 160 (fun _ => 0)) :: (a13, pm_ob 1 [.ref a1_15, .ref a4_15, .ref a7_15, .int 0, .int 0]) :: (a4_11, pm_ia g 160 (fun _ => 0)) :: (a1_11, pm_ia g 24 (fun _ => 0)) :: (a9, pm_ob 0 [.ref a1_11, .ref a4_11, .int 0]) :: (a4_7, pm_ia g 24 (fun j => if j < 24 then (1 : Int32) else 0)) :: (a1_7, pm_ia g 24 (fun _ => 0)) :: (a5, pm_ob 2 [.ref a1_7, .ref a4_7, .int 0, .int 0, .int 0, .int 0]) :: (a7_12_3, pm_ia g 160 (fun _ => 0)) :: (a4_12_3, pm_ia g 160 (fun _ => 0)) :: (a1_12_3, pm_ia g 160 (fun _ => 0)) :: (a10_3, pm_ob 7 [.ref a1_12_3, .ref a4_12_3, .ref a7_12_3, .int 0, .int 0]) :: (a7_3, pm_ia g 24 (fun _ => 0)) :: (a4_3, pm_ia g 160 (fun _ => 0)) :: (a1_3, pm_ra g 41 (va_up (fun _ => none) (0 : Int32).toInt.toNat (some a10_3))) :: (a1, pm_ob 9 [.ref a1_3, .ref a4_3, .ref a7_3, .ref a10_3, .ref a10_3, .int 0, .int 0, .int 0]) :: (a, pm_ob 10 [.ref a1, .ref a5, .ref a9, .ref a13, .ref a17, .ref a21, .ref a25, .ref a29, .ref a33]) :: []) = cw A g 1 40 40 q (fun _ => 0) cw_e0 (fun _ => 0) (fun _ _ => 0) ∧ gw_D 44 q ∧ ∀ i, 0 < i → i < 44 → A (q i) = none := by
  obtain ⟨q, eq⟩ : ∃ q : Nat → Nat, q = fun i => (List.map Prod.fst ((a13_35, pm_ia g 30 (fun _ => 0)) :: (a10_35, pm_ia g 30 (fun _ => 0)) :: (a7_35, pm_ia g 30 (fun _ => 0)) :: (a4_35, pm_ia g 30 (fun _ => 0)) :: (a1_35, pm_ia g 30 (fun _ => 0)) :: (a33, pm_ob 5 [.ref a1_35, .ref a4_35, .ref a7_35, .ref a10_35, .ref a13_35, .int 0]) :: ((r1_31 8), pm_ia g 161 (fun _ => 0)) :: ((r1_31 7), pm_ia g 161 (fun _ => 0)) :: ((r1_31 6), pm_ia g 161 (fun _ => 0)) :: ((r1_31 5), pm_ia g 161 (fun _ => 0)) :: ((r1_31 4), pm_ia g 161 (fun _ => 0)) :: ((r1_31 3), pm_ia g 161 (fun _ => 0)) :: ((r1_31 2), pm_ia g 161 (fun _ => 0)) :: ((r1_31 1), pm_ia g 161 (fun _ => 0)) :: ((r1_31 0), pm_ia g 161 (fun _ => 0)) :: (a1_31, pm_ma g 9 (fun j => if j < 9 then some (r1_31 j) else none)) :: (a29, pm_ob 3 [.ref a1_31]) :: (a1_27, pm_ia g 160 (fun _ => 0)) :: (a25, pm_ob 4 [.ref a1_27, .int 0, .int 0]) :: (a7_23, pm_ia g 24 (fun _ => 0)) :: (a4_23, pm_ia g 24 (fun _ => 0)) :: (a1_23, pm_ia g 160 (fun _ => 0)) :: (a21, pm_ob 8 [.ref a1_23, .ref a4_23, .ref a7_23, .int 0, .int 0]) :: (a1_19, pm_ia g 24 (fun _ => 0)) :: (a17, pm_ob 6 [.ref a1_19, .int 0, .int 0, .int 0, .int 0]) :: (a7_15, pm_ia g 24 (fun _ => 0)) :: (a4_15, pm_ia g 24 (fun _ => 0)) :: (a1_15, pm_ia g 160 (fun _ => 0)) :: (a13, pm_ob 1 [.ref a1_15, .ref a4_15, .ref a7_15, .int 0, .int 0]) :: (a4_11, pm_ia g 160 (fun _ => 0)) :: (a1_11, pm_ia g 24 (fun _ => 0)) :: (a9, pm_ob 0 [.ref a1_11, .ref a4_11, .int 0]) :: (a4_7, pm_ia g 24 (fun j => if j < 24 then (1 : Int32) else 0)) :: (a1_7, pm_ia g 24 (fun _ => 0)) :: (a5, pm_ob 2 [.ref a1_7, .ref a4_7, .int 0, .int 0, .int 0, .int 0]) :: (a7_12_3, pm_ia g 160 (fun _ => 0)) :: (a4_12_3, pm_ia g 160 (fun _ => 0)) :: (a1_12_3, pm_ia g 160 (fun _ => 0)) :: (a10_3, pm_ob 7 [.ref a1_12_3, .ref a4_12_3, .ref a7_12_3, .int 0, .int 0]) :: (a7_3, pm_ia g 24 (fun _ => 0)) :: (a4_3, pm_ia g 160 (fun _ => 0)) :: (a1_3, pm_ra g 41 (va_up (fun _ => none) (0 : Int32).toInt.toNat (some a10_3))) :: (a1, pm_ob 9 [.ref a1_3, .ref a4_3, .ref a7_3, .ref a10_3, .ref a10_3, .int 0, .int 0, .int 0]) :: (a, pm_ob 10 [.ref a1, .ref a5, .ref a9, .ref a13, .ref a17, .ref a21, .ref a25, .ref a29, .ref a33]) :: [])).getD (cw_pi i) 0 := ⟨_, rfl⟩
  have q0 : q 0 = a := by rw [eq]; rfl
  have q1 : q 1 = a1 := by rw [eq]; rfl
  have q2 : q 2 = a5 := by rw [eq]; rfl
  have q3 : q 3 = a9 := by rw [eq]; rfl
  have q4 : q 4 = a13 := by rw [eq]; rfl
  have q5 : q 5 = a17 := by rw [eq]; rfl
  have q6 : q 6 = a21 := by rw [eq]; rfl
  have q7 : q 7 = a25 := by rw [eq]; rfl
  have q8 : q 8 = a29 := by rw [eq]; rfl
  have q9 : q 9 = a33 := by rw [eq]; rfl
  have q10 : q 10 = a1_3 := by rw [eq]; rfl
  have q11 : q 11 = a1_31 := by rw [eq]; rfl
  have q12 : q 12 = a4_3 := by rw [eq]; rfl
  have q13 : q 13 = a7_3 := by rw [eq]; rfl
  have q14 : q 14 = a1_7 := by rw [eq]; rfl
  have q15 : q 15 = a4_7 := by rw [eq]; rfl
  have q16 : q 16 = a1_11 := by rw [eq]; rfl
  have q17 : q 17 = a4_11 := by rw [eq]; rfl
  have q18 : q 18 = a1_15 := by rw [eq]; rfl
  have q19 : q 19 = a4_15 := by rw [eq]; rfl
  have q20 : q 20 = a7_15 := by rw [eq]; rfl
  have q21 : q 21 = a1_19 := by rw [eq]; rfl
  have q22 : q 22 = a1_23 := by rw [eq]; rfl
  have q23 : q 23 = a4_23 := by rw [eq]; rfl
  have q24 : q 24 = a7_23 := by rw [eq]; rfl
  have q25 : q 25 = a1_27 := by rw [eq]; rfl
  have q26 : q 26 = (r1_31 0) := by rw [eq]; rfl
  have q27 : q 27 = (r1_31 1) := by rw [eq]; rfl
  have q28 : q 28 = (r1_31 2) := by rw [eq]; rfl
  have q29 : q 29 = (r1_31 3) := by rw [eq]; rfl
  have q30 : q 30 = (r1_31 4) := by rw [eq]; rfl
  have q31 : q 31 = (r1_31 5) := by rw [eq]; rfl
  have q32 : q 32 = (r1_31 6) := by rw [eq]; rfl
  have q33 : q 33 = (r1_31 7) := by rw [eq]; rfl
  have q34 : q 34 = (r1_31 8) := by rw [eq]; rfl
  have q35 : q 35 = a1_35 := by rw [eq]; rfl
  have q36 : q 36 = a4_35 := by rw [eq]; rfl
  have q37 : q 37 = a7_35 := by rw [eq]; rfl
  have q38 : q 38 = a10_35 := by rw [eq]; rfl
  have q39 : q 39 = a13_35 := by rw [eq]; rfl
  have q40 : q 40 = a10_3 := by rw [eq]; rfl
  have q41 : q 41 = a1_12_3 := by rw [eq]; rfl
  have q42 : q 42 = a4_12_3 := by rw [eq]; rfl
  have q43 : q 43 = a7_12_3 := by rw [eq]; rfl
  refine ⟨q, q0, ?_, ?_, ?_⟩
  · refine gw_char (fun i hi => ?_) (fun x hx => ?_)
    · rcases (show i = 0 ∨ i = 1 ∨ i = 2 ∨ i = 3 ∨ i = 4 ∨ i = 5 ∨ i = 6 ∨ i = 7 ∨ i = 8 ∨ i = 9 ∨ i = 10 ∨ i = 11 ∨ i = 12 ∨ i = 13 ∨ i = 14 ∨ i = 15 ∨ i = 16 ∨ i = 17 ∨ i = 18 ∨ i = 19 ∨ i = 20 ∨ i = 21 ∨ i = 22 ∨ i = 23 ∨ i = 24 ∨ i = 25 ∨ i = 26 ∨ i = 27 ∨ i = 28 ∨ i = 29 ∨ i = 30 ∨ i = 31 ∨ i = 32 ∨ i = 33 ∨ i = 34 ∨ i = 35 ∨ i = 36 ∨ i = 37 ∨ i = 38 ∨ i = 39 ∨ i = 40 ∨ i = 41 ∨ i = 42 ∨ i = 43 by omega) with rfl | rfl | rfl | rfl | rfl | rfl | rfl | rfl | rfl | rfl | rfl | rfl | rfl | rfl | rfl | rfl | rfl | rfl | rfl | rfl | rfl | rfl | rfl | rfl | rfl | rfl | rfl | rfl | rfl | rfl | rfl | rfl | rfl | rfl | rfl | rfl | rfl | rfl | rfl | rfl | rfl | rfl | rfl | rfl
      · rw [q0]
        refine (al_get (k := 43) nd rfl).trans (congrArg some ?_)
        rw [← q1, ← q2, ← q3, ← q4, ← q5, ← q6, ← q7, ← q8, ← q9]
        rfl
      · rw [q1]
        refine (al_get (k := 42) nd rfl).trans (congrArg some ?_)
        rw [← q10, ← q12, ← q13, ← q40]
        rfl
      · rw [q2]
        refine (al_get (k := 34) nd rfl).trans (congrArg some ?_)
        rw [← q14, ← q15]
        rfl
      · rw [q3]
        refine (al_get (k := 31) nd rfl).trans (congrArg some ?_)
        rw [← q16, ← q17]
        rfl
      · rw [q4]
        refine (al_get (k := 28) nd rfl).trans (congrArg some ?_)
        rw [← q18, ← q19, ← q20]
        rfl
      · rw [q5]
        refine (al_get (k := 24) nd rfl).trans (congrArg some ?_)
        rw [← q21]
        rfl
      · rw [q6]
        refine (al_get (k := 22) nd rfl).trans (congrArg some ?_)
        rw [← q22, ← q23, ← q24]
        rfl
      · rw [q7]
        refine (al_get (k := 18) nd rfl).trans (congrArg some ?_)
        rw [← q25]
        rfl
      · rw [q8]
        refine (al_get (k := 16) nd rfl).trans (congrArg some ?_)
        rw [← q11]
        rfl
      · rw [q9]
        refine (al_get (k := 5) nd rfl).trans (congrArg some ?_)
        rw [← q35, ← q36, ← q37, ← q38, ← q39]
        rfl
      · rw [q10]
        refine (al_get (k := 41) nd rfl).trans (congrArg some ?_)
        show pm_ra g 41 _ = pm_ra g 41 (cw_rr 1 q)
        have e9 : (va_up (fun _ => none) (0 : Int32).toInt.toNat (some a10_3) : Nat → Option Nat) = cw_rr 1 q := by
          funext j
          unfold cw_rr
          by_cases hj : j = 0
          · subst hj
            rw [if_pos (by decide), q40]
            rfl
          · rw [if_neg (by omega)]
            have hz : (0 : Int32).toInt.toNat = 0 := rfl
            simp [va_up, hz, hj]
        rw [e9]
      · rw [q11]
        refine (al_get (k := 15) nd rfl).trans (congrArg some ?_)
        show pm_ma g 9 _ = pm_ma g 9 (cw_ww q)
        have e9 : (fun j => if j < 9 then some (r1_31 j) else none : Nat → Option Nat) = cw_ww q := by
          funext j
          unfold cw_ww
          by_cases hj : j < 9
          · rw [if_pos hj, if_pos hj]
            rcases (show j = 0 ∨ j = 1 ∨ j = 2 ∨ j = 3 ∨ j = 4 ∨ j = 5 ∨ j = 6 ∨ j = 7 ∨ j = 8 by omega) with rfl | rfl | rfl | rfl | rfl | rfl | rfl | rfl | rfl
            · rw [q26]
            · rw [q27]
            · rw [q28]
            · rw [q29]
            · rw [q30]
            · rw [q31]
            · rw [q32]
            · rw [q33]
            · rw [q34]
          · rw [if_neg hj, if_neg hj]
        rw [e9]
      · rw [q12]
        refine (al_get (k := 40) nd rfl).trans (congrArg some ?_)
        rfl
      · rw [q13]
        refine (al_get (k := 39) nd rfl).trans (congrArg some ?_)
        rfl
      · rw [q14]
        refine (al_get (k := 33) nd rfl).trans (congrArg some ?_)
        rfl
      · rw [q15]
        refine (al_get (k := 32) nd rfl).trans (congrArg some ?_)
        rfl
      · rw [q16]
        refine (al_get (k := 30) nd rfl).trans (congrArg some ?_)
        rfl
      · rw [q17]
        refine (al_get (k := 29) nd rfl).trans (congrArg some ?_)
        rfl
      · rw [q18]
        refine (al_get (k := 27) nd rfl).trans (congrArg some ?_)
        rfl
      · rw [q19]
        refine (al_get (k := 26) nd rfl).trans (congrArg some ?_)
        rfl
      · rw [q20]
        refine (al_get (k := 25) nd rfl).trans (congrArg some ?_)
        rfl
      · rw [q21]
        refine (al_get (k := 23) nd rfl).trans (congrArg some ?_)
        rfl
      · rw [q22]
        refine (al_get (k := 21) nd rfl).trans (congrArg some ?_)
        rfl
      · rw [q23]
        refine (al_get (k := 20) nd rfl).trans (congrArg some ?_)
        rfl
      · rw [q24]
        refine (al_get (k := 19) nd rfl).trans (congrArg some ?_)
        rfl
      · rw [q25]
        refine (al_get (k := 17) nd rfl).trans (congrArg some ?_)
        rfl
      · rw [q26]
        refine (al_get (k := 14) nd rfl).trans (congrArg some ?_)
        rfl
      · rw [q27]
        refine (al_get (k := 13) nd rfl).trans (congrArg some ?_)
        rfl
      · rw [q28]
        refine (al_get (k := 12) nd rfl).trans (congrArg some ?_)
        rfl
      · rw [q29]
        refine (al_get (k := 11) nd rfl).trans (congrArg some ?_)
        rfl
      · rw [q30]
        refine (al_get (k := 10) nd rfl).trans (congrArg some ?_)
        rfl
      · rw [q31]
        refine (al_get (k := 9) nd rfl).trans (congrArg some ?_)
        rfl
      · rw [q32]
        refine (al_get (k := 8) nd rfl).trans (congrArg some ?_)
        rfl
      · rw [q33]
        refine (al_get (k := 7) nd rfl).trans (congrArg some ?_)
        rfl
      · rw [q34]
        refine (al_get (k := 6) nd rfl).trans (congrArg some ?_)
        rfl
      · rw [q35]
        refine (al_get (k := 4) nd rfl).trans (congrArg some ?_)
        rfl
      · rw [q36]
        refine (al_get (k := 3) nd rfl).trans (congrArg some ?_)
        rfl
      · rw [q37]
        refine (al_get (k := 2) nd rfl).trans (congrArg some ?_)
        rfl
      · rw [q38]
        refine (al_get (k := 1) nd rfl).trans (congrArg some ?_)
        rfl
      · rw [q39]
        refine (al_get (k := 0) nd rfl).trans (congrArg some ?_)
        rfl
      · rw [q40]
        refine (al_get (k := 38) nd rfl).trans (congrArg some ?_)
        rw [← q41, ← q42, ← q43]
        rfl
      · rw [q41]
        refine (al_get (k := 37) nd rfl).trans (congrArg some ?_)
        rfl
      · rw [q42]
        refine (al_get (k := 36) nd rfl).trans (congrArg some ?_)
        rfl
      · rw [q43]
        refine (al_get (k := 35) nd rfl).trans (congrArg some ?_)
        rfl
    · refine al_out (List.forall_mem_cons.mpr ⟨by have h9 := hx 39 (by decide); rw [q39] at h9; exact h9, List.forall_mem_cons.mpr ⟨by have h9 := hx 38 (by decide); rw [q38] at h9; exact h9, List.forall_mem_cons.mpr ⟨by have h9 := hx 37 (by decide); rw [q37] at h9; exact h9, List.forall_mem_cons.mpr ⟨by have h9 := hx 36 (by decide); rw [q36] at h9; exact h9, List.forall_mem_cons.mpr ⟨by have h9 := hx 35 (by decide); rw [q35] at h9; exact h9, List.forall_mem_cons.mpr ⟨by have h9 := hx 9 (by decide); rw [q9] at h9; exact h9, List.forall_mem_cons.mpr ⟨by have h9 := hx 34 (by decide); rw [q34] at h9; exact h9, List.forall_mem_cons.mpr ⟨by have h9 := hx 33 (by decide); rw [q33] at h9; exact h9, List.forall_mem_cons.mpr ⟨by have h9 := hx 32 (by decide); rw [q32] at h9; exact h9, List.forall_mem_cons.mpr ⟨by have h9 := hx 31 (by decide); rw [q31] at h9; exact h9, List.forall_mem_cons.mpr ⟨by have h9 := hx 30 (by decide); rw [q30] at h9; exact h9, List.forall_mem_cons.mpr ⟨by have h9 := hx 29 (by decide); rw [q29] at h9; exact h9, List.forall_mem_cons.mpr ⟨by have h9 := hx 28 (by decide); rw [q28] at h9; exact h9, List.forall_mem_cons.mpr ⟨by have h9 := hx 27 (by decide); rw [q27] at h9; exact h9, List.forall_mem_cons.mpr ⟨by have h9 := hx 26 (by decide); rw [q26] at h9; exact h9, List.forall_mem_cons.mpr ⟨by have h9 := hx 11 (by decide); rw [q11] at h9; exact h9, List.forall_mem_cons.mpr ⟨by have h9 := hx 8 (by decide); rw [q8] at h9; exact h9, List.forall_mem_cons.mpr ⟨by have h9 := hx 25 (by decide); rw [q25] at h9; exact h9, List.forall_mem_cons.mpr ⟨by have h9 := hx 7 (by decide); rw [q7] at h9; exact h9, List.forall_mem_cons.mpr ⟨by have h9 := hx 24 (by decide); rw [q24] at h9; exact h9, List.forall_mem_cons.mpr ⟨by have h9 := hx 23 (by decide); rw [q23] at h9; exact h9, List.forall_mem_cons.mpr ⟨by have h9 := hx 22 (by decide); rw [q22] at h9; exact h9, List.forall_mem_cons.mpr ⟨by have h9 := hx 6 (by decide); rw [q6] at h9; exact h9, List.forall_mem_cons.mpr ⟨by have h9 := hx 21 (by decide); rw [q21] at h9; exact h9, List.forall_mem_cons.mpr ⟨by have h9 := hx 5 (by decide); rw [q5] at h9; exact h9, List.forall_mem_cons.mpr ⟨by have h9 := hx 20 (by decide); rw [q20] at h9; exact h9, List.forall_mem_cons.mpr ⟨by have h9 := hx 19 (by decide); rw [q19] at h9; exact h9, List.forall_mem_cons.mpr ⟨by have h9 := hx 18 (by decide); rw [q18] at h9; exact h9, List.forall_mem_cons.mpr ⟨by have h9 := hx 4 (by decide); rw [q4] at h9; exact h9, List.forall_mem_cons.mpr ⟨by have h9 := hx 17 (by decide); rw [q17] at h9; exact h9, List.forall_mem_cons.mpr ⟨by have h9 := hx 16 (by decide); rw [q16] at h9; exact h9, List.forall_mem_cons.mpr ⟨by have h9 := hx 3 (by decide); rw [q3] at h9; exact h9, List.forall_mem_cons.mpr ⟨by have h9 := hx 15 (by decide); rw [q15] at h9; exact h9, List.forall_mem_cons.mpr ⟨by have h9 := hx 14 (by decide); rw [q14] at h9; exact h9, List.forall_mem_cons.mpr ⟨by have h9 := hx 2 (by decide); rw [q2] at h9; exact h9, List.forall_mem_cons.mpr ⟨by have h9 := hx 43 (by decide); rw [q43] at h9; exact h9, List.forall_mem_cons.mpr ⟨by have h9 := hx 42 (by decide); rw [q42] at h9; exact h9, List.forall_mem_cons.mpr ⟨by have h9 := hx 41 (by decide); rw [q41] at h9; exact h9, List.forall_mem_cons.mpr ⟨by have h9 := hx 40 (by decide); rw [q40] at h9; exact h9, List.forall_mem_cons.mpr ⟨by have h9 := hx 13 (by decide); rw [q13] at h9; exact h9, List.forall_mem_cons.mpr ⟨by have h9 := hx 12 (by decide); rw [q12] at h9; exact h9, List.forall_mem_cons.mpr ⟨by have h9 := hx 10 (by decide); rw [q10] at h9; exact h9, List.forall_mem_cons.mpr ⟨by have h9 := hx 1 (by decide); rw [q1] at h9; exact h9, List.forall_mem_cons.mpr ⟨by have h9 := hx 0 (by decide); rw [q0] at h9; exact h9, fun _ h9 => absurd h9 List.not_mem_nil⟩⟩⟩⟩⟩⟩⟩⟩⟩⟩⟩⟩⟩⟩⟩⟩⟩⟩⟩⟩⟩⟩⟩⟩⟩⟩⟩⟩⟩⟩⟩⟩⟩⟩⟩⟩⟩⟩⟩⟩⟩⟩⟩⟩)
  · intro i j hi hj hij
    rw [eq] at hij
    have h9 := (List.getD_inj (fallback := 0) (show cw_pi i < 44 from cw_pi_lt i hi) (show cw_pi j < 44 from cw_pi_lt j hj) nd).mp hij
    exact cw_pi_inj i hi j hj h9
  · intro i h0 hi
    rcases (show i = 1 ∨ i = 2 ∨ i = 3 ∨ i = 4 ∨ i = 5 ∨ i = 6 ∨ i = 7 ∨ i = 8 ∨ i = 9 ∨ i = 10 ∨ i = 11 ∨ i = 12 ∨ i = 13 ∨ i = 14 ∨ i = 15 ∨ i = 16 ∨ i = 17 ∨ i = 18 ∨ i = 19 ∨ i = 20 ∨ i = 21 ∨ i = 22 ∨ i = 23 ∨ i = 24 ∨ i = 25 ∨ i = 26 ∨ i = 27 ∨ i = 28 ∨ i = 29 ∨ i = 30 ∨ i = 31 ∨ i = 32 ∨ i = 33 ∨ i = 34 ∨ i = 35 ∨ i = 36 ∨ i = 37 ∨ i = 38 ∨ i = 39 ∨ i = 40 ∨ i = 41 ∨ i = 42 ∨ i = 43 by omega) with rfl | rfl | rfl | rfl | rfl | rfl | rfl | rfl | rfl | rfl | rfl | rfl | rfl | rfl | rfl | rfl | rfl | rfl | rfl | rfl | rfl | rfl | rfl | rfl | rfl | rfl | rfl | rfl | rfl | rfl | rfl | rfl | rfl | rfl | rfl | rfl | rfl | rfl | rfl | rfl | rfl | rfl | rfl
    · rw [q1]; exact f0
    · rw [q2]; exact f8
    · rw [q3]; exact f11
    · rw [q4]; exact f14
    · rw [q5]; exact f18
    · rw [q6]; exact f20
    · rw [q7]; exact f24
    · rw [q8]; exact f26
    · rw [q9]; exact f37
    · rw [q10]; exact f1
    · rw [q11]; exact f27
    · rw [q12]; exact f2
    · rw [q13]; exact f3
    · rw [q14]; exact f9
    · rw [q15]; exact f10
    · rw [q16]; exact f12
    · rw [q17]; exact f13
    · rw [q18]; exact f15
    · rw [q19]; exact f16
    · rw [q20]; exact f17
    · rw [q21]; exact f19
    · rw [q22]; exact f21
    · rw [q23]; exact f22
    · rw [q24]; exact f23
    · rw [q25]; exact f25
    · rw [q26]; exact f28
    · rw [q27]; exact f29
    · rw [q28]; exact f30
    · rw [q29]; exact f31
    · rw [q30]; exact f32
    · rw [q31]; exact f33
    · rw [q32]; exact f34
    · rw [q33]; exact f35
    · rw [q34]; exact f36
    · rw [q35]; exact f38
    · rw [q36]; exact f39
    · rw [q37]; exact f40
    · rw [q38]; exact f41
    · rw [q39]; exact f42
    · rw [q40]; exact f4
    · rw [q41]; exact f5
    · rw [q42]; exact f6
    · rw [q43]; exact f7

