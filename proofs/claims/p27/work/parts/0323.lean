
set_option maxRecDepth 100000 in
set_option maxHeartbeats 4000000 in
theorem md_init_of {A : pm_H} {g : pm_G} {ws : List (Nat × va_E)} {a : Nat} {a1 : Nat} {a4 : Nat} {a7 : Nat} {a10 : Nat} {a13 : Nat} {a16 : Nat} {a19 : Nat} {a22 : Nat} {a25 : Nat} {a28 : Nat} {a31 : Nat} {a34 : Nat} {a37 : Nat} {a40 : Nat} {a43 : Nat} {a46 : Nat} {a49 : Nat} {a52 : Nat} {a55 : Nat} {a58 : Nat} {fw : Nat → Int32} (nd : (List.map Prod.fst ((a58, pm_ia g 1449 (fun _ => 0)) :: (a55, pm_ia g 1449 (fun _ => 0)) :: (a52, pm_ia g 160 (fun _ => 0)) :: (a49, pm_ia g 24 (fun _ => 0)) :: (a46, pm_ia g 40 (fun _ => 0)) :: (a43, pm_ia g 40 (fun _ => 0)) :: (a40, pm_ia g 6400 (fun _ => 0)) :: (a37, pm_ia g 6400 (fun _ => 0)) :: (a34, pm_ia g 30 (fun _ => 0)) :: (a31, pm_ia g 30 (fun _ => 0)) :: (a28, pm_ia g 30 (fun _ => 0)) :: (a25, pm_ia g 30 (fun _ => 0)) :: (a22, pm_ia g 30 (fun _ => 0)) :: (a19, pm_ia g 160 (fun _ => 0)) :: (a16, pm_ia g 160 (fun _ => 0)) :: (a13, pm_ia g 160 (fun _ => 0)) :: (a10, pm_ia g 160 (fun _ => 0)) :: (a7, pm_ia g 24 fw) :: (a4, pm_ia g 160 (fun _ => 0)) :: (a1, pm_ia g 160 (fun _ => 0)) :: (a, pm_ob 11 [.ref a1, .ref a4, .ref a7, .ref a10, .ref a13, .ref a16, .ref a19, .int 0, .int 0, .int 0, .int 0, .int 0, .int 0, .ref a22, .ref a25, .ref a28, .ref a31, .int 0, .ref a34, .ref a37, .ref a40, .ref a43, .ref a46, .ref a49, .int 0, .ref a52, .ref a55, .ref a58]) :: ws)).Nodup) (f0 : A a1 = none) (f1 : A a4 = none) (f2 : A a7 = none) (f3 : A a10 = none) (f4 : A a13 = none) (f5 : A a16 = none) (f6 : A a19 = none) (f7 : A a22 = none) (f8 : A a25 = none) (f9 : A a28 = none) (f10 : A a31 = none) (f11 : A a34 = none) (f12 : A a37 = none) (f13 : A a40 = none) (f14 : A a43 = none) (f15 : A a46 = none) (f16 : A a49 = none) (f17 : A a52 = none) (f18 : A a55 = none) (f19 : A a58 = none) : ∃ q : Nat → Nat, al A ((a58, pm_ia g 1449 (fun _ => 0)) :: (a55, pm_ia g 1449 (fun _ => 0)) :: (a52, pm_ia g 160 (fun _ => 0)) :: (a49, pm_ia g 24 (fun _ => 0)) :: (a46, pm_ia g 40 (fun _ => 0)) :: (a43, pm_ia g 40 (fun _ => 0)) :: (a40, pm_ia g 6400 (fun _ => 0)) :: (a37, pm_ia g 6400 (fun _ => 0)) :: (a34, pm_ia g 30 (fun _ => 0)) :: (a31, pm_ia g 30 (fun _ => 0)) :: (a28, pm_ia g 30 (fun _ => 0)) :: (a25, pm_ia g 30 (fun _ => 0)) :: (a22, pm_ia g 30 (fun _ => 0)) :: (a19, pm_ia g 160 (fun _ => 0)) :: (a16, pm_ia g 160 (fun _ => 0)) :: (a13, pm_ia g 160 (fun _ => 0)) :: (a10, pm_ia g 160 (fun _ => 0)) :: (a7, pm_ia g 24 fw) :: (a4, pm_ia g 160 (fun _ => 0)) :: (a1, pm_ia g 160 (fun _ => 0)) :: (a, pm_ob 11 [.ref a1, .ref a4, .ref a7, .ref a10, .ref a13, .ref a16, .ref a19, .int 0, .int 0, .int 0, .int 0, .int 0, .int 0, .ref a22, .ref a25, .ref a28, .ref a31, .int 0, .ref a34, .ref a37, .ref a40, .ref a43, .ref a46, .ref a49, .int 0, .ref a52, .ref a55, .ref a58]) :: ws) = md (al A ws) g a q (fun _ => 0) (md_f0 fw) ∧ md_D a q ∧ (∀ i, i < 20 → ∀ p ∈ ws, q i ≠ p.1) ∧ ∀ i, i < 20 → A (q i) = none := by
  obtain ⟨ks, eks⟩ : ∃ ks : List Nat, ks = a58 :: a55 :: a52 :: a49 :: a46 :: a43 :: a40 :: a37 :: a34 :: a31 :: a28 :: a25 :: a22 :: a19 :: a16 :: a13 :: a10 :: a7 :: a4 :: a1 :: a :: ws.map Prod.fst := ⟨_, rfl⟩
  have ndk : ks.Nodup := by rw [eks]; exact nd
  have hl : ks.length = 21 + ws.length := by rw [eks]; simp only [List.length_cons, List.length_map]; omega
  obtain ⟨q, eq⟩ : ∃ q : Nat → Nat, ∀ i, q i = ks.getD (19 - i) 0 := ⟨fun i => ks.getD (19 - i) 0, fun _ => rfl⟩
  have ha : ks.getD 20 0 = a := by rw [eks]; rfl
  have q0 : q 0 = a1 := by rw [eq, eks]; rfl
  have q1 : q 1 = a4 := by rw [eq, eks]; rfl
  have q2 : q 2 = a7 := by rw [eq, eks]; rfl
  have q3 : q 3 = a10 := by rw [eq, eks]; rfl
  have q4 : q 4 = a13 := by rw [eq, eks]; rfl
  have q5 : q 5 = a16 := by rw [eq, eks]; rfl
  have q6 : q 6 = a19 := by rw [eq, eks]; rfl
  have q7 : q 7 = a22 := by rw [eq, eks]; rfl
  have q8 : q 8 = a25 := by rw [eq, eks]; rfl
  have q9 : q 9 = a28 := by rw [eq, eks]; rfl
  have q10 : q 10 = a31 := by rw [eq, eks]; rfl
  have q11 : q 11 = a34 := by rw [eq, eks]; rfl
  have q12 : q 12 = a37 := by rw [eq, eks]; rfl
  have q13 : q 13 = a40 := by rw [eq, eks]; rfl
  have q14 : q 14 = a43 := by rw [eq, eks]; rfl
  have q15 : q 15 = a46 := by rw [eq, eks]; rfl
  have q16 : q 16 = a49 := by rw [eq, eks]; rfl
  have q17 : q 17 = a52 := by rw [eq, eks]; rfl
  have q18 : q 18 = a55 := by rw [eq, eks]; rfl
  have q19 : q 19 = a58 := by rw [eq, eks]; rfl
  refine ⟨q, ?_, ⟨?_, ?_⟩, ?_, ?_⟩
  · refine md_char ?_ (fun i hi => ?_) (fun x hx hq => ?_)
    · refine (al_get (k := 20) nd rfl).trans (congrArg some ?_)
      rw [← q0, ← q1, ← q2, ← q3, ← q4, ← q5, ← q6, ← q7, ← q8, ← q9, ← q10, ← q11, ← q12, ← q13, ← q14, ← q15, ← q16, ← q17, ← q18, ← q19]
      rfl
    · rcases (show i = 0 ∨ i = 1 ∨ i = 2 ∨ i = 3 ∨ i = 4 ∨ i = 5 ∨ i = 6 ∨ i = 7 ∨ i = 8 ∨ i = 9 ∨ i = 10 ∨ i = 11 ∨ i = 12 ∨ i = 13 ∨ i = 14 ∨ i = 15 ∨ i = 16 ∨ i = 17 ∨ i = 18 ∨ i = 19 by omega) with rfl | rfl | rfl | rfl | rfl | rfl | rfl | rfl | rfl | rfl | rfl | rfl | rfl | rfl | rfl | rfl | rfl | rfl | rfl | rfl
      · rw [q0]; exact (al_get (k := 19) nd rfl)
      · rw [q1]; exact (al_get (k := 18) nd rfl)
      · rw [q2]; exact (al_get (k := 17) nd rfl)
      · rw [q3]; exact (al_get (k := 16) nd rfl)
      · rw [q4]; exact (al_get (k := 15) nd rfl)
      · rw [q5]; exact (al_get (k := 14) nd rfl)
      · rw [q6]; exact (al_get (k := 13) nd rfl)
      · rw [q7]; exact (al_get (k := 12) nd rfl)
      · rw [q8]; exact (al_get (k := 11) nd rfl)
      · rw [q9]; exact (al_get (k := 10) nd rfl)
      · rw [q10]; exact (al_get (k := 9) nd rfl)
      · rw [q11]; exact (al_get (k := 8) nd rfl)
      · rw [q12]; exact (al_get (k := 7) nd rfl)
      · rw [q13]; exact (al_get (k := 6) nd rfl)
      · rw [q14]; exact (al_get (k := 5) nd rfl)
      · rw [q15]; exact (al_get (k := 4) nd rfl)
      · rw [q16]; exact (al_get (k := 3) nd rfl)
      · rw [q17]; exact (al_get (k := 2) nd rfl)
      · rw [q18]; exact (al_get (k := 1) nd rfl)
      · rw [q19]; exact (al_get (k := 0) nd rfl)
    · show pm_up _ _ _ x = _
      have h19 := hq 19 (by decide)
      rw [q19] at h19
      have h18 := hq 18 (by decide)
      rw [q18] at h18
      have h17 := hq 17 (by decide)
      rw [q17] at h17
      have h16 := hq 16 (by decide)
      rw [q16] at h16
      have h15 := hq 15 (by decide)
      rw [q15] at h15
      have h14 := hq 14 (by decide)
      rw [q14] at h14
      have h13 := hq 13 (by decide)
      rw [q13] at h13
      have h12 := hq 12 (by decide)
      rw [q12] at h12
      have h11 := hq 11 (by decide)
      rw [q11] at h11
      have h10 := hq 10 (by decide)
      rw [q10] at h10
      have h9 := hq 9 (by decide)
      rw [q9] at h9
      have h8 := hq 8 (by decide)
      rw [q8] at h8
      have h7 := hq 7 (by decide)
      rw [q7] at h7
      have h6 := hq 6 (by decide)
      rw [q6] at h6
      have h5 := hq 5 (by decide)
      rw [q5] at h5
      have h4 := hq 4 (by decide)
      rw [q4] at h4
      have h3 := hq 3 (by decide)
      rw [q3] at h3
      have h2 := hq 2 (by decide)
      rw [q2] at h2
      have h1 := hq 1 (by decide)
      rw [q1] at h1
      have h0 := hq 0 (by decide)
      rw [q0] at h0
      refine (pm_up_n h19).trans ?_
      show pm_up _ _ _ x = _
      refine (pm_up_n h18).trans ?_
      show pm_up _ _ _ x = _
      refine (pm_up_n h17).trans ?_
      show pm_up _ _ _ x = _
      refine (pm_up_n h16).trans ?_
      show pm_up _ _ _ x = _
      refine (pm_up_n h15).trans ?_
      show pm_up _ _ _ x = _
      refine (pm_up_n h14).trans ?_
      show pm_up _ _ _ x = _
      refine (pm_up_n h13).trans ?_
      show pm_up _ _ _ x = _
      refine (pm_up_n h12).trans ?_
      show pm_up _ _ _ x = _
      refine (pm_up_n h11).trans ?_
      show pm_up _ _ _ x = _
      refine (pm_up_n h10).trans ?_
      show pm_up _ _ _ x = _
      refine (pm_up_n h9).trans ?_
      show pm_up _ _ _ x = _
      refine (pm_up_n h8).trans ?_
      show pm_up _ _ _ x = _
      refine (pm_up_n h7).trans ?_
      show pm_up _ _ _ x = _
      refine (pm_up_n h6).trans ?_
      show pm_up _ _ _ x = _
      refine (pm_up_n h5).trans ?_
      show pm_up _ _ _ x = _
      refine (pm_up_n h4).trans ?_
      show pm_up _ _ _ x = _
      refine (pm_up_n h3).trans ?_
      show pm_up _ _ _ x = _
      refine (pm_up_n h2).trans ?_
      show pm_up _ _ _ x = _
      refine (pm_up_n h1).trans ?_
      show pm_up _ _ _ x = _
      refine (pm_up_n h0).trans ?_
      show pm_up _ _ _ x = _
      exact pm_up_n hx
  · intro i j hi hj hij
    rw [eq, eq] at hij
    have h9 := (List.getD_inj (fallback := 0) (i := 19 - i) (j := 19 - j) (by omega) (by omega) ndk).mp hij
    omega
  · intro i hi hia
    rw [eq, ← ha] at hia
    have h9 := (List.getD_inj (fallback := 0) (i := 19 - i) (j := 20) (by omega) (by omega) ndk).mp hia
    omega
  · intro i hi p hp he
    obtain ⟨k, hk, hkp⟩ := List.getElem_of_mem hp
    have hkk : ks.getD (21 + k) 0 = p.1 := by
      rw [eks, show 21 + k = k + 21 by omega]
      show (List.map Prod.fst ws).getD k 0 = p.1
      rw [List.getD_eq_getElem?_getD, List.getElem?_map, List.getElem?_eq_getElem hk, hkp]
      rfl
    rw [eq, ← hkk] at he
    have h9 := (List.getD_inj (fallback := 0) (i := 19 - i) (j := 21 + k) (by omega) (by omega) ndk).mp he
    omega
  · intro i hi
    rcases (show i = 0 ∨ i = 1 ∨ i = 2 ∨ i = 3 ∨ i = 4 ∨ i = 5 ∨ i = 6 ∨ i = 7 ∨ i = 8 ∨ i = 9 ∨ i = 10 ∨ i = 11 ∨ i = 12 ∨ i = 13 ∨ i = 14 ∨ i = 15 ∨ i = 16 ∨ i = 17 ∨ i = 18 ∨ i = 19 by omega) with rfl | rfl | rfl | rfl | rfl | rfl | rfl | rfl | rfl | rfl | rfl | rfl | rfl | rfl | rfl | rfl | rfl | rfl | rfl | rfl
    · rw [q0]; exact f0
    · rw [q1]; exact f1
    · rw [q2]; exact f2
    · rw [q3]; exact f3
    · rw [q4]; exact f4
    · rw [q5]; exact f5
    · rw [q6]; exact f6
    · rw [q7]; exact f7
    · rw [q8]; exact f8
    · rw [q9]; exact f9
    · rw [q10]; exact f10
    · rw [q11]; exact f11
    · rw [q12]; exact f12
    · rw [q13]; exact f13
    · rw [q14]; exact f14
    · rw [q15]; exact f15
    · rw [q16]; exact f16
    · rw [q17]; exact f17
    · rw [q18]; exact f18
    · rw [q19]; exact f19

