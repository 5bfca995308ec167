section
variable {l : Launch} {g : pm_G} {A0 : pm_H} {K nn dn : Nat} {q : Nat → Nat} {w : Nat → Int32} {e : Nat → Nat → Int32} {v : Nat → Int32} {f : Nat → Nat → Int32}
set_option maxRecDepth 100000 in
set_option maxHeartbeats 2000000 in
theorem T_X9_finish (hI : cw_I K nn dn q w e) (hs : cw_S v f)  (p0 : (w 0).toInt + 2 ≤ K ∨ K = 41) (p1 : (w 0).toInt < 100000) : pm_Mt l g 24 3 0 0 [.ref (q 1)] (cw A0 g K nn dn q w e v f) (cw_Qu A0 g K dn dn q (fun r w2 e2 v2 f2 => e2 15 = e 15 ∧ (∃ x : Int32, r = some (.int x) ∧ (((w2 1).toInt = (w 1).toInt ∧ (w2 3).toInt = (w 3).toInt ∧ (w2 0).toInt = (w 0).toInt + 1) ∧ (((∀ i9, 40 ≤ i9 → (i9 < dn ∨ dn + 4 ≤ i9) → w2 i9 = w i9 ∧ e2 i9 = e i9) ∧ (∀ D, rp (w dn) (e (dn + 1)) (e (dn + 2)) (D) → rp (w2 dn) (e2 (dn + 1)) (e2 (dn + 2)) (D)) ∧ bd (w2 dn) (e2 (dn + 1)) (e2 (dn + 3))) ∧ (∀ (n : Int) (c m : Nat → Int32), UQ n m → TB w e f dn n c m → x.toInt = (tcN n c m (e2 (dn + 1)) (e2 (dn + 2)) (w2 dn).toInt.toNat : Int))))))) := by
  refine mt_X9_finish rfl (fun J hC => ?_)
  have ro_nn : cw_ro K nn := hI.2.1.2.1
  have ro_dn : cw_ro K dn := hI.2.1.2.2.1
  have hu1 := hI.2.1
  unfold cw_W at hu1
  have zs2 := cw_sz hI ro_nn
  have zs3 := cw_sz hI ro_dn
  refine hC.1 0 0 _ _ rfl _ _ _ _ _ ?_
  refine Exists.intro _ (And.intro (cw_o1 hI.1) ?_)
  have km1 : (-1 : Int32).toInt = -1 := rfl
  refine Exists.intro _ (Exists.intro _ (Exists.intro _ (Exists.intro _ (And.intro (c_fill (cw_a13 hI.1) (by decide) (-1 : Int32)) (And.intro rfl (fun r9 A9 h9 => ?_))))))
  obtain ⟨rfl, rfl⟩ := h9
  rw [cw_s13 hI.1]
  obtain ⟨f4, ef4⟩ : ∃ z9, z9 = va_up f 13 (fun j => if j < 24 then (-1 : Int32) else f 13 j) := ⟨_, rfl⟩
  rw [← ef4]
  have hs4 : cw_S v f4 := by rw [ef4]; exact cw_S_fl hs _ _ (by decide)
  have pf_5 := ef4
  have k0 : (0 : Int32).toInt = 0 := rfl
  have lp6 : ∀ (n : Nat) (z1_12 : Int32) (z2_12 : Int32) (w5 : Nat → Int32) (e5 : Nat → Nat → Int32) (v5 : Nat → Int32) (f5 : Nat → Nat → Int32), cw_I K nn dn q w5 e5 → e5 15 = e 15 → cw_S v5 f5 → (0 ≤ z2_12.toInt ∧ z2_12.toInt ≤ 160) → ((w5 0).toInt = (w 0).toInt) → (w5 = w ∧ ∀ i9, i9 ≠ dn + 3 → e5 i9 = e i9) → (∀ j : Nat, (j : Int) < z2_12.toInt → (e5 (dn + 3) j).toInt = lastEq (e (dn + 1)) (e (dn + 1) j) j) → (∀ c9 : Int32, 0 ≤ c9.toInt → c9.toInt ≤ 23 → (f5 13 c9.toInt.toNat).toInt = lastEq (e (dn + 1)) c9 z2_12.toInt.toNat) → (0 ≤ z1_12.toInt ∧ z1_12.toInt ≤ z2_12.toInt) → (f5 12 = f 12) → (∀ (n : Int) (c m : Nat → Int32), UQ n m → TB w e f dn n c m → z1_12.toInt = (tcN n c m (e (dn + 1)) (e (dn + 2)) z2_12.toInt.toNat : Int)) → (z2_12.toInt ≤ (w dn).toInt) → (w5 1).toInt = (w 1).toInt → (w5 3).toInt = (w 3).toInt → 200 - z2_12.toInt < (n : Int) → J 12 [some (.ref (q 1)), some (.int z1_12), some (.int z2_12), none] [] (cw A0 g K nn dn q w5 e5 v5 f5) 0 0 := by
    intro n
    induction n with
    | zero =>
      intro z1_12 z2_12 w5 e5 v5 f5 hI5 hx5 hs5 j0_12 j1_12 j2_12 j3_12 j4_12 j5_12 j6_12 j7_12 j8_12 j9_12 j10_12 j11_12
      omega
    | succ n ih7 =>
      intro z1_12 z2_12 w5 e5 v5 f5 hI5 hx5 hs5 j0_12 j1_12 j2_12 j3_12 j4_12 j5_12 j6_12 j7_12 j8_12 j9_12 j10_12 j11_12
      have hu8 := hI5.2.1
      unfold cw_W at hu8
      have zs9 := cw_sz hI5 ro_nn
      have zs10 := cw_sz hI5 ro_dn
      refine hC.1 1 12 _ _ rfl _ _ _ _ _ ?_
      refine Exists.intro _ (And.intro (cw_o1 hI5.1) ?_)
      refine Exists.intro _ (And.intro (cw_ro_o hI5.1 ro_dn) ?_)
      have z11 := cw_sz hI5 ro_dn
      refine And.intro (fun c12 => ?_) (fun c12 => ?_)
      · skip
        refine hC.1 3 92 _ _ rfl _ _ _ _ _ ?_
        refine Exists.intro _ (And.intro (cw_o1 hI5.1) ?_)
        refine Exists.intro _ (And.intro (cw_ro_o hI5.1 ro_dn) (And.intro rfl ?_))
        rw [cw_p_touches hI5.1 ro_dn]
        have hb13 := ro_dn
        unfold cw_ro at hb13
        obtain ⟨w14, ew14⟩ : ∃ z9, z9 = upd w5 (dn + 1) z1_12 := ⟨_, rfl⟩
        rw [← ew14]
        have ew14_0 : (w14 0).toInt = (w5 0).toInt := by rw [ew14, pk_un (by omega)]
        have ew14_1 : (w14 1).toInt = (w5 1).toInt := by rw [ew14, pk_un (by omega)]
        have ew14_2 : (w14 2).toInt = (w5 2).toInt := by rw [ew14, pk_un (by omega)]
        have ew14_3 : (w14 3).toInt = (w5 3).toInt := by rw [ew14, pk_un (by omega)]
        have pn_97 : w14 (dn + 1) = z1_12 := by rw [ew14, pk_us]
        have pw_97 := ew14
        have hZ14 : cw_Z w14 := by rw [ew14]; exact cw_Z_up hI5.2.2.1 _ _ (by omega)
        have hI14 : cw_I K nn dn q w14 e5 := ⟨hI5.1, by unfold cw_W; omega, hZ14, hI5.2.2.2⟩
        refine Exists.intro _ (And.intro (cw_o1 hI14.1) ?_)
        refine Exists.intro _ (And.intro (cw_o1 hI14.1) (And.intro rfl ?_))
        rw [cw_p_now hI14.1]
        have hI15 : cw_I K dn dn q w14 e5 := ⟨hI14.1, by have hu9 := hI14.2.1; unfold cw_W at hu9 ⊢; omega, hI14.2.2.1, hI14.2.2.2⟩
        refine Exists.intro _ (And.intro (cw_o1 hI15.1) ?_)
        have k1 : (1 : Int32).toInt = 1 := rfl
        intro m16 em_114
        try have e16 : m16.toInt = ((w14 0)).toInt + (1) := by rw [em_114]; exact pm_addc _ _ (1) rfl (by omega) (by omega)
        refine Exists.intro _ (And.intro (cw_o1 hI15.1) (And.intro rfl ?_))
        rw [cw_p_edits hI15.1]
        obtain ⟨w17, ew17⟩ : ∃ z9, z9 = upd w14 0 m16 := ⟨_, rfl⟩
        rw [← ew17]
        have ew17_0 : (w17 0).toInt = (m16).toInt := by rw [ew17]; rfl
        have ew17_1 : (w17 1).toInt = (w14 1).toInt := by rw [ew17]; rfl
        have ew17_2 : (w17 2).toInt = (w14 2).toInt := by rw [ew17]; rfl
        have ew17_3 : (w17 3).toInt = (w14 3).toInt := by rw [ew17]; rfl
        have pn_115 : w17 0 = m16 := by rw [ew17, pk_us]
        have pw_115 := ew17
        have hZ17 : cw_Z w17 := by rw [ew17]; exact cw_Z_up hI15.2.2.1 _ _ (by omega)
        have hI17 : cw_I K dn dn q w17 e5 := ⟨hI15.1, by unfold cw_W; omega, hZ17, hI15.2.2.2⟩
        refine Exists.intro _ (And.intro (cw_o1 hI17.1) ?_)
        intro m18 em_124
        try have e18 : m18.toInt = ((w17 2)).toInt + (z1_12).toInt := by rw [em_124]; exact pm_add _ _ (by omega) (by omega)
        refine Exists.intro _ (And.intro (cw_o1 hI17.1) (And.intro rfl ?_))
        rw [cw_p_touchedInAll hI17.1]
        obtain ⟨w19, ew19⟩ : ∃ z9, z9 = upd w17 2 m18 := ⟨_, rfl⟩
        rw [← ew19]
        have ew19_0 : (w19 0).toInt = (w17 0).toInt := by rw [ew19]; rfl
        have ew19_1 : (w19 1).toInt = (w17 1).toInt := by rw [ew19]; rfl
        have ew19_2 : (w19 2).toInt = (m18).toInt := by rw [ew19]; rfl
        have ew19_3 : (w19 3).toInt = (w17 3).toInt := by rw [ew19]; rfl
        have pn_125 : w19 2 = m18 := by rw [ew19, pk_us]
        have pw_125 := ew19
        have hZ19 : cw_Z w19 := by rw [ew19]; exact cw_Z_up hI17.2.2.1 _ _ (by omega)
        have hI19 : cw_I K dn dn q w19 e5 := ⟨hI17.1, by unfold cw_W; omega, hZ19, hI17.2.2.2⟩
        exact ⟨rfl, fun e9 => absurd e9 (by decide), rfl, w19, e5, v5, f5, rfl, hI19, hs5, hx5, z1_12, rfl, by first | trivial | omega | (dsimp only; omega), by refine ⟨?_, ?_⟩; (exact ⟨fun i9 h91 h92 => ⟨by rw [pw_125, pk_un (by omega), pw_115, pk_un (by omega), pw_97, pk_un (by omega), j2_12.1], j2_12.2 i9 (by omega)⟩, fun D h1 => (by rw [pw_125, pk_un (by omega), pw_115, pk_un (by omega), pw_97, pk_un (by omega), j2_12.1, j2_12.2 (dn + 1) (by omega), j2_12.2 (dn + 2) (by omega)]; exact h1), fun j hj => (by rw [pw_125, pk_un (by omega), pw_115, pk_un (by omega), pw_97, pk_un (by omega), j2_12.1] at hj; rw [j2_12.2 (dn + 1) (by omega)]; exact j3_12 j (by rw [← j2_12.1] at hj; omega))⟩); (intro n c m h1 h2; have h7 := j7_12 n c m h1 h2; rw [j2_12.2 (dn + 1) (by omega), j2_12.2 (dn + 2) (by omega), show (w19 dn).toInt.toNat = z2_12.toInt.toNat by (rw [pw_125, pk_un (by omega), pw_115, pk_un (by omega), pw_97, pk_un (by omega)]; rw [← j2_12.1] at j8_12; omega)]; exact h7)⟩
      · skip
        refine Exists.intro _ (And.intro (cw_o1 hI5.1) ?_)
        refine Exists.intro _ (And.intro (cw_ro_o hI5.1 ro_dn) ?_)
        refine Exists.intro _ (Exists.intro _ (And.intro (Or.inl (cw_ro_1 hI5.1 ro_dn)) (And.intro (by omega) ?_)))
        have w20 := cw_col hI5 ro_dn (z2_12).toInt.toNat
        obtain ⟨k9, hk9⟩ : ∃ z9, z9 = (e5 (dn + 1) (z2_12).toInt.toNat) := ⟨_, rfl⟩
        have hk8 : k9 = e (dn + 1) z2_12.toInt.toNat := by rw [hk9, j2_12.2 (dn + 1) (by omega)]
        have hk7 := hk8 ▸ cw_col hI ro_dn z2_12.toInt.toNat
        refine Exists.intro _ (And.intro (cw_o1 hI5.1) ?_)
        refine Exists.intro _ (And.intro (cw_ro_o hI5.1 ro_dn) ?_)
        refine Exists.intro _ (And.intro (cw_o1 hI5.1) ?_)
        refine Exists.intro _ (Exists.intro _ (And.intro (Or.inl (cw_a13 hI5.1)) (And.intro (by omega) ?_)))
        have w21 := hs5.2.2 ((e5 (dn + 1) (z2_12).toInt.toNat)).toInt.toNat
        refine Exists.intro _ (Exists.intro _ (And.intro (cw_ro_3 hI5.1 ro_dn) (And.intro (by omega) ?_)))
        rw [cw_sr_3 hI5.1 ro_dn]
        have hb22 := ro_dn
        unfold cw_ro at hb22
        obtain ⟨e23, ee23⟩ : ∃ z9, z9 = va_up e5 (dn + 3) (upd (e5 (dn + 3)) (z2_12).toInt.toNat (f5 13 ((e5 (dn + 1) (z2_12).toInt.toNat)).toInt.toNat)) := ⟨_, rfl⟩
        rw [← ee23]
        have hI23 : cw_I K nn dn q w5 e23 := ⟨hI5.1, hI5.2.1, hI5.2.2.1, by rw [ee23]; exact cw_E_3 hI5.2.2.2 (by omega) _ _ (by omega)⟩
        have hx23 : e23 15 = e 15 := (show e23 15 = e5 15 by rw [ee23]; exact if_neg (by omega)).trans hx5
        have pe_47 := ee23
        refine Exists.intro _ (And.intro (cw_o1 hI23.1) ?_)
        refine Exists.intro _ (Exists.intro _ (And.intro (cw_a13 hI23.1) (And.intro (by omega) ?_)))
        rw [cw_s13 hI23.1]
        obtain ⟨f24, ef24⟩ : ∃ z9, z9 = va_up f5 13 (upd (f5 13) ((e5 (dn + 1) (z2_12).toInt.toNat)).toInt.toNat z2_12) := ⟨_, rfl⟩
        rw [← ef24]
        have hs24 : cw_S v5 f24 := by rw [ef24]; exact cw_S_f13 hs5 _ _ (by omega)
        have pf_54 := ef24
        refine Exists.intro _ (And.intro (cw_o1 hI23.1) ?_)
        refine Exists.intro _ (Exists.intro _ (And.intro (Or.inl (cw_a12 hI23.1)) (And.intro (by omega) ?_)))
        have km2 : (-2 : Int32).toInt = -2 := rfl
        refine And.intro (fun c25 => ?_) (fun c25 => ?_)
        · skip
          have dc25 : ((f24 12 (z2_12).toInt.toNat)).toInt = ((-2 : Int32) : Int32).toInt := congrArg Int32.toInt c25
          refine hC.1 2 86 _ _ rfl _ _ _ _ _ ?_
          have k1 : (1 : Int32).toInt = 1 := rfl
          intro m26 em_86
          try have e26 : m26.toInt = (z2_12).toInt + (1) := by rw [em_86]; exact pm_addc _ _ (1) rfl (by omega) (by omega)
          exact hC.2 [false, false, false, true] _ _ _ _ _ _ (ih7 z1_12 m26 w5 e23 v5 f24 hI23 hx23 hs24 (by omega) (by omega) (by exact ⟨j2_12.1, fun i9 h91 => (by rw [pe_47, va_un h91]; exact j2_12.2 i9 h91)⟩) (by intro j hj; rw [pe_47, va_us]; by_cases h8 : j = z2_12.toInt.toNat; (subst h8; rw [pk_us, ← hk9, ← hk8]; exact j4_12 k9 (by omega) (by omega)); (rw [pk_un h8]; exact j3_12 j (by omega))) (by intro c9 h1 h2; rw [pf_54, va_us, ← hk9, show m26.toInt.toNat = z2_12.toInt.toNat + 1 by omega]; by_cases h8 : c9 = k9; (subst h8; rw [pk_us, lastEq_y hk8.symm]; omega); (rw [pk_un (fun h7 => h8 (pm_eqI (by omega))), lastEq_n (fun h7 => h8 (by rw [hk8]; exact h7.symm))]; exact j4_12 c9 h1 h2)) (by omega) (by rw [pf_54, va_un (by decide)]; exact j6_12) (by intro n c m h1 h2; have h7 := j7_12 n c m h1 h2; have h8 := h2 z2_12.toInt.toNat (by rw [← j2_12.1]; omega); have h6 : ∀ z9, f 12 z9 = f24 12 z9 := (fun z9 => by rw [pf_54, va_un (by decide), j6_12]); rw [show m26.toInt.toNat = z2_12.toInt.toNat + 1 by omega]; first | (rw [tcN_b h1 h8 yb_8, h6]; split <;> rename_i h5 <;> first | omega | (exact absurd (by assumption) h5.2) | (exact absurd ⟨by assumption, by assumption⟩ h5)) | (rw [tcN_b h1 h8 rfl, h6]; split <;> rename_i h5 <;> first | omega | (exact absurd (by assumption) h5.1))) (by rw [← j2_12.1]; omega) (by omega) (by omega) (by omega))
        · skip
          have dc25 := pm_neI c25
          refine Exists.intro _ (And.intro (cw_o1 hI23.1) ?_)
          refine Exists.intro _ (Exists.intro _ (And.intro (Or.inl (cw_a12 hI23.1)) (And.intro (by omega) ?_)))
          refine Exists.intro _ (And.intro (cw_o1 hI23.1) ?_)
          refine And.intro (Exists.intro _ (cw_ro_o hI23.1 ro_dn)) (Exists.intro _ (Exists.intro _ (Exists.intro _ (Exists.intro _ (And.intro (T_X7_bondAt hI23 hs24 ro_dn z2_12 ) (And.intro rfl (fun r9 A9 h9 => ?_)))))))
          obtain ⟨y27, rfl, rfl, by27⟩ := h9
          have yb_9 : y27 = bo (e (dn + 1)) (e (dn + 2)) z2_12.toInt := (by have h9 := by27; rw [pe_47, va_un (show dn + 1 ≠ dn + 3 by omega), va_un (show dn + 2 ≠ dn + 3 by omega), va_us, j2_12.2 (dn + 1) (by omega), j2_12.2 (dn + 2) (by omega)] at h9; exact (h9 (fun _ _ => (by rw [pk_us, ← hk8]; exact j4_12 k9 (by omega) (by omega)))).trans (BA_y (by omega)))
          have yb_8 : y27 = bo (e (dn + 1)) (e (dn + 2)) ((z2_12.toInt.toNat : Nat) : Int) := (by rw [show ((z2_12.toInt.toNat : Nat) : Int) = z2_12.toInt by omega]; exact yb_9)
          refine And.intro (fun c29 => ?_) (fun c29 => ?_)
          · skip
            have dc29 : ((f24 12 (z2_12).toInt.toNat)).toInt = (y27 : Int32).toInt := congrArg Int32.toInt c29
            refine hC.1 2 86 _ _ rfl _ _ _ _ _ ?_
            have k1 : (1 : Int32).toInt = 1 := rfl
            intro m30 em_86
            try have e30 : m30.toInt = (z2_12).toInt + (1) := by rw [em_86]; exact pm_addc _ _ (1) rfl (by omega) (by omega)
            exact hC.2 [false, false, false, true] _ _ _ _ _ _ (ih7 z1_12 m30 w5 e23 v5 f24 hI23 hx23 hs24 (by omega) (by omega) (by exact ⟨j2_12.1, fun i9 h91 => (by rw [pe_47, va_un h91]; exact j2_12.2 i9 h91)⟩) (by intro j hj; rw [pe_47, va_us]; by_cases h8 : j = z2_12.toInt.toNat; (subst h8; rw [pk_us, ← hk9, ← hk8]; exact j4_12 k9 (by omega) (by omega)); (rw [pk_un h8]; exact j3_12 j (by omega))) (by intro c9 h1 h2; rw [pf_54, va_us, ← hk9, show m30.toInt.toNat = z2_12.toInt.toNat + 1 by omega]; by_cases h8 : c9 = k9; (subst h8; rw [pk_us, lastEq_y hk8.symm]; omega); (rw [pk_un (fun h7 => h8 (pm_eqI (by omega))), lastEq_n (fun h7 => h8 (by rw [hk8]; exact h7.symm))]; exact j4_12 c9 h1 h2)) (by omega) (by rw [pf_54, va_un (by decide)]; exact j6_12) (by intro n c m h1 h2; have h7 := j7_12 n c m h1 h2; have h8 := h2 z2_12.toInt.toNat (by rw [← j2_12.1]; omega); have h6 : ∀ z9, f 12 z9 = f24 12 z9 := (fun z9 => by rw [pf_54, va_un (by decide), j6_12]); rw [show m30.toInt.toNat = z2_12.toInt.toNat + 1 by omega]; first | (rw [tcN_b h1 h8 yb_8, h6]; split <;> rename_i h5 <;> first | omega | (exact absurd (by assumption) h5.2) | (exact absurd ⟨by assumption, by assumption⟩ h5)) | (rw [tcN_b h1 h8 rfl, h6]; split <;> rename_i h5 <;> first | omega | (exact absurd (by assumption) h5.1))) (by rw [← j2_12.1]; omega) (by omega) (by omega) (by omega))
          · skip
            have dc29 := pm_neI c29
            have k1 : (1 : Int32).toInt = 1 := rfl
            intro m31 em_83
            try have e31 : m31.toInt = (z1_12).toInt + (1) := by rw [em_83]; exact pm_addc _ _ (1) rfl (by omega) (by omega)
            refine hC.1 2 86 _ _ rfl _ _ _ _ _ ?_
            intro m32 em_86
            try have e32 : m32.toInt = (z2_12).toInt + (1) := by rw [em_86]; exact pm_addc _ _ (1) rfl (by omega) (by omega)
            exact hC.2 [false, false, false, true] _ _ _ _ _ _ (ih7 m31 m32 w5 e23 v5 f24 hI23 hx23 hs24 (by omega) (by omega) (by exact ⟨j2_12.1, fun i9 h91 => (by rw [pe_47, va_un h91]; exact j2_12.2 i9 h91)⟩) (by intro j hj; rw [pe_47, va_us]; by_cases h8 : j = z2_12.toInt.toNat; (subst h8; rw [pk_us, ← hk9, ← hk8]; exact j4_12 k9 (by omega) (by omega)); (rw [pk_un h8]; exact j3_12 j (by omega))) (by intro c9 h1 h2; rw [pf_54, va_us, ← hk9, show m32.toInt.toNat = z2_12.toInt.toNat + 1 by omega]; by_cases h8 : c9 = k9; (subst h8; rw [pk_us, lastEq_y hk8.symm]; omega); (rw [pk_un (fun h7 => h8 (pm_eqI (by omega))), lastEq_n (fun h7 => h8 (by rw [hk8]; exact h7.symm))]; exact j4_12 c9 h1 h2)) (by omega) (by rw [pf_54, va_un (by decide)]; exact j6_12) (by intro n c m h1 h2; have h7 := j7_12 n c m h1 h2; have h8 := h2 z2_12.toInt.toNat (by rw [← j2_12.1]; omega); have h6 : ∀ z9, f 12 z9 = f24 12 z9 := (fun z9 => by rw [pf_54, va_un (by decide), j6_12]); rw [show m32.toInt.toNat = z2_12.toInt.toNat + 1 by omega]; first | (rw [tcN_b h1 h8 yb_8, h6]; split <;> rename_i h5 <;> first | omega | (exact absurd (by assumption) h5.2) | (exact absurd ⟨by assumption, by assumption⟩ h5)) | (rw [tcN_b h1 h8 rfl, h6]; split <;> rename_i h5 <;> first | omega | (exact absurd (by assumption) h5.1))) (by rw [← j2_12.1]; omega) (by omega) (by omega) (by omega))
  exact lp6 (200 - (0 : Int32).toInt).toNat.succ (0 : Int32) (0 : Int32) w e v f4 hI rfl hs4 (by omega) (by omega) (by exact ⟨rfl, fun _ _ => rfl⟩) (by intro j hj; omega) (by intro c9 h1 h2; rw [pf_5, va_us, if_pos (by omega)]; rfl) (by omega) (by rw [pf_5, va_un (by decide)]) (by intro n c m _ _; rfl) (by omega) (by omega) (by omega) (by omega)

set_option maxRecDepth 100000 in
set_option maxHeartbeats 2000000 in
theorem T_X10_cut (hI : cw_I K nn dn q w e) (hs : cw_S v f) (x1 : Int32) (x2 : Int32) (p0 : (w 0).toInt < 100000) : pm_Mt l g 29 4 4 485 [.ref (q 0), .int x1, .int x2] (cw A0 g K nn dn q w e v f) (cw_Qb A0 g K nn q (fun r K2 nn2 dn2 w2 e2 => e2 15 = e 15 ∧ (∃ x : Int32, r = some (.int x) ∧ (((w2 0).toInt ≤ (w 0).toInt + 1 ∧ (w 0).toInt ≤ (w2 0).toInt) ∧ ((∀ L, rp (w nn) (e (nn + 1)) (e (nn + 2)) L → (nn : Int) = 40 + 4 * ((w 0).toInt % 41) → rp (w2 nn2) (e2 (nn2 + 1)) (e2 (nn2 + 2)) ((ed_cut L x1 x2).getD L) ∧ (w2 0).toInt = (w 0).toInt + edn (ed_cut L x1 x2) ∧ (w2 1).toInt = (w 1).toInt + edn (ed_cut L x1 x2) * (0) ∧ (nn2 : Int) = 40 + 4 * ((w2 0).toInt % 41) ∧ (bd (w nn) (e (nn + 1)) (e (nn + 3)) → bd (w2 nn2) (e2 (nn2 + 1)) (e2 (nn2 + 3)))) ∧ (((w2 0).toInt = (w 0).toInt ∧ x.toInt = -1) ∨ ((w2 0).toInt = (w 0).toInt + 1 ∧ ((nn : Int) = 40 + 4 * ((w 0).toInt % 41) → UQ (w nn).toInt (e (nn + 2)) → bd (w nn) (e (nn + 1)) (e (nn + 3)) → (∀ i : Nat, (i : Int) < (w nn).toInt → (e (nn + 2) i).toInt < (w 1).toInt) → x.toInt = (tcN (w nn).toInt (e (nn + 1)) (e (nn + 2)) (e2 (nn2 + 1)) (e2 (nn2 + 2)) (w2 nn2).toInt.toNat : Int))))))))) := by
  refine mt_X10_cut rfl (fun J hC => ?_)
  have ro_nn : cw_ro K nn := hI.2.1.2.1
  have ro_dn : cw_ro K dn := hI.2.1.2.2.1
  have hu1 := hI.2.1
  unfold cw_W at hu1
  have zs2 := cw_sz hI ro_nn
  have zs3 := cw_sz hI ro_dn
  have rg_x1 := pm_rng x1
  have rg_x2 := pm_rng x2
  refine hC.1 0 0 _ _ rfl _ _ _ _ _ ?_
  refine Exists.intro _ (And.intro (cw_o0 hI.1) ?_)
  refine Exists.intro _ (And.intro (cw_o1 hI.1) ?_)
  refine And.intro (Exists.intro _ (cw_ro_o hI.1 ro_nn)) (Exists.intro _ (Exists.intro _ (Exists.intro _ (Exists.intro _ (And.intro (c_X7_isSpan hI hs ro_nn x1 x2 ) (And.intro rfl (fun r9 A9 h9 => ?_)))))))
  rcases h9 with ⟨y4, rfl, rfl, ⟨rfl, by4⟩ | ⟨rfl, by4⟩⟩
  · skip
    have k1 : (1 : Int32).toInt = 1 := rfl
    refine And.intro (fun _ => ?_) (fun c9 => absurd c9 (by decide))
    refine hC.1 1 19 _ _ rfl _ _ _ _ _ ?_
    refine Exists.intro _ (And.intro (cw_o0 hI.1) ?_)
    refine And.intro (Exists.intro _ (cw_o1 hI.1)) (Exists.intro _ (Exists.intro _ (Exists.intro _ (Exists.intro _ (And.intro (F_X9_begin hI hs  (by omega)) (And.intro rfl (fun r9 A9 h9 => ?_)))))))
    obtain ⟨K7, dn7, q7, w7, e7, rfl, rfl, hI7, hX7, hk7, hw7, hy7, hdn7, hfm7, hz7⟩ := h9
    have hq7_0 : q 0 = q7 0 := (hX7.2.1 0 (by omega)).symm
    have hq7_nn : q nn = q7 nn := (hX7.2.1 nn (by omega)).symm
    rw [hq7_0, hq7_nn]
    have hw7_0 := congrArg Int32.toInt hw7.1
    have hw7_1 := congrArg Int32.toInt hw7.2.1
    have hw7_3 := congrArg Int32.toInt hw7.2.2.2
    have ro7 : cw_ro K7 dn7 := hI7.2.1.2.2.1
    have rn7 : cw_ro K7 nn := hI7.2.1.2.1
    have hx7 : e7 15 = e 15 := hy7.trans rfl
    have hu8 := hI7.2.1
    unfold cw_W at hu8
    have zs9 := cw_sz hI7 rn7
    have zs10 := cw_sz hI7 ro7
    have hz9 := hz7
    have hL7 : ∀ L, rp (w nn) (e (nn + 1)) (e (nn + 2)) L → (nn : Int) = 40 + 4 * ((w 0).toInt % 41) → nn ≠ dn7 ∧ rp (w7 nn) (e7 (nn + 1)) (e7 (nn + 2)) L := fun L h1 h2 => (by have a1 := ro_nn; have a2 := ro7; have a3 := rn7; unfold cw_ro at a1 a2 a3; have a0 : nn ≠ dn7 := (by omega); exact ⟨a0, rp_fr h1 (congrArg Int32.toInt (hfm7 nn (by omega) (by omega) (by omega)).1) (hfm7 (nn + 1) (by omega) (by omega) (by omega)).2 (hfm7 (nn + 2) (by omega) (by omega) (by omega)).2⟩)
    have hT7 : TQ w e nn w7 e7 f dn7 := TQ_b ro_nn ro7 hdn7 hfm7 hw7.2.1 hz7
    refine Exists.intro _ (And.intro (cw_o0 hI7.1) ?_)
    have k0 : (0 : Int32).toInt = 0 := rfl
    intro m11 em_33
    try have e11 : m11.toInt = (x1).toInt - (1) := by rw [em_33]; exact pm_subc _ _ (1) rfl (by omega) (by omega)
    have hp_34 := hL7
    refine And.intro (Exists.intro _ (cw_o1 hI7.1)) (Exists.intro _ (Exists.intro _ (Exists.intro _ (Exists.intro _ (And.intro (T_X9_keep hI7 hs (0 : Int32) m11 ) (And.intro rfl (fun r9 A9 h9 => ?_)))))))
    rcases h9 with ⟨w13, e13, v13, f13, rfl, hI13, hs13, hy13, rfl, by12⟩
    have hx13 : e13 15 = e 15 := hy13.trans hx7
    have hu14 := hI13.2.1
    unfold cw_W at hu14
    have zs15 := cw_sz hI13 rn7
    have zs16 := cw_sz hI13 ro7
    have hb_34 := by12.2.1
    have ht_34 := by12.2.2
    have hT13 : TQ w e nn w13 e13 f13 dn7 := TQ_k hT7 rn7 ro7 hb_34.1 (by omega) ht_34
    have hL13 : ∀ L, rp (w nn) (e (nn + 1)) (e (nn + 2)) L → (nn : Int) = 40 + 4 * ((w 0).toInt % 41) → nn ≠ dn7 ∧ rp (w13 nn) (e13 (nn + 1)) (e13 (nn + 2)) L := fun L h1 h2 => (by obtain ⟨a0, a9⟩ := hL7 L h1 h2; have a1 := rn7; have a2 := ro7; unfold cw_ro at a1 a2; exact ⟨a0, rp_fr a9 (congrArg Int32.toInt (hb_34.1 nn (by omega) (by omega)).1) (hb_34.1 (nn + 1) (by omega) (by omega)).2 (hb_34.1 (nn + 2) (by omega) (by omega)).2⟩)
    refine Exists.intro _ (And.intro (cw_o0 hI13.1) ?_)
    intro m17 em_43
    try have e17 : m17.toInt = (x2).toInt + (1) := by rw [em_43]; exact pm_addc _ _ (1) rfl (by omega) (by omega)
    refine Exists.intro _ (And.intro (cw_ro_o hI13.1 rn7) ?_)
    have z18 := cw_sz hI13 rn7
    intro m19 em_49
    try have e19 : m19.toInt = ((w13 nn)).toInt - (1) := by rw [em_49]; exact pm_subc _ _ (1) rfl (by omega) (by omega)
    have hp_50 := hL13
    refine And.intro (Exists.intro _ (cw_o1 hI13.1)) (Exists.intro _ (Exists.intro _ (Exists.intro _ (Exists.intro _ (And.intro (T_X9_keep hI13 hs13 m17 m19 ) (And.intro rfl (fun r9 A9 h9 => ?_)))))))
    rcases h9 with ⟨w21, e21, v21, f21, rfl, hI21, hs21, hy21, rfl, by20⟩
    have hx21 : e21 15 = e 15 := hy21.trans hx13
    have hu22 := hI21.2.1
    unfold cw_W at hu22
    have zs23 := cw_sz hI21 rn7
    have zs24 := cw_sz hI21 ro7
    have hb_50 := by20.2.1
    have ht_50 := by20.2.2
    have hT21 : TQ w e nn w21 e21 f21 dn7 := TQ_k hT13 rn7 ro7 hb_50.1 (by omega) ht_50
    have hL21 : ∀ L, rp (w nn) (e (nn + 1)) (e (nn + 2)) L → (nn : Int) = 40 + 4 * ((w 0).toInt % 41) → nn ≠ dn7 ∧ rp (w21 nn) (e21 (nn + 1)) (e21 (nn + 2)) L := fun L h1 h2 => (by obtain ⟨a0, a9⟩ := hL13 L h1 h2; have a1 := rn7; have a2 := ro7; unfold cw_ro at a1 a2; exact ⟨a0, rp_fr a9 (congrArg Int32.toInt (hb_50.1 nn (by omega) (by omega)).1) (hb_50.1 (nn + 1) (by omega) (by omega)).2 (hb_50.1 (nn + 2) (by omega) (by omega)).2⟩)
    refine Exists.intro _ (And.intro (cw_o0 hI21.1) ?_)
    have hp_57 := hL21
    refine And.intro (Exists.intro _ (cw_o1 hI21.1)) (Exists.intro _ (Exists.intro _ (Exists.intro _ (Exists.intro _ (And.intro (T_X9_finish hI21 hs21  (by omega) (by omega)) (And.intro rfl (fun r9 A9 h9 => ?_)))))))
    rcases h9 with ⟨w26, e26, v26, f26, rfl, hI26, hs26, hy26, y25, rfl, by25⟩
    have hx26 : e26 15 = e 15 := hy26.trans hx21
    have hu27 := hI26.2.1
    unfold cw_W at hu27
    have zs28 := cw_sz hI26 ro7
    have zs29 := cw_sz hI26 ro7
    have hb_57 := by25.2.1
    have ht_57 := by25.2.2
    have ha_9 := fun h1 h2 h3 h4 => by25.2.2 _ _ _ h2 (hT21 h1 h2 h3 h4).2.2.2.2.2.2
    exact ⟨rfl, fun e9 => absurd e9 (by decide), rfl, K7, dn7, dn7, q7, w26, e26, v26, f26, rfl, hI26, hs26, hX7, hx26, y25, rfl, by first | trivial | omega | (dsimp only; omega), by refine ⟨?_, ?_⟩; (intro L hL hN; have hl := hL.1; rw [ed_cut, if_pos (by omega)]; have q1 := hp_34 L hL hN; have z1 := q1.2.1; have t1 := hb_34.2 L ([]) (0) (x1.toInt) q1.2 q1.1 (by omega) (by omega) (by omega) (by omega) (by omega) (by first | omega | (simp only [List.length_append, List.length_nil, List.length_cons, List.length_map, List.length_reverse, nw_len, dr_len]; omega)) (rp_0 hz9); have k1 := si_len (L := L) (a := 0) (b := x1.toInt) (by omega) (by omega) (by omega); rw [List.nil_append] at t1; have q2 := hp_50 L hL hN; have z2 := q2.2.1; have t2 := hb_50.2 L (_) (x2.toInt + 1) (L.length) q2.2 q2.1 (by omega) (by omega) (by omega) (by omega) (by omega) (by first | omega | (simp only [List.length_append, List.length_nil, List.length_cons, List.length_map, List.length_reverse, nw_len, dr_len]; omega)) t1; have k2 := si_len (L := L) (a := x2.toInt + 1) (b := L.length) (by omega) (by omega) (by omega); exact ⟨hb_57.2.1 _ t2, by show _ = _ + (1 : Int); omega, by show _ = _ + (1 : Int) * _; omega, by omega, fun _ => hb_57.2.2⟩); (first | (exact hq_9) | (exact Or.inr ⟨by omega, ha_9⟩) | (exact Or.inl ⟨rfl, rfl⟩))⟩
  · skip
    have k0 : (0 : Int32).toInt = 0 := rfl
    refine And.intro (fun c9 => absurd c9 (by decide)) (fun _ => ?_)
    have km1 : (-1 : Int32).toInt = -1 := rfl
    exact ⟨rfl, fun e9 => absurd e9 (by decide), rfl, K, nn, dn, q, w, e, v, f, rfl, hI, hs, cw_X_r, rfl, (-1 : Int32), rfl, by first | trivial | omega | (dsimp only; omega), by refine ⟨?_, ?_⟩; (intro L hL hN; have hl := hL.1; rw [ed_cut, if_neg (by omega)]; exact ⟨hL, by show _ = _ + (0 : Int); omega, by show _ = _ + (0 : Int) * _; omega, hN, fun h8 => h8⟩); (first | (exact hq_9) | (exact Or.inr ⟨by omega, ha_9⟩) | (exact Or.inl ⟨rfl, rfl⟩))⟩

set_option maxRecDepth 100000 in
set_option maxHeartbeats 2000000 in
theorem T_X10_insert (hI : cw_I K nn dn q w e) (hs : cw_S v f) (x1 : Int32) (x2 : Int32) (p0 : (w 0).toInt < 100000) : pm_Mt l g 25 4 4 485 [.ref (q 0), .int x1, .int x2] (cw A0 g K nn dn q w e v f) (cw_Qb A0 g K nn q (fun r K2 nn2 dn2 w2 e2 => e2 15 = e 15 ∧ (∃ x : Int32, r = some (.int x) ∧ (((w2 0).toInt ≤ (w 0).toInt + 1 ∧ (w 0).toInt ≤ (w2 0).toInt) ∧ ((∀ L, rp (w nn) (e (nn + 1)) (e (nn + 2)) L → (nn : Int) = 40 + 4 * ((w 0).toInt % 41) → rp (w2 nn2) (e2 (nn2 + 1)) (e2 (nn2 + 2)) ((ed_insert L (w 1) x1 x2).getD L) ∧ (w2 0).toInt = (w 0).toInt + edn (ed_insert L (w 1) x1 x2) ∧ (w2 1).toInt = (w 1).toInt + edn (ed_insert L (w 1) x1 x2) * (1) ∧ (nn2 : Int) = 40 + 4 * ((w2 0).toInt % 41) ∧ (bd (w nn) (e (nn + 1)) (e (nn + 3)) → bd (w2 nn2) (e2 (nn2 + 1)) (e2 (nn2 + 3)))) ∧ (((w2 0).toInt = (w 0).toInt ∧ x.toInt = -1) ∨ ((w2 0).toInt = (w 0).toInt + 1 ∧ ((nn : Int) = 40 + 4 * ((w 0).toInt % 41) → UQ (w nn).toInt (e (nn + 2)) → bd (w nn) (e (nn + 1)) (e (nn + 3)) → (∀ i : Nat, (i : Int) < (w nn).toInt → (e (nn + 2) i).toInt < (w 1).toInt) → x.toInt = (tcN (w nn).toInt (e (nn + 1)) (e (nn + 2)) (e2 (nn2 + 1)) (e2 (nn2 + 2)) (w2 nn2).toInt.toNat : Int))))))))) := by
  refine mt_X10_insert rfl (fun J hC => ?_)
  have ro_nn : cw_ro K nn := hI.2.1.2.1
  have ro_dn : cw_ro K dn := hI.2.1.2.2.1
  have hu1 := hI.2.1
  unfold cw_W at hu1
  have zs2 := cw_sz hI ro_nn
  have zs3 := cw_sz hI ro_dn
  have rg_x1 := pm_rng x1
  have rg_x2 := pm_rng x2
  refine hC.1 0 0 _ _ rfl _ _ _ _ _ ?_
  refine Exists.intro _ (And.intro (cw_o0 hI.1) ?_)
  refine Exists.intro _ (And.intro (cw_o1 hI.1) ?_)
  refine And.intro (Exists.intro _ (cw_ro_o hI.1 ro_nn)) (Exists.intro _ (Exists.intro _ (Exists.intro _ (Exists.intro _ (And.intro (c_X7_isGap hI hs ro_nn x1 ) (And.intro rfl (fun r9 A9 h9 => ?_)))))))
  rcases h9 with ⟨y4, rfl, rfl, ⟨rfl, by4⟩ | ⟨rfl, by4⟩⟩
  · skip
    have k1 : (1 : Int32).toInt = 1 := rfl
    refine And.intro (fun c9 => absurd c9 (by decide)) (fun _ => ?_)
    refine Exists.intro _ (Exists.intro _ (Exists.intro _ (Exists.intro _ (And.intro (c_X10_isColour (cw A0 g K nn dn q w e v f) x2 ) (And.intro rfl (fun r9 A9 h9 => ?_))))))
    rcases h9 with ⟨y6, rfl, rfl, ⟨rfl, by6⟩ | ⟨rfl, by6⟩⟩
    · skip
      refine And.intro (fun c9 => absurd c9 (by decide)) (fun _ => ?_)
      refine Exists.intro _ (And.intro (cw_o0 hI.1) ?_)
      refine And.intro (Exists.intro _ (cw_o1 hI.1)) (Exists.intro _ (Exists.intro _ (Exists.intro _ (Exists.intro _ (And.intro (c_X9_hasRoomFor hI hs (1 : Int32) (by omega)) (And.intro rfl (fun r9 A9 h9 => ?_)))))))
      rcases h9 with ⟨y8, rfl, rfl, ⟨rfl, by8⟩ | ⟨rfl, by8⟩⟩
      · skip
        refine And.intro (fun _ => ?_) (fun c9 => absurd c9 (by decide))
        refine hC.1 2 36 _ _ rfl _ _ _ _ _ ?_
        refine Exists.intro _ (And.intro (cw_o0 hI.1) ?_)
        refine And.intro (Exists.intro _ (cw_o1 hI.1)) (Exists.intro _ (Exists.intro _ (Exists.intro _ (Exists.intro _ (And.intro (F_X9_begin hI hs  (by omega)) (And.intro rfl (fun r9 A9 h9 => ?_)))))))
        obtain ⟨K11, dn11, q11, w11, e11, rfl, rfl, hI11, hX11, hk11, hw11, hy11, hdn11, hfm11, hz11⟩ := h9
        have hq11_0 : q 0 = q11 0 := (hX11.2.1 0 (by omega)).symm
        have hq11_nn : q nn = q11 nn := (hX11.2.1 nn (by omega)).symm
        rw [hq11_0, hq11_nn]
        have hw11_0 := congrArg Int32.toInt hw11.1
        have hw11_1 := congrArg Int32.toInt hw11.2.1
        have hw11_3 := congrArg Int32.toInt hw11.2.2.2
        have ro11 : cw_ro K11 dn11 := hI11.2.1.2.2.1
        have rn11 : cw_ro K11 nn := hI11.2.1.2.1
        have hx11 : e11 15 = e 15 := hy11.trans rfl
        have hu12 := hI11.2.1
        unfold cw_W at hu12
        have zs13 := cw_sz hI11 rn11
        have zs14 := cw_sz hI11 ro11
        have hz9 := hz11
        have hL11 : ∀ L, rp (w nn) (e (nn + 1)) (e (nn + 2)) L → (nn : Int) = 40 + 4 * ((w 0).toInt % 41) → nn ≠ dn11 ∧ rp (w11 nn) (e11 (nn + 1)) (e11 (nn + 2)) L := fun L h1 h2 => (by have a1 := ro_nn; have a2 := ro11; have a3 := rn11; unfold cw_ro at a1 a2 a3; have a0 : nn ≠ dn11 := (by omega); exact ⟨a0, rp_fr h1 (congrArg Int32.toInt (hfm11 nn (by omega) (by omega) (by omega)).1) (hfm11 (nn + 1) (by omega) (by omega) (by omega)).2 (hfm11 (nn + 2) (by omega) (by omega) (by omega)).2⟩)
        have hT11 : TQ w e nn w11 e11 f dn11 := TQ_b ro_nn ro11 hdn11 hfm11 hw11.2.1 hz11
        refine Exists.intro _ (And.intro (cw_o0 hI11.1) ?_)
        have k0 : (0 : Int32).toInt = 0 := rfl
        intro m15 em_50
        try have e15 : m15.toInt = (x1).toInt - (1) := by rw [em_50]; exact pm_subc _ _ (1) rfl (by omega) (by omega)
        have hp_51 := hL11
        refine And.intro (Exists.intro _ (cw_o1 hI11.1)) (Exists.intro _ (Exists.intro _ (Exists.intro _ (Exists.intro _ (And.intro (T_X9_keep hI11 hs (0 : Int32) m15 ) (And.intro rfl (fun r9 A9 h9 => ?_)))))))
        rcases h9 with ⟨w17, e17, v17, f17, rfl, hI17, hs17, hy17, rfl, by16⟩
        have hx17 : e17 15 = e 15 := hy17.trans hx11
        have hu18 := hI17.2.1
        unfold cw_W at hu18
        have zs19 := cw_sz hI17 rn11
        have zs20 := cw_sz hI17 ro11
        have hb_51 := by16.2.1
        have ht_51 := by16.2.2
        have hT17 : TQ w e nn w17 e17 f17 dn11 := TQ_k hT11 rn11 ro11 hb_51.1 (by omega) ht_51
        have hL17 : ∀ L, rp (w nn) (e (nn + 1)) (e (nn + 2)) L → (nn : Int) = 40 + 4 * ((w 0).toInt % 41) → nn ≠ dn11 ∧ rp (w17 nn) (e17 (nn + 1)) (e17 (nn + 2)) L := fun L h1 h2 => (by obtain ⟨a0, a9⟩ := hL11 L h1 h2; have a1 := rn11; have a2 := ro11; unfold cw_ro at a1 a2; exact ⟨a0, rp_fr a9 (congrArg Int32.toInt (hb_51.1 nn (by omega) (by omega)).1) (hb_51.1 (nn + 1) (by omega) (by omega)).2 (hb_51.1 (nn + 2) (by omega) (by omega)).2⟩)
        refine Exists.intro _ (And.intro (cw_o0 hI17.1) ?_)
        have wn9 : w17 1 = w 1 := pm_eqI (by omega)
        have hp_59 := hL17
        refine And.intro (Exists.intro _ (cw_o1 hI17.1)) (Exists.intro _ (Exists.intro _ (Exists.intro _ (Exists.intro _ (And.intro (T_X9_add hI17 hs17 x2 (by omega) (by omega)) (And.intro rfl (fun r9 A9 h9 => ?_)))))))
        rcases h9 with ⟨w22, e22, v22, f22, rfl, hI22, hs22, hy22, rfl, by21⟩
        have hx22 : e22 15 = e 15 := hy22.trans hx17
        have hu23 := hI22.2.1
        unfold cw_W at hu23
        have zs24 := cw_sz hI22 rn11
        have zs25 := cw_sz hI22 ro11
        have hb_59 := by21.2.1
        have ht_59 := by21.2.2
        have hT22 : TQ w e nn w22 e22 f22 dn11 := TQ_a hT17 rn11 ro11 hb_59.1 (by omega) ht_59
        have hL22 : ∀ L, rp (w nn) (e (nn + 1)) (e (nn + 2)) L → (nn : Int) = 40 + 4 * ((w 0).toInt % 41) → nn ≠ dn11 ∧ rp (w22 nn) (e22 (nn + 1)) (e22 (nn + 2)) L := fun L h1 h2 => (by obtain ⟨a0, a9⟩ := hL17 L h1 h2; have a1 := rn11; have a2 := ro11; unfold cw_ro at a1 a2; exact ⟨a0, rp_fr a9 (congrArg Int32.toInt (hb_59.1 nn (by omega) (by omega)).1) (hb_59.1 (nn + 1) (by omega) (by omega)).2 (hb_59.1 (nn + 2) (by omega) (by omega)).2⟩)
        refine Exists.intro _ (And.intro (cw_o0 hI22.1) ?_)
        refine Exists.intro _ (And.intro (cw_ro_o hI22.1 rn11) ?_)
        have z26 := cw_sz hI22 rn11
        intro m27 em_72
        try have e27 : m27.toInt = ((w22 nn)).toInt - (1) := by rw [em_72]; exact pm_subc _ _ (1) rfl (by omega) (by omega)
        have hp_73 := hL22
        refine And.intro (Exists.intro _ (cw_o1 hI22.1)) (Exists.intro _ (Exists.intro _ (Exists.intro _ (Exists.intro _ (And.intro (T_X9_keep hI22 hs22 x1 m27 ) (And.intro rfl (fun r9 A9 h9 => ?_)))))))
        rcases h9 with ⟨w29, e29, v29, f29, rfl, hI29, hs29, hy29, rfl, by28⟩
        have hx29 : e29 15 = e 15 := hy29.trans hx22
        have hu30 := hI29.2.1
        unfold cw_W at hu30
        have zs31 := cw_sz hI29 rn11
        have zs32 := cw_sz hI29 ro11
        have hb_73 := by28.2.1
        have ht_73 := by28.2.2
        have hT29 : TQ w e nn w29 e29 f29 dn11 := TQ_k hT22 rn11 ro11 hb_73.1 (by omega) ht_73
        have hL29 : ∀ L, rp (w nn) (e (nn + 1)) (e (nn + 2)) L → (nn : Int) = 40 + 4 * ((w 0).toInt % 41) → nn ≠ dn11 ∧ rp (w29 nn) (e29 (nn + 1)) (e29 (nn + 2)) L := fun L h1 h2 => (by obtain ⟨a0, a9⟩ := hL22 L h1 h2; have a1 := rn11; have a2 := ro11; unfold cw_ro at a1 a2; exact ⟨a0, rp_fr a9 (congrArg Int32.toInt (hb_73.1 nn (by omega) (by omega)).1) (hb_73.1 (nn + 1) (by omega) (by omega)).2 (hb_73.1 (nn + 2) (by omega) (by omega)).2⟩)
        refine Exists.intro _ (And.intro (cw_o0 hI29.1) ?_)
        have hp_80 := hL29
        refine And.intro (Exists.intro _ (cw_o1 hI29.1)) (Exists.intro _ (Exists.intro _ (Exists.intro _ (Exists.intro _ (And.intro (T_X9_finish hI29 hs29  (by omega) (by omega)) (And.intro rfl (fun r9 A9 h9 => ?_)))))))
        rcases h9 with ⟨w34, e34, v34, f34, rfl, hI34, hs34, hy34, y33, rfl, by33⟩
        have hx34 : e34 15 = e 15 := hy34.trans hx29
        have hu35 := hI34.2.1
        unfold cw_W at hu35
        have zs36 := cw_sz hI34 ro11
        have zs37 := cw_sz hI34 ro11
        have hb_80 := by33.2.1
        have ht_80 := by33.2.2
        have ha_9 := fun h1 h2 h3 h4 => by33.2.2 _ _ _ h2 (hT29 h1 h2 h3 h4).2.2.2.2.2.2
        exact ⟨rfl, fun e9 => absurd e9 (by decide), rfl, K11, dn11, dn11, q11, w34, e34, v34, f34, rfl, hI34, hs34, hX11, hx34, y33, rfl, by first | trivial | omega | (dsimp only; omega), by refine ⟨?_, ?_⟩; (intro L hL hN; have hl := hL.1; rw [ed_insert, if_pos (by omega)]; have q1 := hp_51 L hL hN; have z1 := q1.2.1; have t1 := hb_51.2 L ([]) (0) (x1.toInt) q1.2 q1.1 (by omega) (by omega) (by omega) (by omega) (by omega) (by first | omega | (simp only [List.length_append, List.length_nil, List.length_cons, List.length_map, List.length_reverse, nw_len, dr_len]; omega)) (rp_0 hz9); have k1 := si_len (L := L) (a := 0) (b := x1.toInt) (by omega) (by omega) (by omega); rw [List.nil_append] at t1; have t2 := hb_59.2 _ t1 (by first | omega | (simp only [List.length_append, List.length_nil, List.length_cons, List.length_map, List.length_reverse, nw_len, dr_len]; omega)); rw [wn9] at t2; have q3 := hp_73 L hL hN; have z3 := q3.2.1; have t3 := hb_73.2 L (_) (x1.toInt) (L.length) q3.2 q3.1 (by omega) (by omega) (by omega) (by omega) (by omega) (by first | omega | (simp only [List.length_append, List.length_nil, List.length_cons, List.length_map, List.length_reverse, nw_len, dr_len]; omega)) t2; have k3 := si_len (L := L) (a := x1.toInt) (b := L.length) (by omega) (by omega) (by omega); exact ⟨hb_80.2.1 _ t3, by show _ = _ + (1 : Int); omega, by show _ = _ + (1 : Int) * _; omega, by omega, fun _ => hb_80.2.2⟩); (first | (exact hq_9) | (exact Or.inr ⟨by omega, ha_9⟩) | (exact Or.inl ⟨rfl, rfl⟩))⟩
      · skip
        have k0 : (0 : Int32).toInt = 0 := rfl
        refine And.intro (fun c9 => absurd c9 (by decide)) (fun _ => ?_)
        refine hC.1 1 34 _ _ rfl _ _ _ _ _ ?_
        have km1 : (-1 : Int32).toInt = -1 := rfl
        exact ⟨rfl, fun e9 => absurd e9 (by decide), rfl, K, nn, dn, q, w, e, v, f, rfl, hI, hs, cw_X_r, rfl, (-1 : Int32), rfl, by first | trivial | omega | (dsimp only; omega), by refine ⟨?_, ?_⟩; (intro L hL hN; have hl := hL.1; rw [ed_insert, if_neg (by omega)]; exact ⟨hL, by show _ = _ + (0 : Int); omega, by show _ = _ + (0 : Int) * _; omega, hN, fun h8 => h8⟩); (first | (exact hq_9) | (exact Or.inr ⟨by omega, ha_9⟩) | (exact Or.inl ⟨rfl, rfl⟩))⟩
    · skip
      have k0 : (0 : Int32).toInt = 0 := rfl
      refine And.intro (fun _ => ?_) (fun c9 => absurd c9 (by decide))
      refine hC.1 1 34 _ _ rfl _ _ _ _ _ ?_
      have km1 : (-1 : Int32).toInt = -1 := rfl
      exact ⟨rfl, fun e9 => absurd e9 (by decide), rfl, K, nn, dn, q, w, e, v, f, rfl, hI, hs, cw_X_r, rfl, (-1 : Int32), rfl, by first | trivial | omega | (dsimp only; omega), by refine ⟨?_, ?_⟩; (intro L hL hN; have hl := hL.1; rw [ed_insert, if_neg (by omega)]; exact ⟨hL, by show _ = _ + (0 : Int); omega, by show _ = _ + (0 : Int) * _; omega, hN, fun h8 => h8⟩); (first | (exact hq_9) | (exact Or.inr ⟨by omega, ha_9⟩) | (exact Or.inl ⟨rfl, rfl⟩))⟩
  · skip
    have k0 : (0 : Int32).toInt = 0 := rfl
    refine And.intro (fun _ => ?_) (fun c9 => absurd c9 (by decide))
    refine hC.1 1 34 _ _ rfl _ _ _ _ _ ?_
    have km1 : (-1 : Int32).toInt = -1 := rfl
    exact ⟨rfl, fun e9 => absurd e9 (by decide), rfl, K, nn, dn, q, w, e, v, f, rfl, hI, hs, cw_X_r, rfl, (-1 : Int32), rfl, by first | trivial | omega | (dsimp only; omega), by refine ⟨?_, ?_⟩; (intro L hL hN; have hl := hL.1; rw [ed_insert, if_neg (by omega)]; exact ⟨hL, by show _ = _ + (0 : Int); omega, by show _ = _ + (0 : Int) * _; omega, hN, fun h8 => h8⟩); (first | (exact hq_9) | (exact Or.inr ⟨by omega, ha_9⟩) | (exact Or.inl ⟨rfl, rfl⟩))⟩

end
