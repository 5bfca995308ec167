section
variable {l : Launch} {g : pm_G} {A0 : pm_H} {K nn dn : Nat} {q : Nat → Nat} {w : Nat → Int32} {e : Nat → Nat → Int32} {v : Nat → Int32} {f : Nat → Nat → Int32}
set_option maxRecDepth 100000 in
set_option maxHeartbeats 2000000 in
theorem F_X9_begin_l5 (hI : cw_I K nn dn q w e) (hs : cw_S v f) (p0 : (w 0).toInt < 100000) : pm_Mt l g 16 2 4 485 [.ref (q 1)] (cw A0 g K nn dn q w e v f) (cw_Qg2 A0 g K nn q w e v f) := by
  refine mt_X9_begin rfl (fun J hC => ?_)
  have hu := hI.2.1
  unfold cw_W at hu
  have k41 : (41 : Int32).toInt = 41 := rfl
  refine hC.1 0 0 _ _ rfl _ _ _ _ _ ?_
  refine Exists.intro _ (And.intro (cw_o1 hI.1) ?_)
  intro m em
  have e1 : m.toInt = (w 0).toInt + 1 := by rw [em]; exact pm_addc _ _ 1 rfl (by omega) (by omega)
  refine Exists.intro _ (Exists.intro _ (Exists.intro _ (Exists.intro _ (And.intro (c_J9_floorMod_7cf53 (cw A0 g K nn dn q w e v f) m (41 : Int32) (by omega) (by omega)) (And.intro rfl (fun r9 A9 h9 => ?_))))))
  obtain ⟨sl, rfl, rfl, bs⟩ := h9
  rw [k41] at bs
  have cont : ∀ (K2 : Nat) (q2 : Nat → Nat) (w2 : Nat → Int32) (e2 : Nat → Nat → Int32), cw_I K2 nn dn q2 w2 e2 → cw_X A0 K q K2 q2 → ((w 0).toInt + 2 ≤ K2 ∨ K2 = 41) → (w2 0 = w 0 ∧ w2 1 = w 1 ∧ w2 2 = w 2 ∧ w2 3 = w 3) → e2 15 = e 15 → (∀ i9, 40 ≤ i9 → i9 < 40 + 4 * K → w2 i9 = w i9 ∧ e2 i9 = e i9) → sl.toInt.toNat < K2 → ∀ c s : Nat, (Nat.ble c 4 && Nat.ble s 485) = true → J 34 [some (.ref (q2 1)), some (.int sl)] [] (cw A0 g K2 nn dn q2 w2 e2 v f) c s := by
    intro K2 q2 w2 e2 hI2 hX hk hw h15 hfr9 hlt c s hcs
    refine hC.1 1 34 _ _ rfl _ _ _ _ _ ?_
    refine Exists.intro _ (And.intro (cw_o1 hI2.1) ?_)
    refine Exists.intro _ (Exists.intro _ (And.intro (Or.inl (cw_rows hI2.1)) (And.intro (by omega) ?_)))
    have hr : va_rf (cw_rr K2 q2 sl.toInt.toNat) = .ref (q2 (40 + 4 * sl.toInt.toNat)) := by
      unfold cw_rr
      rw [if_pos hlt]
      rfl
    rw [hr]
    refine Exists.intro _ (And.intro (cw_o1 hI2.1) (And.intro rfl ?_))
    rw [cw_p_draft hI2.1]
    have ho : cw_ro K2 (40 + 4 * sl.toInt.toNat) := by unfold cw_ro; omega
    have hI3 : cw_I K2 nn (40 + 4 * sl.toInt.toNat) q2 w2 e2 := ⟨hI2.1, by have h9 := hI2.2.1; unfold cw_W at h9 ⊢; omega, hI2.2.2.1, hI2.2.2.2⟩
    refine Exists.intro _ (And.intro (cw_o1 hI3.1) ?_)
    refine Exists.intro _ (And.intro (cw_ro_o hI3.1 ho) (And.intro rfl ?_))
    rw [cw_p_size hI3.1 ho]
    have u0 : upd w2 (40 + 4 * sl.toInt.toNat) 0 0 = w2 0 := pk_un (by omega)
    have u1 : upd w2 (40 + 4 * sl.toInt.toNat) 0 1 = w2 1 := pk_un (by omega)
    have u2 : upd w2 (40 + 4 * sl.toInt.toNat) 0 2 = w2 2 := pk_un (by omega)
    have u3 : upd w2 (40 + 4 * sl.toInt.toNat) 0 3 = w2 3 := pk_un (by omega)
    have hI4 : cw_I K2 nn (40 + 4 * sl.toInt.toNat) q2 (upd w2 (40 + 4 * sl.toInt.toNat) 0) e2 := ⟨hI3.1, by
      have h9 := hI3.2.1
      unfold cw_W at h9 ⊢
      rw [u0, u1, u3]
      exact h9, cw_Z_up hI3.2.2.1 _ _ (Or.inr (Or.inr (by decide))), hI3.2.2.2⟩
    exact ⟨rfl, hcs, K2, 40 + 4 * sl.toInt.toNat, q2, upd w2 (40 + 4 * sl.toInt.toNat) 0, e2, rfl, rfl, hI4, hX, hk, ⟨u0.trans hw.1, u1.trans hw.2.1, u2.trans hw.2.2.1, u3.trans hw.2.2.2⟩, h15, by omega, fun i9 a1 a2 a3 => ⟨(pk_un (by omega)).trans (hfr9 i9 a1 a2).1, (hfr9 i9 a1 a2).2⟩, by rw [pk_us]; rfl⟩
  refine Exists.intro _ (And.intro (cw_o1 hI.1) ?_)
  refine Exists.intro _ (Exists.intro _ (And.intro (Or.inl (cw_rows hI.1)) (And.intro (by omega) ?_)))
  by_cases hk : sl.toInt.toNat < K
  · have hr : va_rf (cw_rr K q sl.toInt.toNat) = .ref (q (40 + 4 * sl.toInt.toNat)) := by
      unfold cw_rr
      rw [if_pos hk]
      rfl
    rw [hr]
    exact cont K q w e hI cw_X_r (by omega) ⟨rfl, rfl, rfl, rfl⟩ rfl (fun _ _ _ => ⟨rfl, rfl⟩) hk _ _ rfl
  · have hr : va_rf (cw_rr K q sl.toInt.toNat) = .null := by
      unfold cw_rr
      rw [if_neg hk]
      rfl
    rw [hr]
    have hsK : sl.toInt.toNat = K := by omega
    have hK41 : K < 41 := by omega
    refine Exists.intro _ (And.intro (cw_o1 hI.1) ?_)
    refine And.intro rfl (fun a ha => ?_)
    refine Exists.intro _ (Exists.intro _ (Exists.intro _ (Exists.intro _ (And.intro (c_X7_init pm_up_s) (And.intro rfl (fun r9 A9 h9 => ?_))))))
    obtain ⟨rfl, b1, b2, b3, hn, hb, h0, h123, hout⟩ := h9
    obtain ⟨haq, ha0⟩ := gw_none ha
    have nb : ∀ b, b ≠ a → pm_up (cw A0 g K nn dn q w e v f) a (pm_ob 7 (pm_df 7)) b = none → (∀ i, i < 40 + 4 * K → b ≠ q i) ∧ A0 b = none := by
      intro b hba hbn
      rw [pm_up_n hba] at hbn
      exact gw_none hbn
    have g1 := nb b1 hb.2.2.2.1 hn.1
    have g2 := nb b2 hb.2.2.2.2.1 hn.2.1
    have g3 := nb b3 hb.2.2.2.2.2 hn.2.2
    have old : ∀ i, i < 40 + 4 * K → A9 (q i) = some (cw_c g K nn dn q w e v f i) := by
      intro i hi
      rw [hout (q i) (haq i hi).symm (g1.1 i hi).symm (g2.1 i hi).symm (g3.1 i hi).symm, pm_up_n (haq i hi).symm]
      exact gw_a hI.1 hi
    refine Exists.intro 41 (Exists.intro (cw_rr K q) (Exists.intro _ (And.intro (old 10 (by omega)) (And.intro h0 (And.intro (by omega) ?_)))))
    rw [hsK]
    have q2lt : ∀ i, i < 40 + 4 * K → cw_q2 K q a b1 b2 b3 i = q i := fun i hi => cw_q2_lt hi
    have hI2 := cw_I2 hI hK41 haq g1.1 g2.1 g3.1 hb
    have heq : pm_up A9 (q 10) (pm_ra g 41 (va_up (cw_rr K q) K (some a))) = cw A0 g (K + 1) nn dn (cw_q2 K q a b1 b2 b3) (cw_w2 K w) (cw_e2 K e) v f := by
      refine gw_char (fun i hi => ?_) (fun x hx => ?_)
      · by_cases h : i < 40 + 4 * K
        · rw [q2lt i h]
          by_cases h10 : i = 10
          · subst h10
            rw [pm_up_s, ← cw_rr2 (b1 := b1) (b2 := b2) (b3 := b3)]
            rfl
          · rw [pm_up_n (fun e9 => h10 (hI.1 _ _ h (by omega) e9)), old i h, cw_c2_lt (by omega) (by omega) (by omega) h h10]
        · have w0 : ∀ j, cw_w2 K w (40 + 4 * K + j) = 0 := fun j => if_pos (by omega)
          have ee : ∀ j, cw_e2 K e (40 + 4 * K + j) = fun _ => 0 := fun j => if_pos (by omega)
          have qa : cw_q2 K q a b1 b2 b3 (40 + 4 * K) = a := by simp [cw_q2]
          have qb : cw_q2 K q a b1 b2 b3 (40 + 4 * K + 1) = b1 := by simp [cw_q2]
          have qc : cw_q2 K q a b1 b2 b3 (40 + 4 * K + 2) = b2 := by simp [cw_q2]
          have qd : cw_q2 K q a b1 b2 b3 (40 + 4 * K + 3) = b3 := by simp [cw_q2]
          rcases (show i = 40 + 4 * K ∨ i = 40 + 4 * K + 1 ∨ i = 40 + 4 * K + 2 ∨ i = 40 + 4 * K + 3 by omega) with rfl | rfl | rfl | rfl
          · rw [qa, pm_up_n (haq 10 (by omega)), h0]
            unfold cw_c
            rw [if_neg (by omega), if_neg (by omega), if_pos (by omega), qb, qc, qd, w0 1, show cw_w2 K w (40 + 4 * K) = 0 from w0 0]
          · rw [qb, pm_up_n (g1.1 10 (by omega)), h123.1]
            unfold cw_c
            rw [if_neg (by omega), if_neg (by omega), if_neg (by omega), ee 1]
          · rw [qc, pm_up_n (g2.1 10 (by omega)), h123.2.1]
            unfold cw_c
            rw [if_neg (by omega), if_neg (by omega), if_neg (by omega), ee 2]
          · rw [qd, pm_up_n (g3.1 10 (by omega)), h123.2.2]
            unfold cw_c
            rw [if_neg (by omega), if_neg (by omega), if_neg (by omega), ee 3]
      · have hx0 : ∀ i, i < 40 + 4 * K → x ≠ q i := fun i hi => by rw [← q2lt i hi]; exact hx i (by omega)
        have xa : x ≠ a := by have h9 := hx (40 + 4 * K) (by omega); simpa [cw_q2] using h9
        have xb : x ≠ b1 := by have h9 := hx (40 + 4 * K + 1) (by omega); simpa [cw_q2] using h9
        have xc : x ≠ b2 := by have h9 := hx (40 + 4 * K + 2) (by omega); simpa [cw_q2] using h9
        have xd : x ≠ b3 := by have h9 := hx (40 + 4 * K + 3) (by omega); simpa [cw_q2] using h9
        rw [pm_up_n (hx0 10 (by omega)), hout x xa xb xc xd, pm_up_n xa]
        exact gw_out hx0
    rw [heq, show q 1 = cw_q2 K q a b1 b2 b3 1 from (q2lt 1 (by omega)).symm]
    have hX : cw_X A0 K q (K + 1) (cw_q2 K q a b1 b2 b3) := by
      refine ⟨by omega, q2lt, fun i h1 h2 => ?_⟩
      rcases (show i = 40 + 4 * K ∨ i = 40 + 4 * K + 1 ∨ i = 40 + 4 * K + 2 ∨ i = 40 + 4 * K + 3 by omega) with rfl | rfl | rfl | rfl
      · rw [show cw_q2 K q a b1 b2 b3 (40 + 4 * K) = a by simp [cw_q2]]; exact ha0
      · rw [show cw_q2 K q a b1 b2 b3 (40 + 4 * K + 1) = b1 by simp [cw_q2]]; exact g1.2
      · rw [show cw_q2 K q a b1 b2 b3 (40 + 4 * K + 2) = b2 by simp [cw_q2]]; exact g2.2
      · rw [show cw_q2 K q a b1 b2 b3 (40 + 4 * K + 3) = b3 by simp [cw_q2]]; exact g3.2
    exact cont (K + 1) _ _ _ hI2 hX (by omega) ⟨cw_w2_lt (by omega), cw_w2_lt (by omega), cw_w2_lt (by omega), cw_w2_lt (by omega)⟩ (cw_e2_lt (by omega)) (fun i9 _ a2 => ⟨cw_w2_lt a2, cw_e2_lt a2⟩) (by omega) _ _ rfl
end
