section
variable {l : Launch} {g : pm_G} {b L : Nat} {xs : Nat → Int32} {J : pm_J} {xo h : Nat}
set_option maxRecDepth 100000 in
set_option maxHeartbeats 2000000 in
theorem lb_14 (hC : pm_Cl l g (lw_ro b L xs) 7 600000 7302250 lw_Rt bk_L_law J) {i : Int32} (hi : 0 ≤ i.toInt ∧ i.toInt + 6 ≤ L) (hL : L ≤ 3072) {E : Nat} (hE : E < 1000) {A : pm_H} {c s : Nat} (hA : LW g xo h E A) (hc : c + 4 ≤ 600000) (hs0 : s + 485 ≤ 7302250) (cont : ∀ (A' : pm_H) (c' s' : Nat), LW g xo h (E + 1) A' → c' ≤ c + 4 → s' ≤ s + 485 → J 2563 [some (.ref b), some (.ref xo), some (.ref h), some (.int i)] [] A' c' s') : J 764 [some (.ref b), some (.ref xo), some (.ref h), some (.int i)] [] A c s := by
  obtain ⟨A00, K, nn, dn, q, w, e, v, f, mq, mv, mf, rfl, rfl, hI, hS, D, hv, hf, dj, hw, hE1, hE2⟩ := hA
  have hro : lw_ro b L xs b = some (L, xs) := if_pos rfl
  refine hC.1 14 764 _ _ rfl _ _ _ _ _ ?_
  intro m1 em1
  have e1 : m1.toInt = i.toInt + 1 := by rw [em1]; exact pm_addc _ _ 1 rfl (by omega) (by omega)
  refine Exists.intro _ (Exists.intro _ (And.intro (Or.inr hro) (And.intro (by omega) ?_)))
  intro m2 em2
  have e2 : m2.toInt = i.toInt + 2 := by rw [em2]; exact pm_addc _ _ 2 rfl (by omega) (by omega)
  refine Exists.intro _ (Exists.intro _ (And.intro (Or.inr hro) (And.intro (by omega) ?_)))
  refine And.intro (Exists.intro _ (cw_o0 hI.1)) (Exists.intro _ (Exists.intro _ (Exists.intro _ (Exists.intro _ (And.intro (c_X10_weigh hI hS (xs m1.toInt.toNat) (xs m2.toInt.toNat)) (And.intro (lw_bnd rfl (by omega) (by omega) rfl) (fun r9 A9 h9 => ?_)))))))
  rcases h9 with ⟨hr, rfl, rfl⟩ | ⟨hr, rfl, rfl⟩
  · intro m3 em3
    refine Exists.intro _ (Exists.intro _ (And.intro (Or.inr hro) (And.intro (by rw [em3, ← em1]; omega) ?_)))
    intro m4 em4
    refine Exists.intro _ (Exists.intro _ (And.intro (Or.inr hro) (And.intro (by rw [em4, ← em2]; omega) ?_)))
    have e3 : m3 = m1 := em3.trans em1.symm
    have e4 : m4 = m2 := em4.trans em2.symm
    subst e3; subst e4
    rw [cw_md D dj]
    refine And.intro (Exists.intro _ (md_o)) (Exists.intro _ (Exists.intro _ (Exists.intro _ (Exists.intro _ (And.intro (c_X11_weigh D mv mf hv hf (xs m3.toInt.toNat) (xs m4.toInt.toNat)) (And.intro (lw_bnd rfl (by omega) (by omega) rfl) (fun r9 A9 h9 => ?_)))))))
    have hj : (xs m3.toInt.toNat).toInt.toNat < 24 := by omega
    rcases h9 with ⟨hr2, rfl, rfl⟩ | ⟨hr2, rfl, rfl⟩
    · refine And.intro (fun _ => ?_) (fun c9 => absurd (hw _ hj) c9)
      have hI2 : cw_I K nn dn q w (va_up e 15 (upd (e 15) (xs m3.toInt.toNat).toInt.toNat (xs m4.toInt.toNat))) := ⟨hI.1, hI.2.1, hI.2.2.1, cw_E_up hI.2.2.2 _ _ (fun h9 _ => absurd h9 (by decide)) (fun h9 _ => absurd h9 (by decide))⟩
      have hf2 : md_F (va_up mf 2 (upd (mf 2) (xs m3.toInt.toNat).toInt.toNat (xs m4.toInt.toNat))) := md_F_st hf 2 _ _ (md_rng _ _ (by decide))
      refine cont _ _ _ ⟨A00, K, nn, dn, q, w, _, v, f, mq, mv, _, (cw_md D dj).symm, rfl, hI2, hS, D, hv, hf2, dj, ?_, by omega, by omega⟩ (by omega) (by omega)
      intro j hj2
      have t1 : va_up e 15 (upd (e 15) (xs m3.toInt.toNat).toInt.toNat (xs m4.toInt.toNat)) 15 = upd (e 15) (xs m3.toInt.toNat).toInt.toNat (xs m4.toInt.toNat) := if_pos rfl
      have t2 : va_up mf 2 (upd (mf 2) (xs m3.toInt.toNat).toInt.toNat (xs m4.toInt.toNat)) 2 = upd (mf 2) (xs m3.toInt.toNat).toInt.toNat (xs m4.toInt.toNat) := if_pos rfl
      rw [t1, t2]
      by_cases hjk : j = (xs m3.toInt.toNat).toInt.toNat
      · rw [hjk, pk_us, pk_us]
      · rw [pk_un hjk, pk_un hjk]; exact hw j hj2
    · exact absurd hr hr2
  · intro m3 em3
    refine Exists.intro _ (Exists.intro _ (And.intro (Or.inr hro) (And.intro (by rw [em3, ← em1]; omega) ?_)))
    intro m4 em4
    refine Exists.intro _ (Exists.intro _ (And.intro (Or.inr hro) (And.intro (by rw [em4, ← em2]; omega) ?_)))
    have e3 : m3 = m1 := em3.trans em1.symm
    have e4 : m4 = m2 := em4.trans em2.symm
    subst e3; subst e4
    rw [cw_md D dj]
    refine And.intro (Exists.intro _ (md_o)) (Exists.intro _ (Exists.intro _ (Exists.intro _ (Exists.intro _ (And.intro (c_X11_weigh D mv mf hv hf (xs m3.toInt.toNat) (xs m4.toInt.toNat)) (And.intro (lw_bnd rfl (by omega) (by omega) rfl) (fun r9 A9 h9 => ?_)))))))
    rcases h9 with ⟨hr2, rfl, rfl⟩ | ⟨hr2, rfl, rfl⟩
    · exact absurd hr2 hr
    · refine And.intro (fun _ => ?_) (fun c9 => absurd rfl c9)
      exact cont _ _ _ ⟨A00, K, nn, dn, q, w, e, v, f, mq, mv, mf, (cw_md D dj).symm, rfl, hI, hS, D, hv, hf, dj, hw, by omega, by omega⟩ (by omega) (by omega)
end
