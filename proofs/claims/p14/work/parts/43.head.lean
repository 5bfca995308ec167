section
variable {l : Launch} {g : pm_G} {b L : Nat} {xs : Nat → Int32} {J : pm_J} {xo h : Nat}
set_option maxRecDepth 100000 in
set_option maxHeartbeats 4000000 in
theorem lw_loop (hC : pm_Cl l g (lw_ro b L xs) 7 600000 7302250 lw_Rt bk_L_law J) (hL : L ≤ 3072) {c0 s0 : Nat} (hc0 : c0 + 2052 ≤ 600000) (hs0 : s0 + 248805 ≤ 7302250) : ∀ (n : Nat) (i : Int32) (E : Nat) (A : pm_H) (c s : Nat), i.toInt = 6 * (E : Int) → E ≤ 512 → LW g xo h E A → c ≤ c0 + 4 * E → s ≤ s0 + 485 * E → 600 - (E : Int) < n → J 18 [some (.ref b), some (.ref xo), some (.ref h), some (.int i)] [] A c s := by
  intro n
  induction n with
  | zero => intro i E A c s h1 h2 h3 h4 h5 h6; omega
  | succ n ih =>
    intro i E A c s h1 h2 h3 h4 h5 h6
    have hro : lw_ro b L xs b = some (L, xs) := if_pos rfl
    have hN := nI_toInt (n := L) (by omega)
    refine hC.1 1 18 _ _ rfl _ _ _ _ _ ?_
    refine Exists.intro _ (Exists.intro _ (And.intro (Or.inr hro) ?_))
    intro m em
    have e1 : m.toInt = (L : Int) - 6 := by rw [em, pm_subc _ _ 6 rfl (by omega) (by omega), hN]
    refine And.intro (fun c9 => ?_) (fun c9 => ?_)
    · refine hC.1 68 2569 _ _ rfl _ _ _ _ _ ?_
      exact ⟨rfl, fun _ => Or.inr rfl, by omega, by omega, rfl⟩
    · have cont : ∀ (A' : pm_H) (c' s' : Nat), LW g xo h (E + 1) A' → c' ≤ c + 4 → s' ≤ s + 485 → J 2563 [some (.ref b), some (.ref xo), some (.ref h), some (.int i)] [] A' c' s' := by
        intro A' c' s' a1 a2 a3
        refine hC.1 67 2563 _ _ rfl _ _ _ _ _ ?_
        intro m2 em2
        have e2 : m2.toInt = i.toInt + 6 := by rw [em2]; exact pm_addc _ _ 6 rfl (by omega) (by omega)
        exact ih m2 (E + 1) A' c' s' (by omega) (by omega) a1 (by omega) (by omega) (by omega)
      refine Exists.intro _ (Exists.intro _ (And.intro (Or.inr hro) (And.intro (by omega) ?_)))
      refine pm_swc 65 rfl (by decide) ?_ ?_
      · intro _
        exact cont A c s (LW_mono (by omega) h3) (by omega) (by omega)
      · intro i9 hi9 he9
        clear he9
        match i9, hi9 with
        | 0, _ => exact lb_2 hC (by omega) hL (by omega) h3 (by omega) (by omega) cont
        | 1, _ => exact lb_3 hC (by omega) hL (by omega) h3 (by omega) (by omega) cont
        | 2, _ => exact lb_4 hC (by omega) hL (by omega) h3 (by omega) (by omega) cont
        | 3, _ => exact lb_5 hC (by omega) hL (by omega) h3 (by omega) (by omega) cont
        | 4, _ => exact lb_6 hC (by omega) hL (by omega) h3 (by omega) (by omega) cont
        | 5, _ => exact lb_7 hC (by omega) hL (by omega) h3 (by omega) (by omega) cont
        | 6, _ => exact lb_8 hC (by omega) hL (by omega) h3 (by omega) (by omega) cont
        | 7, _ => exact lb_9 hC (by omega) hL (by omega) h3 (by omega) (by omega) cont
        | 8, _ => exact lb_10 hC (by omega) hL (by omega) h3 (by omega) (by omega) cont
        | 9, _ => exact lb_11 hC (by omega) hL (by omega) h3 (by omega) (by omega) cont
        | 10, _ => exact lb_12 hC (by omega) hL (by omega) h3 (by omega) (by omega) cont
        | 11, _ => exact lb_13 hC (by omega) hL (by omega) h3 (by omega) (by omega) cont
        | 12, _ => exact lb_14 hC (by omega) hL (by omega) h3 (by omega) (by omega) cont
        | 13, _ => exact lb_15 hC (by omega) hL (by omega) h3 (by omega) (by omega) cont
        | 14, _ => exact lb_16 hC (by omega) hL (by omega) h3 (by omega) (by omega) cont
        | 15, _ => exact lb_17 hC (by omega) hL (by omega) h3 (by omega) (by omega) cont
        | 16, _ => exact lb_18 hC (by omega) hL (by omega) h3 (by omega) (by omega) cont
        | 17, _ => exact lb_19 hC (by omega) hL (by omega) h3 (by omega) (by omega) cont
        | 18, _ => exact lb_20 hC (by omega) hL (by omega) h3 (by omega) (by omega) cont
        | 19, _ => exact lb_21 hC (by omega) hL (by omega) h3 (by omega) (by omega) cont
        | 20, _ => exact lb_22 hC (by omega) hL (by omega) h3 (by omega) (by omega) cont
        | 21, _ => exact lb_23 hC (by omega) hL (by omega) h3 (by omega) (by omega) cont
        | 22, _ => exact lb_24 hC (by omega) hL (by omega) h3 (by omega) (by omega) cont
        | 23, _ => exact lb_25 hC (by omega) hL (by omega) h3 (by omega) (by omega) cont
        | 24, _ => exact lb_26 hC (by omega) hL (by omega) h3 (by omega) (by omega) cont
        | 25, _ => exact lb_27 hC (by omega) hL (by omega) h3 (by omega) (by omega) cont
        | 26, _ => exact lb_28 hC (by omega) hL (by omega) h3 (by omega) (by omega) cont
        | 27, _ => exact lb_29 hC (by omega) hL (by omega) h3 (by omega) (by omega) cont
        | 28, _ => exact lb_30 hC (by omega) hL (by omega) h3 (by omega) (by omega) cont
        | 29, _ => exact lb_31 hC (by omega) hL (by omega) h3 (by omega) (by omega) cont
        | 30, _ => exact lb_32 hC (by omega) hL (by omega) h3 (by omega) (by omega) cont
        | 31, _ => exact lb_33 hC (by omega) hL (by omega) h3 (by omega) (by omega) cont
        | 32, _ => exact lb_34 hC (by omega) hL (by omega) h3 (by omega) (by omega) cont
        | 33, _ => exact lb_35 hC (by omega) hL (by omega) h3 (by omega) (by omega) cont
        | 34, _ => exact lb_36 hC (by omega) hL (by omega) h3 (by omega) (by omega) cont
        | 35, _ => exact lb_37 hC (by omega) hL (by omega) h3 (by omega) (by omega) cont
        | 36, _ => exact lb_38 hC (by omega) hL (by omega) h3 (by omega) (by omega) cont
        | 37, _ => exact lb_39 hC (by omega) hL (by omega) h3 (by omega) (by omega) cont
        | 38, _ => exact lb_40 hC (by omega) hL (by omega) h3 (by omega) (by omega) cont
        | 39, _ => exact lb_41 hC (by omega) hL (by omega) h3 (by omega) (by omega) cont
        | 40, _ => exact lb_42 hC (by omega) hL (by omega) h3 (by omega) (by omega) cont
        | 41, _ => exact lb_43 hC (by omega) hL (by omega) h3 (by omega) (by omega) cont
        | 42, _ => exact lb_44 hC (by omega) hL (by omega) h3 (by omega) (by omega) cont
        | 43, _ => exact lb_45 hC (by omega) hL (by omega) h3 (by omega) (by omega) cont
        | 44, _ => exact lb_46 hC (by omega) hL (by omega) h3 (by omega) (by omega) cont
        | 45, _ => exact lb_47 hC (by omega) hL (by omega) h3 (by omega) (by omega) cont
        | 46, _ => exact lb_48 hC (by omega) hL (by omega) h3 (by omega) (by omega) cont
        | 47, _ => exact lb_49 hC (by omega) hL (by omega) h3 (by omega) (by omega) cont
        | 48, _ => exact lb_50 hC (by omega) hL (by omega) h3 (by omega) (by omega) cont
        | 49, _ => exact lb_51 hC (by omega) hL (by omega) h3 (by omega) (by omega) cont
        | 50, _ => exact lb_52 hC (by omega) hL (by omega) h3 (by omega) (by omega) cont
        | 51, _ => exact lb_53 hC (by omega) hL (by omega) h3 (by omega) (by omega) cont
        | 52, _ => exact lb_54 hC (by omega) hL (by omega) h3 (by omega) (by omega) cont
        | 53, _ => exact lb_55 hC (by omega) hL (by omega) h3 (by omega) (by omega) cont
        | 54, _ => exact lb_56 hC (by omega) hL (by omega) h3 (by omega) (by omega) cont
        | 55, _ => exact lb_57 hC (by omega) hL (by omega) h3 (by omega) (by omega) cont
        | 56, _ => exact lb_58 hC (by omega) hL (by omega) h3 (by omega) (by omega) cont
        | 57, _ => exact lb_59 hC (by omega) hL (by omega) h3 (by omega) (by omega) cont
        | 58, _ => exact lb_60 hC (by omega) hL (by omega) h3 (by omega) (by omega) cont
        | 59, _ => exact lb_61 hC (by omega) hL (by omega) h3 (by omega) (by omega) cont
        | 60, _ => exact lb_62 hC (by omega) hL (by omega) h3 (by omega) (by omega) cont
        | 61, _ => exact lb_63 hC (by omega) hL (by omega) h3 (by omega) (by omega) cont
        | 62, _ => exact lb_64 hC (by omega) hL (by omega) h3 (by omega) (by omega) cont
        | 63, _ => exact lb_65 hC (by omega) hL (by omega) h3 (by omega) (by omega) cont
        | 64, _ => exact lb_66 hC (by omega) hL (by omega) h3 (by omega) (by omega) cont
        | k + 65, hk => exact absurd hk (by omega)
end
