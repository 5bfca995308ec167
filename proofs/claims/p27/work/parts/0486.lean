section
variable {l : Launch} {g : pm_G} {b L : Nat} {xs : Nat → Int32} {J : pm_J} {xo h : Nat}
set_option maxRecDepth 100000 in
set_option maxHeartbeats 4000000 in
theorem lx_loop (hC : pm_Cl l g (lw_ro b L xs) 7 600000 7302250 lw_Rt bk_L_law J) (hL : L ≤ 3072) {c0 s0 : Nat} (hc0 : c0 + 2052 ≤ 600000) (hs0 : s0 + 248805 ≤ 7302250) : ∀ (n : Nat) (i : Int32) (E : Nat) (A : pm_H) (c s : Nat), i.toInt = 6 * (E : Int) → E ≤ 512 → LX g xo h E A → c ≤ c0 + 4 * E → s ≤ s0 + 485 * E → 600 - (E : Int) < n → J 18 [some (.ref b), some (.ref xo), some (.ref h), some (.int i)] [] A c s := by
  intro n
  induction n with
  | zero => intro i E A c s h1 h2 h3 h4 h5 h6; omega
  | succ n ih =>
    intro i E A c s h1 h2 h3 h4 h5 h6
    have hro : lw_ro b L xs b = some (L, xs) := if_pos rfl
    have hN := nI_toInt (n := L) (by omega)
    refine hC.1 1 18 _ _ rfl _ _ _ _ _ ?_
    refine Exists.intro _ (Exists.intro _ (And.intro (Or.inr hro) ?_))
    intro m em
    have e1 : m.toInt = (L : Int) - 6 := by rw [em, pm_subc _ _ 6 rfl (by omega) (by omega), hN]
    refine And.intro (fun c9 => ?_) (fun c9 => ?_)
    · refine hC.1 68 2569 _ _ rfl _ _ _ _ _ ?_
      exact ⟨rfl, fun _ => Or.inr rfl, by omega, by omega, rfl⟩
    · have cont : ∀ (A' : pm_H) (c' s' : Nat), LX g xo h (E + 1) A' → c' ≤ c + 4 → s' ≤ s + 485 → J 2563 [some (.ref b), some (.ref xo), some (.ref h), some (.int i)] [] A' c' s' := by
        intro A' c' s' a1 a2 a3
        refine hC.1 67 2563 _ _ rfl _ _ _ _ _ ?_
        intro m2 em2
        have e2 : m2.toInt = i.toInt + 6 := by rw [em2]; exact pm_addc _ _ 6 rfl (by omega) (by omega)
        exact ih m2 (E + 1) A' c' s' (by omega) (by omega) a1 (by omega) (by omega) (by omega)
      refine Exists.intro _ (Exists.intro _ (And.intro (Or.inr hro) (And.intro (by omega) ?_)))
      refine pm_swc 65 rfl (by decide) ?_ ?_
      · intro _
        exact cont A c s (LX_mono (by omega) h3) (by omega) (by omega)
      · intro i9 hi9 he9
        clear he9
        match i9, hi9 with
        | 0, _ => exact lx_b2 hC (by omega) hL (by omega) h3 (by omega) (by omega) cont
        | 1, _ => exact lx_b3 hC (by omega) hL (by omega) h3 (by omega) (by omega) cont
        | 2, _ => exact lx_b4 hC (by omega) hL (by omega) h3 (by omega) (by omega) cont
        | 3, _ => exact lx_b5 hC (by omega) hL (by omega) h3 (by omega) (by omega) cont
        | 4, _ => exact lx_b6 hC (by omega) hL (by omega) h3 (by omega) (by omega) cont
        | 5, _ => exact lx_b7 hC (by omega) hL (by omega) h3 (by omega) (by omega) cont
        | 6, _ => exact lx_b8 hC (by omega) hL (by omega) h3 (by omega) (by omega) cont
        | 7, _ => exact lx_b9 hC (by omega) hL (by omega) h3 (by omega) (by omega) cont
        | 8, _ => exact lx_b10 hC (by omega) hL (by omega) h3 (by omega) (by omega) cont
        | 9, _ => exact lx_b11 hC (by omega) hL (by omega) h3 (by omega) (by omega) cont
        | 10, _ => exact lx_b12 hC (by omega) hL (by omega) h3 (by omega) (by omega) cont
        | 11, _ => exact lx_b13 hC (by omega) hL (by omega) h3 (by omega) (by omega) cont
        | 12, _ => exact lx_b14 hC (by omega) hL (by omega) h3 (by omega) (by omega) cont
        | 13, _ => exact lx_b15 hC (by omega) hL (by omega) h3 (by omega) (by omega) cont
        | 14, _ => exact lx_b16 hC (by omega) hL (by omega) h3 (by omega) (by omega) cont
        | 15, _ => exact lx_b17 hC (by omega) hL (by omega) h3 (by omega) (by omega) cont
        | 16, _ => exact lx_b18 hC (by omega) hL (by omega) h3 (by omega) (by omega) cont
        | 17, _ => exact lx_b19 hC (by omega) hL (by omega) h3 (by omega) (by omega) cont
        | 18, _ => exact lx_b20 hC (by omega) hL (by omega) h3 (by omega) (by omega) cont
        | 19, _ => exact lx_b21 hC (by omega) hL (by omega) h3 (by omega) (by omega) cont
        | 20, _ => exact lx_b22 hC (by omega) hL (by omega) h3 (by omega) (by omega) cont
        | 21, _ => exact lx_b23 hC (by omega) hL (by omega) h3 (by omega) (by omega) cont
        | 22, _ => exact lx_b24 hC (by omega) hL (by omega) h3 (by omega) (by omega) cont
        | 23, _ => exact lx_b25 hC (by omega) hL (by omega) h3 (by omega) (by omega) cont
        | 24, _ => exact lx_b26 hC (by omega) hL (by omega) h3 (by omega) (by omega) cont
        | 25, _ => exact lx_b27 hC (by omega) hL (by omega) h3 (by omega) (by omega) cont
        | 26, _ => exact lx_b28 hC (by omega) hL (by omega) h3 (by omega) (by omega) cont
        | 27, _ => exact lx_b29 hC (by omega) hL (by omega) h3 (by omega) (by omega) cont
        | 28, _ => exact lx_b30 hC (by omega) hL (by omega) h3 (by omega) (by omega) cont
        | 29, _ => exact lx_b31 hC (by omega) hL (by omega) h3 (by omega) (by omega) cont
        | 30, _ => exact lx_b32 hC (by omega) hL (by omega) h3 (by omega) (by omega) cont
        | 31, _ => exact lx_b33 hC (by omega) hL (by omega) h3 (by omega) (by omega) cont
        | 32, _ => exact lx_b34 hC (by omega) hL (by omega) h3 (by omega) (by omega) cont
        | 33, _ => exact lx_b35 hC (by omega) hL (by omega) h3 (by omega) (by omega) cont
        | 34, _ => exact lx_b36 hC (by omega) hL (by omega) h3 (by omega) (by omega) cont
        | 35, _ => exact lx_b37 hC (by omega) hL (by omega) h3 (by omega) (by omega) cont
        | 36, _ => exact lx_b38 hC (by omega) hL (by omega) h3 (by omega) (by omega) cont
        | 37, _ => exact lx_b39 hC (by omega) hL (by omega) h3 (by omega) (by omega) cont
        | 38, _ => exact lx_b40 hC (by omega) hL (by omega) h3 (by omega) (by omega) cont
        | 39, _ => exact lx_b41 hC (by omega) hL (by omega) h3 (by omega) (by omega) cont
        | 40, _ => exact lx_b42 hC (by omega) hL (by omega) h3 (by omega) (by omega) cont
        | 41, _ => exact lx_b43 hC (by omega) hL (by omega) h3 (by omega) (by omega) cont
        | 42, _ => exact lx_b44 hC (by omega) hL (by omega) h3 (by omega) (by omega) cont
        | 43, _ => exact lx_b45 hC (by omega) hL (by omega) h3 (by omega) (by omega) cont
        | 44, _ => exact lx_b46 hC (by omega) hL (by omega) h3 (by omega) (by omega) cont
        | 45, _ => exact lx_b47 hC (by omega) hL (by omega) h3 (by omega) (by omega) cont
        | 46, _ => exact lx_b48 hC (by omega) hL (by omega) h3 (by omega) (by omega) cont
        | 47, _ => exact lx_b49 hC (by omega) hL (by omega) h3 (by omega) (by omega) cont
        | 48, _ => exact lx_b50 hC (by omega) hL (by omega) h3 (by omega) (by omega) cont
        | 49, _ => exact lx_b51 hC (by omega) hL (by omega) h3 (by omega) (by omega) cont
        | 50, _ => exact lx_b52 hC (by omega) hL (by omega) h3 (by omega) (by omega) cont
        | 51, _ => exact lx_b53 hC (by omega) hL (by omega) h3 (by omega) (by omega) cont
        | 52, _ => exact lx_b54 hC (by omega) hL (by omega) h3 (by omega) (by omega) cont
        | 53, _ => exact lx_b55 hC (by omega) hL (by omega) h3 (by omega) (by omega) cont
        | 54, _ => exact lx_b56 hC (by omega) hL (by omega) h3 (by omega) (by omega) cont
        | 55, _ => exact lx_b57 hC (by omega) hL (by omega) h3 (by omega) (by omega) cont
        | 56, _ => exact lx_b58 hC (by omega) hL (by omega) h3 (by omega) (by omega) cont
        | 57, _ => exact lx_b59 hC (by omega) hL (by omega) h3 (by omega) (by omega) cont
        | 58, _ => exact lx_b60 hC (by omega) hL (by omega) h3 (by omega) (by omega) cont
        | 59, _ => exact lx_b61 hC (by omega) hL (by omega) h3 (by omega) (by omega) cont
        | 60, _ => exact lx_b62 hC (by omega) hL (by omega) h3 (by omega) (by omega) cont
        | 61, _ => exact lx_b63 hC (by omega) hL (by omega) h3 (by omega) (by omega) cont
        | 62, _ => exact lx_b64 hC (by omega) hL (by omega) h3 (by omega) (by omega) cont
        | 63, _ => exact lx_b65 hC (by omega) hL (by omega) h3 (by omega) (by omega) cont
        | 64, _ => exact lx_b66 hC (by omega) hL (by omega) h3 (by omega) (by omega) cont
        | k + 65, hk => exact absurd hk (by omega)
end
