/-! the edits, as lists -/
theorem si_c {n : Int32} {c m : Nat → Int32} {L : List pl_P} (h : rp n c m L) {a b : Int} (h0 : 0 ≤ a) (ha : a < b) (hb : b ≤ (L.length : Int)) : si L a b = (c a.toNat, m a.toNat) :: si L (a + 1) b := by
  unfold si sl
  rw [List.drop_eq_getElem_cons (i := a.toNat) (by omega), show b.toNat - a.toNat = (b.toNat - (a + 1).toNat) + 1 by omega, List.take_succ_cons, rp_at h (by omega), show (a + 1).toNat = a.toNat + 1 by omega]
noncomputable def ed_insert (L : List pl_P) (g : Int32) (p c : Int32) : Option (List pl_P) := if (0 ≤ p.toInt ∧ p.toInt ≤ (L.length : Int)) ∧ (0 ≤ c.toInt ∧ c.toInt ≤ 23) ∧ (L.length : Int) + 1 ≤ 160 ∧ g.toInt + 1 ≤ 10000 then some (si L 0 p.toInt ++ [(c, g)] ++ si L p.toInt L.length) else none
noncomputable def ed_cut (L : List pl_P) (l r : Int32) : Option (List pl_P) := if 0 ≤ l.toInt ∧ l.toInt ≤ r.toInt ∧ r.toInt < (L.length : Int) then some (si L 0 l.toInt ++ si L (r.toInt + 1) L.length) else none
noncomputable def ed_shift (L : List pl_P) (l r n : Int32) : Option (List pl_P) := if (0 ≤ l.toInt ∧ l.toInt ≤ r.toInt ∧ r.toInt < (L.length : Int)) ∧ 0 ≤ n.toInt ∧ n.toInt ≤ r.toInt - l.toInt + 1 then some (si L 0 l.toInt ++ si L (l.toInt + n.toInt) (r.toInt + 1) ++ si L l.toInt (l.toInt + n.toInt) ++ si L (r.toInt + 1) L.length) else none
def sw_l (L : List pl_P) (a b c d : Int) : List pl_P := si L 0 a ++ si L c (d + 1) ++ si L (b + 1) c ++ si L a (b + 1) ++ si L (d + 1) L.length
noncomputable def ed_swap (L : List pl_P) (l r f t : Int32) : Option (List pl_P) := if (0 ≤ l.toInt ∧ l.toInt ≤ r.toInt ∧ r.toInt < (L.length : Int)) ∧ (0 ≤ f.toInt ∧ f.toInt ≤ t.toInt ∧ t.toInt < (L.length : Int)) ∧ (r.toInt < f.toInt ∨ t.toInt < l.toInt) then some (if r.toInt < f.toInt then sw_l L l.toInt r.toInt f.toInt t.toInt else sw_l L f.toInt t.toInt l.toInt r.toInt) else none
noncomputable def ed_turn (L : List pl_P) (l r : Int32) : Option (List pl_P) := if 0 ≤ l.toInt ∧ l.toInt ≤ r.toInt ∧ r.toInt < (L.length : Int) then some (si L 0 l.toInt ++ (si L l.toInt (r.toInt + 1)).reverse ++ si L (r.toInt + 1) L.length) else none
/-- names one after the other -/
def nw_l (g : Int32) : List Int32 → List pl_P
  | [] => []
  | c :: r => (c, g) :: nw_l (g + 1) r
theorem nw_app {c : Int32} : ∀ {cs : List Int32} {g g2 : Int32}, g2.toInt = g.toInt + (cs.length : Int) → g.toInt + (cs.length : Int) < 2147483647 → nw_l g (cs ++ [c]) = nw_l g cs ++ [(c, g2)]
  | [], g, g2, h, _ => by
    have e : g2 = g := pm_eqI (by rw [h]; simp)
    rw [e]; rfl
  | x :: r, g, g2, h, hb => by
    have h1 : ((x :: r).length : Int) = (r.length : Int) + 1 := by simp
    have hr := pm_rng g
    have h2 : (g + 1).toInt = g.toInt + 1 := pm_addc g 1 1 rfl (by omega) (by omega)
    show (x, g) :: nw_l (g + 1) (r ++ [c]) = (x, g) :: (nw_l (g + 1) r ++ [(c, g2)])
    rw [nw_app (cs := r) (g := g + 1) (g2 := g2) (by omega) (by omega)]
theorem nw_len (g : Int32) (cs : List Int32) : (nw_l g cs).length = cs.length := by
  induction cs generalizing g with
  | nil => rfl
  | cons x r ih => show (nw_l (g + 1) r).length + 1 = r.length + 1; rw [ih]
noncomputable def ed_copy (L : List pl_P) (g : Int32) (l r p : Int32) : Option (List pl_P) := if (0 ≤ l.toInt ∧ l.toInt ≤ r.toInt ∧ r.toInt < (L.length : Int)) ∧ (0 ≤ p.toInt ∧ p.toInt ≤ (L.length : Int)) ∧ (L.length : Int) + (r.toInt - l.toInt + 1) ≤ 160 ∧ g.toInt + (r.toInt - l.toInt + 1) ≤ 10000 then some (si L 0 p.toInt ++ nw_l g ((si L l.toInt (r.toInt + 1)).map Prod.fst) ++ si L p.toInt L.length) else none
