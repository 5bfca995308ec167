
theorem si_c {n : Int32} {c m : Nat → Int32} {L : List pl_P} (h : rp n c m L) {a b : Int} (h0 : 0 ≤ a) (ha : a < b) (hb : b ≤ (L.length : Int)) : si L a b = (c a.toNat, m a.toNat) :: si L (a + 1) b := by
  unfold si sl
  rw [List.drop_eq_getElem_cons (i := a.toNat) (by omega), show b.toNat - a.toNat = (b.toNat - (a + 1).toNat) + 1 by omega, List.take_succ_cons, rp_at h (by omega), show (a + 1).toNat = a.toNat + 1 by omega]
noncomputable def ed_insert (L : List pl_P) (g : Int32) (p c : Int32) : Option (List pl_P) := if (0 ≤ p.toInt ∧ p.toInt ≤ (L.length : Int)) ∧ (0 ≤ c.toInt ∧ c.toInt ≤ 23) ∧ (L.length : Int) + 1 ≤ 160 ∧ g.toInt + 1 ≤ 10000 then some (si L 0 p.toInt ++ [(c, g)] ++ si L p.toInt L.length) else none
noncomputable def ed_cut (L : List pl_P) (l r : Int32) : Option (List pl_P) := if 0 ≤ l.toInt ∧ l.toInt ≤ r.toInt ∧ r.toInt < (L.length : Int) then some (si L 0 l.toInt ++ si L (r.toInt + 1) L.length) else none
noncomputable def ed_shift (L : List pl_P) (l r n : Int32) : Option (List pl_P) := if (0 ≤ l.toInt ∧ l.toInt ≤ r.toInt ∧ r.toInt < (L.length : Int)) ∧ 0 ≤ n.toInt ∧ n.toInt ≤ r.toInt - l.toInt + 1 then some (si L 0 l.toInt ++ si L (l.toInt + n.toInt) (r.toInt + 1) ++ si L l.toInt (l.toInt + n.toInt) ++ si L (r.toInt + 1) L.length) else none
def sw_l (L : List pl_P) (a b c d : Int) : List pl_P := si L 0 a ++ si L c (d + 1) ++ si L (b + 1) c ++ si L a (b + 1) ++ si L (d + 1) L.length
noncomputable def ed_swap (L : List pl_P) (l r f t : Int32) : Option (List pl_P) := if (0 ≤ l.toInt ∧ l.toInt ≤ r.toInt ∧ r.toInt < (L.length : Int)) ∧ (0 ≤ f.toInt ∧ f.toInt ≤ t.toInt ∧ t.toInt < (L.length : Int)) ∧ (r.toInt < f.toInt ∨ t.toInt < l.toInt) then some (if r.toInt < f.toInt then sw_l L l.toInt r.toInt f.toInt t.toInt else sw_l L f.toInt t.toInt l.toInt r.toInt) else none
noncomputable def ed_turn (L : List pl_P) (l r : Int32) : Option (List pl_P) := if 0 ≤ l.toInt ∧ l.toInt ≤ r.toInt ∧ r.toInt < (L.length : Int) then some (si L 0 l.toInt ++ (si L l.toInt (r.toInt + 1)).reverse ++ si L (r.toInt + 1) L.length) else none
def nw_l (g : Int32) : List Int32 → List pl_P
  | [] => []
  | c :: r => (c, g) :: nw_l (g + 1) r
theorem nw_app {c : Int32} : ∀ {cs : List Int32} {g g2 : Int32}, g2.toInt = g.toInt + (cs.length : Int) → g.toInt + (cs.length : Int) < 2147483647 → nw_l g (cs ++ [c]) = nw_l g cs ++ [(c, g2)]
  | [], g, g2, h, _ => by
    have e : g2 = g := pm_eqI (by rw [h]; simp)
    rw [e]; rfl
  | x :: r, g, g2, h, hb => by
    have h1 : ((x :: r).length : Int) = (r.length : Int) + 1 := by simp
    have hr := pm_rng g
    have h2 : (g + 1).toInt = g.toInt + 1 := pm_addc g 1 1 rfl (by omega) (by omega)
    show (x, g) :: nw_l (g + 1) (r ++ [c]) = (x, g) :: (nw_l (g + 1) r ++ [(c, g2)])
    rw [nw_app (cs := r) (g := g + 1) (g2 := g2) (by omega) (by omega)]
theorem nw_len (g : Int32) (cs : List Int32) : (nw_l g cs).length = cs.length := by
  induction cs generalizing g with
  | nil => rfl
  | cons x r ih => show (nw_l (g + 1) r).length + 1 = r.length + 1; rw [ih]
noncomputable def ed_copy (L : List pl_P) (g : Int32) (l r p : Int32) : Option (List pl_P) := if (0 ≤ l.toInt ∧ l.toInt ≤ r.toInt ∧ r.toInt < (L.length : Int)) ∧ (0 ≤ p.toInt ∧ p.toInt ≤ (L.length : Int)) ∧ (L.length : Int) + (r.toInt - l.toInt + 1) ≤ 160 ∧ g.toInt + (r.toInt - l.toInt + 1) ≤ 10000 then some (si L 0 p.toInt ++ nw_l g ((si L l.toInt (r.toInt + 1)).map Prod.fst) ++ si L p.toInt L.length) else none
def ds (x : Int) : Nat → Int
  | 0 => x
  | i + 1 => (137 * ds x i + 71) % 10007
def dr_l (x k : Int) (n : Nat) : List Int32 := (List.range n).map (fun j => Int32.ofInt (ds x (j + 1) % k))
theorem dr_s (x k : Int) (n : Nat) : dr_l x k (n + 1) = dr_l x k n ++ [Int32.ofInt (ds x (n + 1) % k)] := by
  unfold dr_l
  rw [List.range_succ, List.map_append]
  rfl
theorem dr_len (x k : Int) (n : Nat) : (dr_l x k n).length = n := by unfold dr_l; simp
noncomputable def ed_draw (L : List pl_P) (g : Int32) (s n k : Int32) : Option (List pl_P) := if (0 ≤ s.toInt ∧ s.toInt ≤ 9999) ∧ (1 ≤ n.toInt ∧ n.toInt ≤ 160) ∧ (1 ≤ k.toInt ∧ k.toInt ≤ 24) ∧ (L.length : Int) + n.toInt ≤ 160 ∧ g.toInt + n.toInt ≤ 10000 then some (L ++ nw_l g (dr_l s.toInt k.toInt n.toInt.toNat)) else none
noncomputable def st_l (M : List pl_P) : Nat → List pl_P
  | 0 => []
  | c + 1 => st_l M c ++ M.filter (fun p => decide (p.1.toInt = (c : Int)))
noncomputable def ed_sort (L : List pl_P) (l r : Int32) : Option (List pl_P) := if 0 ≤ l.toInt ∧ l.toInt ≤ r.toInt ∧ r.toInt < (L.length : Int) then some (si L 0 l.toInt ++ st_l (si L l.toInt (r.toInt + 1)) 24 ++ si L (r.toInt + 1) L.length) else none
theorem fl_y {M : List pl_P} {c : Int} {a b : Int32} (h : a.toInt = c) : (M ++ [(a, b)]).filter (fun p => decide (p.1.toInt = c)) = M.filter (fun p => decide (p.1.toInt = c)) ++ [(a, b)] := by
  rw [List.filter_append, List.filter_cons, if_pos (by simpa using h)]
  rfl
theorem fl_n {M : List pl_P} {c : Int} {a b : Int32} (h : ¬ a.toInt = c) : (M ++ [(a, b)]).filter (fun p => decide (p.1.toInt = c)) = M.filter (fun p => decide (p.1.toInt = c)) := by
  rw [List.filter_append, List.filter_cons, if_neg (by simpa using h)]
  simp
def rc_l (L : List pl_P) (l r : Int) (h : Int32 → Int32) : List pl_P := si L 0 l ++ (si L l (r + 1)).map (fun p => (h p.1, p.2)) ++ si L (r + 1) L.length
noncomputable def ed_paint (L : List pl_P) (l r c : Int32) : Option (List pl_P) := if (0 ≤ l.toInt ∧ l.toInt ≤ r.toInt ∧ r.toInt < (L.length : Int)) ∧ 0 ≤ c.toInt ∧ c.toInt ≤ 23 then some (rc_l L l.toInt r.toInt (fun _ => c)) else none
noncomputable def ed_merge (L : List pl_P) (a b : Int32) : Option (List pl_P) := if (0 ≤ a.toInt ∧ a.toInt ≤ 23) ∧ (0 ≤ b.toInt ∧ b.toInt ≤ 23) ∧ a.toInt ≠ b.toInt then some (L.map (fun p => (if p.1 = a then b else p.1, p.2))) else none
noncomputable def ed_exch (L : List pl_P) (a b : Int32) : Option (List pl_P) := if (0 ≤ a.toInt ∧ a.toInt ≤ 23) ∧ (0 ≤ b.toInt ∧ b.toInt ≤ 23) ∧ a.toInt ≠ b.toInt then some (L.map (fun p => (if p.1 = a then b else if p.1 = b then a else p.1, p.2))) else none
def rc_p (L : List pl_P) (l r : Int) (h : Int32 → Int32) (z : Int) : List pl_P := si L 0 (if z ≤ l then z else l) ++ (si L l (if z ≤ r + 1 then z else r + 1)).map (fun p => (h p.1, p.2)) ++ si L (r + 1) z
theorem rc_0 {L : List pl_P} {l r : Int} {h : Int32 → Int32} (h1 : 0 ≤ l) (h2 : l ≤ r + 1) : rc_p L l r h (0 : Int32).toInt = [] := by
  have k0 : (0 : Int32).toInt = 0 := rfl
  unfold rc_p
  rw [k0, if_pos h1, if_pos (by omega), si_n (L := L) (a := 0) (b := 0) (by omega), si_n (L := L) (a := l) (b := 0) h1, si_n (L := L) (a := r + 1) (b := 0) (by omega)]
  rfl
theorem rc_e {L : List pl_P} {l r : Int} {h : Int32 → Int32} (h1 : 0 ≤ l) (h2 : l ≤ r + 1) (h3 : r < (L.length : Int)) : rc_p L l r h L.length = rc_l L l r h := by
  unfold rc_p rc_l
  by_cases e1 : (L.length : Int) ≤ l
  · have e2 : (L.length : Int) = l := by omega
    rw [if_pos e1, e2]
    by_cases e3 : l ≤ r + 1
    · rw [if_pos e3]
      have e4 : l = r + 1 := by omega
      rw [← e4]
    · exact absurd h2 e3
  · rw [if_neg e1]
    by_cases e3 : (L.length : Int) ≤ r + 1
    · rw [if_pos e3, show (L.length : Int) = r + 1 by omega]
    · rw [if_neg e3]
