section
/-! the law's world: the class's cells over the reference's -/
theorem md_out {A0 : pm_H} {g : pm_G} {h : Nat} {q : Nat → Nat} {v : Nat → Int32} {f : Nat → Nat → Int32} {x : Nat} (hx : x ≠ h) (hq : ∀ i, i < 20 → x ≠ q i) : md A0 g h q v f x = A0 x := by
  unfold md
  rw [if_neg hx]
  cases hf : (List.range 20).find? (fun j => decide (x = q j)) with
  | none => rfl
  | some j =>
    have h3 : x = q j := by simpa using List.find?_some hf
    have h4 := List.mem_range.mp (List.mem_of_find?_eq_some hf)
    exact absurd h3 (hq j h4)
theorem cw_md {A00 : pm_H} {g : pm_G} {h : Nat} {mq : Nat → Nat} {mv : Nat → Int32} {mf : Nat → Nat → Int32} {K nn dn : Nat} {q : Nat → Nat} {w : Nat → Int32} {e : Nat → Nat → Int32} {v : Nat → Int32} {f : Nat → Nat → Int32} (D : md_D h mq) (dj : ∀ i, i < 40 + 4 * K → q i ≠ h ∧ ∀ j, j < 20 → q i ≠ mq j) : cw (md A00 g h mq mv mf) g K nn dn q w e v f = md (cw A00 g K nn dn q w e v f) g h mq mv mf := by
  refine md_char ?_ (fun i hi => ?_) (fun x hx hq => ?_)
  · exact (gw_out (fun i hi => (dj i hi).1.symm)).trans md_o
  · exact (gw_out (fun j hj => ((dj j hj).2 i hi).symm)).trans (md_a D hi)
  · unfold cw gw
    cases hf : (List.range (40 + 4 * K)).find? (fun j => decide (x = q j)) with
    | none => exact md_out hx hq
    | some j => rfl
theorem lw_dj {A00 : pm_H} {g : pm_G} {h : Nat} {mq : Nat → Nat} {mv : Nat → Int32} {mf : Nat → Nat → Int32} {K K2 : Nat} {q q2 : Nat → Nat} (D : md_D h mq) (dj : ∀ i, i < 40 + 4 * K → q i ≠ h ∧ ∀ j, j < 20 → q i ≠ mq j) (hX : cw_X (md A00 g h mq mv mf) K q K2 q2) : ∀ i, i < 40 + 4 * K2 → q2 i ≠ h ∧ ∀ j, j < 20 → q2 i ≠ mq j := by
  intro i hi
  by_cases hk : i < 40 + 4 * K
  · rw [hX.2.1 i hk]
    exact dj i hk
  · have h1 := hX.2.2 i (by omega) hi
    refine ⟨fun e1 => ?_, fun j hj e1 => ?_⟩
    · rw [e1, md_o] at h1; cases h1
    · rw [e1, md_a D hj] at h1; cases h1
def lw_ro (b L : Nat) (xs : Nat → Int32) : Nat → Option (Nat × (Nat → Int32)) := fun a => if a = b then some (L, xs) else none
def lw_Rt : Option Value → pm_H → Nat → Nat → Prop := fun v _ c s => c ≤ 600000 ∧ s ≤ 7302250 ∧ v = some (.int 1)
theorem lw_bnd {d' d c mc' mc s ms' ms : Nat} {rest : List Value} (h1 : Nat.blt d' d = true) (h2 : c + mc' ≤ mc) (h3 : s + ms' ≤ ms) (h4 : pm_rm rest = true) : (Nat.blt d' d && (Nat.ble (c + mc') mc && (Nat.ble (s + ms') ms && pm_rm rest))) = true := by
  rw [h1, h4, Nat.ble_eq_true_of_le h2, Nat.ble_eq_true_of_le h3]
  rfl
end
section
/-! a row as a list of (colour, name) -/
abbrev pl_P : Type := Int32 × Int32
def rp (n : Int32) (c m : Nat → Int32) (L : List pl_P) : Prop := n.toInt = (L.length : Int) ∧ ∀ (j : Nat) (h : j < L.length), c j = (L[j]).1 ∧ m j = (L[j]).2
theorem rp_0 {c m : Nat → Int32} {n : Int32} (h : n.toInt = 0) : rp n c m [] := ⟨by rw [h]; rfl, fun j h => absurd h (Nat.not_lt_zero _)⟩
theorem rp_app {n n2 : Int32} {c m : Nat → Int32} {L : List pl_P} (h : rp n c m L) (h2 : n2.toInt = n.toInt + 1) (a b : Int32) : rp n2 (upd c n.toInt.toNat a) (upd m n.toInt.toNat b) (L ++ [(a, b)]) := by
  obtain ⟨h0, h1⟩ := h
  have hn : n.toInt.toNat = L.length := by omega
  refine ⟨by rw [h2, h0, List.length_append]; rfl, fun j hj => ?_⟩
  rw [hn]
  by_cases e : j = L.length
  · subst e
    rw [pk_us, pk_us, List.getElem_append_right (Nat.le_refl _)]
    simp
  · have hl : j < L.length := by
      rw [List.length_append] at hj
      have : ([(a, b)] : List pl_P).length = 1 := rfl
      omega
    rw [pk_un e, pk_un e, List.getElem_append_left hl]
    exact h1 j hl
def sl (L : List pl_P) (a b : Nat) : List pl_P := (L.drop a).take (b - a)
theorem sl_n (L : List pl_P) {a b : Nat} (h : b ≤ a) : sl L a b = [] := by
  unfold sl
  rw [show b - a = 0 by omega, List.take_zero]
theorem sl_s {L : List pl_P} {a b : Nat} (h : a ≤ b) (hb : b < L.length) : sl L a (b + 1) = sl L a b ++ [L[b]] := by
  unfold sl
  rw [show b + 1 - a = (b - a) + 1 by omega, List.take_succ_eq_append_getElem (by rw [List.length_drop]; omega)]
  congr 2
  rw [List.getElem_drop]
  congr 1
  omega
theorem sl_len {L : List pl_P} {a b : Nat} (h : b ≤ L.length) : (sl L a b).length = b - a := by
  unfold sl
  rw [List.length_take, List.length_drop]
  omega
theorem rp_at {n : Int32} {c m : Nat → Int32} {L : List pl_P} (h : rp n c m L) {j : Nat} (hj : j < L.length) : L[j] = (c j, m j) := Prod.ext (h.2 j hj).1.symm (h.2 j hj).2.symm
theorem rp_n {n n2 : Int32} {c m : Nat → Int32} {L : List pl_P} (h : rp n c m L) (h2 : n2.toInt = n.toInt) : rp n2 c m L := ⟨h2.trans h.1, h.2⟩
theorem rp_cp {n n2 : Int32} {c m c2 m2 : Nat → Int32} {L : List pl_P} (h : rp n c m L) (h2 : n2.toInt = n.toInt) (he : ∀ j : Nat, (j : Int) < n.toInt → c2 j = c j ∧ m2 j = m j) : rp n2 c2 m2 L := ⟨h2.trans h.1, fun j hj => by
  have e := he j (by have := h.1; omega)
  rw [e.1, e.2]
  exact h.2 j hj⟩
theorem rp_fr {n n2 : Int32} {c m c2 m2 : Nat → Int32} {L : List pl_P} (h : rp n c m L) (h2 : n2.toInt = n.toInt) (hc : c2 = c) (hm : m2 = m) : rp n2 c2 m2 L := by
  subst hc; subst hm
  exact rp_n h h2
def si (L : List pl_P) (a b : Int) : List pl_P := sl L a.toNat b.toNat
theorem si_len {L : List pl_P} {a b : Int} (h0 : 0 ≤ a) (h1 : a ≤ b) (h : b ≤ (L.length : Int)) : ((si L a b).length : Int) = b - a := by
  unfold si
  rw [sl_len (by omega)]
  omega
theorem si_n {L : List pl_P} {a b : Int} (h : b ≤ a) : si L a b = [] := sl_n L (by omega)
theorem si_s {n : Int32} {c m : Nat → Int32} {L : List pl_P} (h : rp n c m L) {a z : Int} (h0 : 0 ≤ a) (ha : a ≤ z) (hz : z < (L.length : Int)) : si L a (z + 1) = si L a z ++ [(c z.toNat, m z.toNat)] := by
  unfold si
  rw [show (z + 1).toNat = z.toNat + 1 by omega, sl_s (by omega) (by omega), rp_at h (by omega)]
def edn : Option (List pl_P) → Int
  | some _ => 1
  | none => 0
theorem pm_remc (x y : Int32) (k : Int) (hk : y.toInt = k) (hx : 0 ≤ x.toInt) (hy : 0 < k) : 0 ≤ (x - x / y * y).toInt ∧ (x - x / y * y).toInt < k ∧ (x - x / y * y).toInt = x.toInt % k := by
  subst hk
  exact pm_rem x y hx hy
theorem si_all (L : List pl_P) : si L 0 L.length = L := by
  unfold si sl
  simp
end
section
/-! the edits, as lists -/
theorem si_c {n : Int32} {c m : Nat → Int32} {L : List pl_P} (h : rp n c m L) {a b : Int} (h0 : 0 ≤ a) (ha : a < b) (hb : b ≤ (L.length : Int)) : si L a b = (c a.toNat, m a.toNat) :: si L (a + 1) b := by
  unfold si sl
  rw [List.drop_eq_getElem_cons (i := a.toNat) (by omega), show b.toNat - a.toNat = (b.toNat - (a + 1).toNat) + 1 by omega, List.take_succ_cons, rp_at h (by omega), show (a + 1).toNat = a.toNat + 1 by omega]
noncomputable def ed_insert (L : List pl_P) (g : Int32) (p c : Int32) : Option (List pl_P) := if (0 ≤ p.toInt ∧ p.toInt ≤ (L.length : Int)) ∧ (0 ≤ c.toInt ∧ c.toInt ≤ 23) ∧ (L.length : Int) + 1 ≤ 160 ∧ g.toInt + 1 ≤ 10000 then some (si L 0 p.toInt ++ [(c, g)] ++ si L p.toInt L.length) else none
noncomputable def ed_cut (L : List pl_P) (l r : Int32) : Option (List pl_P) := if 0 ≤ l.toInt ∧ l.toInt ≤ r.toInt ∧ r.toInt < (L.length : Int) then some (si L 0 l.toInt ++ si L (r.toInt + 1) L.length) else none
noncomputable def ed_shift (L : List pl_P) (l r n : Int32) : Option (List pl_P) := if (0 ≤ l.toInt ∧ l.toInt ≤ r.toInt ∧ r.toInt < (L.length : Int)) ∧ 0 ≤ n.toInt ∧ n.toInt ≤ r.toInt - l.toInt + 1 then some (si L 0 l.toInt ++ si L (l.toInt + n.toInt) (r.toInt + 1) ++ si L l.toInt (l.toInt + n.toInt) ++ si L (r.toInt + 1) L.length) else none
def sw_l (L : List pl_P) (a b c d : Int) : List pl_P := si L 0 a ++ si L c (d + 1) ++ si L (b + 1) c ++ si L a (b + 1) ++ si L (d + 1) L.length
noncomputable def ed_swap (L : List pl_P) (l r f t : Int32) : Option (List pl_P) := if (0 ≤ l.toInt ∧ l.toInt ≤ r.toInt ∧ r.toInt < (L.length : Int)) ∧ (0 ≤ f.toInt ∧ f.toInt ≤ t.toInt ∧ t.toInt < (L.length : Int)) ∧ (r.toInt < f.toInt ∨ t.toInt < l.toInt) then some (if r.toInt < f.toInt then sw_l L l.toInt r.toInt f.toInt t.toInt else sw_l L f.toInt t.toInt l.toInt r.toInt) else none
noncomputable def ed_turn (L : List pl_P) (l r : Int32) : Option (List pl_P) := if 0 ≤ l.toInt ∧ l.toInt ≤ r.toInt ∧ r.toInt < (L.length : Int) then some (si L 0 l.toInt ++ (si L l.toInt (r.toInt + 1)).reverse ++ si L (r.toInt + 1) L.length) else none
def nw_l (g : Int32) : List Int32 → List pl_P
  | [] => []
  | c :: r => (c, g) :: nw_l (g + 1) r
theorem nw_app {c : Int32} : ∀ {cs : List Int32} {g g2 : Int32}, g2.toInt = g.toInt + (cs.length : Int) → g.toInt + (cs.length : Int) < 2147483647 → nw_l g (cs ++ [c]) = nw_l g cs ++ [(c, g2)]
  | [], g, g2, h, _ => by
    have e : g2 = g := pm_eqI (by rw [h]; simp)
    rw [e]; rfl
  | x :: r, g, g2, h, hb => by
    have h1 : ((x :: r).length : Int) = (r.length : Int) + 1 := by simp
    have hr := pm_rng g
    have h2 : (g + 1).toInt = g.toInt + 1 := pm_addc g 1 1 rfl (by omega) (by omega)
    show (x, g) :: nw_l (g + 1) (r ++ [c]) = (x, g) :: (nw_l (g + 1) r ++ [(c, g2)])
    rw [nw_app (cs := r) (g := g + 1) (g2 := g2) (by omega) (by omega)]
theorem nw_len (g : Int32) (cs : List Int32) : (nw_l g cs).length = cs.length := by
  induction cs generalizing g with
  | nil => rfl
  | cons x r ih => show (nw_l (g + 1) r).length + 1 = r.length + 1; rw [ih]
noncomputable def ed_copy (L : List pl_P) (g : Int32) (l r p : Int32) : Option (List pl_P) := if (0 ≤ l.toInt ∧ l.toInt ≤ r.toInt ∧ r.toInt < (L.length : Int)) ∧ (0 ≤ p.toInt ∧ p.toInt ≤ (L.length : Int)) ∧ (L.length : Int) + (r.toInt - l.toInt + 1) ≤ 160 ∧ g.toInt + (r.toInt - l.toInt + 1) ≤ 10000 then some (si L 0 p.toInt ++ nw_l g ((si L l.toInt (r.toInt + 1)).map Prod.fst) ++ si L p.toInt L.length) else none
def ds (x : Int) : Nat → Int
  | 0 => x
  | i + 1 => (137 * ds x i + 71) % 10007
def dr_l (x k : Int) (n : Nat) : List Int32 := (List.range n).map (fun j => Int32.ofInt (ds x (j + 1) % k))
theorem dr_s (x k : Int) (n : Nat) : dr_l x k (n + 1) = dr_l x k n ++ [Int32.ofInt (ds x (n + 1) % k)] := by
  unfold dr_l
  rw [List.range_succ, List.map_append]
  rfl
theorem dr_len (x k : Int) (n : Nat) : (dr_l x k n).length = n := by unfold dr_l; simp
noncomputable def ed_draw (L : List pl_P) (g : Int32) (s n k : Int32) : Option (List pl_P) := if (0 ≤ s.toInt ∧ s.toInt ≤ 9999) ∧ (1 ≤ n.toInt ∧ n.toInt ≤ 160) ∧ (1 ≤ k.toInt ∧ k.toInt ≤ 24) ∧ (L.length : Int) + n.toInt ≤ 160 ∧ g.toInt + n.toInt ≤ 10000 then some (L ++ nw_l g (dr_l s.toInt k.toInt n.toInt.toNat)) else none
noncomputable def st_l (M : List pl_P) : Nat → List pl_P
  | 0 => []
  | c + 1 => st_l M c ++ M.filter (fun p => decide (p.1.toInt = (c : Int)))
noncomputable def ed_sort (L : List pl_P) (l r : Int32) : Option (List pl_P) := if 0 ≤ l.toInt ∧ l.toInt ≤ r.toInt ∧ r.toInt < (L.length : Int) then some (si L 0 l.toInt ++ st_l (si L l.toInt (r.toInt + 1)) 24 ++ si L (r.toInt + 1) L.length) else none
theorem fl_y {M : List pl_P} {c : Int} {a b : Int32} (h : a.toInt = c) : (M ++ [(a, b)]).filter (fun p => decide (p.1.toInt = c)) = M.filter (fun p => decide (p.1.toInt = c)) ++ [(a, b)] := by
  rw [List.filter_append, List.filter_cons, if_pos (by simpa using h)]
  rfl
theorem fl_n {M : List pl_P} {c : Int} {a b : Int32} (h : ¬ a.toInt = c) : (M ++ [(a, b)]).filter (fun p => decide (p.1.toInt = c)) = M.filter (fun p => decide (p.1.toInt = c)) := by
  rw [List.filter_append, List.filter_cons, if_neg (by simpa using h)]
  simp
def rc_l (L : List pl_P) (l r : Int) (h : Int32 → Int32) : List pl_P := si L 0 l ++ (si L l (r + 1)).map (fun p => (h p.1, p.2)) ++ si L (r + 1) L.length
noncomputable def ed_paint (L : List pl_P) (l r c : Int32) : Option (List pl_P) := if (0 ≤ l.toInt ∧ l.toInt ≤ r.toInt ∧ r.toInt < (L.length : Int)) ∧ 0 ≤ c.toInt ∧ c.toInt ≤ 23 then some (rc_l L l.toInt r.toInt (fun _ => c)) else none
noncomputable def ed_merge (L : List pl_P) (a b : Int32) : Option (List pl_P) := if (0 ≤ a.toInt ∧ a.toInt ≤ 23) ∧ (0 ≤ b.toInt ∧ b.toInt ≤ 23) ∧ a.toInt ≠ b.toInt then some (L.map (fun p => (if p.1 = a then b else p.1, p.2))) else none
noncomputable def ed_exch (L : List pl_P) (a b : Int32) : Option (List pl_P) := if (0 ≤ a.toInt ∧ a.toInt ≤ 23) ∧ (0 ≤ b.toInt ∧ b.toInt ≤ 23) ∧ a.toInt ≠ b.toInt then some (L.map (fun p => (if p.1 = a then b else if p.1 = b then a else p.1, p.2))) else none
def rc_p (L : List pl_P) (l r : Int) (h : Int32 → Int32) (z : Int) : List pl_P := si L 0 (if z ≤ l then z else l) ++ (si L l (if z ≤ r + 1 then z else r + 1)).map (fun p => (h p.1, p.2)) ++ si L (r + 1) z
theorem rc_0 {L : List pl_P} {l r : Int} {h : Int32 → Int32} (h1 : 0 ≤ l) (h2 : l ≤ r + 1) : rc_p L l r h (0 : Int32).toInt = [] := by
  have k0 : (0 : Int32).toInt = 0 := rfl
  unfold rc_p
  rw [k0, if_pos h1, if_pos (by omega), si_n (L := L) (a := 0) (b := 0) (by omega), si_n (L := L) (a := l) (b := 0) h1, si_n (L := L) (a := r + 1) (b := 0) (by omega)]
  rfl
theorem rc_e {L : List pl_P} {l r : Int} {h : Int32 → Int32} (h1 : 0 ≤ l) (h2 : l ≤ r + 1) (h3 : r < (L.length : Int)) : rc_p L l r h L.length = rc_l L l r h := by
  unfold rc_p rc_l
  by_cases e1 : (L.length : Int) ≤ l
  · have e2 : (L.length : Int) = l := by omega
    rw [if_pos e1, e2]
    by_cases e3 : l ≤ r + 1
    · rw [if_pos e3]
      have e4 : l = r + 1 := by omega
      rw [← e4]
    · exact absurd h2 e3
  · rw [if_neg e1]
    by_cases e3 : (L.length : Int) ≤ r + 1
    · rw [if_pos e3, show (L.length : Int) = r + 1 by omega]
    · rw [if_neg e3]
theorem rc_s {n : Int32} {c m : Nat → Int32} {L : List pl_P} (hL : rp n c m L) {l r z : Int} {h : Int32 → Int32} (h1 : 0 ≤ l) (h2 : l ≤ r + 1) (h3 : r < (L.length : Int)) (hz : 0 ≤ z) (hz2 : z < (L.length : Int)) : rc_p L l r h (z + 1) = rc_p L l r h z ++ [(if l ≤ z ∧ z ≤ r then h (c z.toNat) else c z.toNat, m z.toNat)] := by
  unfold rc_p
  by_cases a1 : z < l
  · rw [if_pos (show z + 1 ≤ l by omega), if_pos (show z ≤ l by omega), if_pos (show z + 1 ≤ r + 1 by omega), if_pos (show z ≤ r + 1 by omega), if_neg (by omega), si_s hL (a := 0) (z := z) (by omega) (by omega) hz2, si_n (L := L) (a := l) (b := z + 1) (by omega), si_n (L := L) (a := l) (b := z) (by omega), si_n (L := L) (a := r + 1) (b := z + 1) (by omega), si_n (L := L) (a := r + 1) (b := z) (by omega)]
    simp
  · by_cases a2 : z ≤ r
    · have e1 : (if z ≤ l then z else l) = l := by split <;> omega
      rw [e1, if_neg (show ¬ z + 1 ≤ l by omega), if_pos (show z + 1 ≤ r + 1 by omega), if_pos (show z ≤ r + 1 by omega), if_pos (show l ≤ z ∧ z ≤ r from ⟨by omega, a2⟩), si_s hL (a := l) (z := z) h1 (by omega) hz2, si_n (L := L) (a := r + 1) (b := z + 1) (by omega), si_n (L := L) (a := r + 1) (b := z) (by omega)]
      simp
    · rw [if_neg (show ¬ z + 1 ≤ l by omega), if_neg (show ¬ z + 1 ≤ r + 1 by omega), if_neg (show ¬ (l ≤ z ∧ z ≤ r) by omega), si_s hL (a := r + 1) (z := z) (by omega) (by omega) hz2]
      have e1 : (if z ≤ l then z else l) = l := by split <;> omega
      have e2 : (if z ≤ r + 1 then z else r + 1) = r + 1 := by split <;> omega
      rw [e1, e2, List.append_assoc, List.append_assoc, List.append_assoc]
theorem rc_all (L : List pl_P) (h : Int32 → Int32) : rc_l L 0 (L.length - 1) h = L.map (fun p => (h p.1, p.2)) := by
  unfold rc_l
  rw [show (L.length : Int) - 1 + 1 = L.length by omega, si_all, si_n (L := L) (a := 0) (b := 0) (by omega), si_n (L := L) (a := L.length) (b := L.length) (by omega)]
  simp
end
section
def cn (c : Nat → Int32) (x : Int32) : Nat → Nat
  | 0 => 0
  | k + 1 => cn c x k + if c k = x then 1 else 0
theorem cn_le (c : Nat → Int32) (x : Int32) : ∀ n, cn c x n ≤ n
  | 0 => Nat.le_refl _
  | k + 1 => by
    have := cn_le c x k
    unfold cn
    split <;> omega
theorem cn_y {c : Nat → Int32} {x : Int32} {k : Nat} (h : c k = x) : cn c x (k + 1) = cn c x k + 1 := by rw [cn, if_pos h]
theorem cn_n {c : Nat → Int32} {x : Int32} {k : Nat} (h : ¬ c k = x) : cn c x (k + 1) = cn c x k := by rw [cn, if_neg h, Nat.add_zero]
def NTH (c : Nat → Int32) (n : Int) (x : Int32) (k r : Int) : Prop := (r = -1 ∧ ∀ i : Nat, (i : Int) < n → ¬ (c i = x ∧ (cn c x i : Int) = k)) ∨ (0 ≤ r ∧ r < n ∧ c r.toNat = x ∧ (cn c x r.toNat : Int) = k)
def FST (c : Nat → Int32) (n : Int) (x : Int32) (r : Int) : Prop := (r = -1 ∧ ∀ i : Nat, (i : Int) < n → ¬ c i = x) ∨ (0 ≤ r ∧ r < n ∧ c r.toNat = x ∧ ∀ i : Nat, (i : Int) < r → ¬ c i = x)
end
section
section
variable {l : Launch} {g : pm_G} {A0 : pm_H} {h : Nat} {q : Nat → Nat}
set_option maxRecDepth 100000 in
set_option maxHeartbeats 2000000 in
theorem F_X11_nth (D : md_D h q) (v : Nat → Int32) (f : Nat → Nat → Int32) (hv : md_V v) (hf : md_F f) (x1 : Int32) (x2 : Int32)  : pm_Mt l g 204 0 0 0 [.ref h, .int x1, .int x2] (md A0 g h q v f) (md_Qp (md A0 g h q v f) (fun r => NTH (f 0) (v 0).toInt x1 x2.toInt r.toInt)) := by
  refine mt_X11_nth rfl (fun J hC => ?_)
  have hv9 := hv
  unfold md_V at hv9
  have rg_x1 := pm_rng x1
  have rg_x2 := pm_rng x2
  refine hC.1 0 0 _ _ rfl _ _ _ _ _ ?_
  have k0 : (0 : Int32).toInt = 0 := rfl
  have lp1 : ∀ (n : Nat) (z3_5 : Int32) (z4_5 : Int32), (0 ≤ z4_5.toInt ∧ z4_5.toInt ≤ (v 0).toInt) → ((0 ≤ x2.toInt → 0 ≤ z3_5.toInt) ∧ z3_5.toInt = x2.toInt - (cn (f 0) x1 z4_5.toInt.toNat : Int)) → (∀ i9 : Nat, (i9 : Int) < z4_5.toInt → ¬ (f 0 i9 = x1 ∧ (cn (f 0) x1 i9 : Int) = x2.toInt)) → 200 - z4_5.toInt < (n : Int) → J 5 [some (.ref h), some (.int x1), some (.int x2), some (.int z3_5), some (.int z4_5)] [] (md A0 g h q v f) 0 0 := by
    intro n
    induction n with
    | zero =>
      intro z3_5 z4_5 j0_5 j1_5 j2_5 j3_5
      omega
    | succ n ih2 =>
      intro z3_5 z4_5 j0_5 j1_5 j2_5 j3_5
      have cl9 := cn_le (f 0) x1 z4_5.toInt.toNat
      refine hC.1 1 5 _ _ rfl _ _ _ _ _ ?_
      refine Exists.intro _ (And.intro md_o ?_)
      refine And.intro (fun c3 => ?_) (fun c3 => ?_)
      · skip
        refine hC.1 5 48 _ _ rfl _ _ _ _ _ ?_
        have km1 : (-1 : Int32).toInt = -1 := rfl
        exact ⟨rfl, fun e9 => absurd e9 (by decide), rfl, (-1 : Int32), rfl, rfl, by first | (exact Or.inr ⟨by omega, by omega, by assumption, by omega⟩) | (exact Or.inl ⟨rfl, fun i9 h9 => j2_5 i9 (by omega)⟩) | (exact Or.inl ⟨rfl, fun i9 h9 h8 => (by omega)⟩)⟩
      · skip
        refine And.intro (fun c4 => ?_) (fun c4 => ?_)
        · skip
          refine hC.1 5 48 _ _ rfl _ _ _ _ _ ?_
          have km1 : (-1 : Int32).toInt = -1 := rfl
          exact ⟨rfl, fun e9 => absurd e9 (by decide), rfl, (-1 : Int32), rfl, rfl, by first | (exact Or.inr ⟨by omega, by omega, by assumption, by omega⟩) | (exact Or.inl ⟨rfl, fun i9 h9 => j2_5 i9 (by omega)⟩) | (exact Or.inl ⟨rfl, fun i9 h9 h8 => (by omega)⟩)⟩
        · skip
          refine Exists.intro _ (And.intro md_o ?_)
          refine Exists.intro _ (Exists.intro _ (And.intro (Or.inl (md_a_colours D)) (And.intro (by omega) ?_)))
          have w5 : (0 : Int) ≤ (f 0 (z4_5).toInt.toNat).toInt ∧ (f 0 (z4_5).toInt.toNat).toInt ≤ (23 : Int) := hf 0 _
          refine And.intro (fun c6 => ?_) (fun c6 => ?_)
          · skip
            have dc6 : ((f 0 (z4_5).toInt.toNat)).toInt = (x1 : Int32).toInt := congrArg Int32.toInt c6
            refine hC.1 2 32 _ _ rfl _ _ _ _ _ ?_
            refine And.intro (fun c7 => ?_) (fun c7 => ?_)
            · skip
              have dc7 := pm_neI c7
              refine hC.1 3 39 _ _ rfl _ _ _ _ _ ?_
              have km1 : (-1 : Int32).toInt = -1 := rfl
              intro m8 em_39
              try have e8 : m8.toInt = (z3_5).toInt + (-1) := by rw [em_39]; exact pm_addc _ _ (-1) rfl (by omega) (by omega)
              refine hC.1 4 42 _ _ rfl _ _ _ _ _ ?_
              have k1 : (1 : Int32).toInt = 1 := rfl
              intro m9 em_42
              try have e9 : m9.toInt = (z4_5).toInt + (1) := by rw [em_42]; exact pm_addc _ _ (1) rfl (by omega) (by omega)
              exact ih2 m8 m9 (by omega) (by first | (rw [show m9.toInt.toNat = z4_5.toInt.toNat + 1 by omega, cn_n (by assumption)]; omega) | (rw [show m9.toInt.toNat = z4_5.toInt.toNat + 1 by omega, cn_y (by assumption)]; omega)) (by intro i9 h9; by_cases h8 : i9 = z4_5.toInt.toNat; (subst h8; intro h7; first | exact absurd h7.1 (by assumption) | omega); (exact j2_5 i9 (by omega))) (by omega)
            · skip
              have dc7 : (z3_5).toInt = (0 : Int32).toInt := congrArg Int32.toInt c7
              exact ⟨rfl, fun e9 => absurd e9 (by decide), rfl, z4_5, rfl, rfl, by first | (exact Or.inr ⟨by omega, by omega, by assumption, by omega⟩) | (exact Or.inl ⟨rfl, fun i9 h9 => j2_5 i9 (by omega)⟩) | (exact Or.inl ⟨rfl, fun i9 h9 h8 => (by omega)⟩)⟩
          · skip
            have dc6 := pm_neI c6
            refine hC.1 4 42 _ _ rfl _ _ _ _ _ ?_
            have k1 : (1 : Int32).toInt = 1 := rfl
            intro m10 em_42
            try have e10 : m10.toInt = (z4_5).toInt + (1) := by rw [em_42]; exact pm_addc _ _ (1) rfl (by omega) (by omega)
            exact ih2 z3_5 m10 (by omega) (by first | (rw [show m10.toInt.toNat = z4_5.toInt.toNat + 1 by omega, cn_n (by assumption)]; omega) | (rw [show m10.toInt.toNat = z4_5.toInt.toNat + 1 by omega, cn_y (by assumption)]; omega)) (by intro i9 h9; by_cases h8 : i9 = z4_5.toInt.toNat; (subst h8; intro h7; first | exact absurd h7.1 (by assumption) | omega); (exact j2_5 i9 (by omega))) (by omega)
  exact lp1 (200 - (0 : Int32).toInt).toNat.succ x2 (0 : Int32) (by omega) (by exact ⟨fun h => h, by show x2.toInt = x2.toInt - ((0 : Nat) : Int); omega⟩) (by intro i9 h9; omega) (by omega)

set_option maxRecDepth 100000 in
set_option maxHeartbeats 2000000 in
theorem F_X11_placeOf (D : md_D h q) (v : Nat → Int32) (f : Nat → Nat → Int32) (hv : md_V v) (hf : md_F f) (x1 : Int32)  : pm_Mt l g 198 0 0 0 [.ref h, .int x1] (md A0 g h q v f) (md_Qp (md A0 g h q v f) (fun r => (-1 ≤ r.toInt ∧ r.toInt < (v 0).toInt) ∧ FST (f 1) (v 0).toInt x1 r.toInt)) := by
  refine mt_X11_placeOf rfl (fun J hC => ?_)
  have hv9 := hv
  unfold md_V at hv9
  have rg_x1 := pm_rng x1
  refine hC.1 0 0 _ _ rfl _ _ _ _ _ ?_
  have k0 : (0 : Int32).toInt = 0 := rfl
  have lp1 : ∀ (n : Nat) (z2_2 : Int32), (0 ≤ z2_2.toInt ∧ z2_2.toInt ≤ (v 0).toInt) → (∀ i9 : Nat, (i9 : Int) < z2_2.toInt → ¬ f 1 i9 = x1) → 200 - z2_2.toInt < (n : Int) → J 2 [some (.ref h), some (.int x1), some (.int z2_2)] [] (md A0 g h q v f) 0 0 := by
    intro n
    induction n with
    | zero =>
      intro z2_2 j0_2 j1_2 j2_2
      omega
    | succ n ih2 =>
      intro z2_2 j0_2 j1_2 j2_2
      refine hC.1 1 2 _ _ rfl _ _ _ _ _ ?_
      refine Exists.intro _ (And.intro md_o ?_)
      refine And.intro (fun c3 => ?_) (fun c3 => ?_)
      · skip
        refine hC.1 3 28 _ _ rfl _ _ _ _ _ ?_
        have km1 : (-1 : Int32).toInt = -1 := rfl
        exact ⟨rfl, fun e9 => absurd e9 (by decide), rfl, (-1 : Int32), rfl, rfl, by first | (exact ⟨by omega, Or.inr ⟨by omega, by omega, by assumption, fun i9 h9 => j1_2 i9 (by omega)⟩⟩) | (exact ⟨by omega, Or.inl ⟨rfl, fun i9 h9 => j1_2 i9 (by omega)⟩⟩)⟩
      · skip
        refine Exists.intro _ (And.intro md_o ?_)
        refine Exists.intro _ (Exists.intro _ (And.intro (Or.inl (md_a_names D)) (And.intro (by omega) ?_)))
        refine And.intro (fun c4 => ?_) (fun c4 => ?_)
        · skip
          have dc4 := pm_neI c4
          refine hC.1 2 22 _ _ rfl _ _ _ _ _ ?_
          have k1 : (1 : Int32).toInt = 1 := rfl
          intro m5 em_22
          try have e5 : m5.toInt = (z2_2).toInt + (1) := by rw [em_22]; exact pm_addc _ _ (1) rfl (by omega) (by omega)
          exact ih2 m5 (by omega) (by intro i9 h9; by_cases h8 : i9 = z2_2.toInt.toNat; (subst h8; assumption); (exact j1_2 i9 (by omega))) (by omega)
        · skip
          have dc4 : ((f 1 (z2_2).toInt.toNat)).toInt = (x1 : Int32).toInt := congrArg Int32.toInt c4
          exact ⟨rfl, fun e9 => absurd e9 (by decide), rfl, z2_2, rfl, rfl, by first | (exact ⟨by omega, Or.inr ⟨by omega, by omega, by assumption, fun i9 h9 => j1_2 i9 (by omega)⟩⟩) | (exact ⟨by omega, Or.inl ⟨rfl, fun i9 h9 => j1_2 i9 (by omega)⟩⟩)⟩
  exact lp1 (200 - (0 : Int32).toInt).toNat.succ (0 : Int32) (by omega) (by intro i9 h9; omega) (by omega)

end
end
section
theorem si_app {L : List pl_P} {a m b : Int} (h0 : 0 ≤ a) (h1 : a ≤ m) (h2 : m ≤ b) : si L a b = si L a m ++ si L m b := by
  unfold si sl
  rw [show b.toNat - a.toNat = (m.toNat - a.toNat) + (b.toNat - m.toNat) by omega, List.take_add, List.drop_drop, show a.toNat + (m.toNat - a.toNat) = m.toNat by omega]
theorem fl_len {L : List pl_P} {a z b c : Int} (h0 : 0 ≤ a) (h1 : a ≤ z) (h2 : z ≤ b) (_ : b ≤ (L.length : Int)) : (((si L a z).filter (fun p => decide (p.1.toInt = c))).length : Int) ≤ (((si L a b).filter (fun p => decide (p.1.toInt = c))).length : Int) := by
  rw [si_app (m := z) h0 h1 h2, List.filter_append, List.length_append]
  omega
theorem st_ct (M : List pl_P) (c : Nat) : (M.filter (fun p => decide (0 ≤ p.1.toInt ∧ p.1.toInt < (c : Int)))).length + (M.filter (fun p => decide (p.1.toInt = (c : Int)))).length = (M.filter (fun p => decide (0 ≤ p.1.toInt ∧ p.1.toInt < ((c + 1 : Nat) : Int)))).length := by
  induction M with
  | nil => rfl
  | cons x r ih =>
    rw [List.filter_cons, List.filter_cons, List.filter_cons]
    by_cases h1 : 0 ≤ x.1.toInt ∧ x.1.toInt < (c : Int)
    · rw [if_pos (by simpa using h1), if_neg (by simp; omega), if_pos (by simp; omega), List.length_cons, List.length_cons]
      omega
    · by_cases h2 : x.1.toInt = (c : Int)
      · rw [if_neg (by simpa using h1), if_pos (by simpa using h2), if_pos (by simp; omega), List.length_cons, List.length_cons]
        omega
      · rw [if_neg (by simpa using h1), if_neg (by simpa using h2), if_neg (by simp; omega)]
        exact ih
theorem st_eq (M : List pl_P) : ∀ c : Nat, (st_l M c).length = (M.filter (fun p => decide (0 ≤ p.1.toInt ∧ p.1.toInt < (c : Int)))).length
  | 0 => by
    have e : M.filter (fun p => decide (0 ≤ p.1.toInt ∧ p.1.toInt < ((0 : Nat) : Int))) = [] := List.filter_eq_nil_iff.mpr (fun p _ h => by
      have := of_decide_eq_true h
      omega)
    rw [e]; rfl
  | c + 1 => by
    rw [← st_ct M c, ← st_eq M c]
    exact List.length_append
theorem st_len (M : List pl_P) (c : Nat) : (st_l M c).length ≤ M.length := by
  rw [st_eq]
  exact List.length_filter_le _ _
theorem si_r1 {n : Int32} {c m : Nat → Int32} {L : List pl_P} (h : rp n c m L) {z : Int} (h0 : 0 ≤ z) (hz : z < (L.length : Int)) : (si L z (z + 1)).reverse = si L z (z + 1) := by
  rw [si_c h h0 (by omega) (by omega), si_n (L := L) (a := z + 1) (b := z + 1) (Int.le_refl _)]
  rfl
def cw_Qg2 (A0 : pm_H) (g : pm_G) (K nn : Nat) (q : Nat → Nat) (w : Nat → Int32) (e : Nat → Nat → Int32) (v : Nat → Int32) (f : Nat → Nat → Int32) : Option Value → pm_H → Prop := fun r A' => ∃ (K2 dn2 : Nat) (q2 : Nat → Nat) (w2 : Nat → Int32) (e2 : Nat → Nat → Int32), r = none ∧ A' = cw A0 g K2 nn dn2 q2 w2 e2 v f ∧ cw_I K2 nn dn2 q2 w2 e2 ∧ cw_X A0 K q K2 q2 ∧ ((w 0).toInt + 2 ≤ K2 ∨ K2 = 41) ∧ (w2 0 = w 0 ∧ w2 1 = w 1 ∧ w2 2 = w 2 ∧ w2 3 = w 3) ∧ e2 15 = e 15 ∧ (dn2 : Int) = 40 + 4 * (((w 0).toInt + 1) % 41) ∧ (∀ i9, 40 ≤ i9 → i9 < 40 + 4 * K → (i9 < dn2 ∨ dn2 + 4 ≤ i9) → w2 i9 = w i9 ∧ e2 i9 = e i9) ∧ (w2 dn2).toInt = 0
theorem va_us {f : Nat → Nat → Int32} {i : Nat} {r : Nat → Int32} : va_up f i r i = r := if_pos rfl
theorem va_un {f : Nat → Nat → Int32} {i j : Nat} {r : Nat → Int32} (h : j ≠ i) : va_up f i r j = f j := if_neg h
section
variable {l : Launch} {g : pm_G} {A0 : pm_H} {K nn dn : Nat} {q : Nat → Nat} {w : Nat → Int32} {e : Nat → Nat → Int32} {v : Nat → Int32} {f : Nat → Nat → Int32}
set_option maxRecDepth 100000 in
set_option maxHeartbeats 2000000 in
theorem F_X9_begin (hI : cw_I K nn dn q w e) (hs : cw_S v f) (p0 : (w 0).toInt < 100000) : pm_Mt l g 16 2 4 485 [.ref (q 1)] (cw A0 g K nn dn q w e v f) (cw_Qg2 A0 g K nn q w e v f) := by
  refine mt_X9_begin rfl (fun J hC => ?_)
  have hu := hI.2.1
  unfold cw_W at hu
  have k41 : (41 : Int32).toInt = 41 := rfl
  refine hC.1 0 0 _ _ rfl _ _ _ _ _ ?_
  refine Exists.intro _ (And.intro (cw_o1 hI.1) ?_)
  intro m em
  have e1 : m.toInt = (w 0).toInt + 1 := by rw [em]; exact pm_addc _ _ 1 rfl (by omega) (by omega)
  refine Exists.intro _ (Exists.intro _ (Exists.intro _ (Exists.intro _ (And.intro (c_J9_floorMod_7cf53 (cw A0 g K nn dn q w e v f) m (41 : Int32) (by omega) (by omega)) (And.intro rfl (fun r9 A9 h9 => ?_))))))
  obtain ⟨sl, rfl, rfl, bs⟩ := h9
  rw [k41] at bs
  have cont : ∀ (K2 : Nat) (q2 : Nat → Nat) (w2 : Nat → Int32) (e2 : Nat → Nat → Int32), cw_I K2 nn dn q2 w2 e2 → cw_X A0 K q K2 q2 → ((w 0).toInt + 2 ≤ K2 ∨ K2 = 41) → (w2 0 = w 0 ∧ w2 1 = w 1 ∧ w2 2 = w 2 ∧ w2 3 = w 3) → e2 15 = e 15 → (∀ i9, 40 ≤ i9 → i9 < 40 + 4 * K → w2 i9 = w i9 ∧ e2 i9 = e i9) → sl.toInt.toNat < K2 → ∀ c s : Nat, (Nat.ble c 4 && Nat.ble s 485) = true → J 34 [some (.ref (q2 1)), some (.int sl)] [] (cw A0 g K2 nn dn q2 w2 e2 v f) c s := by
    intro K2 q2 w2 e2 hI2 hX hk hw h15 hfr9 hlt c s hcs
    refine hC.1 1 34 _ _ rfl _ _ _ _ _ ?_
    refine Exists.intro _ (And.intro (cw_o1 hI2.1) ?_)
    refine Exists.intro _ (Exists.intro _ (And.intro (Or.inl (cw_rows hI2.1)) (And.intro (by omega) ?_)))
    have hr : va_rf (cw_rr K2 q2 sl.toInt.toNat) = .ref (q2 (40 + 4 * sl.toInt.toNat)) := by
      unfold cw_rr
      rw [if_pos hlt]
      rfl
    rw [hr]
    refine Exists.intro _ (And.intro (cw_o1 hI2.1) (And.intro rfl ?_))
    rw [cw_p_draft hI2.1]
    have ho : cw_ro K2 (40 + 4 * sl.toInt.toNat) := by unfold cw_ro; omega
    have hI3 : cw_I K2 nn (40 + 4 * sl.toInt.toNat) q2 w2 e2 := ⟨hI2.1, by have h9 := hI2.2.1; unfold cw_W at h9 ⊢; omega, hI2.2.2.1, hI2.2.2.2⟩
    refine Exists.intro _ (And.intro (cw_o1 hI3.1) ?_)
    refine Exists.intro _ (And.intro (cw_ro_o hI3.1 ho) (And.intro rfl ?_))
    rw [cw_p_size hI3.1 ho]
    have u0 : upd w2 (40 + 4 * sl.toInt.toNat) 0 0 = w2 0 := pk_un (by omega)
    have u1 : upd w2 (40 + 4 * sl.toInt.toNat) 0 1 = w2 1 := pk_un (by omega)
    have u2 : upd w2 (40 + 4 * sl.toInt.toNat) 0 2 = w2 2 := pk_un (by omega)
    have u3 : upd w2 (40 + 4 * sl.toInt.toNat) 0 3 = w2 3 := pk_un (by omega)
    have hI4 : cw_I K2 nn (40 + 4 * sl.toInt.toNat) q2 (upd w2 (40 + 4 * sl.toInt.toNat) 0) e2 := ⟨hI3.1, by
      have h9 := hI3.2.1
      unfold cw_W at h9 ⊢
      rw [u0, u1, u3]
      exact h9, cw_Z_up hI3.2.2.1 _ _ (Or.inr (Or.inr (by decide))), hI3.2.2.2⟩
    exact ⟨rfl, hcs, K2, 40 + 4 * sl.toInt.toNat, q2, upd w2 (40 + 4 * sl.toInt.toNat) 0, e2, rfl, rfl, hI4, hX, hk, ⟨u0.trans hw.1, u1.trans hw.2.1, u2.trans hw.2.2.1, u3.trans hw.2.2.2⟩, h15, by omega, fun i9 a1 a2 a3 => ⟨(pk_un (by omega)).trans (hfr9 i9 a1 a2).1, (hfr9 i9 a1 a2).2⟩, by rw [pk_us]; rfl⟩
  refine Exists.intro _ (And.intro (cw_o1 hI.1) ?_)
  refine Exists.intro _ (Exists.intro _ (And.intro (Or.inl (cw_rows hI.1)) (And.intro (by omega) ?_)))
  by_cases hk : sl.toInt.toNat < K
  · have hr : va_rf (cw_rr K q sl.toInt.toNat) = .ref (q (40 + 4 * sl.toInt.toNat)) := by
      unfold cw_rr
      rw [if_pos hk]
      rfl
    rw [hr]
    exact cont K q w e hI cw_X_r (by omega) ⟨rfl, rfl, rfl, rfl⟩ rfl (fun _ _ _ => ⟨rfl, rfl⟩) hk _ _ rfl
  · have hr : va_rf (cw_rr K q sl.toInt.toNat) = .null := by
      unfold cw_rr
      rw [if_neg hk]
      rfl
    rw [hr]
    have hsK : sl.toInt.toNat = K := by omega
    have hK41 : K < 41 := by omega
    refine Exists.intro _ (And.intro (cw_o1 hI.1) ?_)
    refine And.intro rfl (fun a ha => ?_)
    refine Exists.intro _ (Exists.intro _ (Exists.intro _ (Exists.intro _ (And.intro (c_X7_init pm_up_s) (And.intro rfl (fun r9 A9 h9 => ?_))))))
    obtain ⟨rfl, b1, b2, b3, hn, hb, h0, h123, hout⟩ := h9
    obtain ⟨haq, ha0⟩ := gw_none ha
    have nb : ∀ b, b ≠ a → pm_up (cw A0 g K nn dn q w e v f) a (pm_ob 7 (pm_df 7)) b = none → (∀ i, i < 40 + 4 * K → b ≠ q i) ∧ A0 b = none := by
      intro b hba hbn
      rw [pm_up_n hba] at hbn
      exact gw_none hbn
    have g1 := nb b1 hb.2.2.2.1 hn.1
    have g2 := nb b2 hb.2.2.2.2.1 hn.2.1
    have g3 := nb b3 hb.2.2.2.2.2 hn.2.2
    have old : ∀ i, i < 40 + 4 * K → A9 (q i) = some (cw_c g K nn dn q w e v f i) := by
      intro i hi
      rw [hout (q i) (haq i hi).symm (g1.1 i hi).symm (g2.1 i hi).symm (g3.1 i hi).symm, pm_up_n (haq i hi).symm]
      exact gw_a hI.1 hi
    refine Exists.intro 41 (Exists.intro (cw_rr K q) (Exists.intro _ (And.intro (old 10 (by omega)) (And.intro h0 (And.intro (by omega) ?_)))))
    rw [hsK]
    have q2lt : ∀ i, i < 40 + 4 * K → cw_q2 K q a b1 b2 b3 i = q i := fun i hi => cw_q2_lt hi
    have hI2 := cw_I2 hI hK41 haq g1.1 g2.1 g3.1 hb
    have heq : pm_up A9 (q 10) (pm_ra g 41 (va_up (cw_rr K q) K (some a))) = cw A0 g (K + 1) nn dn (cw_q2 K q a b1 b2 b3) (cw_w2 K w) (cw_e2 K e) v f := by
      refine gw_char (fun i hi => ?_) (fun x hx => ?_)
      · by_cases h : i < 40 + 4 * K
        · rw [q2lt i h]
          by_cases h10 : i = 10
          · subst h10
            rw [pm_up_s, ← cw_rr2 (b1 := b1) (b2 := b2) (b3 := b3)]
            rfl
          · rw [pm_up_n (fun e9 => h10 (hI.1 _ _ h (by omega) e9)), old i h, cw_c2_lt (by omega) (by omega) (by omega) h h10]
        · have w0 : ∀ j, cw_w2 K w (40 + 4 * K + j) = 0 := fun j => if_pos (by omega)
          have ee : ∀ j, cw_e2 K e (40 + 4 * K + j) = fun _ => 0 := fun j => if_pos (by omega)
          have qa : cw_q2 K q a b1 b2 b3 (40 + 4 * K) = a := by simp [cw_q2]
          have qb : cw_q2 K q a b1 b2 b3 (40 + 4 * K + 1) = b1 := by simp [cw_q2]
          have qc : cw_q2 K q a b1 b2 b3 (40 + 4 * K + 2) = b2 := by simp [cw_q2]
          have qd : cw_q2 K q a b1 b2 b3 (40 + 4 * K + 3) = b3 := by simp [cw_q2]
          rcases (show i = 40 + 4 * K ∨ i = 40 + 4 * K + 1 ∨ i = 40 + 4 * K + 2 ∨ i = 40 + 4 * K + 3 by omega) with rfl | rfl | rfl | rfl
          · rw [qa, pm_up_n (haq 10 (by omega)), h0]
            unfold cw_c
            rw [if_neg (by omega), if_neg (by omega), if_pos (by omega), qb, qc, qd, w0 1, show cw_w2 K w (40 + 4 * K) = 0 from w0 0]
          · rw [qb, pm_up_n (g1.1 10 (by omega)), h123.1]
            unfold cw_c
            rw [if_neg (by omega), if_neg (by omega), if_neg (by omega), ee 1]
          · rw [qc, pm_up_n (g2.1 10 (by omega)), h123.2.1]
            unfold cw_c
            rw [if_neg (by omega), if_neg (by omega), if_neg (by omega), ee 2]
          · rw [qd, pm_up_n (g3.1 10 (by omega)), h123.2.2]
            unfold cw_c
            rw [if_neg (by omega), if_neg (by omega), if_neg (by omega), ee 3]
      · have hx0 : ∀ i, i < 40 + 4 * K → x ≠ q i := fun i hi => by rw [← q2lt i hi]; exact hx i (by omega)
        have xa : x ≠ a := by have h9 := hx (40 + 4 * K) (by omega); simpa [cw_q2] using h9
        have xb : x ≠ b1 := by have h9 := hx (40 + 4 * K + 1) (by omega); simpa [cw_q2] using h9
        have xc : x ≠ b2 := by have h9 := hx (40 + 4 * K + 2) (by omega); simpa [cw_q2] using h9
        have xd : x ≠ b3 := by have h9 := hx (40 + 4 * K + 3) (by omega); simpa [cw_q2] using h9
        rw [pm_up_n (hx0 10 (by omega)), hout x xa xb xc xd, pm_up_n xa]
        exact gw_out hx0
    rw [heq, show q 1 = cw_q2 K q a b1 b2 b3 1 from (q2lt 1 (by omega)).symm]
    have hX : cw_X A0 K q (K + 1) (cw_q2 K q a b1 b2 b3) := by
      refine ⟨by omega, q2lt, fun i h1 h2 => ?_⟩
      rcases (show i = 40 + 4 * K ∨ i = 40 + 4 * K + 1 ∨ i = 40 + 4 * K + 2 ∨ i = 40 + 4 * K + 3 by omega) with rfl | rfl | rfl | rfl
      · rw [show cw_q2 K q a b1 b2 b3 (40 + 4 * K) = a by simp [cw_q2]]; exact ha0
      · rw [show cw_q2 K q a b1 b2 b3 (40 + 4 * K + 1) = b1 by simp [cw_q2]]; exact g1.2
      · rw [show cw_q2 K q a b1 b2 b3 (40 + 4 * K + 2) = b2 by simp [cw_q2]]; exact g2.2
      · rw [show cw_q2 K q a b1 b2 b3 (40 + 4 * K + 3) = b3 by simp [cw_q2]]; exact g3.2
    exact cont (K + 1) _ _ _ hI2 hX (by omega) ⟨cw_w2_lt (by omega), cw_w2_lt (by omega), cw_w2_lt (by omega), cw_w2_lt (by omega)⟩ (cw_e2_lt (by omega)) (fun i9 _ a2 => ⟨cw_w2_lt a2, cw_e2_lt a2⟩) (by omega) _ _ rfl
end
end
section
/-! the row as it was, kept behind an edit's steps -/
theorem hL_b {K K2 nn dn : Nat} {w w1 : Nat → Int32} {e e1 : Nat → Nat → Int32} (ho : cw_ro K nn) (ho2 : cw_ro K2 dn) (hdn : (dn : Int) = 40 + 4 * (((w 0).toInt + 1) % 41)) (fr : ∀ i9, 40 ≤ i9 → i9 < 40 + 4 * K → (i9 < dn ∨ dn + 4 ≤ i9) → w1 i9 = w i9 ∧ e1 i9 = e i9) : ∀ L, rp (w nn) (e (nn + 1)) (e (nn + 2)) L → (nn : Int) = 40 + 4 * ((w 0).toInt % 41) → nn ≠ dn ∧ rp (w1 nn) (e1 (nn + 1)) (e1 (nn + 2)) L := fun L h1 h2 => by
  unfold cw_ro at ho ho2
  have a0 : nn ≠ dn := by omega
  exact ⟨a0, rp_fr h1 (congrArg Int32.toInt (fr nn (by omega) (by omega) (by omega)).1) (fr (nn + 1) (by omega) (by omega) (by omega)).2 (fr (nn + 2) (by omega) (by omega) (by omega)).2⟩
theorem hL_k {K nn dn : Nat} {w w1 w2 : Nat → Int32} {e e1 e2 : Nat → Nat → Int32} (h : ∀ L, rp (w nn) (e (nn + 1)) (e (nn + 2)) L → (nn : Int) = 40 + 4 * ((w 0).toInt % 41) → nn ≠ dn ∧ rp (w1 nn) (e1 (nn + 1)) (e1 (nn + 2)) L) (ho : cw_ro K nn) (ho2 : cw_ro K dn) (fr : ∀ i9, 40 ≤ i9 → (i9 < dn ∨ dn + 4 ≤ i9) → w2 i9 = w1 i9 ∧ e2 i9 = e1 i9) : ∀ L, rp (w nn) (e (nn + 1)) (e (nn + 2)) L → (nn : Int) = 40 + 4 * ((w 0).toInt % 41) → nn ≠ dn ∧ rp (w2 nn) (e2 (nn + 1)) (e2 (nn + 2)) L := fun L h1 h2 => by
  obtain ⟨a0, a9⟩ := h L h1 h2
  unfold cw_ro at ho ho2
  exact ⟨a0, rp_fr a9 (congrArg Int32.toInt (fr nn (by omega) (by omega)).1) (fr (nn + 1) (by omega) (by omega)).2 (fr (nn + 2) (by omega) (by omega)).2⟩
end
section
section
variable {l : Launch} {g : pm_G} {A0 : pm_H} {K nn dn : Nat} {q : Nat → Nat} {w : Nat → Int32} {e : Nat → Nat → Int32} {v : Nat → Int32} {f : Nat → Nat → Int32}
set_option maxRecDepth 100000 in
set_option maxHeartbeats 2000000 in
theorem F_X10_areUnlikeColours (A : pm_H) (x0 : Int32) (x1 : Int32)  : pm_Mt l g 38 1 0 0 [.int x0, .int x1] A (md_Qp A (fun r => (r = 1 ∧ ((0 ≤ x0.toInt ∧ x0.toInt < 24) ∧ (0 ≤ x1.toInt ∧ x1.toInt < 24) ∧ x0.toInt ≠ x1.toInt)) ∨ (r = 0 ∧ (¬ ((0 ≤ x0.toInt ∧ x0.toInt < 24) ∧ (0 ≤ x1.toInt ∧ x1.toInt < 24) ∧ x0.toInt ≠ x1.toInt))))) := by
  refine mt_X10_areUnlikeColours rfl (fun J hC => ?_)
  have rg_x0 := pm_rng x0
  have rg_x1 := pm_rng x1
  refine hC.1 0 0 _ _ rfl _ _ _ _ _ ?_
  refine Exists.intro _ (Exists.intro _ (Exists.intro _ (Exists.intro _ (And.intro (c_X10_isColour A x0 ) (And.intro rfl (fun r9 A1 h9 => ?_))))))
  rcases h9 with ⟨y2, rfl, rfl, ⟨rfl, by2⟩ | ⟨rfl, by2⟩⟩
  · skip
    have k1 : (1 : Int32).toInt = 1 := rfl
    refine And.intro (fun c9 => absurd c9 (by decide)) (fun _ => ?_)
    refine Exists.intro _ (Exists.intro _ (Exists.intro _ (Exists.intro _ (And.intro (c_X10_isColour A1 x1 ) (And.intro rfl (fun r9 A4 h9 => ?_))))))
    rcases h9 with ⟨y5, rfl, rfl, ⟨rfl, by5⟩ | ⟨rfl, by5⟩⟩
    · skip
      refine And.intro (fun c9 => absurd c9 (by decide)) (fun _ => ?_)
      refine And.intro (fun c7 => ?_) (fun c7 => ?_)
      · skip
        have dc7 : (x0).toInt = (x1 : Int32).toInt := congrArg Int32.toInt c7
        refine hC.1 1 23 _ _ rfl _ _ _ _ _ ?_
        have k0 : (0 : Int32).toInt = 0 := rfl
        refine hC.1 2 24 _ _ rfl _ _ _ _ _ ?_
        exact ⟨rfl, fun _ => (by decide), rfl, (0 : Int32), rfl, rfl, Or.inr ⟨rfl, by first | omega | (dsimp only; omega) | trivial⟩⟩
      · skip
        have dc7 := pm_neI c7
        refine hC.1 2 24 _ _ rfl _ _ _ _ _ ?_
        exact ⟨rfl, fun _ => (by decide), rfl, (1 : Int32), rfl, rfl, Or.inl ⟨rfl, by first | omega | (dsimp only; omega) | trivial⟩⟩
    · skip
      have k0 : (0 : Int32).toInt = 0 := rfl
      refine And.intro (fun _ => ?_) (fun c9 => absurd c9 (by decide))
      refine hC.1 1 23 _ _ rfl _ _ _ _ _ ?_
      refine hC.1 2 24 _ _ rfl _ _ _ _ _ ?_
      exact ⟨rfl, fun _ => (by decide), rfl, (0 : Int32), rfl, rfl, Or.inr ⟨rfl, by first | omega | (dsimp only; omega) | trivial⟩⟩
  · skip
    have k0 : (0 : Int32).toInt = 0 := rfl
    refine And.intro (fun _ => ?_) (fun c9 => absurd c9 (by decide))
    refine hC.1 1 23 _ _ rfl _ _ _ _ _ ?_
    refine hC.1 2 24 _ _ rfl _ _ _ _ _ ?_
    exact ⟨rfl, fun _ => (by decide), rfl, (0 : Int32), rfl, rfl, Or.inr ⟨rfl, by first | omega | (dsimp only; omega) | trivial⟩⟩

set_option maxRecDepth 100000 in
set_option maxHeartbeats 2000000 in
theorem F_X9_append (hI : cw_I K nn dn q w e) (hs : cw_S v f) (x1 : Int32) (x2 : Int32) (x3 : Int32) (p0 : 0 ≤ x1.toInt ∧ x1.toInt ≤ 23) : pm_Mt l g 22 0 0 0 [.ref (q 1), .int x1, .int x2, .int x3] (cw A0 g K nn dn q w e v f) (cw_Qt A0 g K nn dn q (fun r w2 e2 => e2 15 = e 15 ∧ (r = none ∧ (((w2 0).toInt = (w 0).toInt ∧ (w2 1).toInt = (w 1).toInt ∧ (w2 3).toInt = (w 3).toInt) ∧ ((∀ i9, 40 ≤ i9 → (i9 < dn ∨ dn + 4 ≤ i9) → w2 i9 = w i9 ∧ e2 i9 = e i9) ∧ ∀ D, rp (w dn) (e (dn + 1)) (e (dn + 2)) (D) → (D.length : Int) < 160 → rp (w2 dn) (e2 (dn + 1)) (e2 (dn + 2)) (D ++ [(x1, x2)])))))) := by
  refine mt_X9_append rfl (fun J hC => ?_)
  have ro_nn : cw_ro K nn := hI.2.1.2.1
  have ro_dn : cw_ro K dn := hI.2.1.2.2.1
  have hu1 := hI.2.1
  unfold cw_W at hu1
  have zs2 := cw_sz hI ro_nn
  have zs3 := cw_sz hI ro_dn
  have rg_x1 := pm_rng x1
  have rg_x2 := pm_rng x2
  have rg_x3 := pm_rng x3
  refine hC.1 0 0 _ _ rfl _ _ _ _ _ ?_
  refine Exists.intro _ (And.intro (cw_o1 hI.1) ?_)
  refine Exists.intro _ (And.intro (cw_ro_o hI.1 ro_dn) ?_)
  have z4 := cw_sz hI ro_dn
  refine And.intro (fun c5 => ?_) (fun c5 => ?_)
  · skip
    refine hC.1 1 22 _ _ rfl _ _ _ _ _ ?_
    exact ⟨rfl, rfl, w, e, v, f, rfl, hI, hs, rfl, rfl, by first | omega | (dsimp only; omega) | trivial, by exact ⟨fun _ _ _ => ⟨rfl, rfl⟩, fun D hD hlen => absurd hD.1 (by omega)⟩⟩
  · skip
    have k160 : (160 : Int32).toInt = 160 := rfl
    refine And.intro (fun c6 => ?_) (fun c6 => ?_)
    · skip
      refine hC.1 2 23 _ _ rfl _ _ _ _ _ ?_
      refine Exists.intro _ (And.intro (cw_o1 hI.1) ?_)
      refine Exists.intro _ (And.intro (cw_ro_o hI.1 ro_dn) ?_)
      have hb7 := ro_dn
      unfold cw_ro at hb7
      refine Exists.intro _ (Exists.intro _ (And.intro (cw_ro_1 hI.1 ro_dn) (And.intro (by omega) ?_)))
      rw [cw_sr_1 hI.1 ro_dn]
      obtain ⟨e8, ee8⟩ : ∃ z9, z9 = va_up e (dn + 1) (upd (e (dn + 1)) ((w dn)).toInt.toNat x1) := ⟨_, rfl⟩
      rw [← ee8]
      have hI8 : cw_I K nn dn q w e8 := ⟨hI.1, hI.2.1, hI.2.2.1, by rw [ee8]; exact cw_E_1 hI.2.2.2 (by omega) _ _ (by omega)⟩
      have hx8 : e8 15 = e 15 := (show e8 15 = e 15 by rw [ee8]; exact if_neg (by omega)).trans rfl
      have pe_33 := ee8
      refine Exists.intro _ (And.intro (cw_o1 hI8.1) ?_)
      refine Exists.intro _ (And.intro (cw_ro_o hI8.1 ro_dn) ?_)
      have hb9 := ro_dn
      unfold cw_ro at hb9
      refine Exists.intro _ (Exists.intro _ (And.intro (cw_ro_2 hI8.1 ro_dn) (And.intro (by omega) ?_)))
      rw [cw_sr_2 hI8.1 ro_dn]
      obtain ⟨e10, ee10⟩ : ∃ z9, z9 = va_up e8 (dn + 2) (upd (e8 (dn + 2)) ((w dn)).toInt.toNat x2) := ⟨_, rfl⟩
      rw [← ee10]
      have hI10 : cw_I K nn dn q w e10 := ⟨hI8.1, hI8.2.1, hI8.2.2.1, by rw [ee10]; exact cw_E_2 hI8.2.2.2 (by omega) _⟩
      have hx10 : e10 15 = e 15 := (show e10 15 = e8 15 by rw [ee10]; exact if_neg (by omega)).trans hx8
      have pe_44 := ee10
      refine Exists.intro _ (And.intro (cw_o1 hI10.1) ?_)
      refine Exists.intro _ (Exists.intro _ (And.intro (cw_a12 hI10.1) (And.intro (by omega) ?_)))
      rw [cw_s12 hI10.1]
      obtain ⟨f11, ef11⟩ : ∃ z9, z9 = va_up f 12 (upd (f 12) ((w dn)).toInt.toNat x3) := ⟨_, rfl⟩
      rw [← ef11]
      have hs11 : cw_S v f11 := by rw [ef11]; exact cw_S_fr hs _ _ (by decide) (by decide)
      refine Exists.intro _ (And.intro (cw_o1 hI10.1) ?_)
      have k1 : (1 : Int32).toInt = 1 := rfl
      intro m12 em_60
      try have e12 : m12.toInt = ((w dn)).toInt + (1) := by rw [em_60]; exact pm_addc _ _ (1) rfl (by omega) (by omega)
      have hb13 := ro_dn
      unfold cw_ro at hb13
      refine Exists.intro _ (And.intro (cw_ro_o hI10.1 ro_dn) (And.intro rfl ?_))
      rw [cw_p_size hI10.1 ro_dn]
      obtain ⟨w14, ew14⟩ : ∃ z9, z9 = upd w dn m12 := ⟨_, rfl⟩
      rw [← ew14]
      have ew14_0 : (w14 0).toInt = (w 0).toInt := by rw [ew14, pk_un (by omega)]
      have ew14_1 : (w14 1).toInt = (w 1).toInt := by rw [ew14, pk_un (by omega)]
      have ew14_2 : (w14 2).toInt = (w 2).toInt := by rw [ew14, pk_un (by omega)]
      have ew14_3 : (w14 3).toInt = (w 3).toInt := by rw [ew14, pk_un (by omega)]
      have pn_61 : w14 dn = m12 := by rw [ew14, pk_us]
      have pw_61 := ew14
      have hZ14 : cw_Z w14 := by rw [ew14]; exact cw_Z_up hI10.2.2.1 _ _ (by omega)
      have hI14 : cw_I K nn dn q w14 e10 := ⟨hI10.1, by unfold cw_W; omega, hZ14, hI10.2.2.2⟩
      exact ⟨rfl, rfl, w14, e10, v, f11, rfl, hI14, hs11, hx10, rfl, by first | omega | (dsimp only; omega) | trivial, by exact ⟨fun i9 h91 h92 => ⟨by rw [pw_61, pk_un (by omega)], by rw [pe_44, va_un (by omega), pe_33, va_un (by omega)]⟩, fun D hD hlen => (by rw [pw_61, pk_us, pe_44, va_un (by omega), va_us, pe_33, va_us, va_un (by omega)]; exact rp_app hD (by omega) _ _)⟩⟩
    · skip
      refine hC.1 1 22 _ _ rfl _ _ _ _ _ ?_
      exact ⟨rfl, rfl, w, e, v, f, rfl, hI, hs, rfl, rfl, by first | omega | (dsimp only; omega) | trivial, by exact ⟨fun _ _ _ => ⟨rfl, rfl⟩, fun D hD hlen => absurd hD.1 (by omega)⟩⟩

set_option maxRecDepth 100000 in
set_option maxHeartbeats 2000000 in
theorem F_X9_keep (hI : cw_I K nn dn q w e) (hs : cw_S v f) (x1 : Int32) (x2 : Int32)  : pm_Mt l g 18 3 0 0 [.ref (q 1), .int x1, .int x2] (cw A0 g K nn dn q w e v f) (cw_Qt A0 g K nn dn q (fun r w2 e2 => e2 15 = e 15 ∧ (r = none ∧ (((w2 0).toInt = (w 0).toInt ∧ (w2 1).toInt = (w 1).toInt ∧ (w2 3).toInt = (w 3).toInt) ∧ ((∀ i9, 40 ≤ i9 → (i9 < dn ∨ dn + 4 ≤ i9) → w2 i9 = w i9 ∧ e2 i9 = e i9) ∧ ∀ (L D : List pl_P) (a b : Int), rp (w nn) (e (nn + 1)) (e (nn + 2)) (L) → nn ≠ dn → x1.toInt = a → x2.toInt + 1 = b → 0 ≤ a → a ≤ b → b ≤ (L.length : Int) → (D.length : Int) + (b - a) ≤ 160 → rp (w dn) (e (dn + 1)) (e (dn + 2)) (D) → rp (w2 dn) (e2 (dn + 1)) (e2 (dn + 2)) (D ++ si L a b)))))) := by
  refine mt_X9_keep rfl (fun J hC => ?_)
  have ro_nn : cw_ro K nn := hI.2.1.2.1
  have ro_dn : cw_ro K dn := hI.2.1.2.2.1
  have hu1 := hI.2.1
  unfold cw_W at hu1
  have zs2 := cw_sz hI ro_nn
  have zs3 := cw_sz hI ro_dn
  have rg_x1 := pm_rng x1
  have rg_x2 := pm_rng x2
  refine hC.1 0 0 _ _ rfl _ _ _ _ _ ?_
  have lp5 : ∀ (n : Nat) (z3_2 : Int32) (w4 : Nat → Int32) (e4 : Nat → Nat → Int32) (v4 : Nat → Int32) (f4 : Nat → Nat → Int32), cw_I K nn dn q w4 e4 → e4 15 = e 15 → cw_S v4 f4 → ((∀ i9, 40 ≤ i9 → (i9 < dn ∨ dn + 4 ≤ i9) → w4 i9 = w i9 ∧ e4 i9 = e i9)) → (∀ L D, rp (w nn) (e (nn + 1)) (e (nn + 2)) (L) → nn ≠ dn → 0 ≤ x1.toInt → x1.toInt ≤ x2.toInt + 1 → x2.toInt + 1 ≤ (L.length : Int) → (D.length : Int) + (x2.toInt + 1 - x1.toInt) ≤ 160 → rp (w dn) (e (dn + 1)) (e (dn + 2)) (D) → (x1.toInt ≤ z3_2.toInt ∧ z3_2.toInt ≤ x2.toInt + 1) ∧ rp (w4 dn) (e4 (dn + 1)) (e4 (dn + 2)) (D ++ si L x1.toInt z3_2.toInt)) → (w4 0).toInt = (w 0).toInt → (w4 1).toInt = (w 1).toInt → (w4 3).toInt = (w 3).toInt → ((200 - z3_2.toInt).toNat : Int) < (n : Int) → J 2 [some (.ref (q 1)), some (.int x1), some (.int x2), some (.int z3_2)] [] (cw A0 g K nn dn q w4 e4 v4 f4) 0 0 := by
    intro n
    induction n with
    | zero =>
      intro z3_2 w4 e4 v4 f4 hI4 hx4 hs4 j0_2 j1_2 j2_2 j3_2 j4_2 j5_2
      omega
    | succ n ih6 =>
      intro z3_2 w4 e4 v4 f4 hI4 hx4 hs4 j0_2 j1_2 j2_2 j3_2 j4_2 j5_2
      have hu7 := hI4.2.1
      unfold cw_W at hu7
      have zs8 := cw_sz hI4 ro_nn
      have zs9 := cw_sz hI4 ro_dn
      refine hC.1 1 2 _ _ rfl _ _ _ _ _ ?_
      refine And.intro (fun c10 => ?_) (fun c10 => ?_)
      · skip
        refine hC.1 2 54 _ _ rfl _ _ _ _ _ ?_
        exact ⟨rfl, rfl, w4, e4, v4, f4, rfl, hI4, hs4, hx4, rfl, by first | omega | (dsimp only; omega) | trivial, by exact ⟨j0_2, fun L D a b h1 h2 ha hb h3 h4 h5 h6 h7 => (by have hl := h1.1; obtain ⟨r1, r2⟩ := j1_2 L D h1 h2 (by omega) (by omega) (by omega) (by omega) h7; have hn1 := ro_nn; have hd1 := ro_dn; unfold cw_ro at hn1 hd1; have hw9 := congrArg Int32.toInt (j0_2 nn (by omega) (by omega)).1; rw [show a = x1.toInt by omega, show b = z3_2.toInt by omega]; exact r2)⟩⟩
      · skip
        refine Exists.intro _ (And.intro (cw_o1 hI4.1) ?_)
        refine And.intro (Exists.intro _ (cw_ro_o hI4.1 ro_nn)) (Exists.intro _ (Exists.intro _ (Exists.intro _ (Exists.intro _ (And.intro (c_X7_has hI4 hs4 ro_nn z3_2 ) (And.intro rfl (fun r9 A9 h9 => ?_)))))))
        rcases h9 with ⟨y11, rfl, rfl, ⟨rfl, by11⟩ | ⟨rfl, by11⟩⟩
        · skip
          have k1 : (1 : Int32).toInt = 1 := rfl
          refine And.intro (fun c9 => absurd c9 (by decide)) (fun _ => ?_)
          refine Exists.intro _ (And.intro (cw_o1 hI4.1) ?_)
          refine Exists.intro _ (And.intro (cw_ro_o hI4.1 ro_nn) ?_)
          refine Exists.intro _ (Exists.intro _ (And.intro (Or.inl (cw_ro_1 hI4.1 ro_nn)) (And.intro (by omega) ?_)))
          have w13 := cw_col hI4 ro_nn (z3_2).toInt.toNat
          refine Exists.intro _ (And.intro (cw_o1 hI4.1) ?_)
          refine Exists.intro _ (And.intro (cw_ro_o hI4.1 ro_nn) ?_)
          refine Exists.intro _ (Exists.intro _ (And.intro (Or.inl (cw_ro_2 hI4.1 ro_nn)) (And.intro (by omega) ?_)))
          refine Exists.intro _ (And.intro (cw_o1 hI4.1) ?_)
          refine And.intro (Exists.intro _ (cw_ro_o hI4.1 ro_nn)) (Exists.intro _ (Exists.intro _ (Exists.intro _ (Exists.intro _ (And.intro (c_X7_bondAt hI4 hs4 ro_nn z3_2 ) (And.intro rfl (fun r9 A9 h9 => ?_)))))))
          obtain ⟨y14, rfl, rfl, by14⟩ := h9
          refine And.intro (Exists.intro _ (cw_o1 hI4.1)) (Exists.intro _ (Exists.intro _ (Exists.intro _ (Exists.intro _ (And.intro (F_X9_append hI4 hs4 (e4 (nn + 1) (z3_2).toInt.toNat) (e4 (nn + 2) (z3_2).toInt.toNat) y14 (by omega)) (And.intro rfl (fun r9 A9 h9 => ?_)))))))
          rcases h9 with ⟨w17, e17, v17, f17, rfl, hI17, hs17, hy17, rfl, by16⟩
          have hx17 : e17 15 = e 15 := hy17.trans hx4
          have hu18 := hI17.2.1
          unfold cw_W at hu18
          have zs19 := cw_sz hI17 ro_nn
          have zs20 := cw_sz hI17 ro_dn
          have hb_45 := by16.2
          intro m21 em_48
          try have e21 : m21.toInt = (z3_2).toInt + (1) := by rw [em_48]; exact pm_addc _ _ (1) rfl (by omega) (by omega)
          exact ih6 m21 w17 e17 v17 f17 hI17 hx17 hs17 (by exact fun i9 h91 h92 => ⟨(hb_45.1 i9 h91 h92).1.trans (j0_2 i9 h91 h92).1, (hb_45.1 i9 h91 h92).2.trans (j0_2 i9 h91 h92).2⟩) (by intro L D h1 h2 h3 h4 h5 h6 h7; have hl := h1.1; obtain ⟨r1, r2⟩ := j1_2 L D h1 h2 h3 h4 h5 h6 h7; have hk := si_len (L := L) (a := x1.toInt) (b := z3_2.toInt) h3 r1.1 (by omega); refine ⟨by omega, ?_⟩; have h8 := hb_45.2 _ r2 (by rw [List.length_append]; omega); rw [show m21.toInt = z3_2.toInt + 1 by omega, si_s h1 h3 r1.1 (by omega), ← List.append_assoc]; have hn1 := ro_nn; have hd1 := ro_dn; unfold cw_ro at hn1 hd1; rw [(j0_2 (nn + 1) (by omega) (by omega)).2, (j0_2 (nn + 2) (by omega) (by omega)).2] at h8; exact h8) (by omega) (by omega) (by omega) (by omega)
        · skip
          have k0 : (0 : Int32).toInt = 0 := rfl
          refine And.intro (fun _ => ?_) (fun c9 => absurd c9 (by decide))
          refine hC.1 2 54 _ _ rfl _ _ _ _ _ ?_
          exact ⟨rfl, rfl, w4, e4, v4, f4, rfl, hI4, hs4, hx4, rfl, by first | omega | (dsimp only; omega) | trivial, by exact ⟨j0_2, fun L D a b h1 h2 ha hb h3 h4 h5 h6 h7 => (by have hl := h1.1; obtain ⟨r1, r2⟩ := j1_2 L D h1 h2 (by omega) (by omega) (by omega) (by omega) h7; have hn1 := ro_nn; have hd1 := ro_dn; unfold cw_ro at hn1 hd1; have hw9 := congrArg Int32.toInt (j0_2 nn (by omega) (by omega)).1; rw [show a = x1.toInt by omega, show b = z3_2.toInt by omega]; exact r2)⟩⟩
  exact lp5 (((200 - x1.toInt).toNat : Int)).toNat.succ x1 w e v f hI rfl hs (by exact fun _ _ _ => ⟨rfl, rfl⟩) (by intro L D h1 h2 h3 h4 h5 h6 h7; refine ⟨by omega, ?_⟩; rw [si_n (L := L) (a := x1.toInt) (b := x1.toInt) (Int.le_refl _), List.append_nil]; exact h7) (by omega) (by omega) (by omega) (by omega)

set_option maxRecDepth 100000 in
set_option maxHeartbeats 2000000 in
theorem F_X9_keepAs (hI : cw_I K nn dn q w e) (hs : cw_S v f) (x1 : Int32) (x2 : Int32) (p0 : 0 ≤ x2.toInt ∧ x2.toInt ≤ 23) : pm_Mt l g 23 3 0 0 [.ref (q 1), .int x1, .int x2] (cw A0 g K nn dn q w e v f) (cw_Qt A0 g K nn dn q (fun r w2 e2 => e2 15 = e 15 ∧ (r = none ∧ (((w2 0).toInt = (w 0).toInt ∧ (w2 1).toInt = (w 1).toInt ∧ (w2 3).toInt = (w 3).toInt) ∧ ((∀ i9, 40 ≤ i9 → (i9 < dn ∨ dn + 4 ≤ i9) → w2 i9 = w i9 ∧ e2 i9 = e i9) ∧ ∀ L D, rp (w nn) (e (nn + 1)) (e (nn + 2)) (L) → nn ≠ dn → 0 ≤ x1.toInt → x1.toInt < (L.length : Int) → (D.length : Int) < 160 → rp (w dn) (e (dn + 1)) (e (dn + 2)) (D) → rp (w2 dn) (e2 (dn + 1)) (e2 (dn + 2)) (D ++ [(x2, e (nn + 2) x1.toInt.toNat)])))))) := by
  refine mt_X9_keepAs rfl (fun J hC => ?_)
  have ro_nn : cw_ro K nn := hI.2.1.2.1
  have ro_dn : cw_ro K dn := hI.2.1.2.2.1
  have hu1 := hI.2.1
  unfold cw_W at hu1
  have zs2 := cw_sz hI ro_nn
  have zs3 := cw_sz hI ro_dn
  have rg_x1 := pm_rng x1
  have rg_x2 := pm_rng x2
  refine hC.1 0 0 _ _ rfl _ _ _ _ _ ?_
  refine Exists.intro _ (And.intro (cw_o1 hI.1) ?_)
  refine And.intro (Exists.intro _ (cw_ro_o hI.1 ro_nn)) (Exists.intro _ (Exists.intro _ (Exists.intro _ (Exists.intro _ (And.intro (c_X7_has hI hs ro_nn x1 ) (And.intro rfl (fun r9 A9 h9 => ?_)))))))
  rcases h9 with ⟨y4, rfl, rfl, ⟨rfl, by4⟩ | ⟨rfl, by4⟩⟩
  · skip
    have k1 : (1 : Int32).toInt = 1 := rfl
    refine And.intro (fun c9 => absurd c9 (by decide)) (fun _ => ?_)
    refine Exists.intro _ (And.intro (cw_o1 hI.1) ?_)
    refine Exists.intro _ (And.intro (cw_ro_o hI.1 ro_nn) ?_)
    refine Exists.intro _ (Exists.intro _ (And.intro (Or.inl (cw_ro_2 hI.1 ro_nn)) (And.intro (by omega) ?_)))
    refine Exists.intro _ (And.intro (cw_o1 hI.1) ?_)
    refine And.intro (Exists.intro _ (cw_ro_o hI.1 ro_nn)) (Exists.intro _ (Exists.intro _ (Exists.intro _ (Exists.intro _ (And.intro (c_X7_bondAt hI hs ro_nn x1 ) (And.intro rfl (fun r9 A9 h9 => ?_)))))))
    obtain ⟨y6, rfl, rfl, by6⟩ := h9
    refine And.intro (Exists.intro _ (cw_o1 hI.1)) (Exists.intro _ (Exists.intro _ (Exists.intro _ (Exists.intro _ (And.intro (F_X9_append hI hs x2 (e (nn + 2) (x1).toInt.toNat) y6 (by omega)) (And.intro rfl (fun r9 A9 h9 => ?_)))))))
    rcases h9 with ⟨w9, e9, v9, f9, rfl, hI9, hs9, hy9, rfl, by8⟩
    have hx9 : e9 15 = e 15 := hy9.trans rfl
    have hu10 := hI9.2.1
    unfold cw_W at hu10
    have zs11 := cw_sz hI9 ro_nn
    have zs12 := cw_sz hI9 ro_dn
    have hb_30 := by8.2
    refine hC.1 1 33 _ _ rfl _ _ _ _ _ ?_
    exact ⟨rfl, rfl, w9, e9, v9, f9, rfl, hI9, hs9, hx9, rfl, by first | omega | (dsimp only; omega) | trivial, by first | exact ⟨hb_30.1, fun L D h1 h2 h3 h4 h5 h6 => hb_30.2 _ h6 h5⟩ | exact ⟨fun _ _ _ => ⟨rfl, rfl⟩, fun L D h1 h2 h3 h4 h5 h6 => absurd h1.1 (by omega)⟩⟩
  · skip
    have k0 : (0 : Int32).toInt = 0 := rfl
    refine And.intro (fun _ => ?_) (fun c9 => absurd c9 (by decide))
    refine hC.1 1 33 _ _ rfl _ _ _ _ _ ?_
    exact ⟨rfl, rfl, w, e, v, f, rfl, hI, hs, rfl, rfl, by first | omega | (dsimp only; omega) | trivial, by first | exact ⟨hb_30.1, fun L D h1 h2 h3 h4 h5 h6 => hb_30.2 _ h6 h5⟩ | exact ⟨fun _ _ _ => ⟨rfl, rfl⟩, fun L D h1 h2 h3 h4 h5 h6 => absurd h1.1 (by omega)⟩⟩

set_option maxRecDepth 100000 in
set_option maxHeartbeats 2000000 in
theorem F_X9_keepThoseOf (hI : cw_I K nn dn q w e) (hs : cw_S v f) (x1 : Int32) (x2 : Int32) (x3 : Int32) (p0 : 0 ≤ x1.toInt ∧ x1.toInt ≤ 23) : pm_Mt l g 33 4 0 0 [.ref (q 1), .int x1, .int x2, .int x3] (cw A0 g K nn dn q w e v f) (cw_Qt A0 g K nn dn q (fun r w2 e2 => e2 15 = e 15 ∧ (r = none ∧ (((w2 0).toInt = (w 0).toInt ∧ (w2 1).toInt = (w 1).toInt ∧ (w2 3).toInt = (w 3).toInt) ∧ ((∀ i9, 40 ≤ i9 → (i9 < dn ∨ dn + 4 ≤ i9) → w2 i9 = w i9 ∧ e2 i9 = e i9) ∧ ∀ (L D : List pl_P) (a b : Int), rp (w nn) (e (nn + 1)) (e (nn + 2)) (L) → nn ≠ dn → x2.toInt = a → x3.toInt + 1 = b → 0 ≤ a → a ≤ b → b ≤ (L.length : Int) → (D.length : Int) + (((si L a b).filter (fun p => decide (p.1.toInt = x1.toInt))).length : Int) ≤ 160 → rp (w dn) (e (dn + 1)) (e (dn + 2)) (D) → rp (w2 dn) (e2 (dn + 1)) (e2 (dn + 2)) (D ++ (si L a b).filter (fun p => decide (p.1.toInt = x1.toInt)))))))) := by
  refine mt_X9_keepThoseOf rfl (fun J hC => ?_)
  have ro_nn : cw_ro K nn := hI.2.1.2.1
  have ro_dn : cw_ro K dn := hI.2.1.2.2.1
  have hu1 := hI.2.1
  unfold cw_W at hu1
  have zs2 := cw_sz hI ro_nn
  have zs3 := cw_sz hI ro_dn
  have rg_x1 := pm_rng x1
  have rg_x2 := pm_rng x2
  have rg_x3 := pm_rng x3
  refine hC.1 0 0 _ _ rfl _ _ _ _ _ ?_
  have lp5 : ∀ (n : Nat) (z4_3 : Int32) (w4 : Nat → Int32) (e4 : Nat → Nat → Int32) (v4 : Nat → Int32) (f4 : Nat → Nat → Int32), cw_I K nn dn q w4 e4 → e4 15 = e 15 → cw_S v4 f4 → ((∀ i9, 40 ≤ i9 → (i9 < dn ∨ dn + 4 ≤ i9) → w4 i9 = w i9 ∧ e4 i9 = e i9)) → (∀ L D, rp (w nn) (e (nn + 1)) (e (nn + 2)) (L) → nn ≠ dn → 0 ≤ x2.toInt → x2.toInt ≤ x3.toInt + 1 → x3.toInt + 1 ≤ (L.length : Int) → (D.length : Int) + (((si L x2.toInt (x3.toInt + 1)).filter (fun p => decide (p.1.toInt = x1.toInt))).length : Int) ≤ 160 → rp (w dn) (e (dn + 1)) (e (dn + 2)) (D) → (x2.toInt ≤ z4_3.toInt ∧ z4_3.toInt ≤ x3.toInt + 1) ∧ rp (w4 dn) (e4 (dn + 1)) (e4 (dn + 2)) (D ++ (si L x2.toInt z4_3.toInt).filter (fun p => decide (p.1.toInt = x1.toInt)))) → (w4 0).toInt = (w 0).toInt → (w4 1).toInt = (w 1).toInt → (w4 3).toInt = (w 3).toInt → ((200 - z4_3.toInt).toNat : Int) < (n : Int) → J 3 [some (.ref (q 1)), some (.int x1), some (.int x2), some (.int x3), some (.int z4_3)] [] (cw A0 g K nn dn q w4 e4 v4 f4) 0 0 := by
    intro n
    induction n with
    | zero =>
      intro z4_3 w4 e4 v4 f4 hI4 hx4 hs4 j0_3 j1_3 j2_3 j3_3 j4_3 j5_3
      omega
    | succ n ih6 =>
      intro z4_3 w4 e4 v4 f4 hI4 hx4 hs4 j0_3 j1_3 j2_3 j3_3 j4_3 j5_3
      have hu7 := hI4.2.1
      unfold cw_W at hu7
      have zs8 := cw_sz hI4 ro_nn
      have zs9 := cw_sz hI4 ro_dn
      refine hC.1 1 3 _ _ rfl _ _ _ _ _ ?_
      refine And.intro (fun c10 => ?_) (fun c10 => ?_)
      · skip
        refine hC.1 3 48 _ _ rfl _ _ _ _ _ ?_
        exact ⟨rfl, rfl, w4, e4, v4, f4, rfl, hI4, hs4, hx4, rfl, by first | omega | (dsimp only; omega) | trivial, by exact ⟨j0_3, fun L D a b h1 h2 ha hb h3 h4 h5 h6 h7 => (by subst ha; subst hb; have hl := h1.1; obtain ⟨r1, r2⟩ := j1_3 L D h1 h2 h3 h4 h5 h6 h7; have hn1 := ro_nn; have hd1 := ro_dn; unfold cw_ro at hn1 hd1; have hw9 := congrArg Int32.toInt (j0_3 nn (by omega) (by omega)).1; rw [show x3.toInt + 1 = z4_3.toInt by omega]; exact r2)⟩⟩
      · skip
        refine Exists.intro _ (And.intro (cw_o1 hI4.1) ?_)
        refine And.intro (Exists.intro _ (cw_ro_o hI4.1 ro_nn)) (Exists.intro _ (Exists.intro _ (Exists.intro _ (Exists.intro _ (And.intro (c_X7_has hI4 hs4 ro_nn z4_3 ) (And.intro rfl (fun r9 A9 h9 => ?_)))))))
        rcases h9 with ⟨y11, rfl, rfl, ⟨rfl, by11⟩ | ⟨rfl, by11⟩⟩
        · skip
          have k1 : (1 : Int32).toInt = 1 := rfl
          refine And.intro (fun c9 => absurd c9 (by decide)) (fun _ => ?_)
          refine Exists.intro _ (And.intro (cw_o1 hI4.1) ?_)
          refine Exists.intro _ (And.intro (cw_ro_o hI4.1 ro_nn) ?_)
          refine Exists.intro _ (Exists.intro _ (And.intro (Or.inl (cw_ro_1 hI4.1 ro_nn)) (And.intro (by omega) ?_)))
          have w13 := cw_col hI4 ro_nn (z4_3).toInt.toNat
          refine And.intro (fun c14 => ?_) (fun c14 => ?_)
          · skip
            have dc14 := pm_neI c14
            refine hC.1 2 42 _ _ rfl _ _ _ _ _ ?_
            intro m15 em_42
            try have e15 : m15.toInt = (z4_3).toInt + (1) := by rw [em_42]; exact pm_addc _ _ (1) rfl (by omega) (by omega)
            exact ih6 m15 w4 e4 v4 f4 hI4 hx4 hs4 (by first | exact fun i9 h91 h92 => ⟨(hb_39.1 i9 h91 h92).1.trans (j0_3 i9 h91 h92).1, (hb_39.1 i9 h91 h92).2.trans (j0_3 i9 h91 h92).2⟩ | exact j0_3) (by first | (intro L D h1 h2 h3 h4 h5 h6 h7; have hl := h1.1; obtain ⟨r1, r2⟩ := j1_3 L D h1 h2 h3 h4 h5 h6 h7; refine ⟨by omega, ?_⟩; have hn1 := ro_nn; have hd1 := ro_dn; unfold cw_ro at hn1 hd1; have en1 := (j0_3 (nn + 1) (by omega) (by omega)).2; have en2 := (j0_3 (nn + 2) (by omega) (by omega)).2; have hcc : (e (nn + 1) z4_3.toInt.toNat).toInt = x1.toInt := (by rw [← en1]; assumption); have hwn := (j0_3 nn (by omega) (by omega)).1; have h1b := rp_fr h1 (congrArg Int32.toInt hwn) en1 en2; have hs9 := si_s h1 h3 r1.1 (show z4_3.toInt < (L.length : Int) by omega); have hp9 := fl_len (L := L) (a := x2.toInt) (z := z4_3.toInt + 1) (b := x3.toInt + 1) (c := x1.toInt) h3 (by omega) (by omega) h5; rw [hs9, fl_y hcc, List.length_append] at hp9; have hp8 : ([(e (nn + 1) z4_3.toInt.toNat, e (nn + 2) z4_3.toInt.toNat)] : List pl_P).length = 1 := rfl; have h8 := hb_39.2 L _ h1b h2 (by omega) (by omega) (by rw [List.length_append]; omega) r2; rw [show m15.toInt = z4_3.toInt + 1 by omega, hs9, fl_y hcc, ← List.append_assoc]; rw [en2] at h8; rw [pm_eqI hcc]; exact h8) | (intro L D h1 h2 h3 h4 h5 h6 h7; have hl := h1.1; obtain ⟨r1, r2⟩ := j1_3 L D h1 h2 h3 h4 h5 h6 h7; refine ⟨by omega, ?_⟩; have hn1 := ro_nn; have hd1 := ro_dn; unfold cw_ro at hn1 hd1; have en1 := (j0_3 (nn + 1) (by omega) (by omega)).2; have hcc : ¬ (e (nn + 1) z4_3.toInt.toNat).toInt = x1.toInt := (by rw [← en1]; assumption); have hs9 := si_s h1 h3 r1.1 (show z4_3.toInt < (L.length : Int) by have := congrArg Int32.toInt (j0_3 nn (by omega) (by omega)).1; omega); rw [show m15.toInt = z4_3.toInt + 1 by omega, hs9, fl_n hcc]; exact r2)) (by omega) (by omega) (by omega) (by omega)
          · skip
            have dc14 : ((e4 (nn + 1) (z4_3).toInt.toNat)).toInt = (x1 : Int32).toInt := congrArg Int32.toInt c14
            refine And.intro (Exists.intro _ (cw_o1 hI4.1)) (Exists.intro _ (Exists.intro _ (Exists.intro _ (Exists.intro _ (And.intro (F_X9_keepAs hI4 hs4 z4_3 x1 (by omega)) (And.intro rfl (fun r9 A9 h9 => ?_)))))))
            rcases h9 with ⟨w17, e17, v17, f17, rfl, hI17, hs17, hy17, rfl, by16⟩
            have hx17 : e17 15 = e 15 := hy17.trans hx4
            have hu18 := hI17.2.1
            unfold cw_W at hu18
            have zs19 := cw_sz hI17 ro_nn
            have zs20 := cw_sz hI17 ro_dn
            have hb_39 := by16.2
            refine hC.1 2 42 _ _ rfl _ _ _ _ _ ?_
            intro m21 em_42
            try have e21 : m21.toInt = (z4_3).toInt + (1) := by rw [em_42]; exact pm_addc _ _ (1) rfl (by omega) (by omega)
            exact ih6 m21 w17 e17 v17 f17 hI17 hx17 hs17 (by first | exact fun i9 h91 h92 => ⟨(hb_39.1 i9 h91 h92).1.trans (j0_3 i9 h91 h92).1, (hb_39.1 i9 h91 h92).2.trans (j0_3 i9 h91 h92).2⟩ | exact j0_3) (by first | (intro L D h1 h2 h3 h4 h5 h6 h7; have hl := h1.1; obtain ⟨r1, r2⟩ := j1_3 L D h1 h2 h3 h4 h5 h6 h7; refine ⟨by omega, ?_⟩; have hn1 := ro_nn; have hd1 := ro_dn; unfold cw_ro at hn1 hd1; have en1 := (j0_3 (nn + 1) (by omega) (by omega)).2; have en2 := (j0_3 (nn + 2) (by omega) (by omega)).2; have hcc : (e (nn + 1) z4_3.toInt.toNat).toInt = x1.toInt := (by rw [← en1]; assumption); have hwn := (j0_3 nn (by omega) (by omega)).1; have h1b := rp_fr h1 (congrArg Int32.toInt hwn) en1 en2; have hs9 := si_s h1 h3 r1.1 (show z4_3.toInt < (L.length : Int) by omega); have hp9 := fl_len (L := L) (a := x2.toInt) (z := z4_3.toInt + 1) (b := x3.toInt + 1) (c := x1.toInt) h3 (by omega) (by omega) h5; rw [hs9, fl_y hcc, List.length_append] at hp9; have hp8 : ([(e (nn + 1) z4_3.toInt.toNat, e (nn + 2) z4_3.toInt.toNat)] : List pl_P).length = 1 := rfl; have h8 := hb_39.2 L _ h1b h2 (by omega) (by omega) (by rw [List.length_append]; omega) r2; rw [show m21.toInt = z4_3.toInt + 1 by omega, hs9, fl_y hcc, ← List.append_assoc]; rw [en2] at h8; rw [pm_eqI hcc]; exact h8) | (intro L D h1 h2 h3 h4 h5 h6 h7; have hl := h1.1; obtain ⟨r1, r2⟩ := j1_3 L D h1 h2 h3 h4 h5 h6 h7; refine ⟨by omega, ?_⟩; have hn1 := ro_nn; have hd1 := ro_dn; unfold cw_ro at hn1 hd1; have en1 := (j0_3 (nn + 1) (by omega) (by omega)).2; have hcc : ¬ (e (nn + 1) z4_3.toInt.toNat).toInt = x1.toInt := (by rw [← en1]; assumption); have hs9 := si_s h1 h3 r1.1 (show z4_3.toInt < (L.length : Int) by have := congrArg Int32.toInt (j0_3 nn (by omega) (by omega)).1; omega); rw [show m21.toInt = z4_3.toInt + 1 by omega, hs9, fl_n hcc]; exact r2)) (by omega) (by omega) (by omega) (by omega)
        · skip
          have k0 : (0 : Int32).toInt = 0 := rfl
          refine And.intro (fun _ => ?_) (fun c9 => absurd c9 (by decide))
          refine hC.1 3 48 _ _ rfl _ _ _ _ _ ?_
          exact ⟨rfl, rfl, w4, e4, v4, f4, rfl, hI4, hs4, hx4, rfl, by first | omega | (dsimp only; omega) | trivial, by exact ⟨j0_3, fun L D a b h1 h2 ha hb h3 h4 h5 h6 h7 => (by subst ha; subst hb; have hl := h1.1; obtain ⟨r1, r2⟩ := j1_3 L D h1 h2 h3 h4 h5 h6 h7; have hn1 := ro_nn; have hd1 := ro_dn; unfold cw_ro at hn1 hd1; have hw9 := congrArg Int32.toInt (j0_3 nn (by omega) (by omega)).1; rw [show x3.toInt + 1 = z4_3.toInt by omega]; exact r2)⟩⟩
  exact lp5 (((200 - x2.toInt).toNat : Int)).toNat.succ x2 w e v f hI rfl hs (by exact fun _ _ _ => ⟨rfl, rfl⟩) (by intro L D h1 h2 h3 h4 h5 h6 h7; refine ⟨by omega, ?_⟩; rw [si_n (L := L) (a := x2.toInt) (b := x2.toInt) (Int.le_refl _)]; show rp _ _ _ (D ++ []); rw [List.append_nil]; exact h7) (by omega) (by omega) (by omega) (by omega)

set_option maxRecDepth 100000 in
set_option maxHeartbeats 2000000 in
theorem F_X9_add (hI : cw_I K nn dn q w e) (hs : cw_S v f) (x1 : Int32) (p0 : 0 ≤ x1.toInt ∧ x1.toInt ≤ 23) (p1 : (w 1).toInt < 10000) : pm_Mt l g 28 1 0 0 [.ref (q 1), .int x1] (cw A0 g K nn dn q w e v f) (cw_Qt A0 g K nn dn q (fun r w2 e2 => e2 15 = e 15 ∧ (r = none ∧ (((w2 0).toInt = (w 0).toInt ∧ (w2 3).toInt = (w 3).toInt ∧ (w2 1).toInt = (w 1).toInt + 1) ∧ ((∀ i9, 40 ≤ i9 → (i9 < dn ∨ dn + 4 ≤ i9) → w2 i9 = w i9 ∧ e2 i9 = e i9) ∧ ∀ D, rp (w dn) (e (dn + 1)) (e (dn + 2)) (D) → (D.length : Int) < 160 → rp (w2 dn) (e2 (dn + 1)) (e2 (dn + 2)) (D ++ [(x1, w 1)])))))) := by
  refine mt_X9_add rfl (fun J hC => ?_)
  have ro_nn : cw_ro K nn := hI.2.1.2.1
  have ro_dn : cw_ro K dn := hI.2.1.2.2.1
  have hu1 := hI.2.1
  unfold cw_W at hu1
  have zs2 := cw_sz hI ro_nn
  have zs3 := cw_sz hI ro_dn
  have rg_x1 := pm_rng x1
  refine hC.1 0 0 _ _ rfl _ _ _ _ _ ?_
  refine Exists.intro _ (And.intro (cw_o1 hI.1) ?_)
  have km2 : (-2 : Int32).toInt = -2 := rfl
  refine And.intro (Exists.intro _ (cw_o1 hI.1)) (Exists.intro _ (Exists.intro _ (Exists.intro _ (Exists.intro _ (And.intro (F_X9_append hI hs x1 (w 1) (-2 : Int32) (by omega)) (And.intro rfl (fun r9 A9 h9 => ?_)))))))
  rcases h9 with ⟨w5, e5, v5, f5, rfl, hI5, hs5, hy5, rfl, by4⟩
  have hx5 : e5 15 = e 15 := hy5.trans rfl
  have hu6 := hI5.2.1
  unfold cw_W at hu6
  have zs7 := cw_sz hI5 ro_nn
  have zs8 := cw_sz hI5 ro_dn
  have hb_8 := by4.2
  refine Exists.intro _ (And.intro (cw_o1 hI5.1) ?_)
  have k1 : (1 : Int32).toInt = 1 := rfl
  intro m9 em_17
  try have e9 : m9.toInt = ((w5 1)).toInt + (1) := by rw [em_17]; exact pm_addc _ _ (1) rfl (by omega) (by omega)
  refine Exists.intro _ (And.intro (cw_o1 hI5.1) (And.intro rfl ?_))
  rw [cw_p_named hI5.1]
  obtain ⟨w10, ew10⟩ : ∃ z9, z9 = upd w5 1 m9 := ⟨_, rfl⟩
  rw [← ew10]
  have ew10_0 : (w10 0).toInt = (w5 0).toInt := by rw [ew10]; rfl
  have ew10_1 : (w10 1).toInt = (m9).toInt := by rw [ew10]; rfl
  have ew10_2 : (w10 2).toInt = (w5 2).toInt := by rw [ew10]; rfl
  have ew10_3 : (w10 3).toInt = (w5 3).toInt := by rw [ew10]; rfl
  have pn_18 : w10 1 = m9 := by rw [ew10, pk_us]
  have pw_18 := ew10
  have hZ10 : cw_Z w10 := by rw [ew10]; exact cw_Z_up hI5.2.2.1 _ _ (by omega)
  have hI10 : cw_I K nn dn q w10 e5 := ⟨hI5.1, by unfold cw_W; omega, hZ10, hI5.2.2.2⟩
  exact ⟨rfl, rfl, w10, e5, v5, f5, rfl, hI10, hs5, hx5, rfl, by first | omega | (dsimp only; omega) | trivial, by exact ⟨fun i9 h91 h92 => ⟨by rw [pw_18, pk_un (by omega)]; exact (hb_8.1 i9 h91 h92).1, (hb_8.1 i9 h91 h92).2⟩, fun D h1 h2 => (by have h3 := hb_8.2 D h1 h2; rw [pw_18, pk_un (by omega)]; exact h3)⟩⟩

end
end
section
section
variable {l : Launch} {g : pm_G} {A0 : pm_H} {K nn dn : Nat} {q : Nat → Nat} {w : Nat → Int32} {e : Nat → Nat → Int32} {v : Nat → Int32} {f : Nat → Nat → Int32}
set_option maxRecDepth 100000 in
set_option maxHeartbeats 2000000 in
theorem F_X7_placeOfNth (hI : cw_I K nn dn q w e) (hs : cw_S v f) {o0 : Nat} (ho0 : cw_ro K o0) (x1 : Int32) (x2 : Int32)  : pm_Mt l g 49 0 0 0 [.ref (q o0), .int x1, .int x2] (cw A0 g K nn dn q w e v f) (md_Qp (cw A0 g K nn dn q w e v f) (fun r => NTH (e (o0 + 1)) (w o0).toInt x1 x2.toInt r.toInt)) := by
  refine mt_X7_placeOfNth rfl (fun J hC => ?_)
  have ro_nn : cw_ro K nn := hI.2.1.2.1
  have ro_dn : cw_ro K dn := hI.2.1.2.2.1
  have hu1 := hI.2.1
  unfold cw_W at hu1
  have rg_x1 := pm_rng x1
  have rg_x2 := pm_rng x2
  have zz0 := cw_sz hI ho0
  refine hC.1 0 0 _ _ rfl _ _ _ _ _ ?_
  have k0 : (0 : Int32).toInt = 0 := rfl
  have lp3 : ∀ (n : Nat) (z3_5 : Int32) (z4_5 : Int32), (0 ≤ z4_5.toInt ∧ z4_5.toInt ≤ (w o0).toInt) → (z3_5.toInt = (cn (e (o0 + 1)) x1 z4_5.toInt.toNat : Int)) → (∀ i9 : Nat, (i9 : Int) < z4_5.toInt → ¬ (e (o0 + 1) i9 = x1 ∧ (cn (e (o0 + 1)) x1 i9 : Int) = x2.toInt)) → 200 - z4_5.toInt < (n : Int) → J 5 [some (.ref (q o0)), some (.int x1), some (.int x2), some (.int z3_5), some (.int z4_5)] [] (cw A0 g K nn dn q w e v f) 0 0 := by
    intro n
    induction n with
    | zero =>
      intro z3_5 z4_5 j0_5 j1_5 j2_5 j3_5
      omega
    | succ n ih4 =>
      intro z3_5 z4_5 j0_5 j1_5 j2_5 j3_5
      have cl9 := cn_le (e (o0 + 1)) x1 z4_5.toInt.toNat
      refine hC.1 1 5 _ _ rfl _ _ _ _ _ ?_
      refine Exists.intro _ (And.intro (cw_ro_o hI.1 ho0) ?_)
      have z5 := cw_sz hI ho0
      refine And.intro (fun c6 => ?_) (fun c6 => ?_)
      · skip
        refine hC.1 4 42 _ _ rfl _ _ _ _ _ ?_
        have km1 : (-1 : Int32).toInt = -1 := rfl
        exact ⟨rfl, fun e9 => absurd e9 (by decide), rfl, (-1 : Int32), rfl, rfl, by first | (exact Or.inr ⟨by omega, by omega, by assumption, by omega⟩) | (exact Or.inl ⟨rfl, fun i9 h9 => j2_5 i9 (by omega)⟩)⟩
      · skip
        refine Exists.intro _ (And.intro (cw_ro_o hI.1 ho0) ?_)
        refine Exists.intro _ (Exists.intro _ (And.intro (Or.inl (cw_ro_1 hI.1 ho0)) (And.intro (by omega) ?_)))
        have w7 := cw_col hI ho0 (z4_5).toInt.toNat
        refine And.intro (fun c8 => ?_) (fun c8 => ?_)
        · skip
          have dc8 := pm_neI c8
          refine hC.1 3 36 _ _ rfl _ _ _ _ _ ?_
          have k1 : (1 : Int32).toInt = 1 := rfl
          intro m9 em_36
          try have e9 : m9.toInt = (z4_5).toInt + (1) := by rw [em_36]; exact pm_addc _ _ (1) rfl (by omega) (by omega)
          exact ih4 z3_5 m9 (by omega) (by first | (rw [show m9.toInt.toNat = z4_5.toInt.toNat + 1 by omega, cn_n (by assumption)]; omega) | (rw [show m9.toInt.toNat = z4_5.toInt.toNat + 1 by omega, cn_y (by assumption)]; omega)) (by intro i9 h9; by_cases h8 : i9 = z4_5.toInt.toNat; (subst h8; intro h7; first | exact absurd h7.1 (by assumption) | omega); (exact j2_5 i9 (by omega))) (by omega)
        · skip
          have dc8 : ((e (o0 + 1) (z4_5).toInt.toNat)).toInt = (x1 : Int32).toInt := congrArg Int32.toInt c8
          refine And.intro (fun c10 => ?_) (fun c10 => ?_)
          · skip
            have dc10 := pm_neI c10
            refine hC.1 2 33 _ _ rfl _ _ _ _ _ ?_
            have k1 : (1 : Int32).toInt = 1 := rfl
            intro m11 em_33
            try have e11 : m11.toInt = (z3_5).toInt + (1) := by rw [em_33]; exact pm_addc _ _ (1) rfl (by omega) (by omega)
            refine hC.1 3 36 _ _ rfl _ _ _ _ _ ?_
            intro m12 em_36
            try have e12 : m12.toInt = (z4_5).toInt + (1) := by rw [em_36]; exact pm_addc _ _ (1) rfl (by omega) (by omega)
            exact ih4 m11 m12 (by omega) (by first | (rw [show m12.toInt.toNat = z4_5.toInt.toNat + 1 by omega, cn_n (by assumption)]; omega) | (rw [show m12.toInt.toNat = z4_5.toInt.toNat + 1 by omega, cn_y (by assumption)]; omega)) (by intro i9 h9; by_cases h8 : i9 = z4_5.toInt.toNat; (subst h8; intro h7; first | exact absurd h7.1 (by assumption) | omega); (exact j2_5 i9 (by omega))) (by omega)
          · skip
            have dc10 : (z3_5).toInt = (x2 : Int32).toInt := congrArg Int32.toInt c10
            exact ⟨rfl, fun e9 => absurd e9 (by decide), rfl, z4_5, rfl, rfl, by first | (exact Or.inr ⟨by omega, by omega, by assumption, by omega⟩) | (exact Or.inl ⟨rfl, fun i9 h9 => j2_5 i9 (by omega)⟩)⟩
  exact lp3 (200 - (0 : Int32).toInt).toNat.succ (0 : Int32) (0 : Int32) (by omega) (by rfl) (by intro i9 h9; omega) (by omega)

set_option maxRecDepth 100000 in
set_option maxHeartbeats 2000000 in
theorem F_X10_nth (hI : cw_I K nn dn q w e) (hs : cw_S v f) (x1 : Int32) (x2 : Int32)  : pm_Mt l g 52 1 0 0 [.ref (q 0), .int x1, .int x2] (cw A0 g K nn dn q w e v f) (md_Qp (cw A0 g K nn dn q w e v f) (fun r => NTH (e (nn + 1)) (w nn).toInt x1 x2.toInt r.toInt)) := by
  refine mt_X10_nth rfl (fun J hC => ?_)
  have ro_nn : cw_ro K nn := hI.2.1.2.1
  have ro_dn : cw_ro K dn := hI.2.1.2.2.1
  have hu1 := hI.2.1
  unfold cw_W at hu1
  have rg_x1 := pm_rng x1
  have rg_x2 := pm_rng x2
  refine hC.1 0 0 _ _ rfl _ _ _ _ _ ?_
  refine Exists.intro _ (And.intro (cw_o0 hI.1) ?_)
  refine Exists.intro _ (And.intro (cw_o1 hI.1) ?_)
  refine And.intro (Exists.intro _ (cw_ro_o hI.1 ro_nn)) (Exists.intro _ (Exists.intro _ (Exists.intro _ (Exists.intro _ (And.intro (F_X7_placeOfNth hI hs ro_nn x1 x2 ) (And.intro rfl (fun r9 A9 h9 => ?_)))))))
  obtain ⟨y2, rfl, rfl, by2⟩ := h9
  exact ⟨rfl, fun e9 => absurd e9 (by decide), rfl, y2, rfl, rfl, by assumption⟩

set_option maxRecDepth 100000 in
set_option maxHeartbeats 2000000 in
theorem F_X7_placeOf (hI : cw_I K nn dn q w e) (hs : cw_S v f) {o0 : Nat} (ho0 : cw_ro K o0) (x1 : Int32)  : pm_Mt l g 46 0 0 0 [.ref (q o0), .int x1] (cw A0 g K nn dn q w e v f) (md_Qp (cw A0 g K nn dn q w e v f) (fun r => (-1 ≤ r.toInt ∧ r.toInt < (w o0).toInt) ∧ FST (e (o0 + 2)) (w o0).toInt x1 r.toInt)) := by
  refine mt_X7_placeOf rfl (fun J hC => ?_)
  have ro_nn : cw_ro K nn := hI.2.1.2.1
  have ro_dn : cw_ro K dn := hI.2.1.2.2.1
  have hu1 := hI.2.1
  unfold cw_W at hu1
  have rg_x1 := pm_rng x1
  have zz0 := cw_sz hI ho0
  refine hC.1 0 0 _ _ rfl _ _ _ _ _ ?_
  have k0 : (0 : Int32).toInt = 0 := rfl
  have lp3 : ∀ (n : Nat) (z2_2 : Int32), (0 ≤ z2_2.toInt ∧ z2_2.toInt ≤ (w o0).toInt) → (∀ i9 : Nat, (i9 : Int) < z2_2.toInt → ¬ e (o0 + 2) i9 = x1) → 200 - z2_2.toInt < (n : Int) → J 2 [some (.ref (q o0)), some (.int x1), some (.int z2_2)] [] (cw A0 g K nn dn q w e v f) 0 0 := by
    intro n
    induction n with
    | zero =>
      intro z2_2 j0_2 j1_2 j2_2
      omega
    | succ n ih4 =>
      intro z2_2 j0_2 j1_2 j2_2
      refine hC.1 1 2 _ _ rfl _ _ _ _ _ ?_
      refine Exists.intro _ (And.intro (cw_ro_o hI.1 ho0) ?_)
      have z5 := cw_sz hI ho0
      refine And.intro (fun c6 => ?_) (fun c6 => ?_)
      · skip
        refine hC.1 3 28 _ _ rfl _ _ _ _ _ ?_
        have km1 : (-1 : Int32).toInt = -1 := rfl
        exact ⟨rfl, fun e9 => absurd e9 (by decide), rfl, (-1 : Int32), rfl, rfl, by first | (exact ⟨by omega, Or.inr ⟨by omega, by omega, by assumption, fun i9 h9 => j1_2 i9 (by omega)⟩⟩) | (exact ⟨by omega, Or.inl ⟨rfl, fun i9 h9 => j1_2 i9 (by omega)⟩⟩)⟩
      · skip
        refine Exists.intro _ (And.intro (cw_ro_o hI.1 ho0) ?_)
        refine Exists.intro _ (Exists.intro _ (And.intro (Or.inl (cw_ro_2 hI.1 ho0)) (And.intro (by omega) ?_)))
        refine And.intro (fun c7 => ?_) (fun c7 => ?_)
        · skip
          have dc7 := pm_neI c7
          refine hC.1 2 22 _ _ rfl _ _ _ _ _ ?_
          have k1 : (1 : Int32).toInt = 1 := rfl
          intro m8 em_22
          try have e8 : m8.toInt = (z2_2).toInt + (1) := by rw [em_22]; exact pm_addc _ _ (1) rfl (by omega) (by omega)
          exact ih4 m8 (by omega) (by intro i9 h9; by_cases h8 : i9 = z2_2.toInt.toNat; (subst h8; assumption); (exact j1_2 i9 (by omega))) (by omega)
        · skip
          have dc7 : ((e (o0 + 2) (z2_2).toInt.toNat)).toInt = (x1 : Int32).toInt := congrArg Int32.toInt c7
          exact ⟨rfl, fun e9 => absurd e9 (by decide), rfl, z2_2, rfl, rfl, by first | (exact ⟨by omega, Or.inr ⟨by omega, by omega, by assumption, fun i9 h9 => j1_2 i9 (by omega)⟩⟩) | (exact ⟨by omega, Or.inl ⟨rfl, fun i9 h9 => j1_2 i9 (by omega)⟩⟩)⟩
  exact lp3 (200 - (0 : Int32).toInt).toNat.succ (0 : Int32) (by omega) (by intro i9 h9; omega) (by omega)

set_option maxRecDepth 100000 in
set_option maxHeartbeats 2000000 in
theorem F_X10_place (hI : cw_I K nn dn q w e) (hs : cw_S v f) (x1 : Int32)  : pm_Mt l g 45 1 0 0 [.ref (q 0), .int x1] (cw A0 g K nn dn q w e v f) (md_Qp (cw A0 g K nn dn q w e v f) (fun r => (-1 ≤ r.toInt ∧ r.toInt < (w nn).toInt) ∧ FST (e (nn + 2)) (w nn).toInt x1 r.toInt)) := by
  refine mt_X10_place rfl (fun J hC => ?_)
  have ro_nn : cw_ro K nn := hI.2.1.2.1
  have ro_dn : cw_ro K dn := hI.2.1.2.2.1
  have hu1 := hI.2.1
  unfold cw_W at hu1
  have rg_x1 := pm_rng x1
  refine hC.1 0 0 _ _ rfl _ _ _ _ _ ?_
  refine Exists.intro _ (And.intro (cw_o0 hI.1) ?_)
  refine Exists.intro _ (And.intro (cw_o1 hI.1) ?_)
  refine And.intro (Exists.intro _ (cw_ro_o hI.1 ro_nn)) (Exists.intro _ (Exists.intro _ (Exists.intro _ (Exists.intro _ (And.intro (F_X7_placeOf hI hs ro_nn x1 ) (And.intro rfl (fun r9 A9 h9 => ?_)))))))
  obtain ⟨y2, rfl, rfl, by2⟩ := h9
  exact ⟨rfl, fun e9 => absurd e9 (by decide), rfl, y2, rfl, rfl, by assumption⟩

set_option maxRecDepth 100000 in
set_option maxHeartbeats 2000000 in
theorem F_X5_add (hI : cw_I K nn dn q w e) (hs : cw_S v f) (x1 : Int32) (x2 : Int32) (x3 : Int32)  : pm_Mt l g 159 0 0 0 [.ref (q 9), .int x1, .int x2, .int x3] (cw A0 g K nn dn q w e v f) (cw_Qt A0 g K nn dn q (fun r w2 e2 => e2 15 = e 15 ∧ (∃ x : Int32, r = some (.int x) ∧ (((w2 0).toInt = (w 0).toInt ∧ (w2 1).toInt = (w 1).toInt) ∧ ((∀ i9, 40 ≤ i9 → w2 i9 = w i9 ∧ e2 i9 = e i9)))))) := by
  refine mt_X5_add rfl (fun J hC => ?_)
  have ro_nn : cw_ro K nn := hI.2.1.2.1
  have ro_dn : cw_ro K dn := hI.2.1.2.2.1
  have hu1 := hI.2.1
  unfold cw_W at hu1
  have rg_x1 := pm_rng x1
  have rg_x2 := pm_rng x2
  have rg_x3 := pm_rng x3
  refine hC.1 0 0 _ _ rfl _ _ _ _ _ ?_
  refine Exists.intro _ (And.intro (cw_o9 hI.1) ?_)
  refine And.intro (fun c2 => ?_) (fun c2 => ?_)
  · skip
    refine hC.1 1 16 _ _ rfl _ _ _ _ _ ?_
    have km1 : (-1 : Int32).toInt = -1 := rfl
    exact ⟨rfl, fun e9 => absurd e9 (by decide), rfl, w, e, v, f, rfl, hI, hs, rfl, (-1 : Int32), rfl, by first | omega | (dsimp only; omega) | trivial, by exact fun _ _ => ⟨rfl, rfl⟩⟩
  · skip
    refine Exists.intro _ (And.intro (cw_o9 hI.1) ?_)
    have k30 : (30 : Int32).toInt = 30 := rfl
    refine And.intro (fun c3 => ?_) (fun c3 => ?_)
    · skip
      refine hC.1 2 18 _ _ rfl _ _ _ _ _ ?_
      refine Exists.intro _ (And.intro (cw_o9 hI.1) ?_)
      refine Exists.intro _ (And.intro (cw_o9 hI.1) ?_)
      refine Exists.intro _ (Exists.intro _ (And.intro (cw_a35 hI.1) (And.intro (by omega) ?_)))
      rw [cw_s35 hI.1]
      obtain ⟨e4, ee4⟩ : ∃ z9, z9 = va_up e 35 (upd (e 35) ((w 3)).toInt.toNat x2) := ⟨_, rfl⟩
      rw [← ee4]
      have hI4 : cw_I K nn dn q w e4 := ⟨hI.1, hI.2.1, hI.2.2.1, by rw [ee4]; exact cw_E_up hI.2.2.2 _ _ (fun h9 _ => absurd h9 (by decide)) (fun h9 _ => absurd h9 (by decide))⟩
      have hx4 : e4 15 = e 15 := (show e4 15 = e 15 by rw [ee4]; exact if_neg (by omega)).trans rfl
      have pe_31 := ee4
      refine Exists.intro _ (And.intro (cw_o9 hI4.1) ?_)
      refine Exists.intro _ (Exists.intro _ (And.intro (cw_a36 hI4.1) (And.intro (by omega) ?_)))
      rw [cw_s36 hI4.1]
      obtain ⟨e5, ee5⟩ : ∃ z9, z9 = va_up e4 36 (upd (e4 36) ((w 3)).toInt.toNat x3) := ⟨_, rfl⟩
      rw [← ee5]
      have hI5 : cw_I K nn dn q w e5 := ⟨hI4.1, hI4.2.1, hI4.2.2.1, by rw [ee5]; exact cw_E_up hI4.2.2.2 _ _ (fun h9 _ => absurd h9 (by decide)) (fun h9 _ => absurd h9 (by decide))⟩
      have hx5 : e5 15 = e 15 := (show e5 15 = e4 15 by rw [ee5]; exact if_neg (by omega)).trans hx4
      have pe_39 := ee5
      refine Exists.intro _ (And.intro (cw_o9 hI5.1) ?_)
      refine Exists.intro _ (Exists.intro _ (And.intro (cw_a39 hI5.1) (And.intro (by omega) ?_)))
      rw [cw_s39 hI5.1]
      obtain ⟨e6, ee6⟩ : ∃ z9, z9 = va_up e5 39 (upd (e5 39) ((w 3)).toInt.toNat x1) := ⟨_, rfl⟩
      rw [← ee6]
      have hI6 : cw_I K nn dn q w e6 := ⟨hI5.1, hI5.2.1, hI5.2.2.1, by rw [ee6]; exact cw_E_up hI5.2.2.2 _ _ (fun h9 _ => absurd h9 (by decide)) (fun h9 _ => absurd h9 (by decide))⟩
      have hx6 : e6 15 = e 15 := (show e6 15 = e5 15 by rw [ee6]; exact if_neg (by omega)).trans hx5
      have pe_47 := ee6
      refine Exists.intro _ (And.intro (cw_o9 hI6.1) ?_)
      have km1 : (-1 : Int32).toInt = -1 := rfl
      refine Exists.intro _ (Exists.intro _ (And.intro (cw_a37 hI6.1) (And.intro (by omega) ?_)))
      rw [cw_s37 hI6.1]
      obtain ⟨e7, ee7⟩ : ∃ z9, z9 = va_up e6 37 (upd (e6 37) ((w 3)).toInt.toNat (-1 : Int32)) := ⟨_, rfl⟩
      rw [← ee7]
      have hI7 : cw_I K nn dn q w e7 := ⟨hI6.1, hI6.2.1, hI6.2.2.1, by rw [ee7]; exact cw_E_up hI6.2.2.2 _ _ (fun h9 _ => absurd h9 (by decide)) (fun h9 _ => absurd h9 (by decide))⟩
      have hx7 : e7 15 = e 15 := (show e7 15 = e6 15 by rw [ee7]; exact if_neg (by omega)).trans hx6
      have pe_55 := ee7
      refine Exists.intro _ (And.intro (cw_o9 hI7.1) ?_)
      refine Exists.intro _ (Exists.intro _ (And.intro (cw_a38 hI7.1) (And.intro (by omega) ?_)))
      rw [cw_s38 hI7.1]
      obtain ⟨e8, ee8⟩ : ∃ z9, z9 = va_up e7 38 (upd (e7 38) ((w 3)).toInt.toNat (-1 : Int32)) := ⟨_, rfl⟩
      rw [← ee8]
      have hI8 : cw_I K nn dn q w e8 := ⟨hI7.1, hI7.2.1, hI7.2.2.1, by rw [ee8]; exact cw_E_up hI7.2.2.2 _ _ (fun h9 _ => absurd h9 (by decide)) (fun h9 _ => absurd h9 (by decide))⟩
      have hx8 : e8 15 = e 15 := (show e8 15 = e7 15 by rw [ee8]; exact if_neg (by omega)).trans hx7
      have pe_63 := ee8
      refine Exists.intro _ (And.intro (cw_o9 hI8.1) ?_)
      have k1 : (1 : Int32).toInt = 1 := rfl
      intro m9 em_70
      try have e9 : m9.toInt = ((w 3)).toInt + (1) := by rw [em_70]; exact pm_addc _ _ (1) rfl (by omega) (by omega)
      refine Exists.intro _ (And.intro (cw_o9 hI8.1) (And.intro rfl ?_))
      rw [cw_p_number hI8.1]
      obtain ⟨w10, ew10⟩ : ∃ z9, z9 = upd w 3 m9 := ⟨_, rfl⟩
      rw [← ew10]
      have ew10_0 : (w10 0).toInt = (w 0).toInt := by rw [ew10]; rfl
      have ew10_1 : (w10 1).toInt = (w 1).toInt := by rw [ew10]; rfl
      have ew10_2 : (w10 2).toInt = (w 2).toInt := by rw [ew10]; rfl
      have ew10_3 : (w10 3).toInt = (m9).toInt := by rw [ew10]; rfl
      have pn_71 : w10 3 = m9 := by rw [ew10, pk_us]
      have pw_71 := ew10
      have hZ10 : cw_Z w10 := by rw [ew10]; exact cw_Z_up hI8.2.2.1 _ _ (by omega)
      have hI10 : cw_I K nn dn q w10 e8 := ⟨hI8.1, by unfold cw_W; omega, hZ10, hI8.2.2.2⟩
      exact ⟨rfl, fun e9 => absurd e9 (by decide), rfl, w10, e8, v, f, rfl, hI10, hs, hx8, (w 3), rfl, by first | omega | (dsimp only; omega) | trivial, by exact fun i9 h9 => ⟨by rw [pw_71, pk_un (by omega)], by rw [pe_63, va_un (by omega), pe_55, va_un (by omega), pe_47, va_un (by omega), pe_39, va_un (by omega), pe_31, va_un (by omega)]⟩⟩
    · skip
      refine hC.1 1 16 _ _ rfl _ _ _ _ _ ?_
      have km1 : (-1 : Int32).toInt = -1 := rfl
      exact ⟨rfl, fun e9 => absurd e9 (by decide), rfl, w, e, v, f, rfl, hI, hs, rfl, (-1 : Int32), rfl, by first | omega | (dsimp only; omega) | trivial, by exact fun _ _ => ⟨rfl, rfl⟩⟩

set_option maxRecDepth 100000 in
set_option maxHeartbeats 2000000 in
theorem F_X10_ask (hI : cw_I K nn dn q w e) (hs : cw_S v f) (x1 : Int32) (x2 : Int32)  : pm_Mt l g 158 2 0 0 [.ref (q 0), .int x1, .int x2] (cw A0 g K nn dn q w e v f) (cw_Qt A0 g K nn dn q (fun r w2 e2 => e2 15 = e 15 ∧ (∃ x : Int32, r = some (.int x) ∧ (((w2 0).toInt = (w 0).toInt ∧ (w2 1).toInt = (w 1).toInt) ∧ ((∀ i9, 40 ≤ i9 → w2 i9 = w i9 ∧ e2 i9 = e i9)))))) := by
  refine mt_X10_ask rfl (fun J hC => ?_)
  have ro_nn : cw_ro K nn := hI.2.1.2.1
  have ro_dn : cw_ro K dn := hI.2.1.2.2.1
  have hu1 := hI.2.1
  unfold cw_W at hu1
  have rg_x1 := pm_rng x1
  have rg_x2 := pm_rng x2
  refine hC.1 0 0 _ _ rfl _ _ _ _ _ ?_
  refine Exists.intro _ (And.intro (cw_o0 hI.1) ?_)
  refine Exists.intro _ (And.intro (cw_o1 hI.1) ?_)
  refine And.intro (Exists.intro _ (cw_ro_o hI.1 ro_nn)) (Exists.intro _ (Exists.intro _ (Exists.intro _ (Exists.intro _ (And.intro (c_X7_hasName hI hs ro_nn x1 ) (And.intro rfl (fun r9 A9 h9 => ?_)))))))
  rcases h9 with ⟨y2, rfl, rfl, ⟨rfl, by2⟩ | ⟨rfl, by2⟩⟩
  · skip
    have k1 : (1 : Int32).toInt = 1 := rfl
    refine And.intro (fun c9 => absurd c9 (by decide)) (fun _ => ?_)
    refine And.intro (Exists.intro _ (cw_ro_o hI.1 ro_nn)) (Exists.intro _ (Exists.intro _ (Exists.intro _ (Exists.intro _ (And.intro (c_X7_hasName hI hs ro_nn x2 ) (And.intro rfl (fun r9 A9 h9 => ?_)))))))
    rcases h9 with ⟨y4, rfl, rfl, ⟨rfl, by4⟩ | ⟨rfl, by4⟩⟩
    · skip
      refine And.intro (fun c9 => absurd c9 (by decide)) (fun _ => ?_)
      refine Exists.intro _ (And.intro (cw_o0 hI.1) ?_)
      have km1 : (-1 : Int32).toInt = -1 := rfl
      refine And.intro (Exists.intro _ (cw_o9 hI.1)) (Exists.intro _ (Exists.intro _ (Exists.intro _ (Exists.intro _ (And.intro (F_X5_add hI hs (-1 : Int32) x1 x2 ) (And.intro rfl (fun r9 A9 h9 => ?_)))))))
      rcases h9 with ⟨w7, e7, v7, f7, rfl, hI7, hs7, hy7, y6, rfl, by6⟩
      have hx7 : e7 15 = e 15 := hy7.trans rfl
      have hu8 := hI7.2.1
      unfold cw_W at hu8
      have hb_31 := by6.2
      refine hC.1 2 38 _ _ rfl _ _ _ _ _ ?_
      exact ⟨rfl, fun e9 => absurd e9 (by decide), rfl, w7, e7, v7, f7, rfl, hI7, hs7, hx7, y6, rfl, by first | omega | (dsimp only; omega) | trivial, by first | (exact hb_31) | (exact fun _ _ => ⟨rfl, rfl⟩)⟩
    · skip
      have k0 : (0 : Int32).toInt = 0 := rfl
      refine And.intro (fun _ => ?_) (fun c9 => absurd c9 (by decide))
      refine hC.1 1 37 _ _ rfl _ _ _ _ _ ?_
      have km1 : (-1 : Int32).toInt = -1 := rfl
      refine hC.1 2 38 _ _ rfl _ _ _ _ _ ?_
      exact ⟨rfl, fun e9 => absurd e9 (by decide), rfl, w, e, v, f, rfl, hI, hs, rfl, (-1 : Int32), rfl, by first | omega | (dsimp only; omega) | trivial, by first | (exact hb_31) | (exact fun _ _ => ⟨rfl, rfl⟩)⟩
  · skip
    have k0 : (0 : Int32).toInt = 0 := rfl
    refine And.intro (fun _ => ?_) (fun c9 => absurd c9 (by decide))
    refine hC.1 1 37 _ _ rfl _ _ _ _ _ ?_
    have km1 : (-1 : Int32).toInt = -1 := rfl
    refine hC.1 2 38 _ _ rfl _ _ _ _ _ ?_
    exact ⟨rfl, fun e9 => absurd e9 (by decide), rfl, w, e, v, f, rfl, hI, hs, rfl, (-1 : Int32), rfl, by first | omega | (dsimp only; omega) | trivial, by first | (exact hb_31) | (exact fun _ _ => ⟨rfl, rfl⟩)⟩

set_option maxRecDepth 100000 in
set_option maxHeartbeats 2000000 in
theorem F_X10_askOf (hI : cw_I K nn dn q w e) (hs : cw_S v f) (x1 : Int32) (x2 : Int32) (x3 : Int32)  : pm_Mt l g 160 2 0 0 [.ref (q 0), .int x1, .int x2, .int x3] (cw A0 g K nn dn q w e v f) (cw_Qt A0 g K nn dn q (fun r w2 e2 => e2 15 = e 15 ∧ (∃ x : Int32, r = some (.int x) ∧ (((w2 0).toInt = (w 0).toInt ∧ (w2 1).toInt = (w 1).toInt) ∧ ((∀ i9, 40 ≤ i9 → w2 i9 = w i9 ∧ e2 i9 = e i9)))))) := by
  refine mt_X10_askOf rfl (fun J hC => ?_)
  have ro_nn : cw_ro K nn := hI.2.1.2.1
  have ro_dn : cw_ro K dn := hI.2.1.2.2.1
  have hu1 := hI.2.1
  unfold cw_W at hu1
  have rg_x1 := pm_rng x1
  have rg_x2 := pm_rng x2
  have rg_x3 := pm_rng x3
  refine hC.1 0 0 _ _ rfl _ _ _ _ _ ?_
  refine Exists.intro _ (And.intro (cw_o0 hI.1) ?_)
  refine And.intro (Exists.intro _ (cw_o1 hI.1)) (Exists.intro _ (Exists.intro _ (Exists.intro _ (Exists.intro _ (And.intro (c_X9_behind hI hs x1 ) (And.intro rfl (fun r9 A9 h9 => ?_)))))))
  rcases h9 with ⟨rfl, rfl | ⟨o3, rfl, ho3⟩⟩
  · skip
    refine hC.1 1 33 _ _ rfl _ _ _ _ _ ?_
    have km1 : (-1 : Int32).toInt = -1 := rfl
    exact ⟨rfl, fun e9 => absurd e9 (by decide), rfl, w, e, v, f, rfl, hI, hs, rfl, (-1 : Int32), rfl, by first | omega | (dsimp only; omega) | trivial, by first | (exact hb_42) | (exact fun _ _ => ⟨rfl, rfl⟩)⟩
  · skip
    refine And.intro (Exists.intro _ (cw_ro_o hI.1 ho3)) (Exists.intro _ (Exists.intro _ (Exists.intro _ (Exists.intro _ (And.intro (c_X7_hasName hI hs ho3 x2 ) (And.intro rfl (fun r9 A9 h9 => ?_)))))))
    rcases h9 with ⟨y4, rfl, rfl, ⟨rfl, by4⟩ | ⟨rfl, by4⟩⟩
    · skip
      have k1 : (1 : Int32).toInt = 1 := rfl
      refine And.intro (fun c9 => absurd c9 (by decide)) (fun _ => ?_)
      refine And.intro (Exists.intro _ (cw_ro_o hI.1 ho3)) (Exists.intro _ (Exists.intro _ (Exists.intro _ (Exists.intro _ (And.intro (c_X7_hasName hI hs ho3 x3 ) (And.intro rfl (fun r9 A9 h9 => ?_)))))))
      rcases h9 with ⟨y6, rfl, rfl, ⟨rfl, by6⟩ | ⟨rfl, by6⟩⟩
      · skip
        refine And.intro (fun _ => ?_) (fun c9 => absurd c9 (by decide))
        refine hC.1 2 35 _ _ rfl _ _ _ _ _ ?_
        refine Exists.intro _ (And.intro (cw_o0 hI.1) ?_)
        refine And.intro (Exists.intro _ (cw_o9 hI.1)) (Exists.intro _ (Exists.intro _ (Exists.intro _ (Exists.intro _ (And.intro (F_X5_add hI hs x1 x2 x3 ) (And.intro rfl (fun r9 A9 h9 => ?_)))))))
        rcases h9 with ⟨w9, e9, v9, f9, rfl, hI9, hs9, hy9, y8, rfl, by8⟩
        have hx9 : e9 15 = e 15 := hy9.trans rfl
        have hu10 := hI9.2.1
        unfold cw_W at hu10
        have hb_42 := by8.2
        exact ⟨rfl, fun e9 => absurd e9 (by decide), rfl, w9, e9, v9, f9, rfl, hI9, hs9, hx9, y8, rfl, by first | omega | (dsimp only; omega) | trivial, by first | (exact hb_42) | (exact fun _ _ => ⟨rfl, rfl⟩)⟩
      · skip
        have k0 : (0 : Int32).toInt = 0 := rfl
        refine And.intro (fun c9 => absurd c9 (by decide)) (fun _ => ?_)
        refine hC.1 1 33 _ _ rfl _ _ _ _ _ ?_
        have km1 : (-1 : Int32).toInt = -1 := rfl
        exact ⟨rfl, fun e9 => absurd e9 (by decide), rfl, w, e, v, f, rfl, hI, hs, rfl, (-1 : Int32), rfl, by first | omega | (dsimp only; omega) | trivial, by first | (exact hb_42) | (exact fun _ _ => ⟨rfl, rfl⟩)⟩
    · skip
      have k0 : (0 : Int32).toInt = 0 := rfl
      refine And.intro (fun _ => ?_) (fun c9 => absurd c9 (by decide))
      refine hC.1 1 33 _ _ rfl _ _ _ _ _ ?_
      have km1 : (-1 : Int32).toInt = -1 := rfl
      exact ⟨rfl, fun e9 => absurd e9 (by decide), rfl, w, e, v, f, rfl, hI, hs, rfl, (-1 : Int32), rfl, by first | omega | (dsimp only; omega) | trivial, by first | (exact hb_42) | (exact fun _ _ => ⟨rfl, rfl⟩)⟩

set_option maxRecDepth 100000 in
set_option maxHeartbeats 2000000 in
theorem F_X10_forget (hI : cw_I K nn dn q w e) (hs : cw_S v f)   : pm_Mt l g 165 0 0 0 [.ref (q 0)] (cw A0 g K nn dn q w e v f) (cw_Qt A0 g K nn dn q (fun r w2 e2 => e2 15 = e 15 ∧ (∃ x : Int32, r = some (.int x) ∧ (((w2 0).toInt = (w 0).toInt ∧ (w2 1).toInt = (w 1).toInt) ∧ ((∀ i9, 40 ≤ i9 → w2 i9 = w i9 ∧ e2 i9 = e i9)))))) := by
  refine mt_X10_forget rfl (fun J hC => ?_)
  have ro_nn : cw_ro K nn := hI.2.1.2.1
  have ro_dn : cw_ro K dn := hI.2.1.2.2.1
  have hu1 := hI.2.1
  unfold cw_W at hu1
  refine hC.1 0 0 _ _ rfl _ _ _ _ _ ?_
  refine Exists.intro _ (And.intro (cw_o0 hI.1) ?_)
  refine Exists.intro _ (And.intro (cw_o9 hI.1) ?_)
  refine Exists.intro _ (And.intro (cw_o0 hI.1) ?_)
  have k0 : (0 : Int32).toInt = 0 := rfl
  refine Exists.intro _ (And.intro (cw_o9 hI.1) (And.intro rfl ?_))
  rw [cw_p_number hI.1]
  obtain ⟨w2, ew2⟩ : ∃ z9, z9 = upd w 3 (0 : Int32) := ⟨_, rfl⟩
  rw [← ew2]
  have ew2_0 : (w2 0).toInt = (w 0).toInt := by rw [ew2]; rfl
  have ew2_1 : (w2 1).toInt = (w 1).toInt := by rw [ew2]; rfl
  have ew2_2 : (w2 2).toInt = (w 2).toInt := by rw [ew2]; rfl
  have ew2_3 : (w2 3).toInt = ((0 : Int32)).toInt := by rw [ew2]; rfl
  have pn_13 : w2 3 = (0 : Int32) := by rw [ew2, pk_us]
  have pw_13 := ew2
  have hZ2 : cw_Z w2 := by rw [ew2]; exact cw_Z_up hI.2.2.1 _ _ (by omega)
  have hI2 : cw_I K nn dn q w2 e := ⟨hI.1, by unfold cw_W; omega, hZ2, hI.2.2.2⟩
  exact ⟨rfl, fun e9 => absurd e9 (by decide), rfl, w2, e, v, f, rfl, hI2, hs, rfl, (w 3), rfl, by first | omega | (dsimp only; omega) | trivial, by exact fun i9 h9 => ⟨by rw [pw_13, pk_un (by omega)], rfl⟩⟩

end
end
section
section
variable {l : Launch} {g : pm_G} {A0 : pm_H} {K nn dn : Nat} {q : Nat → Nat} {w : Nat → Int32} {e : Nat → Nat → Int32} {v : Nat → Int32} {f : Nat → Nat → Int32}
set_option maxRecDepth 100000 in
set_option maxHeartbeats 2000000 in
theorem F_X5_answer (hI : cw_I K nn dn q w e) (hs : cw_S v f) (x1 : Int32) {o2 : Nat} (ho2 : cw_ro K o2) (p0 : 0 ≤ x1.toInt ∧ x1.toInt < 30) : pm_Mt l g 162 3 0 0 [.ref (q 9), .int x1, .ref (q o2), .ref (q 2)] (cw A0 g K nn dn q w e v f) (cw_Qt A0 g K nn dn q (fun r w2 e2 => e2 15 = e 15 ∧ ((r = some (.int 1) ∧ (((w2 0).toInt = (w 0).toInt ∧ (w2 1).toInt = (w 1).toInt ∧ (w2 3).toInt = (w 3).toInt) ∧ ((∀ i9, 40 ≤ i9 → w2 i9 = w i9 ∧ e2 i9 = e i9)))) ∨ (r = some (.int 0) ∧ (((w2 0).toInt = (w 0).toInt ∧ (w2 1).toInt = (w 1).toInt ∧ (w2 3).toInt = (w 3).toInt) ∧ ((∀ i9, 40 ≤ i9 → w2 i9 = w i9 ∧ e2 i9 = e i9))))))) := by
  refine mt_X5_answer rfl (fun J hC => ?_)
  have ro_nn : cw_ro K nn := hI.2.1.2.1
  have ro_dn : cw_ro K dn := hI.2.1.2.2.1
  have hu1 := hI.2.1
  unfold cw_W at hu1
  have rg_x1 := pm_rng x1
  refine hC.1 0 0 _ _ rfl _ _ _ _ _ ?_
  refine Exists.intro _ (And.intro (cw_o9 hI.1) ?_)
  have km1 : (-1 : Int32).toInt = -1 := rfl
  refine Exists.intro _ (Exists.intro _ (And.intro (cw_a37 hI.1) (And.intro (by omega) ?_)))
  rw [cw_s37 hI.1]
  obtain ⟨e2, ee2⟩ : ∃ z9, z9 = va_up e 37 (upd (e 37) (x1).toInt.toNat (-1 : Int32)) := ⟨_, rfl⟩
  rw [← ee2]
  have hI2 : cw_I K nn dn q w e2 := ⟨hI.1, hI.2.1, hI.2.2.1, by rw [ee2]; exact cw_E_up hI.2.2.2 _ _ (fun h9 _ => absurd h9 (by decide)) (fun h9 _ => absurd h9 (by decide))⟩
  have hx2 : e2 15 = e 15 := (show e2 15 = e 15 by rw [ee2]; exact if_neg (by omega)).trans rfl
  have pe_6 := ee2
  refine Exists.intro _ (And.intro (cw_o9 hI2.1) ?_)
  refine Exists.intro _ (Exists.intro _ (And.intro (cw_a38 hI2.1) (And.intro (by omega) ?_)))
  rw [cw_s38 hI2.1]
  obtain ⟨e3, ee3⟩ : ∃ z9, z9 = va_up e2 38 (upd (e2 38) (x1).toInt.toNat (-1 : Int32)) := ⟨_, rfl⟩
  rw [← ee3]
  have hI3 : cw_I K nn dn q w e3 := ⟨hI2.1, hI2.2.1, hI2.2.2.1, by rw [ee3]; exact cw_E_up hI2.2.2.2 _ _ (fun h9 _ => absurd h9 (by decide)) (fun h9 _ => absurd h9 (by decide))⟩
  have hx3 : e3 15 = e 15 := (show e3 15 = e2 15 by rw [ee3]; exact if_neg (by omega)).trans hx2
  have pe_13 := ee3
  refine hC.1 1 20 _ _ rfl _ _ _ _ _ ?_
  refine Exists.intro _ (And.intro (cw_o9 hI3.1) ?_)
  refine Exists.intro _ (Exists.intro _ (And.intro (Or.inl (cw_a35 hI3.1)) (And.intro (by omega) ?_)))
  refine And.intro (Exists.intro _ (cw_ro_o hI3.1 ho2)) (Exists.intro _ (Exists.intro _ (Exists.intro _ (Exists.intro _ (And.intro (F_X7_placeOf hI3 hs ho2 (e3 35 (x1).toInt.toNat) ) (And.intro rfl (fun r9 A9 h9 => ?_)))))))
  obtain ⟨y4, rfl, rfl, by4⟩ := h9
  refine Exists.intro _ (And.intro (cw_o9 hI3.1) ?_)
  refine Exists.intro _ (Exists.intro _ (And.intro (Or.inl (cw_a36 hI3.1)) (And.intro (by omega) ?_)))
  refine And.intro (Exists.intro _ (cw_ro_o hI3.1 ho2)) (Exists.intro _ (Exists.intro _ (Exists.intro _ (Exists.intro _ (And.intro (F_X7_placeOf hI3 hs ho2 (e3 36 (x1).toInt.toNat) ) (And.intro rfl (fun r9 A9 h9 => ?_)))))))
  obtain ⟨y6, rfl, rfl, by6⟩ := h9
  refine And.intro (fun c8 => ?_) (fun c8 => ?_)
  · skip
    have dc8 : (y4).toInt = ((-1 : Int32) : Int32).toInt := congrArg Int32.toInt c8
    refine hC.1 2 56 _ _ rfl _ _ _ _ _ ?_
    have k0 : (0 : Int32).toInt = 0 := rfl
    exact ⟨rfl, fun _ => (by decide), rfl, w, e3, v, f, rfl, hI3, hs, hx3, Or.inr ⟨rfl, by first | omega | (dsimp only; omega) | trivial, by exact fun i9 h9 => ⟨rfl, by rw [pe_13, va_un (by omega), pe_6, va_un (by omega)]⟩⟩⟩
  · skip
    have dc8 := pm_neI c8
    refine And.intro (fun c9 => ?_) (fun c9 => ?_)
    · skip
      have dc9 := pm_neI c9
      refine hC.1 3 58 _ _ rfl _ _ _ _ _ ?_
      refine Exists.intro _ (Exists.intro _ (Exists.intro _ (Exists.intro _ (And.intro (c_J9_min_7cf53 (cw A0 g K nn dn q w e3 v f) y4 y6 ) (And.intro rfl (fun r9 A9 h9 => ?_))))))
      obtain ⟨y10, rfl, rfl, by10⟩ := h9
      refine Exists.intro _ (Exists.intro _ (Exists.intro _ (Exists.intro _ (And.intro (c_J9_max_7cf53 (cw A0 g K nn dn q w e3 v f) y4 y6 ) (And.intro rfl (fun r9 A9 h9 => ?_))))))
      obtain ⟨y12, rfl, rfl, by12⟩ := h9
      refine And.intro (Exists.intro _ (cw_o2 hI3.1)) (Exists.intro _ (Exists.intro _ (Exists.intro _ (Exists.intro _ (And.intro (c_X2_read hI3 hs ho2 y10 y12 ) (And.intro rfl (fun r9 A9 h9 => ?_)))))))
      rcases h9 with ⟨v15, f15, rfl, hs15, rfl, by14⟩
      refine Exists.intro _ (And.intro (cw_o9 hI3.1) ?_)
      refine Exists.intro _ (And.intro (cw_o2 hI3.1) ?_)
      refine Exists.intro _ (Exists.intro _ (And.intro (cw_a37 hI3.1) (And.intro (by omega) ?_)))
      rw [cw_s37 hI3.1]
      obtain ⟨e16, ee16⟩ : ∃ z9, z9 = va_up e3 37 (upd (e3 37) (x1).toInt.toNat (v15 2)) := ⟨_, rfl⟩
      rw [← ee16]
      have hI16 : cw_I K nn dn q w e16 := ⟨hI3.1, hI3.2.1, hI3.2.2.1, by rw [ee16]; exact cw_E_up hI3.2.2.2 _ _ (fun h9 _ => absurd h9 (by decide)) (fun h9 _ => absurd h9 (by decide))⟩
      have hx16 : e16 15 = e 15 := (show e16 15 = e3 15 by rw [ee16]; exact if_neg (by omega)).trans hx3
      have pe_86 := ee16
      refine Exists.intro _ (And.intro (cw_o9 hI16.1) ?_)
      refine Exists.intro _ (And.intro (cw_o2 hI16.1) ?_)
      refine Exists.intro _ (Exists.intro _ (And.intro (cw_a38 hI16.1) (And.intro (by omega) ?_)))
      rw [cw_s38 hI16.1]
      obtain ⟨e17, ee17⟩ : ∃ z9, z9 = va_up e16 38 (upd (e16 38) (x1).toInt.toNat (v15 4)) := ⟨_, rfl⟩
      rw [← ee17]
      have hI17 : cw_I K nn dn q w e17 := ⟨hI16.1, hI16.2.1, hI16.2.2.1, by rw [ee17]; exact cw_E_up hI16.2.2.2 _ _ (fun h9 _ => absurd h9 (by decide)) (fun h9 _ => absurd h9 (by decide))⟩
      have hx17 : e17 15 = e 15 := (show e17 15 = e16 15 by rw [ee17]; exact if_neg (by omega)).trans hx16
      have pe_96 := ee17
      have k1 : (1 : Int32).toInt = 1 := rfl
      exact ⟨rfl, fun _ => (by decide), rfl, w, e17, v15, f15, rfl, hI17, hs15, hx17, Or.inl ⟨rfl, by first | omega | (dsimp only; omega) | trivial, by exact fun i9 h9 => ⟨rfl, by rw [pe_96, va_un (by omega), pe_86, va_un (by omega), pe_13, va_un (by omega), pe_6, va_un (by omega)]⟩⟩⟩
    · skip
      have dc9 : (y6).toInt = ((-1 : Int32) : Int32).toInt := congrArg Int32.toInt c9
      refine hC.1 2 56 _ _ rfl _ _ _ _ _ ?_
      have k0 : (0 : Int32).toInt = 0 := rfl
      exact ⟨rfl, fun _ => (by decide), rfl, w, e3, v, f, rfl, hI3, hs, hx3, Or.inr ⟨rfl, by first | omega | (dsimp only; omega) | trivial, by exact fun i9 h9 => ⟨rfl, by rw [pe_13, va_un (by omega), pe_6, va_un (by omega)]⟩⟩⟩

set_option maxRecDepth 100000 in
set_option maxHeartbeats 2000000 in
theorem F_X5_answer__n (hI : cw_I K nn dn q w e) (hs : cw_S v f) (x1 : Int32) (p0 : 0 ≤ x1.toInt ∧ x1.toInt < 30) : pm_Mt l g 162 3 0 0 [.ref (q 9), .int x1, .null, .ref (q 2)] (cw A0 g K nn dn q w e v f) (cw_Qt A0 g K nn dn q (fun r w2 e2 => e2 15 = e 15 ∧ ((r = some (.int 1) ∧ (((w2 0).toInt = (w 0).toInt ∧ (w2 1).toInt = (w 1).toInt ∧ (w2 3).toInt = (w 3).toInt) ∧ ((∀ i9, 40 ≤ i9 → w2 i9 = w i9 ∧ e2 i9 = e i9)))) ∨ (r = some (.int 0) ∧ (((w2 0).toInt = (w 0).toInt ∧ (w2 1).toInt = (w 1).toInt ∧ (w2 3).toInt = (w 3).toInt) ∧ ((∀ i9, 40 ≤ i9 → w2 i9 = w i9 ∧ e2 i9 = e i9))))))) := by
  refine mt_X5_answer rfl (fun J hC => ?_)
  have ro_nn : cw_ro K nn := hI.2.1.2.1
  have ro_dn : cw_ro K dn := hI.2.1.2.2.1
  have hu1 := hI.2.1
  unfold cw_W at hu1
  have rg_x1 := pm_rng x1
  refine hC.1 0 0 _ _ rfl _ _ _ _ _ ?_
  refine Exists.intro _ (And.intro (cw_o9 hI.1) ?_)
  have km1 : (-1 : Int32).toInt = -1 := rfl
  refine Exists.intro _ (Exists.intro _ (And.intro (cw_a37 hI.1) (And.intro (by omega) ?_)))
  rw [cw_s37 hI.1]
  obtain ⟨e2, ee2⟩ : ∃ z9, z9 = va_up e 37 (upd (e 37) (x1).toInt.toNat (-1 : Int32)) := ⟨_, rfl⟩
  rw [← ee2]
  have hI2 : cw_I K nn dn q w e2 := ⟨hI.1, hI.2.1, hI.2.2.1, by rw [ee2]; exact cw_E_up hI.2.2.2 _ _ (fun h9 _ => absurd h9 (by decide)) (fun h9 _ => absurd h9 (by decide))⟩
  have hx2 : e2 15 = e 15 := (show e2 15 = e 15 by rw [ee2]; exact if_neg (by omega)).trans rfl
  have pe_6 := ee2
  refine Exists.intro _ (And.intro (cw_o9 hI2.1) ?_)
  refine Exists.intro _ (Exists.intro _ (And.intro (cw_a38 hI2.1) (And.intro (by omega) ?_)))
  rw [cw_s38 hI2.1]
  obtain ⟨e3, ee3⟩ : ∃ z9, z9 = va_up e2 38 (upd (e2 38) (x1).toInt.toNat (-1 : Int32)) := ⟨_, rfl⟩
  rw [← ee3]
  have hI3 : cw_I K nn dn q w e3 := ⟨hI2.1, hI2.2.1, hI2.2.2.1, by rw [ee3]; exact cw_E_up hI2.2.2.2 _ _ (fun h9 _ => absurd h9 (by decide)) (fun h9 _ => absurd h9 (by decide))⟩
  have hx3 : e3 15 = e 15 := (show e3 15 = e2 15 by rw [ee3]; exact if_neg (by omega)).trans hx2
  have pe_13 := ee3
  have k0 : (0 : Int32).toInt = 0 := rfl
  exact ⟨rfl, fun _ => (by decide), rfl, w, e3, v, f, rfl, hI3, hs, hx3, Or.inr ⟨rfl, by first | omega | (dsimp only; omega) | trivial, by exact fun i9 h9 => ⟨rfl, by rw [pe_13, va_un (by omega), pe_6, va_un (by omega)]⟩⟩⟩

set_option maxRecDepth 100000 in
set_option maxHeartbeats 2000000 in
theorem F_X10_solve (hI : cw_I K nn dn q w e) (hs : cw_S v f)   : pm_Mt l g 161 4 0 0 [.ref (q 0)] (cw A0 g K nn dn q w e v f) (cw_Qt A0 g K nn dn q (fun r w2 e2 => e2 15 = e 15 ∧ (∃ x : Int32, r = some (.int x) ∧ (((w2 0).toInt = (w 0).toInt ∧ (w2 1).toInt = (w 1).toInt ∧ (w2 3).toInt = (w 3).toInt) ∧ ((∀ i9, 40 ≤ i9 → w2 i9 = w i9 ∧ e2 i9 = e i9)))))) := by
  refine mt_X10_solve rfl (fun J hC => ?_)
  have ro_nn : cw_ro K nn := hI.2.1.2.1
  have ro_dn : cw_ro K dn := hI.2.1.2.2.1
  have hu1 := hI.2.1
  unfold cw_W at hu1
  refine hC.1 0 0 _ _ rfl _ _ _ _ _ ?_
  have k0 : (0 : Int32).toInt = 0 := rfl
  have lp3 : ∀ (n : Nat) (z1_4 : Int32) (z2_4 : Int32) (w2 : Nat → Int32) (e2 : Nat → Nat → Int32) (v2 : Nat → Int32) (f2 : Nat → Nat → Int32), cw_I K nn dn q w2 e2 → e2 15 = e 15 → cw_S v2 f2 → (0 ≤ z2_4.toInt ∧ z2_4.toInt ≤ 30) → ((∀ i9, 40 ≤ i9 → w2 i9 = w i9 ∧ e2 i9 = e i9)) → (w2 0).toInt = (w 0).toInt → (w2 1).toInt = (w 1).toInt → (w2 3).toInt = (w 3).toInt → 200 - z2_4.toInt < (n : Int) → J 4 [some (.ref (q 0)), some (.int z1_4), some (.int z2_4), none, none] [] (cw A0 g K nn dn q w2 e2 v2 f2) 0 0 := by
    intro n
    induction n with
    | zero =>
      intro z1_4 z2_4 w2 e2 v2 f2 hI2 hx2 hs2 j0_4 j1_4 j2_4 j3_4 j4_4 j5_4
      omega
    | succ n ih4 =>
      intro z1_4 z2_4 w2 e2 v2 f2 hI2 hx2 hs2 j0_4 j1_4 j2_4 j3_4 j4_4 j5_4
      have hu5 := hI2.2.1
      unfold cw_W at hu5
      refine hC.1 1 4 _ _ rfl _ _ _ _ _ ?_
      refine Exists.intro _ (And.intro (cw_o0 hI2.1) ?_)
      refine Exists.intro _ (And.intro (cw_o9 hI2.1) ?_)
      refine And.intro (fun c6 => ?_) (fun c6 => ?_)
      · skip
        refine hC.1 5 76 _ _ rfl _ _ _ _ _ ?_
        exact ⟨rfl, fun e9 => absurd e9 (by decide), rfl, w2, e2, v2, f2, rfl, hI2, hs2, hx2, z1_4, rfl, by first | omega | (dsimp only; omega) | trivial, by exact j1_4⟩
      · skip
        refine Exists.intro _ (And.intro (cw_o0 hI2.1) ?_)
        refine Exists.intro _ (And.intro (cw_o9 hI2.1) ?_)
        refine Exists.intro _ (Exists.intro _ (And.intro (Or.inl (cw_a39 hI2.1)) (And.intro (by omega) ?_)))
        have km1 : (-1 : Int32).toInt = -1 := rfl
        refine And.intro (fun c7 => ?_) (fun c7 => ?_)
        · skip
          have dc7 := pm_neI c7
          refine hC.1 2 40 _ _ rfl _ _ _ _ _ ?_
          refine Exists.intro _ (And.intro (cw_o0 hI2.1) ?_)
          refine And.intro (Exists.intro _ (cw_o1 hI2.1)) (Exists.intro _ (Exists.intro _ (Exists.intro _ (Exists.intro _ (And.intro (c_X9_behind hI2 hs2 (e2 39 (z2_4).toInt.toNat) ) (And.intro rfl (fun r9 A9 h9 => ?_)))))))
          rcases h9 with ⟨rfl, rfl | ⟨o9, rfl, ho9⟩⟩
          · skip
            refine hC.1 3 48 _ _ rfl _ _ _ _ _ ?_
            refine Exists.intro _ (And.intro (cw_o0 hI2.1) ?_)
            refine Exists.intro _ (And.intro (cw_o0 hI2.1) ?_)
            refine And.intro (Exists.intro _ (cw_o9 hI2.1)) (Exists.intro _ (Exists.intro _ (Exists.intro _ (Exists.intro _ (And.intro (F_X5_answer__n hI2 hs2 z2_4 (by omega)) (And.intro rfl (fun r9 A9 h9 => ?_)))))))
            rcases h9 with ⟨w11, e11, v11, f11, rfl, hI11, hs11, hy11, hzy10⟩
            have hx11 : e11 15 = e 15 := hy11.trans hx2
            have hu12 := hI11.2.1
            unfold cw_W at hu12
            rcases hzy10 with ⟨rfl, by10⟩ | ⟨rfl, by10⟩
            · skip
              have k1 : (1 : Int32).toInt = 1 := rfl
              have hb_61 := by10.2
              refine And.intro (fun c9 => absurd c9 (by decide)) (fun _ => ?_)
              intro m13 em_67
              try have e13 : m13.toInt = (z1_4).toInt + (1) := by rw [em_67]; exact pm_addc _ _ (1) rfl (by omega) (by omega)
              refine hC.1 4 70 _ _ rfl _ _ _ _ _ ?_
              intro m14 em_70
              try have e14 : m14.toInt = (z2_4).toInt + (1) := by rw [em_70]; exact pm_addc _ _ (1) rfl (by omega) (by omega)
              exact hC.2 [false, false, false, true, true] _ _ _ _ _ _ (ih4 m13 m14 w11 e11 v11 f11 hI11 hx11 hs11 (by omega) (by exact fun i9 h9 => ⟨(hb_61 i9 h9).1.trans (j1_4 i9 h9).1, (hb_61 i9 h9).2.trans (j1_4 i9 h9).2⟩) (by omega) (by omega) (by omega) (by omega))
            · skip
              have hb_61 := by10.2
              refine And.intro (fun _ => ?_) (fun c9 => absurd c9 (by decide))
              refine hC.1 4 70 _ _ rfl _ _ _ _ _ ?_
              have k1 : (1 : Int32).toInt = 1 := rfl
              intro m15 em_70
              try have e15 : m15.toInt = (z2_4).toInt + (1) := by rw [em_70]; exact pm_addc _ _ (1) rfl (by omega) (by omega)
              exact hC.2 [false, false, false, true, true] _ _ _ _ _ _ (ih4 z1_4 m15 w11 e11 v11 f11 hI11 hx11 hs11 (by omega) (by exact fun i9 h9 => ⟨(hb_61 i9 h9).1.trans (j1_4 i9 h9).1, (hb_61 i9 h9).2.trans (j1_4 i9 h9).2⟩) (by omega) (by omega) (by omega) (by omega))
          · skip
            refine hC.1 3 48 _ _ rfl _ _ _ _ _ ?_
            refine Exists.intro _ (And.intro (cw_o0 hI2.1) ?_)
            refine Exists.intro _ (And.intro (cw_o0 hI2.1) ?_)
            refine And.intro (Exists.intro _ (cw_o9 hI2.1)) (Exists.intro _ (Exists.intro _ (Exists.intro _ (Exists.intro _ (And.intro (F_X5_answer hI2 hs2 z2_4 ho9 (by omega)) (And.intro rfl (fun r9 A9 h9 => ?_)))))))
            rcases h9 with ⟨w17, e17, v17, f17, rfl, hI17, hs17, hy17, hzy16⟩
            have hx17 : e17 15 = e 15 := hy17.trans hx2
            have hu18 := hI17.2.1
            unfold cw_W at hu18
            rcases hzy16 with ⟨rfl, by16⟩ | ⟨rfl, by16⟩
            · skip
              have k1 : (1 : Int32).toInt = 1 := rfl
              have hb_61 := by16.2
              refine And.intro (fun c9 => absurd c9 (by decide)) (fun _ => ?_)
              intro m19 em_67
              try have e19 : m19.toInt = (z1_4).toInt + (1) := by rw [em_67]; exact pm_addc _ _ (1) rfl (by omega) (by omega)
              refine hC.1 4 70 _ _ rfl _ _ _ _ _ ?_
              intro m20 em_70
              try have e20 : m20.toInt = (z2_4).toInt + (1) := by rw [em_70]; exact pm_addc _ _ (1) rfl (by omega) (by omega)
              exact hC.2 [false, false, false, true, true] _ _ _ _ _ _ (ih4 m19 m20 w17 e17 v17 f17 hI17 hx17 hs17 (by omega) (by exact fun i9 h9 => ⟨(hb_61 i9 h9).1.trans (j1_4 i9 h9).1, (hb_61 i9 h9).2.trans (j1_4 i9 h9).2⟩) (by omega) (by omega) (by omega) (by omega))
            · skip
              have hb_61 := by16.2
              refine And.intro (fun _ => ?_) (fun c9 => absurd c9 (by decide))
              refine hC.1 4 70 _ _ rfl _ _ _ _ _ ?_
              have k1 : (1 : Int32).toInt = 1 := rfl
              intro m21 em_70
              try have e21 : m21.toInt = (z2_4).toInt + (1) := by rw [em_70]; exact pm_addc _ _ (1) rfl (by omega) (by omega)
              exact hC.2 [false, false, false, true, true] _ _ _ _ _ _ (ih4 z1_4 m21 w17 e17 v17 f17 hI17 hx17 hs17 (by omega) (by exact fun i9 h9 => ⟨(hb_61 i9 h9).1.trans (j1_4 i9 h9).1, (hb_61 i9 h9).2.trans (j1_4 i9 h9).2⟩) (by omega) (by omega) (by omega) (by omega))
        · skip
          have dc7 : ((e2 39 (z2_4).toInt.toNat)).toInt = ((-1 : Int32) : Int32).toInt := congrArg Int32.toInt c7
          refine Exists.intro _ (And.intro (cw_o0 hI2.1) ?_)
          refine Exists.intro _ (And.intro (cw_o1 hI2.1) ?_)
          refine hC.1 3 48 _ _ rfl _ _ _ _ _ ?_
          refine Exists.intro _ (And.intro (cw_o0 hI2.1) ?_)
          refine Exists.intro _ (And.intro (cw_o0 hI2.1) ?_)
          refine And.intro (Exists.intro _ (cw_o9 hI2.1)) (Exists.intro _ (Exists.intro _ (Exists.intro _ (Exists.intro _ (And.intro (F_X5_answer hI2 hs2 z2_4 ro_nn (by omega)) (And.intro rfl (fun r9 A9 h9 => ?_)))))))
          rcases h9 with ⟨w23, e23, v23, f23, rfl, hI23, hs23, hy23, hzy22⟩
          have hx23 : e23 15 = e 15 := hy23.trans hx2
          have hu24 := hI23.2.1
          unfold cw_W at hu24
          rcases hzy22 with ⟨rfl, by22⟩ | ⟨rfl, by22⟩
          · skip
            have k1 : (1 : Int32).toInt = 1 := rfl
            have hb_61 := by22.2
            refine And.intro (fun c9 => absurd c9 (by decide)) (fun _ => ?_)
            intro m25 em_67
            try have e25 : m25.toInt = (z1_4).toInt + (1) := by rw [em_67]; exact pm_addc _ _ (1) rfl (by omega) (by omega)
            refine hC.1 4 70 _ _ rfl _ _ _ _ _ ?_
            intro m26 em_70
            try have e26 : m26.toInt = (z2_4).toInt + (1) := by rw [em_70]; exact pm_addc _ _ (1) rfl (by omega) (by omega)
            exact hC.2 [false, false, false, true, true] _ _ _ _ _ _ (ih4 m25 m26 w23 e23 v23 f23 hI23 hx23 hs23 (by omega) (by exact fun i9 h9 => ⟨(hb_61 i9 h9).1.trans (j1_4 i9 h9).1, (hb_61 i9 h9).2.trans (j1_4 i9 h9).2⟩) (by omega) (by omega) (by omega) (by omega))
          · skip
            have hb_61 := by22.2
            refine And.intro (fun _ => ?_) (fun c9 => absurd c9 (by decide))
            refine hC.1 4 70 _ _ rfl _ _ _ _ _ ?_
            have k1 : (1 : Int32).toInt = 1 := rfl
            intro m27 em_70
            try have e27 : m27.toInt = (z2_4).toInt + (1) := by rw [em_70]; exact pm_addc _ _ (1) rfl (by omega) (by omega)
            exact hC.2 [false, false, false, true, true] _ _ _ _ _ _ (ih4 z1_4 m27 w23 e23 v23 f23 hI23 hx23 hs23 (by omega) (by exact fun i9 h9 => ⟨(hb_61 i9 h9).1.trans (j1_4 i9 h9).1, (hb_61 i9 h9).2.trans (j1_4 i9 h9).2⟩) (by omega) (by omega) (by omega) (by omega))
  exact lp3 (200 - (0 : Int32).toInt).toNat.succ (0 : Int32) (0 : Int32) w e v f hI rfl hs (by omega) (by exact fun _ _ => ⟨rfl, rfl⟩) (by omega) (by omega) (by omega) (by omega)

end
end
section
/-! every name is 0 or more, kept by each edit -/
def nm0 (L : List pl_P) : Prop := ∀ p ∈ L, 0 ≤ p.2.toInt
theorem nm_si {L : List pl_P} (h : nm0 L) (a b : Int) : nm0 (si L a b) := fun p hp => h p (List.mem_of_mem_drop (List.mem_of_mem_take hp))
theorem nm_app {A B : List pl_P} (hA : nm0 A) (hB : nm0 B) : nm0 (A ++ B) := fun p hp => (List.mem_append.mp hp).elim (hA p) (hB p)
theorem nm_rev {A : List pl_P} (h : nm0 A) : nm0 A.reverse := fun p hp => h p (List.mem_reverse.mp hp)
theorem nm_flt {A : List pl_P} (h : nm0 A) (g : pl_P → Bool) : nm0 (A.filter g) := fun p hp => h p (List.mem_filter.mp hp).1
theorem nm_map {A : List pl_P} (h : nm0 A) (g : Int32 → Int32) : nm0 (A.map (fun p => (g p.1, p.2))) := fun p hp => by
  obtain ⟨q, hq, rfl⟩ := List.mem_map.mp hp
  exact h q hq
theorem nm_st {A : List pl_P} (h : nm0 A) : ∀ c, nm0 (st_l A c)
  | 0 => fun _ hp => absurd hp List.not_mem_nil
  | c + 1 => nm_app (nm_st h c) (nm_flt h _)
theorem nm_nw : ∀ (cs : List Int32) (g : Int32), 0 ≤ g.toInt → g.toInt + (cs.length : Int) < 2147483647 → nm0 (nw_l g cs)
  | [], _, _, _ => fun _ hp => absurd hp List.not_mem_nil
  | c :: r, g, h0, hb => by
    have h1 : ((c :: r).length : Int) = (r.length : Int) + 1 := by simp
    have h2 : (g + 1).toInt = g.toInt + 1 := pm_addc g 1 1 rfl (by omega) (by omega)
    intro p hp
    rcases List.mem_cons.mp hp with h | h
    · rw [h]; exact h0
    · exact nm_nw r (g + 1) (by omega) (by omega) p h
theorem nm_cut {L : List pl_P} {l r : Int32} (h : nm0 L) : nm0 ((ed_cut L l r).getD L) := by
  unfold ed_cut
  split
  · exact nm_app (nm_si h _ _) (nm_si h _ _)
  · exact h
theorem nm_insert {L : List pl_P} {g p c : Int32} (h : nm0 L) (hg : 0 ≤ g.toInt) : nm0 ((ed_insert L g p c).getD L) := by
  unfold ed_insert
  split
  · exact nm_app (nm_app (nm_si h _ _) (fun q hq => by rw [List.mem_singleton.mp hq]; exact hg)) (nm_si h _ _)
  · exact h
theorem nm_shift {L : List pl_P} {l r n : Int32} (h : nm0 L) : nm0 ((ed_shift L l r n).getD L) := by
  unfold ed_shift
  split
  · exact nm_app (nm_app (nm_app (nm_si h _ _) (nm_si h _ _)) (nm_si h _ _)) (nm_si h _ _)
  · exact h
theorem nm_swap {L : List pl_P} {l r f t : Int32} (h : nm0 L) : nm0 ((ed_swap L l r f t).getD L) := by
  have k : ∀ a b c d : Int, nm0 (sw_l L a b c d) := fun a b c d => nm_app (nm_app (nm_app (nm_app (nm_si h _ _) (nm_si h _ _)) (nm_si h _ _)) (nm_si h _ _)) (nm_si h _ _)
  unfold ed_swap
  split
  · show nm0 (if _ then _ else _)
    split
    · exact k _ _ _ _
    · exact k _ _ _ _
  · exact h
theorem nm_turn {L : List pl_P} {l r : Int32} (h : nm0 L) : nm0 ((ed_turn L l r).getD L) := by
  unfold ed_turn
  split
  · exact nm_app (nm_app (nm_si h _ _) (nm_rev (nm_si h _ _))) (nm_si h _ _)
  · exact h
theorem nm_copy {L : List pl_P} {g l r p : Int32} (h : nm0 L) (hg : 0 ≤ g.toInt) : nm0 ((ed_copy L g l r p).getD L) := by
  unfold ed_copy
  split
  · rename_i hc
    exact nm_app (nm_app (nm_si h _ _) (nm_nw _ _ hg (by rw [List.length_map, si_len (by omega) (by omega) (by omega)]; omega))) (nm_si h _ _)
  · exact h
theorem nm_draw {L : List pl_P} {g s n k : Int32} (h : nm0 L) (hg : 0 ≤ g.toInt) : nm0 ((ed_draw L g s n k).getD L) := by
  unfold ed_draw
  split
  · rename_i hc
    exact nm_app h (nm_nw _ _ hg (by rw [dr_len]; omega))
  · exact h
theorem nm_sort {L : List pl_P} {l r : Int32} (h : nm0 L) : nm0 ((ed_sort L l r).getD L) := by
  unfold ed_sort
  split
  · exact nm_app (nm_app (nm_si h _ _) (nm_st (nm_si h _ _) _)) (nm_si h _ _)
  · exact h
theorem nm_paint {L : List pl_P} {l r c : Int32} (h : nm0 L) : nm0 ((ed_paint L l r c).getD L) := by
  unfold ed_paint
  split
  · have k : nm0 (rc_l L l.toInt r.toInt (fun _ => c)) := by
      unfold rc_l
      exact nm_app (nm_app (nm_si h _ _) (nm_map (nm_si h _ _) (fun _ => c))) (nm_si h _ _)
    exact k
  · exact h
theorem nm_merge {L : List pl_P} {a b : Int32} (h : nm0 L) : nm0 ((ed_merge L a b).getD L) := by
  unfold ed_merge
  split
  · exact nm_map h (fun c => if c = a then b else c)
  · exact h
theorem nm_exch {L : List pl_P} {a b : Int32} (h : nm0 L) : nm0 ((ed_exch L a b).getD L) := by
  unfold ed_exch
  split
  · exact nm_map h (fun c => if c = a then b else if c = b then a else c)
  · exact h
end
section
section
variable {l : Launch} {g : pm_G} {A0 : pm_H} {h : Nat} {q : Nat → Nat}
set_option maxRecDepth 100000 in
set_option maxHeartbeats 2000000 in
theorem F_X11_place (D : md_D h q) (v : Nat → Int32) (f : Nat → Nat → Int32) (hv : md_V v) (hf : md_F f) (x1 : Int32)  : pm_Mt l g 197 1 0 0 [.ref h, .int x1] (md A0 g h q v f) (md_Qp (md A0 g h q v f) (fun r => (-1 ≤ r.toInt ∧ r.toInt < (v 0).toInt) ∧ ((x1.toInt < 0 ∧ r.toInt = -1) ∨ (0 ≤ x1.toInt ∧ FST (f 1) (v 0).toInt x1 r.toInt)))) := by
  refine mt_X11_place rfl (fun J hC => ?_)
  have hv9 := hv
  unfold md_V at hv9
  have rg_x1 := pm_rng x1
  refine hC.1 0 0 _ _ rfl _ _ _ _ _ ?_
  refine And.intro (fun c1 => ?_) (fun c1 => ?_)
  · skip
    refine hC.1 1 8 _ _ rfl _ _ _ _ _ ?_
    refine And.intro (Exists.intro _ md_o) (Exists.intro _ (Exists.intro _ (Exists.intro _ (Exists.intro _ (And.intro (F_X11_placeOf D v f hv hf x1 ) (And.intro rfl (fun r9 A9 h9 => ?_)))))))
    obtain ⟨y2, rfl, rfl, by2⟩ := h9
    have bp9 := by2.2
    refine hC.1 2 13 _ _ rfl _ _ _ _ _ ?_
    exact ⟨rfl, fun e9 => absurd e9 (by decide), rfl, y2, rfl, rfl, by first | (exact ⟨by omega, Or.inl ⟨by omega, by omega⟩⟩) | (exact ⟨by omega, Or.inr ⟨by omega, bp9⟩⟩)⟩
  · skip
    have km1 : (-1 : Int32).toInt = -1 := rfl
    refine hC.1 2 13 _ _ rfl _ _ _ _ _ ?_
    exact ⟨rfl, fun e9 => absurd e9 (by decide), rfl, (-1 : Int32), rfl, rfl, by first | (exact ⟨by omega, Or.inl ⟨by omega, by omega⟩⟩) | (exact ⟨by omega, Or.inr ⟨by omega, bp9⟩⟩)⟩

end
end
section
/-- the bonds of a row -/
def bd (n : Int32) (c a : Nat → Int32) : Prop := ∀ j : Nat, (j : Int) < n.toInt → (a j).toInt = lastEq c (c j) j
theorem bd_fr {n n2 : Int32} {c a c2 a2 : Nat → Int32} (h : bd n c a) (h2 : n2.toInt = n.toInt) (hc : c2 = c) (ha : a2 = a) : bd n2 c2 a2 := by
  subst hc; subst ha
  exact fun j hj => h j (by omega)
end
section
/-! what is told of a row, as functions of its colours c, names m, number n: at, colour, close -/
theorem lastEq_eq {c d : Nat → Int32} {x : Int32} : ∀ k : Nat, (∀ j, j < k → c j = d j) → lastEq c x k = lastEq d x k
  | 0, _ => rfl
  | k + 1, h => by
    have ih := lastEq_eq (x := x) k (fun j hj => h j (by omega))
    show (if c k = x then (k : Int) else lastEq c x k) = (if d k = x then (k : Int) else lastEq d x k)
    rw [h k (by omega), ih]
theorem nextEq_eq {c d : Nat → Int32} {x : Int32} : ∀ n k : Nat, (∀ j, j < k + n → c j = d j) → nextEq c x k n = nextEq d x k n
  | 0, _, _ => rfl
  | n + 1, k, h => by
    have ih := nextEq_eq (x := x) n (k + 1) (fun j hj => h j (by omega))
    show (if c k = x then (k : Int) else nextEq c x (k + 1) n) = (if d k = x then (k : Int) else nextEq d x (k + 1) n)
    rw [h k (by omega), ih]
def nmA (m : Nat → Int32) (n p : Int) : Int32 := if 0 ≤ p ∧ p < n then m p.toNat else -1
theorem nmA_y {m : Nat → Int32} {n p : Int} (h : 0 ≤ p ∧ p < n) : nmA m n p = m p.toNat := if_pos h
theorem nmA_n {m : Nat → Int32} {n p : Int} (h : ¬ (0 ≤ p ∧ p < n)) : nmA m n p = -1 := if_neg h
theorem nmA_eq {m k : Nat → Int32} {n p : Int} (h : ∀ j : Nat, (j : Int) < n → m j = k j) : nmA m n p = nmA k n p := by
  by_cases hp : 0 ≤ p ∧ p < n
  · rw [nmA_y hp, nmA_y hp]; exact h _ (by omega)
  · rw [nmA_n hp, nmA_n hp]
def bo (c m : Nat → Int32) (p : Int) : Int32 := nmA m p (lastEq c (c p.toNat) p.toNat)
theorem bo_n {c m : Nat → Int32} {p : Int} (h : lastEq c (c p.toNat) p.toNat < 0) : bo c m p = -1 := nmA_n (by omega)
theorem bo_y {c m : Nat → Int32} {p : Int} {y : Int32} (hp : 0 ≤ p) (hy : y.toInt = lastEq c (c p.toNat) p.toNat) (h : 0 ≤ y.toInt) : bo c m p = m y.toInt.toNat := by
  have h1 := lastEq_lt c (c p.toNat) p.toNat
  unfold bo; rw [nmA_y (by omega), ← hy]
theorem bo_eq {c m d k : Nat → Int32} {p : Int} (hc : ∀ j : Nat, (j : Int) ≤ p → c j = d j) (hm : ∀ j : Nat, (j : Int) ≤ p → m j = k j) (hp : 0 ≤ p) : bo c m p = bo d k p := by
  unfold bo
  rw [hc p.toNat (by omega), lastEq_eq p.toNat (fun j hj => hc j (by omega))]
  exact nmA_eq (fun j hj => hm j (by omega))
theorem bo_a {c m a : Nat → Int32} {n : Int32} {p : Int} (hb : bd n c a) (hp : 0 ≤ p ∧ p < n.toInt) {r : Int32} (hr : r = nmA m n.toInt (a p.toNat).toInt) : r = bo c m p := by
  have h1 := lastEq_lt c (c p.toNat) p.toNat
  have h2 := hb p.toNat (by omega)
  subst hr; unfold bo
  rw [h2]
  by_cases h : 0 ≤ lastEq c (c p.toNat) p.toNat
  · rw [nmA_y (by omega), nmA_y (by omega)]
  · rw [nmA_n (by omega), nmA_n (by omega)]
def BA (c m : Nat → Int32) (n p : Int) : Int32 := if 0 ≤ p ∧ p < n then bo c m p else -1
theorem BA_y {c m : Nat → Int32} {n p : Int} (h : 0 ≤ p ∧ p < n) : BA c m n p = bo c m p := if_pos h
theorem BA_n {c m : Nat → Int32} {n p : Int} (h : ¬ (0 ≤ p ∧ p < n)) : BA c m n p = -1 := if_neg h
def TL (c m : Nat → Int32) (n p t : Int) : Int32 := if 0 ≤ p ∧ p < n then (if t = 0 then c p.toNat else if t = 1 then m p.toNat else if t = 2 then bo c m p else -1) else -1
theorem TL_o {c m : Nat → Int32} {n p t : Int} (h : ¬ (0 ≤ p ∧ p < n)) : TL c m n p t = -1 := if_neg h
theorem TL_0 {c m : Nat → Int32} {n p t : Int} (h : 0 ≤ p ∧ p < n) (ht : t = 0) : TL c m n p t = c p.toNat := by unfold TL; rw [if_pos h, if_pos ht]
theorem TL_1 {c m : Nat → Int32} {n p t : Int} (h : 0 ≤ p ∧ p < n) (ht : t = 1) : TL c m n p t = m p.toNat := by unfold TL; rw [if_pos h, if_neg (by omega), if_pos ht]
theorem TL_2 {c m : Nat → Int32} {n p t : Int} (h : 0 ≤ p ∧ p < n) (ht : t = 2) : TL c m n p t = bo c m p := by unfold TL; rw [if_pos h, if_neg (by omega), if_neg (by omega), if_pos ht]
theorem TL_d {c m : Nat → Int32} {n p t : Int} (ht : ¬ (0 ≤ t ∧ t ≤ 2)) : TL c m n p t = -1 := by
  unfold TL
  by_cases h : 0 ≤ p ∧ p < n
  · rw [if_pos h, if_neg (by omega), if_neg (by omega), if_neg (by omega)]
  · rw [if_neg h]
end
section
/-! how many bonds an edit touches: told by the row before it (n, c, m) and the row behind it (c2, m2) -/
theorem nextEq_0 {m : Nat → Int32} {x : Int32} : ∀ (n k j : Nat), k ≤ j → j < k + n → m j = x → (∀ i, k ≤ i → i < j → ¬ m i = x) → nextEq m x k n = (j : Int)
  | 0, _, _, h1, h2, _, _ => by omega
  | n + 1, k, j, h1, h2, h3, h4 => by
    show (if m k = x then (k : Int) else nextEq m x (k + 1) n) = _
    by_cases e : j = k
    · subst e; rw [if_pos h3]
    · rw [if_neg (h4 k (Nat.le_refl _) (by omega))]
      exact nextEq_0 n (k + 1) j (by omega) (by omega) h3 (fun i hi hj => h4 i (by omega) hj)
theorem nextEq_m {m : Nat → Int32} {x : Int32} : ∀ (n k : Nat), (∀ i, k ≤ i → i < k + n → ¬ m i = x) → nextEq m x k n = -1
  | 0, _, _ => rfl
  | n + 1, k, h => by
    show (if m k = x then (k : Int) else nextEq m x (k + 1) n) = _
    rw [if_neg (h k (Nat.le_refl _) (by omega))]
    exact nextEq_m n (k + 1) (fun i hi hj => h i (by omega) (by omega))
end
section
/-! colours by their bits: the k-th, those with more than a part -/
def bf (s : Int32) (j : Nat) : Int32 := if bt s j = true then 1 else 0
theorem bf_1 {s : Int32} {j : Nat} : bf s j = 1 ↔ bt s j = true := by
  unfold bf
  by_cases h : bt s j = true
  · rw [if_pos h]; exact ⟨fun _ => h, fun _ => rfl⟩
  · rw [if_neg h]; exact ⟨fun e => absurd e (by decide), fun e => absurd e h⟩
theorem an_1 {s c : Int32} (h : 0 ≤ c.toInt ∧ c.toInt ≤ 31) : s &&& ((1 : Int32) <<< (c &&& 31)) = 0 ↔ bt s c.toInt.toNat = false := by
  constructor
  · intro e
    have h1 := b_and s ((1 : Int32) <<< (c &&& 31)) c.toInt.toNat
    rw [e, b_0, b_one h (by omega), decide_eq_true rfl, Bool.and_true] at h1
    exact h1.symm
  · intro e
    refine b_ext (fun i hi => ?_)
    rw [b_and, b_one h hi, b_0]
    by_cases q : i = c.toInt.toNat
    · rw [q, e]; rfl
    · rw [decide_eq_false q, Bool.and_false]
theorem by1 {s c : Int32} (h : 0 ≤ c.toInt ∧ c.toInt ≤ 31) (e : ¬ s &&& ((1 : Int32) <<< (c &&& 31)) = 0) : bf s c.toInt.toNat = 1 := by
  refine bf_1.mpr ?_
  cases q : bt s c.toInt.toNat with
  | true => rfl
  | false => exact absurd ((an_1 h).mpr q) e
end
section
section
variable {l : Launch} {g : pm_G} {A0 : pm_H} {K nn dn : Nat} {q : Nat → Nat} {w : Nat → Int32} {e : Nat → Nat → Int32} {v : Nat → Int32} {f : Nat → Nat → Int32}
set_option maxRecDepth 100000 in
set_option maxHeartbeats 2000000 in
theorem F_X7_nameAt (hI : cw_I K nn dn q w e) (hs : cw_S v f) {o0 : Nat} (ho0 : cw_ro K o0) (x1 : Int32)  : pm_Mt l g 21 1 0 0 [.ref (q o0), .int x1] (cw A0 g K nn dn q w e v f) (md_Qp (cw A0 g K nn dn q w e v f) (fun r => r = nmA (e (o0 + 2)) (w o0).toInt x1.toInt)) := by
  refine mt_X7_nameAt rfl (fun J hC => ?_)
  have ro_nn : cw_ro K nn := hI.2.1.2.1
  have ro_dn : cw_ro K dn := hI.2.1.2.2.1
  have hu1 := hI.2.1
  unfold cw_W at hu1
  have rg_x1 := pm_rng x1
  have zz0 := cw_sz hI ho0
  refine hC.1 0 0 _ _ rfl _ _ _ _ _ ?_
  refine And.intro (Exists.intro _ (cw_ro_o hI.1 ho0)) (Exists.intro _ (Exists.intro _ (Exists.intro _ (Exists.intro _ (And.intro (c_X7_has hI hs ho0 x1 ) (And.intro rfl (fun r9 A9 h9 => ?_)))))))
  rcases h9 with ⟨y2, rfl, rfl, ⟨rfl, by2⟩ | ⟨rfl, by2⟩⟩
  · skip
    have k1 : (1 : Int32).toInt = 1 := rfl
    refine And.intro (fun c9 => absurd c9 (by decide)) (fun _ => ?_)
    refine Exists.intro _ (And.intro (cw_ro_o hI.1 ho0) ?_)
    refine Exists.intro _ (Exists.intro _ (And.intro (Or.inl (cw_ro_2 hI.1 ho0)) (And.intro (by omega) ?_)))
    refine hC.1 2 18 _ _ rfl _ _ _ _ _ ?_
    exact ⟨rfl, fun e9 => absurd e9 (by decide), rfl, (e (o0 + 2) (x1).toInt.toNat), rfl, rfl, by first | (exact (nmA_y (by omega)).symm) | (exact (nmA_n (by omega)).symm)⟩
  · skip
    have k0 : (0 : Int32).toInt = 0 := rfl
    refine And.intro (fun _ => ?_) (fun c9 => absurd c9 (by decide))
    refine hC.1 1 17 _ _ rfl _ _ _ _ _ ?_
    have km1 : (-1 : Int32).toInt = -1 := rfl
    refine hC.1 2 18 _ _ rfl _ _ _ _ _ ?_
    exact ⟨rfl, fun e9 => absurd e9 (by decide), rfl, (-1 : Int32), rfl, rfl, by first | (exact (nmA_y (by omega)).symm) | (exact (nmA_n (by omega)).symm)⟩

set_option maxRecDepth 100000 in
set_option maxHeartbeats 2000000 in
theorem F_X7_bondAt (hI : cw_I K nn dn q w e) (hs : cw_S v f) {o0 : Nat} (ho0 : cw_ro K o0) (x1 : Int32) (p0 : bd (w o0) (e (o0 + 1)) (e (o0 + 3))) : pm_Mt l g 20 2 0 0 [.ref (q o0), .int x1] (cw A0 g K nn dn q w e v f) (md_Qp (cw A0 g K nn dn q w e v f) (fun r => r = BA (e (o0 + 1)) (e (o0 + 2)) (w o0).toInt x1.toInt)) := by
  refine mt_X7_bondAt rfl (fun J hC => ?_)
  have ro_nn : cw_ro K nn := hI.2.1.2.1
  have ro_dn : cw_ro K dn := hI.2.1.2.2.1
  have hu1 := hI.2.1
  unfold cw_W at hu1
  have rg_x1 := pm_rng x1
  have zz0 := cw_sz hI ho0
  refine hC.1 0 0 _ _ rfl _ _ _ _ _ ?_
  refine And.intro (Exists.intro _ (cw_ro_o hI.1 ho0)) (Exists.intro _ (Exists.intro _ (Exists.intro _ (Exists.intro _ (And.intro (c_X7_has hI hs ho0 x1 ) (And.intro rfl (fun r9 A9 h9 => ?_)))))))
  rcases h9 with ⟨y2, rfl, rfl, ⟨rfl, by2⟩ | ⟨rfl, by2⟩⟩
  · skip
    have k1 : (1 : Int32).toInt = 1 := rfl
    refine And.intro (fun c9 => absurd c9 (by decide)) (fun _ => ?_)
    refine Exists.intro _ (And.intro (cw_ro_o hI.1 ho0) ?_)
    refine Exists.intro _ (Exists.intro _ (And.intro (Or.inl (cw_ro_3 hI.1 ho0)) (And.intro (by omega) ?_)))
    have w4 := cw_ahd hI ho0 (x1).toInt.toNat
    refine And.intro (Exists.intro _ (cw_ro_o hI.1 ho0)) (Exists.intro _ (Exists.intro _ (Exists.intro _ (Exists.intro _ (And.intro (F_X7_nameAt hI hs ho0 (e (o0 + 3) (x1).toInt.toNat) ) (And.intro rfl (fun r9 A9 h9 => ?_)))))))
    obtain ⟨y5, rfl, rfl, by5⟩ := h9
    refine hC.1 2 22 _ _ rfl _ _ _ _ _ ?_
    exact ⟨rfl, fun e9 => absurd e9 (by decide), rfl, y5, rfl, rfl, by first | (exact (BA_n (by omega)).symm) | (exact (bo_a p0 (by omega) (by assumption)).trans (BA_y (by omega)).symm)⟩
  · skip
    have k0 : (0 : Int32).toInt = 0 := rfl
    refine And.intro (fun _ => ?_) (fun c9 => absurd c9 (by decide))
    refine hC.1 1 21 _ _ rfl _ _ _ _ _ ?_
    have km1 : (-1 : Int32).toInt = -1 := rfl
    refine hC.1 2 22 _ _ rfl _ _ _ _ _ ?_
    exact ⟨rfl, fun e9 => absurd e9 (by decide), rfl, (-1 : Int32), rfl, rfl, by first | (exact (BA_n (by omega)).symm) | (exact (bo_a p0 (by omega) (by assumption)).trans (BA_y (by omega)).symm)⟩

set_option maxRecDepth 100000 in
set_option maxHeartbeats 2000000 in
theorem F_X7_tell (hI : cw_I K nn dn q w e) (hs : cw_S v f) {o0 : Nat} (ho0 : cw_ro K o0) (x1 : Int32) (x2 : Int32) (p0 : bd (w o0) (e (o0 + 1)) (e (o0 + 3))) : pm_Mt l g 44 3 0 0 [.ref (q o0), .int x1, .int x2] (cw A0 g K nn dn q w e v f) (md_Qp (cw A0 g K nn dn q w e v f) (fun r => r = TL (e (o0 + 1)) (e (o0 + 2)) (w o0).toInt x1.toInt x2.toInt)) := by
  refine mt_X7_tell rfl (fun J hC => ?_)
  have ro_nn : cw_ro K nn := hI.2.1.2.1
  have ro_dn : cw_ro K dn := hI.2.1.2.2.1
  have hu1 := hI.2.1
  unfold cw_W at hu1
  have rg_x1 := pm_rng x1
  have rg_x2 := pm_rng x2
  have zz0 := cw_sz hI ho0
  refine hC.1 0 0 _ _ rfl _ _ _ _ _ ?_
  refine And.intro (Exists.intro _ (cw_ro_o hI.1 ho0)) (Exists.intro _ (Exists.intro _ (Exists.intro _ (Exists.intro _ (And.intro (c_X7_has hI hs ho0 x1 ) (And.intro rfl (fun r9 A9 h9 => ?_)))))))
  rcases h9 with ⟨y2, rfl, rfl, ⟨rfl, by2⟩ | ⟨rfl, by2⟩⟩
  · skip
    have k1 : (1 : Int32).toInt = 1 := rfl
    refine And.intro (fun _ => ?_) (fun c9 => absurd c9 (by decide))
    refine hC.1 1 10 _ _ rfl _ _ _ _ _ ?_
    refine pm_swc 3 rfl (by decide) ?_ ?_
    · intro _
      refine hC.1 5 56 _ _ rfl _ _ _ _ _ ?_
      have km1 : (-1 : Int32).toInt = -1 := rfl
      exact ⟨rfl, fun e9 => absurd e9 (by decide), rfl, (-1 : Int32), rfl, rfl, by exact (TL_d (by omega)).symm⟩
    · intro i9 hi9 he9
      rcases (show i9 = 0 ∨ i9 = 1 ∨ i9 = 2 by omega) with rfl | rfl | rfl
      · skip
        refine hC.1 2 36 _ _ rfl _ _ _ _ _ ?_
        refine Exists.intro _ (And.intro (cw_ro_o hI.1 ho0) ?_)
        refine Exists.intro _ (Exists.intro _ (And.intro (Or.inl (cw_ro_1 hI.1 ho0)) (And.intro (by omega) ?_)))
        have w6 := cw_col hI ho0 (x1).toInt.toNat
        exact ⟨rfl, fun e9 => absurd e9 (by decide), rfl, (e (o0 + 1) (x1).toInt.toNat), rfl, rfl, by exact (TL_0 (by omega) (by omega)).symm⟩
      · skip
        refine hC.1 3 43 _ _ rfl _ _ _ _ _ ?_
        refine Exists.intro _ (And.intro (cw_ro_o hI.1 ho0) ?_)
        refine Exists.intro _ (Exists.intro _ (And.intro (Or.inl (cw_ro_2 hI.1 ho0)) (And.intro (by omega) ?_)))
        exact ⟨rfl, fun e9 => absurd e9 (by decide), rfl, (e (o0 + 2) (x1).toInt.toNat), rfl, rfl, by exact (TL_1 (by omega) (by omega)).symm⟩
      · skip
        refine hC.1 4 50 _ _ rfl _ _ _ _ _ ?_
        refine And.intro (Exists.intro _ (cw_ro_o hI.1 ho0)) (Exists.intro _ (Exists.intro _ (Exists.intro _ (Exists.intro _ (And.intro (F_X7_bondAt hI hs ho0 x1 (by exact p0)) (And.intro rfl (fun r9 A9 h9 => ?_)))))))
        obtain ⟨y7, rfl, rfl, by7⟩ := h9
        exact ⟨rfl, fun e9 => absurd e9 (by decide), rfl, y7, rfl, rfl, by rw [TL_2 (by omega) (by omega)]; exact Eq.trans (by assumption) (BA_y (by omega))⟩
  · skip
    have k0 : (0 : Int32).toInt = 0 := rfl
    refine And.intro (fun c9 => absurd c9 (by decide)) (fun _ => ?_)
    have km1 : (-1 : Int32).toInt = -1 := rfl
    exact ⟨rfl, fun e9 => absurd e9 (by decide), rfl, (-1 : Int32), rfl, rfl, by exact (TL_o (by omega)).symm⟩

end
end
section
section
variable {l : Launch} {g : pm_G} {A0 : pm_H} {h : Nat} {q : Nat → Nat}
set_option maxRecDepth 100000 in
set_option maxHeartbeats 2000000 in
theorem F_X11_bondOf (D : md_D h q) (v : Nat → Int32) (f : Nat → Nat → Int32) (hv : md_V v) (hf : md_F f) (x1 : Int32) (p0 : 0 ≤ x1.toInt ∧ x1.toInt < 160) : pm_Mt l g 173 1 0 0 [.ref h, .int x1] (md A0 g h q v f) (md_Qp (md A0 g h q v f) (fun r => r = bo (f 0) (f 1) x1.toInt)) := by
  refine mt_X11_bondOf rfl (fun J hC => ?_)
  have hv9 := hv
  unfold md_V at hv9
  have rg_x1 := pm_rng x1
  have lt9 := lastEq_lt (f 0) (f 0 x1.toInt.toNat) x1.toInt.toNat
  refine hC.1 0 0 _ _ rfl _ _ _ _ _ ?_
  refine And.intro (Exists.intro _ md_o) (Exists.intro _ (Exists.intro _ (Exists.intro _ (Exists.intro _ (And.intro (c_X11_ahead D v f hv hf x1 (by omega)) (And.intro rfl (fun r9 A9 h9 => ?_)))))))
  obtain ⟨y1, rfl, rfl, by1⟩ := h9
  refine And.intro (fun c2 => ?_) (fun c2 => ?_)
  · skip
    refine hC.1 1 12 _ _ rfl _ _ _ _ _ ?_
    refine Exists.intro _ (And.intro md_o ?_)
    refine And.intro (Exists.intro _ md_o) (Exists.intro _ (Exists.intro _ (Exists.intro _ (Exists.intro _ (And.intro (c_X11_ahead D v f hv hf x1 (by omega)) (And.intro rfl (fun r9 A9 h9 => ?_)))))))
    obtain ⟨y3, rfl, rfl, by3⟩ := h9
    refine Exists.intro _ (Exists.intro _ (And.intro (Or.inl (md_a_names D)) (And.intro (by omega) ?_)))
    refine hC.1 2 22 _ _ rfl _ _ _ _ _ ?_
    exact ⟨rfl, fun e9 => absurd e9 (by decide), rfl, (f 1 (y3).toInt.toNat), rfl, rfl, by first | (exact (bo_n (by omega)).symm) | (exact (bo_y (by omega) (by assumption) (by omega)).symm)⟩
  · skip
    have km1 : (-1 : Int32).toInt = -1 := rfl
    refine hC.1 2 22 _ _ rfl _ _ _ _ _ ?_
    exact ⟨rfl, fun e9 => absurd e9 (by decide), rfl, (-1 : Int32), rfl, rfl, by first | (exact (bo_n (by omega)).symm) | (exact (bo_y (by omega) (by assumption) (by omega)).symm)⟩

end
end
section
/-! rows as they stood behind an edit: the reference's slots -/
def rC (f : Nat → Nat → Int32) (i : Int) : Nat → Int32 := fun j => f 12 (160 * (i % 40).toNat + j)
def rM (f : Nat → Nat → Int32) (i : Int) : Nat → Int32 := fun j => f 13 (160 * (i % 40).toNat + j)
def rN (f : Nat → Nat → Int32) (i : Int) : Int32 := f 14 (i % 40).toNat
def rT (f : Nat → Nat → Int32) (i : Int) : Int32 := f 15 (i % 40).toNat
def kno (e i : Int) : Prop := 0 ≤ i ∧ i ≤ e ∧ e - 40 < i
theorem cw_rr_f {K : Nat} (q : Nat → Nat) (j : Nat) : (cw_rr K q j = none ∧ K ≤ j) ∨ ∃ o, cw_rr K q j = some (q o) ∧ cw_ro K o ∧ o = 40 + 4 * j := by
  unfold cw_rr
  by_cases h : j < K
  · rw [if_pos h]; exact Or.inr ⟨40 + 4 * j, rfl, ⟨by omega, by omega, by omega⟩, rfl⟩
  · rw [if_neg h]; exact Or.inl ⟨rfl, by omega⟩
end
section
section
variable {l : Launch} {g : pm_G} {A0 : pm_H} {K nn dn : Nat} {q : Nat → Nat} {w : Nat → Int32} {e : Nat → Nat → Int32} {v : Nat → Int32} {f : Nat → Nat → Int32}
set_option maxRecDepth 100000 in
set_option maxHeartbeats 2000000 in
theorem F_X9_behind (hI : cw_I K nn dn q w e) (hs : cw_S v f) (x1 : Int32)  : pm_Mt l g 149 0 0 0 [.ref (q 1), .int x1] (cw A0 g K nn dn q w e v f) (fun r A9 => A9 = (cw A0 g K nn dn q w e v f) ∧ ((r = some .null ∧ ¬ kno (w 0).toInt x1.toInt) ∨ ∃ o9, r = some (.ref (q o9)) ∧ cw_ro K o9 ∧ kno (w 0).toInt x1.toInt ∧ (o9 : Int) = 40 + 4 * (x1.toInt % 41))) := by
  refine mt_X9_behind rfl (fun J hC => ?_)
  have ro_nn : cw_ro K nn := hI.2.1.2.1
  have ro_dn : cw_ro K dn := hI.2.1.2.2.1
  have hu1 := hI.2.1
  unfold cw_W at hu1
  have rg_x1 := pm_rng x1
  refine hC.1 0 0 _ _ rfl _ _ _ _ _ ?_
  refine And.intro (fun c2 => ?_) (fun c2 => ?_)
  · skip
    refine hC.1 1 27 _ _ rfl _ _ _ _ _ ?_
    have k0 : (0 : Int32).toInt = 0 := rfl
    refine hC.1 2 28 _ _ rfl _ _ _ _ _ ?_
    refine And.intro (fun _ => ?_) (fun c9 => absurd c9 (by decide))
    refine hC.1 3 45 _ _ rfl _ _ _ _ _ ?_
    refine hC.1 4 46 _ _ rfl _ _ _ _ _ ?_
    exact ⟨rfl, rfl, rfl, Or.inl ⟨rfl, by unfold kno; omega⟩⟩
  · skip
    refine Exists.intro _ (And.intro (cw_o1 hI.1) ?_)
    refine And.intro (fun c3 => ?_) (fun c3 => ?_)
    · skip
      refine hC.1 1 27 _ _ rfl _ _ _ _ _ ?_
      have k0 : (0 : Int32).toInt = 0 := rfl
      refine hC.1 2 28 _ _ rfl _ _ _ _ _ ?_
      refine And.intro (fun _ => ?_) (fun c9 => absurd c9 (by decide))
      refine hC.1 3 45 _ _ rfl _ _ _ _ _ ?_
      refine hC.1 4 46 _ _ rfl _ _ _ _ _ ?_
      exact ⟨rfl, rfl, rfl, Or.inl ⟨rfl, by unfold kno; omega⟩⟩
    · skip
      refine Exists.intro _ (And.intro (cw_o1 hI.1) ?_)
      have k40 : (40 : Int32).toInt = 40 := rfl
      intro m4 em_19
      try have e4 : m4.toInt = ((w 0)).toInt - (40) := by rw [em_19]; exact pm_subc _ _ (40) rfl (by omega) (by omega)
      refine And.intro (fun c5 => ?_) (fun c5 => ?_)
      · skip
        refine hC.1 1 27 _ _ rfl _ _ _ _ _ ?_
        have k0 : (0 : Int32).toInt = 0 := rfl
        refine hC.1 2 28 _ _ rfl _ _ _ _ _ ?_
        refine And.intro (fun _ => ?_) (fun c9 => absurd c9 (by decide))
        refine hC.1 3 45 _ _ rfl _ _ _ _ _ ?_
        refine hC.1 4 46 _ _ rfl _ _ _ _ _ ?_
        exact ⟨rfl, rfl, rfl, Or.inl ⟨rfl, by unfold kno; omega⟩⟩
      · skip
        have k1 : (1 : Int32).toInt = 1 := rfl
        refine hC.1 2 28 _ _ rfl _ _ _ _ _ ?_
        refine And.intro (fun c9 => absurd c9 (by decide)) (fun _ => ?_)
        refine Exists.intro _ (And.intro (cw_o1 hI.1) ?_)
        have k41 : (41 : Int32).toInt = 41 := rfl
        refine And.intro (by decide) ?_
        intro m6 em_40
        have e6 : 0 ≤ m6.toInt ∧ m6.toInt < 41 ∧ m6.toInt = (x1).toInt % 41 := by rw [em_40]; exact pm_remc _ _ 41 rfl (by omega) (by decide)
        refine Exists.intro _ (Exists.intro _ (And.intro (Or.inl (cw_rows hI.1)) (And.intro (by omega) ?_)))
        rcases cw_rr_f (K := K) q (m6).toInt.toNat with ⟨hr7, hk7⟩ | ⟨o7, hr7, ho7, he7⟩
        · skip
          rw [hr7]
          refine hC.1 4 46 _ _ rfl _ _ _ _ _ ?_
          exact ⟨rfl, rfl, rfl, Or.inl ⟨rfl, by unfold kno; omega⟩⟩
        · skip
          rw [hr7]
          refine hC.1 4 46 _ _ rfl _ _ _ _ _ ?_
          exact ⟨rfl, rfl, rfl, Or.inr ⟨o7, rfl, ho7, by unfold kno; omega, by omega⟩⟩

end
end
section
section
variable {l : Launch} {g : pm_G} {A0 : pm_H} {h : Nat} {q : Nat → Nat}
set_option maxRecDepth 100000 in
set_option maxHeartbeats 2000000 in
theorem F_X11_wasColour (D : md_D h q) (v : Nat → Int32) (f : Nat → Nat → Int32) (hv : md_V v) (hf : md_F f) (x1 : Int32) (x2 : Int32) (p0 : 0 ≤ x1.toInt) (p1 : 0 ≤ x2.toInt ∧ x2.toInt < 160) : pm_Mt l g 228 0 0 0 [.ref h, .int x1, .int x2] (md A0 g h q v f) (md_Qp (md A0 g h q v f) (fun r => r = rC f x1.toInt x2.toInt.toNat ∧ (0 ≤ r.toInt ∧ r.toInt ≤ 23))) := by
  refine mt_X11_wasColour rfl (fun J hC => ?_)
  have hv9 := hv
  unfold md_V at hv9
  have rg_x1 := pm_rng x1
  have rg_x2 := pm_rng x2
  refine hC.1 0 0 _ _ rfl _ _ _ _ _ ?_
  refine Exists.intro _ (And.intro md_o ?_)
  have k160 : (160 : Int32).toInt = 160 := rfl
  have k40 : (40 : Int32).toInt = 40 := rfl
  refine And.intro (by decide) ?_
  intro m1 em_10
  have e1 : 0 ≤ m1.toInt ∧ m1.toInt < 40 ∧ m1.toInt = (x1).toInt % 40 := by rw [em_10]; exact pm_remc _ _ 40 rfl (by omega) (by decide)
  intro m2 em_11
  try have e2 : m2.toInt = (160) * (m1).toInt := by rw [em_11]; exact pm_mulk _ _ (160) rfl (by omega) (by omega)
  intro m3 em_13
  try have e3 : m3.toInt = (m2).toInt + (x2).toInt := by rw [em_13]; exact pm_add _ _ (by omega) (by omega)
  refine Exists.intro _ (Exists.intro _ (And.intro (Or.inl (md_a_wasColours D)) (And.intro (by omega) ?_)))
  have w4 : (0 : Int) ≤ (f 12 (m3).toInt.toNat).toInt ∧ (f 12 (m3).toInt.toNat).toInt ≤ (23 : Int) := hf 12 _
  exact ⟨rfl, fun e9 => absurd e9 (by decide), rfl, (f 12 (m3).toInt.toNat), rfl, rfl, by exact ⟨by unfold rC; congr 1; omega, by omega⟩⟩

set_option maxRecDepth 100000 in
set_option maxHeartbeats 2000000 in
theorem F_X11_wasName (D : md_D h q) (v : Nat → Int32) (f : Nat → Nat → Int32) (hv : md_V v) (hf : md_F f) (x1 : Int32) (x2 : Int32) (p0 : 0 ≤ x1.toInt) (p1 : 0 ≤ x2.toInt ∧ x2.toInt < 160) : pm_Mt l g 229 0 0 0 [.ref h, .int x1, .int x2] (md A0 g h q v f) (md_Qp (md A0 g h q v f) (fun r => r = rM f x1.toInt x2.toInt.toNat)) := by
  refine mt_X11_wasName rfl (fun J hC => ?_)
  have hv9 := hv
  unfold md_V at hv9
  have rg_x1 := pm_rng x1
  have rg_x2 := pm_rng x2
  refine hC.1 0 0 _ _ rfl _ _ _ _ _ ?_
  refine Exists.intro _ (And.intro md_o ?_)
  have k160 : (160 : Int32).toInt = 160 := rfl
  have k40 : (40 : Int32).toInt = 40 := rfl
  refine And.intro (by decide) ?_
  intro m1 em_10
  have e1 : 0 ≤ m1.toInt ∧ m1.toInt < 40 ∧ m1.toInt = (x1).toInt % 40 := by rw [em_10]; exact pm_remc _ _ 40 rfl (by omega) (by decide)
  intro m2 em_11
  try have e2 : m2.toInt = (160) * (m1).toInt := by rw [em_11]; exact pm_mulk _ _ (160) rfl (by omega) (by omega)
  intro m3 em_13
  try have e3 : m3.toInt = (m2).toInt + (x2).toInt := by rw [em_13]; exact pm_add _ _ (by omega) (by omega)
  refine Exists.intro _ (Exists.intro _ (And.intro (Or.inl (md_a_wasNames D)) (And.intro (by omega) ?_)))
  exact ⟨rfl, fun e9 => absurd e9 (by decide), rfl, (f 13 (m3).toInt.toNat), rfl, rfl, by unfold rM; congr 1; omega⟩

set_option maxRecDepth 100000 in
set_option maxHeartbeats 2000000 in
theorem F_X11_wasBond (D : md_D h q) (v : Nat → Int32) (f : Nat → Nat → Int32) (hv : md_V v) (hf : md_F f) (x1 : Int32) (x2 : Int32) (p0 : 0 ≤ x1.toInt) (p1 : 0 ≤ x2.toInt ∧ x2.toInt < 160) : pm_Mt l g 230 1 0 0 [.ref h, .int x1, .int x2] (md A0 g h q v f) (md_Qp (md A0 g h q v f) (fun r => r = bo (rC f x1.toInt) (rM f x1.toInt) x2.toInt)) := by
  refine mt_X11_wasBond rfl (fun J hC => ?_)
  have hv9 := hv
  unfold md_V at hv9
  have rg_x1 := pm_rng x1
  have rg_x2 := pm_rng x2
  refine hC.1 0 0 _ _ rfl _ _ _ _ _ ?_
  have k1 : (1 : Int32).toInt = 1 := rfl
  intro m1 em_2
  try have e1 : m1.toInt = (x2).toInt - (1) := by rw [em_2]; exact pm_subc _ _ (1) rfl (by omega) (by omega)
  have lp2 : ∀ (n : Nat) (z3_4 : Int32), (-1 ≤ z3_4.toInt ∧ z3_4.toInt < x2.toInt) → (lastEq (rC f x1.toInt) ((rC f x1.toInt) x2.toInt.toNat) x2.toInt.toNat = lastEq (rC f x1.toInt) ((rC f x1.toInt) x2.toInt.toNat) (z3_4.toInt + 1).toNat) → z3_4.toInt + 1 < (n : Int) → J 4 [some (.ref h), some (.int x1), some (.int x2), some (.int z3_4)] [] (md A0 g h q v f) 0 0 := by
    intro n
    induction n with
    | zero =>
      intro z3_4 j0_4 j1_4 j2_4
      omega
    | succ n ih3 =>
      intro z3_4 j0_4 j1_4 j2_4
      refine hC.1 1 4 _ _ rfl _ _ _ _ _ ?_
      refine And.intro (fun c4 => ?_) (fun c4 => ?_)
      · skip
        refine hC.1 3 36 _ _ rfl _ _ _ _ _ ?_
        have km1 : (-1 : Int32).toInt = -1 := rfl
        exact ⟨rfl, fun e9 => absurd e9 (by decide), rfl, (-1 : Int32), rfl, rfl, by exact (bo_n (by rw [j1_4, show (z3_4.toInt + 1).toNat = 0 by omega]; show (-1 : Int) < 0; decide)).symm⟩
      · skip
        refine And.intro (Exists.intro _ md_o) (Exists.intro _ (Exists.intro _ (Exists.intro _ (Exists.intro _ (And.intro (F_X11_wasColour D v f hv hf x1 z3_4 (by omega) (by omega)) (And.intro rfl (fun r9 A9 h9 => ?_)))))))
        obtain ⟨y5, rfl, rfl, by5⟩ := h9
        have ha9 := by5.1
        refine And.intro (Exists.intro _ md_o) (Exists.intro _ (Exists.intro _ (Exists.intro _ (Exists.intro _ (And.intro (F_X11_wasColour D v f hv hf x1 x2 (by omega) (by omega)) (And.intro rfl (fun r9 A9 h9 => ?_)))))))
        obtain ⟨y6, rfl, rfl, by6⟩ := h9
        have hb9 := by6.1
        refine And.intro (fun c7 => ?_) (fun c7 => ?_)
        · skip
          have dc7 := pm_neI c7
          refine hC.1 2 30 _ _ rfl _ _ _ _ _ ?_
          have km1 : (-1 : Int32).toInt = -1 := rfl
          intro m8 em_30
          try have e8 : m8.toInt = (z3_4).toInt + (-1) := by rw [em_30]; exact pm_addc _ _ (-1) rfl (by omega) (by omega)
          exact ih3 m8 (by omega) (by rw [j1_4, lastEq_s (by omega), if_neg (by rw [← ha9, ← hb9]; assumption), show (m8.toInt + 1).toNat = z3_4.toInt.toNat by omega]) (by omega)
        · skip
          have dc7 : (y5).toInt = (y6 : Int32).toInt := congrArg Int32.toInt c7
          refine And.intro (Exists.intro _ md_o) (Exists.intro _ (Exists.intro _ (Exists.intro _ (Exists.intro _ (And.intro (F_X11_wasName D v f hv hf x1 z3_4 (by omega) (by omega)) (And.intro rfl (fun r9 A9 h9 => ?_)))))))
          obtain ⟨y9, rfl, rfl, by9⟩ := h9
          have hm9 := by9
          exact ⟨rfl, fun e9 => absurd e9 (by decide), rfl, y9, rfl, rfl, by refine Eq.trans hm9 ?_; exact (bo_y (y := z3_4) (by omega) (by rw [j1_4, lastEq_s (by omega), if_pos (by rw [← ha9, ← hb9]; assumption)]) (by omega)).symm⟩
  exact lp2 (m1.toInt + 1).toNat.succ m1 (by omega) (by rw [show (m1.toInt + 1).toNat = x2.toInt.toNat by omega]) (by omega)

set_option maxRecDepth 100000 in
set_option maxHeartbeats 2000000 in
theorem F_X11_wasPlace (D : md_D h q) (v : Nat → Int32) (f : Nat → Nat → Int32) (hv : md_V v) (hf : md_F f) (x1 : Int32) (x2 : Int32) (p0 : 0 ≤ x1.toInt) : pm_Mt l g 236 1 0 0 [.ref h, .int x1, .int x2] (md A0 g h q v f) (md_Qp (md A0 g h q v f) (fun r => (-1 ≤ r.toInt ∧ r.toInt < 160) ∧ r.toInt = nextEq (rM f x1.toInt) x2 0 (rN f x1.toInt).toInt.toNat)) := by
  refine mt_X11_wasPlace rfl (fun J hC => ?_)
  have hv9 := hv
  unfold md_V at hv9
  have rg_x1 := pm_rng x1
  have rg_x2 := pm_rng x2
  have rb9 : 0 ≤ (rN f x1.toInt).toInt ∧ (rN f x1.toInt).toInt ≤ 160 := hf 14 _
  refine hC.1 0 0 _ _ rfl _ _ _ _ _ ?_
  have k0 : (0 : Int32).toInt = 0 := rfl
  have lp1 : ∀ (n : Nat) (z3_2 : Int32), (0 ≤ z3_2.toInt ∧ z3_2.toInt ≤ 160) → (z3_2.toInt ≤ (rN f x1.toInt).toInt ∧ nextEq (rM f x1.toInt) x2 0 (rN f x1.toInt).toInt.toNat = nextEq (rM f x1.toInt) x2 z3_2.toInt.toNat ((rN f x1.toInt).toInt - z3_2.toInt).toNat) → 200 - z3_2.toInt < (n : Int) → J 2 [some (.ref h), some (.int x1), some (.int x2), some (.int z3_2)] [] (md A0 g h q v f) 0 0 := by
    intro n
    induction n with
    | zero =>
      intro z3_2 j0_2 j1_2 j2_2
      omega
    | succ n ih2 =>
      intro z3_2 j0_2 j1_2 j2_2
      refine hC.1 1 2 _ _ rfl _ _ _ _ _ ?_
      refine Exists.intro _ (And.intro md_o ?_)
      have k40 : (40 : Int32).toInt = 40 := rfl
      refine And.intro (by decide) ?_
      intro m3 em_10
      have e3 : 0 ≤ m3.toInt ∧ m3.toInt < 40 ∧ m3.toInt = (x1).toInt % 40 := by rw [em_10]; exact pm_remc _ _ 40 rfl (by omega) (by decide)
      refine Exists.intro _ (Exists.intro _ (And.intro (Or.inl (md_a_wasMany D)) (And.intro (by omega) ?_)))
      have w4 : (0 : Int) ≤ (f 14 (m3).toInt.toNat).toInt ∧ (f 14 (m3).toInt.toNat).toInt ≤ (160 : Int) := hf 14 _
      have rn9 : ((f 14 (m3).toInt.toNat)).toInt = (rN f x1.toInt).toInt := (by unfold rN; congr 2; omega)
      refine And.intro (fun c5 => ?_) (fun c5 => ?_)
      · skip
        refine hC.1 3 33 _ _ rfl _ _ _ _ _ ?_
        have km1 : (-1 : Int32).toInt = -1 := rfl
        exact ⟨rfl, fun e9 => absurd e9 (by decide), rfl, (-1 : Int32), rfl, rfl, by refine ⟨by omega, ?_⟩; rw [j1_2.2, show ((rN f x1.toInt).toInt - z3_2.toInt).toNat = 0 by omega]; rfl⟩
      · skip
        refine And.intro (Exists.intro _ md_o) (Exists.intro _ (Exists.intro _ (Exists.intro _ (Exists.intro _ (And.intro (F_X11_wasName D v f hv hf x1 z3_2 (by omega) (by omega)) (And.intro rfl (fun r9 A9 h9 => ?_)))))))
        obtain ⟨y6, rfl, rfl, by6⟩ := h9
        have hm9 := by6
        refine And.intro (fun c7 => ?_) (fun c7 => ?_)
        · skip
          have dc7 := pm_neI c7
          refine hC.1 2 27 _ _ rfl _ _ _ _ _ ?_
          have k1 : (1 : Int32).toInt = 1 := rfl
          intro m8 em_27
          try have e8 : m8.toInt = (z3_2).toInt + (1) := by rw [em_27]; exact pm_addc _ _ (1) rfl (by omega) (by omega)
          exact ih2 m8 (by omega) (by refine ⟨by omega, ?_⟩; rw [j1_2.2, nextEq_s (by omega) (by omega), if_neg (by rw [← hm9]; assumption)]; congr 1 <;> omega) (by omega)
        · skip
          have dc7 : (y6).toInt = (x2 : Int32).toInt := congrArg Int32.toInt c7
          exact ⟨rfl, fun e9 => absurd e9 (by decide), rfl, z3_2, rfl, rfl, by refine ⟨by omega, ?_⟩; rw [j1_2.2, nextEq_s (by omega) (by omega), if_pos (by rw [← hm9]; assumption)]⟩
  exact lp1 (200 - (0 : Int32).toInt).toNat.succ (0 : Int32) (by omega) (by exact ⟨by omega, by congr 1 <;> omega⟩) (by omega)

end
end
section
/-! sums over places -/
def sm (f : Nat → Int) : Nat → Int
  | 0 => 0
  | n + 1 => sm f n + f n
theorem sm_eq {f g : Nat → Int} : ∀ n, (∀ i, i < n → f i = g i) → sm f n = sm g n
  | 0, _ => rfl
  | n + 1, h => by rw [sm, sm, sm_eq n (fun i hi => h i (by omega)), h n (by omega)]
theorem sm_le {f : Nat → Int} {B : Int} : ∀ n, (∀ i, i < n → 0 ≤ f i ∧ f i ≤ B) → 0 ≤ sm f n ∧ sm f n ≤ B * n
  | 0, _ => ⟨Int.le_refl _, by show (0 : Int) ≤ B * ((0 : Nat) : Int); simp⟩
  | n + 1, h => by
    have ih := sm_le n (fun i hi => h i (by omega))
    have h1 := h n (by omega)
    have e : B * ((n + 1 : Nat) : Int) = B * (n : Int) + B := by rw [Int.natCast_succ, Int.mul_add, Int.mul_one]
    rw [sm, e]
    omega
end
section
/-! bitCount: byte by byte -/
def by4 (n a b c d : Nat) : Prop := n = a + 256 * b + 65536 * c + 16777216 * d ∧ a < 256 ∧ b < 256 ∧ c < 256 ∧ d < 256
end
section
/-! the shelf: which colour goes, what is on it, how many misses -/
def b1 (x : Int32) : Int32 := (1 : Int32) <<< (x &&& 31)
end
section
/-! the rows that are known: what an edit writes into the reference's slots -/
def HK (f0 f : Nat → Nat → Int32) (n t : Int32) (s : Nat) (x : Int) : Prop := (∀ k : Nat, ¬ k = s → f 14 k = f0 14 k ∧ f 15 k = f0 15 k) ∧ (f 14 s = n ∧ f 15 s = t) ∧ (∀ k : Nat, ¬ (160 * s ≤ k ∧ k < 160 * s + 160) → f 12 k = f0 12 k ∧ f 13 k = f0 13 k) ∧ ∀ j : Nat, (j : Int) < x → f 12 (160 * s + j) = f0 0 j ∧ f 13 (160 * s + j) = f0 1 j
theorem HK_0 {f f2 : Nat → Nat → Int32} {n t : Int32} {s : Nat} (e14 : f2 14 = upd (f 14) s n) (e15 : f2 15 = upd (f 15) s t) (e12 : f2 12 = f 12) (e13 : f2 13 = f 13) : HK f f2 n t s 0 :=
  ⟨fun k h => by rw [e14, e15, pk_un h, pk_un h]; exact ⟨rfl, rfl⟩, by rw [e14, e15, pk_us, pk_us]; exact ⟨rfl, rfl⟩, fun k _ => by rw [e12, e13]; exact ⟨rfl, rfl⟩, fun j h => by omega⟩
theorem HK_s {f0 f f2 : Nat → Nat → Int32} {n t : Int32} {s : Nat} {x : Int} (h : HK f0 f n t s x) (h0 : 0 ≤ x ∧ x < 160) (e12 : f2 12 = upd (f 12) (160 * s + x.toNat) (f0 0 x.toNat)) (e13 : f2 13 = upd (f 13) (160 * s + x.toNat) (f0 1 x.toNat)) (e14 : f2 14 = f 14) (e15 : f2 15 = f 15) : HK f0 f2 n t s (x + 1) := by
  obtain ⟨a, b, c, d⟩ := h
  refine ⟨fun k hk => by rw [e14, e15]; exact a k hk, by rw [e14, e15]; exact b, fun k hk => ?_, fun j hj => ?_⟩
  · rw [e12, e13, pk_un (by omega), pk_un (by omega)]; exact c k hk
  · by_cases e : j = x.toNat
    · rw [e, e12, e13, pk_us, pk_us]; exact ⟨rfl, rfl⟩
    · rw [e12, e13, pk_un (by omega), pk_un (by omega)]; exact d j (by omega)
def HM (f : Nat → Nat → Int32) (v2 : Nat → Int32) (f2 : Nat → Nat → Int32) (t : Int) : Prop := (∀ i : Int, 0 ≤ i → ¬ i % 40 = (v2 4).toInt % 40 → rN f2 i = rN f i ∧ rT f2 i = rT f i ∧ ∀ j : Nat, j < 160 → rC f2 i j = rC f i j ∧ rM f2 i j = rM f i j) ∧ (rN f2 (v2 4).toInt).toInt = (v2 0).toInt ∧ (rT f2 (v2 4).toInt).toInt = t ∧ ∀ j : Nat, (j : Int) < (v2 0).toInt → rC f2 (v2 4).toInt j = f2 0 j ∧ rM f2 (v2 4).toInt j = f2 1 j
theorem HM_fr {f0 f f2 : Nat → Nat → Int32} {v2 : Nat → Int32} {t : Int} (h : HM f v2 f2 t) (e12 : f 12 = f0 12) (e13 : f 13 = f0 13) (e14 : f 14 = f0 14) (e15 : f 15 = f0 15) : HM f0 v2 f2 t := by
  obtain ⟨a, b⟩ := h
  refine ⟨fun i h1 h2 => ?_, b⟩
  have q := a i h1 h2
  unfold rN rT rC rM at q ⊢
  rw [e12, e13, e14, e15] at q
  exact q
theorem HM_of {f fp f2 : Nat → Nat → Int32} {v2 : Nat → Int32} {n t : Int32} {s : Nat} {x : Int} (h : HK fp f2 n t s x) (e12 : fp 12 = f 12) (e13 : fp 13 = f 13) (e14 : fp 14 = f 14) (e15 : fp 15 = f 15) (hn : n.toInt = (v2 0).toInt) (hs : s = ((v2 4).toInt % 40).toNat) (hx : x = (v2 0).toInt) (h0 : f2 0 = fp 0) (h1 : f2 1 = fp 1) : HM f v2 f2 t.toInt := by
  obtain ⟨a, b, c, d⟩ := h
  subst hs
  refine ⟨fun i p q => ?_, ?_, ?_, fun j hj => ?_⟩
  · unfold rN rT rC rM
    have u := a (i % 40).toNat (by omega)
    rw [← e12, ← e13, ← e14, ← e15]
    refine ⟨u.1, u.2, fun j hj => c _ (by omega)⟩
  · unfold rN; rw [b.1]; exact hn
  · unfold rT; rw [b.2]
  · unfold rC rM; rw [h0, h1]; exact d j (by omega)
def HMe (e0 : Int) (f : Nat → Nat → Int32) (v2 : Nat → Int32) (f2 : Nat → Nat → Int32) (t : Int) : Prop := ((v2 4).toInt = e0 ∧ f2 12 = f 12 ∧ f2 13 = f 13 ∧ f2 14 = f 14 ∧ f2 15 = f 15) ∨ ((v2 4).toInt = e0 + 1 ∧ HM f v2 f2 t)
end
section
/-! the rows that are known: an edit of the class leaves all rows but its own -/
def FRO (K : Nat) (w : Nat → Int32) (e : Nat → Nat → Int32) (w1 : Nat → Int32) (e1 : Nat → Nat → Int32) (dn : Nat) : Prop := ∀ i9, 40 ≤ i9 → i9 < 40 + 4 * K → (i9 < dn ∨ dn + 4 ≤ i9) → w1 i9 = w i9 ∧ e1 i9 = e i9
theorem FRO_s {K : Nat} {w w1 w2 : Nat → Int32} {e e1 e2 : Nat → Nat → Int32} {dn : Nat} (h : FRO K w e w1 e1 dn) (h2 : ∀ i9, 40 ≤ i9 → (i9 < dn ∨ dn + 4 ≤ i9) → w2 i9 = w1 i9 ∧ e2 i9 = e1 i9) : FRO K w e w2 e2 dn := fun i a b c =>
  ⟨(h2 i a c).1.trans (h i a b c).1, (h2 i a c).2.trans (h i a b c).2⟩
def HCn (K : Nat) (w : Nat → Int32) (e : Nat → Nat → Int32) (w2 : Nat → Int32) (e2 : Nat → Nat → Int32) (nn2 : Nat) (x : Int32) : Prop := (w2 0).toInt = (w 0).toInt + 1 ∧ FRO K w e w2 e2 nn2 ∧ (w2 (nn2 + 1)).toInt = x.toInt
def HCe (K nn : Nat) (w : Nat → Int32) (e : Nat → Nat → Int32) (w2 : Nat → Int32) (e2 : Nat → Nat → Int32) (nn2 : Nat) (x : Int32) : Prop := ((w2 0).toInt = (w 0).toInt ∧ nn2 = nn ∧ ∀ i9, 40 ≤ i9 → w2 i9 = w i9 ∧ e2 i9 = e i9) ∨ HCn K w e w2 e2 nn2 x
end
section
section
variable {l : Launch} {g : pm_G} {A0 : pm_H} {h : Nat} {q : Nat → Nat}
set_option maxRecDepth 100000 in
set_option maxHeartbeats 2000000 in
theorem Y_X11_laysOrder (D : md_D h q) (v : Nat → Int32) (f : Nat → Nat → Int32) (hv : md_V v) (hf : md_F f) (x1 : Int32) (x2 : Int32) (x3 : Int32) (p0 : 0 ≤ x1.toInt ∧ x1.toInt ≤ x2.toInt ∧ x2.toInt < (v 0).toInt) : pm_Mt l g 221 2 0 0 [.ref h, .int x1, .int x2, .int x3] (md A0 g h q v f) (md_Qw A0 g h q f (fun r v2 f2 => f2 0 = f 0 ∧ f2 1 = f 1 ∧ f2 12 = f 12 ∧ f2 13 = f 13 ∧ f2 14 = f 14 ∧ f2 15 = f 15 ∧ (v2 0).toInt = (v 0).toInt ∧ (v2 1).toInt = (v 1).toInt ∧ (v2 2).toInt = (v 2).toInt ∧ (v2 3).toInt = (v 3).toInt ∧ (v2 4).toInt = (v 4).toInt ∧ (v2 6).toInt = (v 6).toInt ∧ 0 ≤ r.toInt ∧ r.toInt ≤ 24)) := by
  refine mt_X11_laysOrder rfl (fun J hC => ?_)
  have hv9 := hv
  unfold md_V at hv9
  have rg_x1 := pm_rng x1
  have rg_x2 := pm_rng x2
  have rg_x3 := pm_rng x3
  refine hC.1 0 0 _ _ rfl _ _ _ _ _ ?_
  have k0 : (0 : Int32).toInt = 0 := rfl
  have lp2 : ∀ (n : Nat) (z4_9 : Int32) (z5_9 : Int32) (z6_9 : Int32) (v1 : Nat → Int32) (f1 : Nat → Nat → Int32), md_V v1 → md_F f1 → f1 2 = f 2 → f1 0 = f 0 → f1 1 = f 1 → f1 12 = f 12 → f1 13 = f 13 → f1 14 = f 14 → f1 15 = f 15 → (0 ≤ z6_9.toInt ∧ z6_9.toInt ≤ x2.toInt - x1.toInt + 1) → (z4_9.toInt = (cntB z5_9 24 : Int)) → (2 ≤ x3.toInt → z4_9.toInt = 0) → (v1 0).toInt = (v 0).toInt → (v1 1).toInt = (v 1).toInt → (v1 2).toInt = (v 2).toInt → (v1 3).toInt = (v 3).toInt → (v1 4).toInt = (v 4).toInt → (v1 6).toInt = (v 6).toInt → 200 - z6_9.toInt < (n : Int) → J 9 [some (.ref h), some (.int x1), some (.int x2), some (.int x3), some (.int z4_9), some (.int z5_9), some (.int z6_9), none, none] [] (md A0 g h q v1 f1) 0 0 := by
    intro n
    induction n with
    | zero =>
      intro z4_9 z5_9 z6_9 v1 f1 hv1 hf1 hw1 hr1_0 hr1_1 hr1_12 hr1_13 hr1_14 hr1_15 j0_9 j1_9 j2_9 j3_9 j4_9 j5_9 j6_9 j7_9 j8_9 j9_9
      omega
    | succ n ih3 =>
      intro z4_9 z5_9 z6_9 v1 f1 hv1 hf1 hw1 hr1_0 hr1_1 hr1_12 hr1_13 hr1_14 hr1_15 j0_9 j1_9 j2_9 j3_9 j4_9 j5_9 j6_9 j7_9 j8_9 j9_9
      have cb9 := cntB_le z5_9 24
      refine hC.1 1 9 _ _ rfl _ _ _ _ _ ?_
      have hu4 := hv1
      unfold md_V at hu4
      intro m5 em_13
      try have e5 : m5.toInt = (x2).toInt - (x1).toInt := by rw [em_13]; exact pm_sub _ _ (by omega) (by omega)
      refine And.intro (fun c6 => ?_) (fun c6 => ?_)
      · skip
        refine hC.1 6 85 _ _ rfl _ _ _ _ _ ?_
        have k2 : (2 : Int32).toInt = 2 := rfl
        refine And.intro (fun c7 => ?_) (fun c7 => ?_)
        · skip
          refine hC.1 7 93 _ _ rfl _ _ _ _ _ ?_
          refine And.intro (Exists.intro _ md_o) (Exists.intro _ (Exists.intro _ (Exists.intro _ (Exists.intro _ (And.intro (c_X11_setOf D v1 f1 hv1 hf1 x1 x2 (by omega) (by omega)) (And.intro rfl (fun r9 A9 h9 => ?_)))))))
          obtain ⟨y8, rfl, rfl, by8⟩ := h9
          have lp10 : ∀ (n : Nat) (z4_104 : Int32) (z7_104 : Int32) (v9 : Nat → Int32) (f9 : Nat → Nat → Int32), md_V v9 → md_F f9 → f9 2 = f 2 → f9 0 = f 0 → f9 1 = f 1 → f9 12 = f 12 → f9 13 = f 13 → f9 14 = f 14 → f9 15 = f 15 → (0 ≤ z7_104.toInt ∧ z7_104.toInt ≤ 24 ∧ 0 ≤ z4_104.toInt ∧ z4_104.toInt ≤ z7_104.toInt) → (v9 0).toInt = (v 0).toInt → (v9 1).toInt = (v 1).toInt → (v9 2).toInt = (v 2).toInt → (v9 3).toInt = (v 3).toInt → (v9 4).toInt = (v 4).toInt → (v9 6).toInt = (v 6).toInt → 30 - z7_104.toInt < (n : Int) → J 104 [some (.ref h), some (.int x1), some (.int x2), some (.int x3), some (.int z4_104), some (.int z5_9), some (.int y8), some (.int z7_104), none] [] (md A0 g h q v9 f9) 0 0 := by
            intro n
            induction n with
            | zero =>
              intro z4_104 z7_104 v9 f9 hv9 hf9 hw9 hr9_0 hr9_1 hr9_12 hr9_13 hr9_14 hr9_15 j0_104 j1_104 j2_104 j3_104 j4_104 j5_104 j6_104 j7_104
              omega
            | succ n ih11 =>
              intro z4_104 z7_104 v9 f9 hv9 hf9 hw9 hr9_0 hr9_1 hr9_12 hr9_13 hr9_14 hr9_15 j0_104 j1_104 j2_104 j3_104 j4_104 j5_104 j6_104 j7_104
              refine hC.1 8 104 _ _ rfl _ _ _ _ _ ?_
              have hu12 := hv9
              unfold md_V at hu12
              have k24 : (24 : Int32).toInt = 24 := rfl
              refine And.intro (fun c13 => ?_) (fun c13 => ?_)
              · skip
                refine hC.1 13 194 _ _ rfl _ _ _ _ _ ?_
                exact ⟨rfl, fun e9 => absurd e9 (by decide), rfl, z4_104, v9, f9, rfl, rfl, hv9, hf9, hw9, hr9_0, hr9_1, hr9_12, hr9_13, hr9_14, hr9_15, by first | omega | (dsimp only; omega) | trivial⟩
              · skip
                have k1 : (1 : Int32).toInt = 1 := rfl
                refine And.intro (fun c14 => ?_) (fun c14 => ?_)
                · skip
                  have dc14 := pm_neI c14
                  refine hC.1 9 124 _ _ rfl _ _ _ _ _ ?_
                  have lp16 : ∀ (n : Nat) (z8_128 : Int32) (v15 : Nat → Int32) (f15 : Nat → Nat → Int32), md_V v15 → md_F f15 → f15 2 = f 2 → f15 0 = f 0 → f15 1 = f 1 → f15 12 = f 12 → f15 13 = f 13 → f15 14 = f 14 → f15 15 = f 15 → (0 ≤ z8_128.toInt ∧ z8_128.toInt ≤ z4_104.toInt) → (v15 0).toInt = (v 0).toInt → (v15 1).toInt = (v 1).toInt → (v15 2).toInt = (v 2).toInt → (v15 3).toInt = (v 3).toInt → (v15 4).toInt = (v 4).toInt → (v15 6).toInt = (v 6).toInt → z8_128.toInt < (n : Int) → J 128 [some (.ref h), some (.int x1), some (.int x2), some (.int x3), some (.int z4_104), some (.int z5_9), some (.int y8), some (.int z7_104), some (.int z8_128)] [] (md A0 g h q v15 f15) 0 0 := by
                    intro n
                    induction n with
                    | zero =>
                      intro z8_128 v15 f15 hv15 hf15 hw15 hr15_0 hr15_1 hr15_12 hr15_13 hr15_14 hr15_15 j0_128 j1_128 j2_128 j3_128 j4_128 j5_128 j6_128 j7_128
                      omega
                    | succ n ih17 =>
                      intro z8_128 v15 f15 hv15 hf15 hw15 hr15_0 hr15_1 hr15_12 hr15_13 hr15_14 hr15_15 j0_128 j1_128 j2_128 j3_128 j4_128 j5_128 j6_128 j7_128
                      refine hC.1 10 128 _ _ rfl _ _ _ _ _ ?_
                      have hu18 := hv15
                      unfold md_V at hu18
                      refine And.intro (fun c19 => ?_) (fun c19 => ?_)
                      · skip
                        refine hC.1 11 176 _ _ rfl _ _ _ _ _ ?_
                        refine Exists.intro _ (And.intro md_o ?_)
                        refine Exists.intro _ (Exists.intro _ (And.intro (md_a_row D) (And.intro (by omega) ?_)))
                        rw [md_s_row D]
                        obtain ⟨f20, ef20⟩ : ∃ z9, z9 = va_up f15 16 (upd (f15 16) (z8_128).toInt.toNat z7_104) := ⟨_, rfl⟩
                        rw [← ef20]
                        have hf20 : md_F f20 := by rw [ef20]; exact md_F_st hf15 16 _ _ (by show (0 : Int) ≤ _ ∧ _ ≤ (23 : Int); omega)
                        have hw20 : f20 2 = f 2 := (show f20 2 = f15 2 by rw [ef20]; rfl).trans hw15
                        have hr20_0 : f20 0 = f 0 := (show f20 0 = f15 0 by rw [ef20]; rfl).trans hr15_0
                        have hr20_1 : f20 1 = f 1 := (show f20 1 = f15 1 by rw [ef20]; rfl).trans hr15_1
                        have hr20_12 : f20 12 = f 12 := (show f20 12 = f15 12 by rw [ef20]; rfl).trans hr15_12
                        have hr20_13 : f20 13 = f 13 := (show f20 13 = f15 13 by rw [ef20]; rfl).trans hr15_13
                        have hr20_14 : f20 14 = f 14 := (show f20 14 = f15 14 by rw [ef20]; rfl).trans hr15_14
                        have hr20_15 : f20 15 = f 15 := (show f20 15 = f15 15 by rw [ef20]; rfl).trans hr15_15
                        intro m21 em_185
                        try have e21 : m21.toInt = (z4_104).toInt + (1) := by rw [em_185]; exact pm_addc _ _ (1) rfl (by omega) (by omega)
                        refine hC.1 12 188 _ _ rfl _ _ _ _ _ ?_
                        intro m22 em_188
                        try have e22 : m22.toInt = (z7_104).toInt + (1) := by rw [em_188]; exact pm_addc _ _ (1) rfl (by omega) (by omega)
                        exact hC.2 [false, false, false, false, false, false, false, false, true] _ _ _ _ _ _ (ih11 m21 m22 v15 f20 hv15 hf20 hw20 hr20_0 hr20_1 hr20_12 hr20_13 hr20_14 hr20_15 (by omega) (by omega) (by omega) (by omega) (by omega) (by omega) (by omega) (by omega))
                      · skip
                        refine Exists.intro _ (And.intro md_o ?_)
                        intro m23 em_143
                        try have e23 : m23.toInt = (z8_128).toInt - (1) := by rw [em_143]; exact pm_subc _ _ (1) rfl (by omega) (by omega)
                        refine Exists.intro _ (Exists.intro _ (And.intro (Or.inl (md_a_row D)) (And.intro (by omega) ?_)))
                        have w24 : (0 : Int) ≤ (f15 16 (m23).toInt.toNat).toInt ∧ (f15 16 (m23).toInt.toNat).toInt ≤ (23 : Int) := hf15 16 _
                        refine And.intro (Exists.intro _ md_o) (Exists.intro _ (Exists.intro _ (Exists.intro _ (Exists.intro _ (And.intro (c_X11_isAhead D v15 f15 hv15 hf15 z7_104 (f15 16 (m23).toInt.toNat) x1 x2 x3 (by omega) (by omega) (by omega) (by omega)) (And.intro rfl (fun r9 A9 h9 => ?_)))))))
                        rcases h9 with ⟨y25, rfl, rfl, ⟨rfl, by25⟩ | ⟨rfl, by25⟩⟩
                        · skip
                          refine And.intro (fun c9 => absurd c9 (by decide)) (fun _ => ?_)
                          refine Exists.intro _ (And.intro md_o ?_)
                          refine Exists.intro _ (And.intro md_o ?_)
                          intro m26 em_167
                          try have e26 : m26.toInt = (z8_128).toInt - (1) := by rw [em_167]; exact pm_subc _ _ (1) rfl (by omega) (by omega)
                          refine Exists.intro _ (Exists.intro _ (And.intro (Or.inl (md_a_row D)) (And.intro (by omega) ?_)))
                          have w27 : (0 : Int) ≤ (f15 16 (m26).toInt.toNat).toInt ∧ (f15 16 (m26).toInt.toNat).toInt ≤ (23 : Int) := hf15 16 _
                          refine Exists.intro _ (Exists.intro _ (And.intro (md_a_row D) (And.intro (by omega) ?_)))
                          rw [md_s_row D]
                          obtain ⟨f28, ef28⟩ : ∃ z9, z9 = va_up f15 16 (upd (f15 16) (z8_128).toInt.toNat (f15 16 (m26).toInt.toNat)) := ⟨_, rfl⟩
                          rw [← ef28]
                          have hf28 : md_F f28 := by rw [ef28]; exact md_F_st hf15 16 _ _ (by show (0 : Int) ≤ _ ∧ _ ≤ (23 : Int); omega)
                          have hw28 : f28 2 = f 2 := (show f28 2 = f15 2 by rw [ef28]; rfl).trans hw15
                          have hr28_0 : f28 0 = f 0 := (show f28 0 = f15 0 by rw [ef28]; rfl).trans hr15_0
                          have hr28_1 : f28 1 = f 1 := (show f28 1 = f15 1 by rw [ef28]; rfl).trans hr15_1
                          have hr28_12 : f28 12 = f 12 := (show f28 12 = f15 12 by rw [ef28]; rfl).trans hr15_12
                          have hr28_13 : f28 13 = f 13 := (show f28 13 = f15 13 by rw [ef28]; rfl).trans hr15_13
                          have hr28_14 : f28 14 = f 14 := (show f28 14 = f15 14 by rw [ef28]; rfl).trans hr15_14
                          have hr28_15 : f28 15 = f 15 := (show f28 15 = f15 15 by rw [ef28]; rfl).trans hr15_15
                          have km1 : (-1 : Int32).toInt = -1 := rfl
                          intro m29 em_170
                          try have e29 : m29.toInt = (z8_128).toInt + (-1) := by rw [em_170]; exact pm_addc _ _ (-1) rfl (by omega) (by omega)
                          exact ih17 m29 v15 f28 hv15 hf28 hw28 hr28_0 hr28_1 hr28_12 hr28_13 hr28_14 hr28_15 (by omega) (by omega) (by omega) (by omega) (by omega) (by omega) (by omega) (by omega)
                        · skip
                          refine And.intro (fun _ => ?_) (fun c9 => absurd c9 (by decide))
                          refine hC.1 11 176 _ _ rfl _ _ _ _ _ ?_
                          refine Exists.intro _ (And.intro md_o ?_)
                          refine Exists.intro _ (Exists.intro _ (And.intro (md_a_row D) (And.intro (by omega) ?_)))
                          rw [md_s_row D]
                          obtain ⟨f30, ef30⟩ : ∃ z9, z9 = va_up f15 16 (upd (f15 16) (z8_128).toInt.toNat z7_104) := ⟨_, rfl⟩
                          rw [← ef30]
                          have hf30 : md_F f30 := by rw [ef30]; exact md_F_st hf15 16 _ _ (by show (0 : Int) ≤ _ ∧ _ ≤ (23 : Int); omega)
                          have hw30 : f30 2 = f 2 := (show f30 2 = f15 2 by rw [ef30]; rfl).trans hw15
                          have hr30_0 : f30 0 = f 0 := (show f30 0 = f15 0 by rw [ef30]; rfl).trans hr15_0
                          have hr30_1 : f30 1 = f 1 := (show f30 1 = f15 1 by rw [ef30]; rfl).trans hr15_1
                          have hr30_12 : f30 12 = f 12 := (show f30 12 = f15 12 by rw [ef30]; rfl).trans hr15_12
                          have hr30_13 : f30 13 = f 13 := (show f30 13 = f15 13 by rw [ef30]; rfl).trans hr15_13
                          have hr30_14 : f30 14 = f 14 := (show f30 14 = f15 14 by rw [ef30]; rfl).trans hr15_14
                          have hr30_15 : f30 15 = f 15 := (show f30 15 = f15 15 by rw [ef30]; rfl).trans hr15_15
                          intro m31 em_185
                          try have e31 : m31.toInt = (z4_104).toInt + (1) := by rw [em_185]; exact pm_addc _ _ (1) rfl (by omega) (by omega)
                          refine hC.1 12 188 _ _ rfl _ _ _ _ _ ?_
                          intro m32 em_188
                          try have e32 : m32.toInt = (z7_104).toInt + (1) := by rw [em_188]; exact pm_addc _ _ (1) rfl (by omega) (by omega)
                          exact hC.2 [false, false, false, false, false, false, false, false, true] _ _ _ _ _ _ (ih11 m31 m32 v15 f30 hv15 hf30 hw30 hr30_0 hr30_1 hr30_12 hr30_13 hr30_14 hr30_15 (by omega) (by omega) (by omega) (by omega) (by omega) (by omega) (by omega) (by omega))
                  exact lp16 (z4_104.toInt).toNat.succ z4_104 v9 f9 hv9 hf9 hw9 hr9_0 hr9_1 hr9_12 hr9_13 hr9_14 hr9_15 (by omega) (by omega) (by omega) (by omega) (by omega) (by omega) (by omega) (by omega)
                · skip
                  have dc14 : (((y8 >>> (z7_104 &&& 31)) &&& (1 : Int32))).toInt = (0 : Int32).toInt := congrArg Int32.toInt c14
                  refine hC.1 12 188 _ _ rfl _ _ _ _ _ ?_
                  intro m33 em_188
                  try have e33 : m33.toInt = (z7_104).toInt + (1) := by rw [em_188]; exact pm_addc _ _ (1) rfl (by omega) (by omega)
                  exact ih11 z4_104 m33 v9 f9 hv9 hf9 hw9 hr9_0 hr9_1 hr9_12 hr9_13 hr9_14 hr9_15 (by omega) (by omega) (by omega) (by omega) (by omega) (by omega) (by omega) (by omega)
          exact lp10 (30 - (0 : Int32).toInt).toNat.succ z4_9 (0 : Int32) v1 f1 hv1 hf1 hw1 hr1_0 hr1_1 hr1_12 hr1_13 hr1_14 hr1_15 (by omega) (by omega) (by omega) (by omega) (by omega) (by omega) (by omega) (by omega)
        · skip
          exact ⟨rfl, fun e9 => absurd e9 (by decide), rfl, z4_9, v1, f1, rfl, rfl, hv1, hf1, hw1, hr1_0, hr1_1, hr1_12, hr1_13, hr1_14, hr1_15, by first | omega | (dsimp only; omega) | trivial⟩
      · skip
        have k2 : (2 : Int32).toInt = 2 := rfl
        refine And.intro (fun c34 => ?_) (fun c34 => ?_)
        · skip
          refine hC.1 6 85 _ _ rfl _ _ _ _ _ ?_
          refine And.intro (fun c35 => ?_) (fun c35 => ?_)
          · skip
            refine hC.1 7 93 _ _ rfl _ _ _ _ _ ?_
            refine And.intro (Exists.intro _ md_o) (Exists.intro _ (Exists.intro _ (Exists.intro _ (Exists.intro _ (And.intro (c_X11_setOf D v1 f1 hv1 hf1 x1 x2 (by omega) (by omega)) (And.intro rfl (fun r9 A9 h9 => ?_)))))))
            obtain ⟨y36, rfl, rfl, by36⟩ := h9
            have lp38 : ∀ (n : Nat) (z4_104 : Int32) (z7_104 : Int32) (v37 : Nat → Int32) (f37 : Nat → Nat → Int32), md_V v37 → md_F f37 → f37 2 = f 2 → f37 0 = f 0 → f37 1 = f 1 → f37 12 = f 12 → f37 13 = f 13 → f37 14 = f 14 → f37 15 = f 15 → (0 ≤ z7_104.toInt ∧ z7_104.toInt ≤ 24 ∧ 0 ≤ z4_104.toInt ∧ z4_104.toInt ≤ z7_104.toInt) → (v37 0).toInt = (v 0).toInt → (v37 1).toInt = (v 1).toInt → (v37 2).toInt = (v 2).toInt → (v37 3).toInt = (v 3).toInt → (v37 4).toInt = (v 4).toInt → (v37 6).toInt = (v 6).toInt → 30 - z7_104.toInt < (n : Int) → J 104 [some (.ref h), some (.int x1), some (.int x2), some (.int x3), some (.int z4_104), some (.int z5_9), some (.int y36), some (.int z7_104), none] [] (md A0 g h q v37 f37) 0 0 := by
              intro n
              induction n with
              | zero =>
                intro z4_104 z7_104 v37 f37 hv37 hf37 hw37 hr37_0 hr37_1 hr37_12 hr37_13 hr37_14 hr37_15 j0_104 j1_104 j2_104 j3_104 j4_104 j5_104 j6_104 j7_104
                omega
              | succ n ih39 =>
                intro z4_104 z7_104 v37 f37 hv37 hf37 hw37 hr37_0 hr37_1 hr37_12 hr37_13 hr37_14 hr37_15 j0_104 j1_104 j2_104 j3_104 j4_104 j5_104 j6_104 j7_104
                refine hC.1 8 104 _ _ rfl _ _ _ _ _ ?_
                have hu40 := hv37
                unfold md_V at hu40
                have k24 : (24 : Int32).toInt = 24 := rfl
                refine And.intro (fun c41 => ?_) (fun c41 => ?_)
                · skip
                  refine hC.1 13 194 _ _ rfl _ _ _ _ _ ?_
                  exact ⟨rfl, fun e9 => absurd e9 (by decide), rfl, z4_104, v37, f37, rfl, rfl, hv37, hf37, hw37, hr37_0, hr37_1, hr37_12, hr37_13, hr37_14, hr37_15, by first | omega | (dsimp only; omega) | trivial⟩
                · skip
                  have k1 : (1 : Int32).toInt = 1 := rfl
                  refine And.intro (fun c42 => ?_) (fun c42 => ?_)
                  · skip
                    have dc42 := pm_neI c42
                    refine hC.1 9 124 _ _ rfl _ _ _ _ _ ?_
                    have lp44 : ∀ (n : Nat) (z8_128 : Int32) (v43 : Nat → Int32) (f43 : Nat → Nat → Int32), md_V v43 → md_F f43 → f43 2 = f 2 → f43 0 = f 0 → f43 1 = f 1 → f43 12 = f 12 → f43 13 = f 13 → f43 14 = f 14 → f43 15 = f 15 → (0 ≤ z8_128.toInt ∧ z8_128.toInt ≤ z4_104.toInt) → (v43 0).toInt = (v 0).toInt → (v43 1).toInt = (v 1).toInt → (v43 2).toInt = (v 2).toInt → (v43 3).toInt = (v 3).toInt → (v43 4).toInt = (v 4).toInt → (v43 6).toInt = (v 6).toInt → z8_128.toInt < (n : Int) → J 128 [some (.ref h), some (.int x1), some (.int x2), some (.int x3), some (.int z4_104), some (.int z5_9), some (.int y36), some (.int z7_104), some (.int z8_128)] [] (md A0 g h q v43 f43) 0 0 := by
                      intro n
                      induction n with
                      | zero =>
                        intro z8_128 v43 f43 hv43 hf43 hw43 hr43_0 hr43_1 hr43_12 hr43_13 hr43_14 hr43_15 j0_128 j1_128 j2_128 j3_128 j4_128 j5_128 j6_128 j7_128
                        omega
                      | succ n ih45 =>
                        intro z8_128 v43 f43 hv43 hf43 hw43 hr43_0 hr43_1 hr43_12 hr43_13 hr43_14 hr43_15 j0_128 j1_128 j2_128 j3_128 j4_128 j5_128 j6_128 j7_128
                        refine hC.1 10 128 _ _ rfl _ _ _ _ _ ?_
                        have hu46 := hv43
                        unfold md_V at hu46
                        refine And.intro (fun c47 => ?_) (fun c47 => ?_)
                        · skip
                          refine hC.1 11 176 _ _ rfl _ _ _ _ _ ?_
                          refine Exists.intro _ (And.intro md_o ?_)
                          refine Exists.intro _ (Exists.intro _ (And.intro (md_a_row D) (And.intro (by omega) ?_)))
                          rw [md_s_row D]
                          obtain ⟨f48, ef48⟩ : ∃ z9, z9 = va_up f43 16 (upd (f43 16) (z8_128).toInt.toNat z7_104) := ⟨_, rfl⟩
                          rw [← ef48]
                          have hf48 : md_F f48 := by rw [ef48]; exact md_F_st hf43 16 _ _ (by show (0 : Int) ≤ _ ∧ _ ≤ (23 : Int); omega)
                          have hw48 : f48 2 = f 2 := (show f48 2 = f43 2 by rw [ef48]; rfl).trans hw43
                          have hr48_0 : f48 0 = f 0 := (show f48 0 = f43 0 by rw [ef48]; rfl).trans hr43_0
                          have hr48_1 : f48 1 = f 1 := (show f48 1 = f43 1 by rw [ef48]; rfl).trans hr43_1
                          have hr48_12 : f48 12 = f 12 := (show f48 12 = f43 12 by rw [ef48]; rfl).trans hr43_12
                          have hr48_13 : f48 13 = f 13 := (show f48 13 = f43 13 by rw [ef48]; rfl).trans hr43_13
                          have hr48_14 : f48 14 = f 14 := (show f48 14 = f43 14 by rw [ef48]; rfl).trans hr43_14
                          have hr48_15 : f48 15 = f 15 := (show f48 15 = f43 15 by rw [ef48]; rfl).trans hr43_15
                          intro m49 em_185
                          try have e49 : m49.toInt = (z4_104).toInt + (1) := by rw [em_185]; exact pm_addc _ _ (1) rfl (by omega) (by omega)
                          refine hC.1 12 188 _ _ rfl _ _ _ _ _ ?_
                          intro m50 em_188
                          try have e50 : m50.toInt = (z7_104).toInt + (1) := by rw [em_188]; exact pm_addc _ _ (1) rfl (by omega) (by omega)
                          exact hC.2 [false, false, false, false, false, false, false, false, true] _ _ _ _ _ _ (ih39 m49 m50 v43 f48 hv43 hf48 hw48 hr48_0 hr48_1 hr48_12 hr48_13 hr48_14 hr48_15 (by omega) (by omega) (by omega) (by omega) (by omega) (by omega) (by omega) (by omega))
                        · skip
                          refine Exists.intro _ (And.intro md_o ?_)
                          intro m51 em_143
                          try have e51 : m51.toInt = (z8_128).toInt - (1) := by rw [em_143]; exact pm_subc _ _ (1) rfl (by omega) (by omega)
                          refine Exists.intro _ (Exists.intro _ (And.intro (Or.inl (md_a_row D)) (And.intro (by omega) ?_)))
                          have w52 : (0 : Int) ≤ (f43 16 (m51).toInt.toNat).toInt ∧ (f43 16 (m51).toInt.toNat).toInt ≤ (23 : Int) := hf43 16 _
                          refine And.intro (Exists.intro _ md_o) (Exists.intro _ (Exists.intro _ (Exists.intro _ (Exists.intro _ (And.intro (c_X11_isAhead D v43 f43 hv43 hf43 z7_104 (f43 16 (m51).toInt.toNat) x1 x2 x3 (by omega) (by omega) (by omega) (by omega)) (And.intro rfl (fun r9 A9 h9 => ?_)))))))
                          rcases h9 with ⟨y53, rfl, rfl, ⟨rfl, by53⟩ | ⟨rfl, by53⟩⟩
                          · skip
                            refine And.intro (fun c9 => absurd c9 (by decide)) (fun _ => ?_)
                            refine Exists.intro _ (And.intro md_o ?_)
                            refine Exists.intro _ (And.intro md_o ?_)
                            intro m54 em_167
                            try have e54 : m54.toInt = (z8_128).toInt - (1) := by rw [em_167]; exact pm_subc _ _ (1) rfl (by omega) (by omega)
                            refine Exists.intro _ (Exists.intro _ (And.intro (Or.inl (md_a_row D)) (And.intro (by omega) ?_)))
                            have w55 : (0 : Int) ≤ (f43 16 (m54).toInt.toNat).toInt ∧ (f43 16 (m54).toInt.toNat).toInt ≤ (23 : Int) := hf43 16 _
                            refine Exists.intro _ (Exists.intro _ (And.intro (md_a_row D) (And.intro (by omega) ?_)))
                            rw [md_s_row D]
                            obtain ⟨f56, ef56⟩ : ∃ z9, z9 = va_up f43 16 (upd (f43 16) (z8_128).toInt.toNat (f43 16 (m54).toInt.toNat)) := ⟨_, rfl⟩
                            rw [← ef56]
                            have hf56 : md_F f56 := by rw [ef56]; exact md_F_st hf43 16 _ _ (by show (0 : Int) ≤ _ ∧ _ ≤ (23 : Int); omega)
                            have hw56 : f56 2 = f 2 := (show f56 2 = f43 2 by rw [ef56]; rfl).trans hw43
                            have hr56_0 : f56 0 = f 0 := (show f56 0 = f43 0 by rw [ef56]; rfl).trans hr43_0
                            have hr56_1 : f56 1 = f 1 := (show f56 1 = f43 1 by rw [ef56]; rfl).trans hr43_1
                            have hr56_12 : f56 12 = f 12 := (show f56 12 = f43 12 by rw [ef56]; rfl).trans hr43_12
                            have hr56_13 : f56 13 = f 13 := (show f56 13 = f43 13 by rw [ef56]; rfl).trans hr43_13
                            have hr56_14 : f56 14 = f 14 := (show f56 14 = f43 14 by rw [ef56]; rfl).trans hr43_14
                            have hr56_15 : f56 15 = f 15 := (show f56 15 = f43 15 by rw [ef56]; rfl).trans hr43_15
                            have km1 : (-1 : Int32).toInt = -1 := rfl
                            intro m57 em_170
                            try have e57 : m57.toInt = (z8_128).toInt + (-1) := by rw [em_170]; exact pm_addc _ _ (-1) rfl (by omega) (by omega)
                            exact ih45 m57 v43 f56 hv43 hf56 hw56 hr56_0 hr56_1 hr56_12 hr56_13 hr56_14 hr56_15 (by omega) (by omega) (by omega) (by omega) (by omega) (by omega) (by omega) (by omega)
                          · skip
                            refine And.intro (fun _ => ?_) (fun c9 => absurd c9 (by decide))
                            refine hC.1 11 176 _ _ rfl _ _ _ _ _ ?_
                            refine Exists.intro _ (And.intro md_o ?_)
                            refine Exists.intro _ (Exists.intro _ (And.intro (md_a_row D) (And.intro (by omega) ?_)))
                            rw [md_s_row D]
                            obtain ⟨f58, ef58⟩ : ∃ z9, z9 = va_up f43 16 (upd (f43 16) (z8_128).toInt.toNat z7_104) := ⟨_, rfl⟩
                            rw [← ef58]
                            have hf58 : md_F f58 := by rw [ef58]; exact md_F_st hf43 16 _ _ (by show (0 : Int) ≤ _ ∧ _ ≤ (23 : Int); omega)
                            have hw58 : f58 2 = f 2 := (show f58 2 = f43 2 by rw [ef58]; rfl).trans hw43
                            have hr58_0 : f58 0 = f 0 := (show f58 0 = f43 0 by rw [ef58]; rfl).trans hr43_0
                            have hr58_1 : f58 1 = f 1 := (show f58 1 = f43 1 by rw [ef58]; rfl).trans hr43_1
                            have hr58_12 : f58 12 = f 12 := (show f58 12 = f43 12 by rw [ef58]; rfl).trans hr43_12
                            have hr58_13 : f58 13 = f 13 := (show f58 13 = f43 13 by rw [ef58]; rfl).trans hr43_13
                            have hr58_14 : f58 14 = f 14 := (show f58 14 = f43 14 by rw [ef58]; rfl).trans hr43_14
                            have hr58_15 : f58 15 = f 15 := (show f58 15 = f43 15 by rw [ef58]; rfl).trans hr43_15
                            intro m59 em_185
                            try have e59 : m59.toInt = (z4_104).toInt + (1) := by rw [em_185]; exact pm_addc _ _ (1) rfl (by omega) (by omega)
                            refine hC.1 12 188 _ _ rfl _ _ _ _ _ ?_
                            intro m60 em_188
                            try have e60 : m60.toInt = (z7_104).toInt + (1) := by rw [em_188]; exact pm_addc _ _ (1) rfl (by omega) (by omega)
                            exact hC.2 [false, false, false, false, false, false, false, false, true] _ _ _ _ _ _ (ih39 m59 m60 v43 f58 hv43 hf58 hw58 hr58_0 hr58_1 hr58_12 hr58_13 hr58_14 hr58_15 (by omega) (by omega) (by omega) (by omega) (by omega) (by omega) (by omega) (by omega))
                    exact lp44 (z4_104.toInt).toNat.succ z4_104 v37 f37 hv37 hf37 hw37 hr37_0 hr37_1 hr37_12 hr37_13 hr37_14 hr37_15 (by omega) (by omega) (by omega) (by omega) (by omega) (by omega) (by omega) (by omega)
                  · skip
                    have dc42 : (((y36 >>> (z7_104 &&& 31)) &&& (1 : Int32))).toInt = (0 : Int32).toInt := congrArg Int32.toInt c42
                    refine hC.1 12 188 _ _ rfl _ _ _ _ _ ?_
                    intro m61 em_188
                    try have e61 : m61.toInt = (z7_104).toInt + (1) := by rw [em_188]; exact pm_addc _ _ (1) rfl (by omega) (by omega)
                    exact ih39 z4_104 m61 v37 f37 hv37 hf37 hw37 hr37_0 hr37_1 hr37_12 hr37_13 hr37_14 hr37_15 (by omega) (by omega) (by omega) (by omega) (by omega) (by omega) (by omega) (by omega)
            exact lp38 (30 - (0 : Int32).toInt).toNat.succ z4_9 (0 : Int32) v1 f1 hv1 hf1 hw1 hr1_0 hr1_1 hr1_12 hr1_13 hr1_14 hr1_15 (by omega) (by omega) (by omega) (by omega) (by omega) (by omega) (by omega) (by omega)
          · skip
            exact ⟨rfl, fun e9 => absurd e9 (by decide), rfl, z4_9, v1, f1, rfl, rfl, hv1, hf1, hw1, hr1_0, hr1_1, hr1_12, hr1_13, hr1_14, hr1_15, by first | omega | (dsimp only; omega) | trivial⟩
        · skip
          refine Exists.intro _ (And.intro md_o ?_)
          refine And.intro (fun c62 => ?_) (fun c62 => ?_)
          · skip
            have dc62 := pm_neI c62
            refine hC.1 2 37 _ _ rfl _ _ _ _ _ ?_
            intro m63 em_40
            try have e63 : m63.toInt = (x2).toInt - (z6_9).toInt := by rw [em_40]; exact pm_sub _ _ (by omega) (by omega)
            refine hC.1 3 41 _ _ rfl _ _ _ _ _ ?_
            refine Exists.intro _ (Exists.intro _ (And.intro (Or.inl (md_a_colours D)) (And.intro (by omega) ?_)))
            have w64 : (0 : Int) ≤ (f1 0 (m63).toInt.toNat).toInt ∧ (f1 0 (m63).toInt.toNat).toInt ≤ (23 : Int) := hf1 0 _
            have k1 : (1 : Int32).toInt = 1 := rfl
            refine And.intro (fun c65 => ?_) (fun c65 => ?_)
            · skip
              have dc65 := pm_neI c65
              refine hC.1 4 58 _ _ rfl _ _ _ _ _ ?_
              have hn9 := cnt_lt (c := (f1 0 (m63).toInt.toNat)) j1_9 (by omega) (by assumption)
              refine Exists.intro _ (And.intro md_o ?_)
              refine Exists.intro _ (Exists.intro _ (And.intro (md_a_row D) (And.intro (by omega) ?_)))
              rw [md_s_row D]
              obtain ⟨f66, ef66⟩ : ∃ z9, z9 = va_up f1 16 (upd (f1 16) (z4_9).toInt.toNat (f1 0 (m63).toInt.toNat)) := ⟨_, rfl⟩
              rw [← ef66]
              have hf66 : md_F f66 := by rw [ef66]; exact md_F_st hf1 16 _ _ (by show (0 : Int) ≤ _ ∧ _ ≤ (23 : Int); omega)
              have hw66 : f66 2 = f 2 := (show f66 2 = f1 2 by rw [ef66]; rfl).trans hw1
              have hr66_0 : f66 0 = f 0 := (show f66 0 = f1 0 by rw [ef66]; rfl).trans hr1_0
              have hr66_1 : f66 1 = f 1 := (show f66 1 = f1 1 by rw [ef66]; rfl).trans hr1_1
              have hr66_12 : f66 12 = f 12 := (show f66 12 = f1 12 by rw [ef66]; rfl).trans hr1_12
              have hr66_13 : f66 13 = f 13 := (show f66 13 = f1 13 by rw [ef66]; rfl).trans hr1_13
              have hr66_14 : f66 14 = f 14 := (show f66 14 = f1 14 by rw [ef66]; rfl).trans hr1_14
              have hr66_15 : f66 15 = f 15 := (show f66 15 = f1 15 by rw [ef66]; rfl).trans hr1_15
              intro m67 em_76
              try have e67 : m67.toInt = (z4_9).toInt + (1) := by rw [em_76]; exact pm_addc _ _ (1) rfl (by omega) (by omega)
              refine hC.1 5 79 _ _ rfl _ _ _ _ _ ?_
              intro m68 em_79
              try have e68 : m68.toInt = (z6_9).toInt + (1) := by rw [em_79]; exact pm_addc _ _ (1) rfl (by omega) (by omega)
              exact hC.2 [false, false, false, false, false, false, false, true, false] _ _ _ _ _ _ (ih3 m67 (z5_9 ||| ((1 : Int32) <<< ((f1 0 (m63).toInt.toNat) &&& 31))) m68 v1 f66 hv1 hf66 hw66 hr66_0 hr66_1 hr66_12 hr66_13 hr66_14 hr66_15 (by omega) (by first | exact j1_9 | (rw [em_76]; exact cnt_st j1_9 (by omega) (by assumption))) (by omega) (by omega) (by omega) (by omega) (by omega) (by omega) (by omega) (by omega))
            · skip
              have dc65 : (((z5_9 >>> ((f1 0 (m63).toInt.toNat) &&& 31)) &&& (1 : Int32))).toInt = ((1 : Int32) : Int32).toInt := congrArg Int32.toInt c65
              refine hC.1 5 79 _ _ rfl _ _ _ _ _ ?_
              intro m69 em_79
              try have e69 : m69.toInt = (z6_9).toInt + (1) := by rw [em_79]; exact pm_addc _ _ (1) rfl (by omega) (by omega)
              exact hC.2 [false, false, false, false, false, false, false, true, false] _ _ _ _ _ _ (ih3 z4_9 z5_9 m69 v1 f1 hv1 hf1 hw1 hr1_0 hr1_1 hr1_12 hr1_13 hr1_14 hr1_15 (by omega) (by first | exact j1_9 | (rw [em_76]; exact cnt_st j1_9 (by omega) (by assumption))) (by omega) (by omega) (by omega) (by omega) (by omega) (by omega) (by omega) (by omega))
          · skip
            have dc62 : (x3).toInt = (0 : Int32).toInt := congrArg Int32.toInt c62
            intro m70 em_33
            try have e70 : m70.toInt = (x1).toInt + (z6_9).toInt := by rw [em_33]; exact pm_add _ _ (by omega) (by omega)
            refine hC.1 3 41 _ _ rfl _ _ _ _ _ ?_
            refine Exists.intro _ (Exists.intro _ (And.intro (Or.inl (md_a_colours D)) (And.intro (by omega) ?_)))
            have w71 : (0 : Int) ≤ (f1 0 (m70).toInt.toNat).toInt ∧ (f1 0 (m70).toInt.toNat).toInt ≤ (23 : Int) := hf1 0 _
            have k1 : (1 : Int32).toInt = 1 := rfl
            refine And.intro (fun c72 => ?_) (fun c72 => ?_)
            · skip
              have dc72 := pm_neI c72
              refine hC.1 4 58 _ _ rfl _ _ _ _ _ ?_
              have hn9 := cnt_lt (c := (f1 0 (m70).toInt.toNat)) j1_9 (by omega) (by assumption)
              refine Exists.intro _ (And.intro md_o ?_)
              refine Exists.intro _ (Exists.intro _ (And.intro (md_a_row D) (And.intro (by omega) ?_)))
              rw [md_s_row D]
              obtain ⟨f73, ef73⟩ : ∃ z9, z9 = va_up f1 16 (upd (f1 16) (z4_9).toInt.toNat (f1 0 (m70).toInt.toNat)) := ⟨_, rfl⟩
              rw [← ef73]
              have hf73 : md_F f73 := by rw [ef73]; exact md_F_st hf1 16 _ _ (by show (0 : Int) ≤ _ ∧ _ ≤ (23 : Int); omega)
              have hw73 : f73 2 = f 2 := (show f73 2 = f1 2 by rw [ef73]; rfl).trans hw1
              have hr73_0 : f73 0 = f 0 := (show f73 0 = f1 0 by rw [ef73]; rfl).trans hr1_0
              have hr73_1 : f73 1 = f 1 := (show f73 1 = f1 1 by rw [ef73]; rfl).trans hr1_1
              have hr73_12 : f73 12 = f 12 := (show f73 12 = f1 12 by rw [ef73]; rfl).trans hr1_12
              have hr73_13 : f73 13 = f 13 := (show f73 13 = f1 13 by rw [ef73]; rfl).trans hr1_13
              have hr73_14 : f73 14 = f 14 := (show f73 14 = f1 14 by rw [ef73]; rfl).trans hr1_14
              have hr73_15 : f73 15 = f 15 := (show f73 15 = f1 15 by rw [ef73]; rfl).trans hr1_15
              intro m74 em_76
              try have e74 : m74.toInt = (z4_9).toInt + (1) := by rw [em_76]; exact pm_addc _ _ (1) rfl (by omega) (by omega)
              refine hC.1 5 79 _ _ rfl _ _ _ _ _ ?_
              intro m75 em_79
              try have e75 : m75.toInt = (z6_9).toInt + (1) := by rw [em_79]; exact pm_addc _ _ (1) rfl (by omega) (by omega)
              exact hC.2 [false, false, false, false, false, false, false, true, false] _ _ _ _ _ _ (ih3 m74 (z5_9 ||| ((1 : Int32) <<< ((f1 0 (m70).toInt.toNat) &&& 31))) m75 v1 f73 hv1 hf73 hw73 hr73_0 hr73_1 hr73_12 hr73_13 hr73_14 hr73_15 (by omega) (by first | exact j1_9 | (rw [em_76]; exact cnt_st j1_9 (by omega) (by assumption))) (by omega) (by omega) (by omega) (by omega) (by omega) (by omega) (by omega) (by omega))
            · skip
              have dc72 : (((z5_9 >>> ((f1 0 (m70).toInt.toNat) &&& 31)) &&& (1 : Int32))).toInt = ((1 : Int32) : Int32).toInt := congrArg Int32.toInt c72
              refine hC.1 5 79 _ _ rfl _ _ _ _ _ ?_
              intro m76 em_79
              try have e76 : m76.toInt = (z6_9).toInt + (1) := by rw [em_79]; exact pm_addc _ _ (1) rfl (by omega) (by omega)
              exact hC.2 [false, false, false, false, false, false, false, true, false] _ _ _ _ _ _ (ih3 z4_9 z5_9 m76 v1 f1 hv1 hf1 hw1 hr1_0 hr1_1 hr1_12 hr1_13 hr1_14 hr1_15 (by omega) (by first | exact j1_9 | (rw [em_76]; exact cnt_st j1_9 (by omega) (by assumption))) (by omega) (by omega) (by omega) (by omega) (by omega) (by omega) (by omega) (by omega))
  exact lp2 (200 - (0 : Int32).toInt).toNat.succ (0 : Int32) (0 : Int32) (0 : Int32) v f hv hf rfl rfl rfl rfl rfl rfl rfl (by omega) (by exact cnt_0) (by omega) (by omega) (by omega) (by omega) (by omega) (by omega) (by omega) (by omega)

end
end
section
section
variable {l : Launch} {g : pm_G} {A0 : pm_H} {h : Nat} {q : Nat → Nat}
set_option maxRecDepth 100000 in
set_option maxHeartbeats 2000000 in
theorem Y_X11_kth (D : md_D h q) (v : Nat → Int32) (f : Nat → Nat → Int32) (hv : md_V v) (hf : md_F f) (x1 : Int32) (x2 : Int32) (x3 : Int32) (x4 : Int32)  : pm_Mt l g 220 3 0 0 [.ref h, .int x1, .int x2, .int x3, .int x4] (md A0 g h q v f) (md_Qw A0 g h q f (fun r v2 f2 => f2 0 = f 0 ∧ f2 1 = f 1 ∧ f2 12 = f 12 ∧ f2 13 = f 13 ∧ f2 14 = f 14 ∧ f2 15 = f 15 ∧ (v2 0).toInt = (v 0).toInt ∧ (v2 1).toInt = (v 1).toInt ∧ (v2 2).toInt = (v 2).toInt ∧ (v2 3).toInt = (v 3).toInt ∧ (v2 4).toInt = (v 4).toInt ∧ (v2 6).toInt = (v 6).toInt)) := by
  refine mt_X11_kth rfl (fun J hC => ?_)
  have hv9 := hv
  unfold md_V at hv9
  have rg_x1 := pm_rng x1
  have rg_x2 := pm_rng x2
  have rg_x3 := pm_rng x3
  have rg_x4 := pm_rng x4
  refine hC.1 0 0 _ _ rfl _ _ _ _ _ ?_
  refine And.intro (Exists.intro _ md_o) (Exists.intro _ (Exists.intro _ (Exists.intro _ (Exists.intro _ (And.intro (c_X11_isSpan D v f hv hf x1 x2 ) (And.intro rfl (fun r9 A9 h9 => ?_)))))))
  rcases h9 with ⟨y1, rfl, rfl, ⟨rfl, by1⟩ | ⟨rfl, by1⟩⟩
  · skip
    have k1 : (1 : Int32).toInt = 1 := rfl
    refine And.intro (fun c9 => absurd c9 (by decide)) (fun _ => ?_)
    have k0 : (0 : Int32).toInt = 0 := rfl
    have k4 : (4 : Int32).toInt = 4 := rfl
    refine Exists.intro _ (Exists.intro _ (Exists.intro _ (Exists.intro _ (And.intro (c_X11_isIn (md A0 g h q v f) x4 (0 : Int32) (4 : Int32) ) (And.intro rfl (fun r9 A9 h9 => ?_))))))
    rcases h9 with ⟨y2, rfl, rfl, ⟨rfl, by2⟩ | ⟨rfl, by2⟩⟩
    · skip
      refine And.intro (fun _ => ?_) (fun c9 => absurd c9 (by decide))
      refine hC.1 2 21 _ _ rfl _ _ _ _ _ ?_
      refine And.intro (Exists.intro _ md_o) (Exists.intro _ (Exists.intro _ (Exists.intro _ (Exists.intro _ (And.intro (Y_X11_laysOrder D v f hv hf x1 x2 x4 (by omega)) (And.intro rfl (fun r9 A9 h9 => ?_)))))))
      obtain ⟨y3, v4, f4, rfl, rfl, hv4, hf4, hx4, hg4_0, hg4_1, hg4_12, hg4_13, hg4_14, hg4_15, by3⟩ := h9
      have hw4 : f4 2 = f 2 := hx4.trans rfl
      have hr4_0 : f4 0 = f 0 := hg4_0.trans rfl
      have hr4_1 : f4 1 = f 1 := hg4_1.trans rfl
      have hr4_12 : f4 12 = f 12 := hg4_12.trans rfl
      have hr4_13 : f4 13 = f 13 := hg4_13.trans rfl
      have hr4_14 : f4 14 = f 14 := hg4_14.trans rfl
      have hr4_15 : f4 15 = f 15 := hg4_15.trans rfl
      have hu5 := hv4
      unfold md_V at hu5
      intro m6 em_36
      try have e6 : m6.toInt = (y3).toInt - (1) := by rw [em_36]; exact pm_subc _ _ (1) rfl (by omega) (by omega)
      refine Exists.intro _ (Exists.intro _ (Exists.intro _ (Exists.intro _ (And.intro (c_X11_isIn (md A0 g h q v4 f4) x3 (0 : Int32) m6 ) (And.intro rfl (fun r9 A9 h9 => ?_))))))
      rcases h9 with ⟨y7, rfl, rfl, ⟨rfl, by7⟩ | ⟨rfl, by7⟩⟩
      · skip
        refine And.intro (fun c9 => absurd c9 (by decide)) (fun _ => ?_)
        refine Exists.intro _ (And.intro md_o ?_)
        refine Exists.intro _ (Exists.intro _ (And.intro (Or.inl (md_a_row D)) (And.intro (by omega) ?_)))
        have w8 : (0 : Int) ≤ (f4 16 (x3).toInt.toNat).toInt ∧ (f4 16 (x3).toInt.toNat).toInt ≤ (23 : Int) := hf4 16 _
        refine hC.1 4 53 _ _ rfl _ _ _ _ _ ?_
        exact ⟨rfl, fun e9 => absurd e9 (by decide), rfl, (f4 16 (x3).toInt.toNat), v4, f4, rfl, rfl, hv4, hf4, hw4, hr4_0, hr4_1, hr4_12, hr4_13, hr4_14, hr4_15, by first | omega | (dsimp only; omega) | trivial⟩
      · skip
        refine And.intro (fun _ => ?_) (fun c9 => absurd c9 (by decide))
        refine hC.1 3 52 _ _ rfl _ _ _ _ _ ?_
        have km1 : (-1 : Int32).toInt = -1 := rfl
        refine hC.1 4 53 _ _ rfl _ _ _ _ _ ?_
        exact ⟨rfl, fun e9 => absurd e9 (by decide), rfl, (-1 : Int32), v4, f4, rfl, rfl, hv4, hf4, hw4, hr4_0, hr4_1, hr4_12, hr4_13, hr4_14, hr4_15, by first | omega | (dsimp only; omega) | trivial⟩
    · skip
      refine And.intro (fun c9 => absurd c9 (by decide)) (fun _ => ?_)
      refine hC.1 1 19 _ _ rfl _ _ _ _ _ ?_
      have km1 : (-1 : Int32).toInt = -1 := rfl
      exact ⟨rfl, fun e9 => absurd e9 (by decide), rfl, (-1 : Int32), v, f, rfl, rfl, hv, hf, rfl, rfl, rfl, rfl, rfl, rfl, rfl, by first | omega | (dsimp only; omega) | trivial⟩
  · skip
    have k0 : (0 : Int32).toInt = 0 := rfl
    refine And.intro (fun _ => ?_) (fun c9 => absurd c9 (by decide))
    refine hC.1 1 19 _ _ rfl _ _ _ _ _ ?_
    have km1 : (-1 : Int32).toInt = -1 := rfl
    exact ⟨rfl, fun e9 => absurd e9 (by decide), rfl, (-1 : Int32), v, f, rfl, rfl, hv, hf, rfl, rfl, rfl, rfl, rfl, rfl, rfl, by first | omega | (dsimp only; omega) | trivial⟩

set_option maxRecDepth 100000 in
set_option maxHeartbeats 2000000 in
theorem Y_X11_least (D : md_D h q) (v : Nat → Int32) (f : Nat → Nat → Int32) (hv : md_V v) (hf : md_F f) (x1 : Int32) (x2 : Int32) (x3 : Int32)  : pm_Mt l g 242 3 0 0 [.ref h, .int x1, .int x2, .int x3] (md A0 g h q v f) (md_Qw A0 g h q f (fun r v2 f2 => f2 0 = f 0 ∧ f2 1 = f 1 ∧ f2 12 = f 12 ∧ f2 13 = f 13 ∧ f2 14 = f 14 ∧ f2 15 = f 15 ∧ (v2 0).toInt = (v 0).toInt ∧ (v2 1).toInt = (v 1).toInt ∧ (v2 2).toInt = (v 2).toInt ∧ (v2 3).toInt = (v 3).toInt ∧ (v2 4).toInt = (v 4).toInt ∧ (v2 6).toInt = (v 6).toInt)) := by
  refine mt_X11_least rfl (fun J hC => ?_)
  have hv9 := hv
  unfold md_V at hv9
  have rg_x1 := pm_rng x1
  have rg_x2 := pm_rng x2
  have rg_x3 := pm_rng x3
  refine hC.1 0 0 _ _ rfl _ _ _ _ _ ?_
  refine And.intro (Exists.intro _ md_o) (Exists.intro _ (Exists.intro _ (Exists.intro _ (Exists.intro _ (And.intro (c_X11_isSpan D v f hv hf x1 x2 ) (And.intro rfl (fun r9 A9 h9 => ?_)))))))
  rcases h9 with ⟨y1, rfl, rfl, ⟨rfl, by1⟩ | ⟨rfl, by1⟩⟩
  · skip
    have k1 : (1 : Int32).toInt = 1 := rfl
    refine And.intro (fun c9 => absurd c9 (by decide)) (fun _ => ?_)
    refine And.intro (fun c2 => ?_) (fun c2 => ?_)
    · skip
      refine hC.1 2 16 _ _ rfl _ _ _ _ _ ?_
      have k4 : (4 : Int32).toInt = 4 := rfl
      refine And.intro (Exists.intro _ md_o) (Exists.intro _ (Exists.intro _ (Exists.intro _ (Exists.intro _ (And.intro (Y_X11_laysOrder D v f hv hf x1 x2 (4 : Int32) (by omega)) (And.intro rfl (fun r9 A9 h9 => ?_)))))))
      obtain ⟨y3, v4, f4, rfl, rfl, hv4, hf4, hx4, hg4_0, hg4_1, hg4_12, hg4_13, hg4_14, hg4_15, by3⟩ := h9
      have hw4 : f4 2 = f 2 := hx4.trans rfl
      have hr4_0 : f4 0 = f 0 := hg4_0.trans rfl
      have hr4_1 : f4 1 = f 1 := hg4_1.trans rfl
      have hr4_12 : f4 12 = f 12 := hg4_12.trans rfl
      have hr4_13 : f4 13 = f 13 := hg4_13.trans rfl
      have hr4_14 : f4 14 = f 14 := hg4_14.trans rfl
      have hr4_15 : f4 15 = f 15 := hg4_15.trans rfl
      have hu5 := hv4
      unfold md_V at hu5
      have k0 : (0 : Int32).toInt = 0 := rfl
      have lp6 : ∀ (n : Nat) (z5_31 : Int32) (z6_31 : Int32), (1 ≤ z6_31.toInt) → ((30 - z6_31.toInt).toNat : Int) < (n : Int) → J 31 [some (.ref h), some (.int x1), some (.int x2), some (.int x3), some (.int y3), some (.int z5_31), some (.int z6_31)] [] (md A0 g h q v4 f4) 0 0 := by
        intro n
        induction n with
        | zero =>
          intro z5_31 z6_31 j0_31 j1_31
          omega
        | succ n ih7 =>
          intro z5_31 z6_31 j0_31 j1_31
          refine hC.1 3 31 _ _ rfl _ _ _ _ _ ?_
          refine And.intro (fun c8 => ?_) (fun c8 => ?_)
          · skip
            refine hC.1 4 62 _ _ rfl _ _ _ _ _ ?_
            exact ⟨rfl, fun e9 => absurd e9 (by decide), rfl, z5_31, v4, f4, rfl, rfl, hv4, hf4, hw4, hr4_0, hr4_1, hr4_12, hr4_13, hr4_14, hr4_15, by first | omega | (dsimp only; omega) | trivial⟩
          · skip
            refine Exists.intro _ (And.intro md_o ?_)
            refine Exists.intro _ (Exists.intro _ (And.intro (Or.inl (md_a_row D)) (And.intro (by omega) ?_)))
            have w9 : (0 : Int) ≤ (f4 16 (z6_31).toInt.toNat).toInt ∧ (f4 16 (z6_31).toInt.toNat).toInt ≤ (23 : Int) := hf4 16 _
            refine And.intro (Exists.intro _ md_o) (Exists.intro _ (Exists.intro _ (Exists.intro _ (Exists.intro _ (And.intro (c_X11_timesIn D v4 f4 hv4 hf4 x1 x2 (f4 16 (z6_31).toInt.toNat) (by omega) (by omega)) (And.intro rfl (fun r9 A9 h9 => ?_)))))))
            obtain ⟨y10, rfl, rfl, by10⟩ := h9
            intro m11 em_53
            try have e11 : m11.toInt = (z5_31).toInt + (y10).toInt := by rw [em_53]; exact pm_add _ _ (by omega) (by omega)
            intro m12 em_56
            try have e12 : m12.toInt = (z6_31).toInt + (1) := by rw [em_56]; exact pm_addc _ _ (1) rfl (by omega) (by omega)
            exact ih7 m11 m12 (by omega) (by omega)
      exact lp6 (((30 - x3.toInt).toNat : Int)).toNat.succ (0 : Int32) x3 (by omega) (by omega)
    · skip
      refine hC.1 1 14 _ _ rfl _ _ _ _ _ ?_
      have km1 : (-1 : Int32).toInt = -1 := rfl
      exact ⟨rfl, fun e9 => absurd e9 (by decide), rfl, (-1 : Int32), v, f, rfl, rfl, hv, hf, rfl, rfl, rfl, rfl, rfl, rfl, rfl, by first | omega | (dsimp only; omega) | trivial⟩
  · skip
    have k0 : (0 : Int32).toInt = 0 := rfl
    refine And.intro (fun _ => ?_) (fun c9 => absurd c9 (by decide))
    refine hC.1 1 14 _ _ rfl _ _ _ _ _ ?_
    have km1 : (-1 : Int32).toInt = -1 := rfl
    exact ⟨rfl, fun e9 => absurd e9 (by decide), rfl, (-1 : Int32), v, f, rfl, rfl, hv, hf, rfl, rfl, rfl, rfl, rfl, rfl, rfl, by first | omega | (dsimp only; omega) | trivial⟩

set_option maxRecDepth 100000 in
set_option maxHeartbeats 2000000 in
theorem Y_X11_goOver (D : md_D h q) (v : Nat → Int32) (f : Nat → Nat → Int32) (hv : md_V v) (hf : md_F f) (x1 : Int32) (x2 : Int32) (x3 : Int32) (p0 : -1 ≤ x1.toInt ∧ x1.toInt < (v 0).toInt) : pm_Mt l g 259 2 0 0 [.ref h, .int x1, .int x2, .int x3] (md A0 g h q v f) (md_Qw A0 g h q f (fun r v2 f2 => f2 0 = f 0 ∧ f2 1 = f 1 ∧ f2 12 = f 12 ∧ f2 13 = f 13 ∧ f2 14 = f 14 ∧ f2 15 = f 15 ∧ (v2 0).toInt = (v 0).toInt ∧ (v2 1).toInt = (v 1).toInt ∧ (v2 2).toInt = (v 2).toInt ∧ (v2 3).toInt = (v 3).toInt ∧ (v2 4).toInt = (v 4).toInt ∧ (v2 6).toInt = (v 6).toInt)) := by
  refine mt_X11_goOver rfl (fun J hC => ?_)
  have hv9 := hv
  unfold md_V at hv9
  have rg_x1 := pm_rng x1
  have rg_x2 := pm_rng x2
  have rg_x3 := pm_rng x3
  refine hC.1 0 0 _ _ rfl _ _ _ _ _ ?_
  have k0 : (0 : Int32).toInt = 0 := rfl
  refine Exists.intro _ (And.intro md_o (And.intro rfl ?_))
  rw [md_p_shelfSet D]
  obtain ⟨v1, ev1⟩ : ∃ z9, z9 = upd v 7 (0 : Int32) := ⟨_, rfl⟩
  rw [← ev1]
  have ev1_0 : (v1 0).toInt = (v 0).toInt := by rw [ev1]; rfl
  have ev1_1 : (v1 1).toInt = (v 1).toInt := by rw [ev1]; rfl
  have ev1_2 : (v1 2).toInt = (v 2).toInt := by rw [ev1]; rfl
  have ev1_3 : (v1 3).toInt = (v 3).toInt := by rw [ev1]; rfl
  have ev1_4 : (v1 4).toInt = (v 4).toInt := by rw [ev1]; rfl
  have ev1_5 : (v1 5).toInt = (v 5).toInt := by rw [ev1]; rfl
  have ev1_6 : (v1 6).toInt = (v 6).toInt := by rw [ev1]; rfl
  have ev1_7 : (v1 7).toInt = ((0 : Int32)).toInt := by rw [ev1]; rfl
  have pn_5 : v1 7 = (0 : Int32) := by rw [ev1]; rfl
  have lp3 : ∀ (n : Nat) (z4_11 : Int32) (z5_11 : Int32) (v2 : Nat → Int32) (f2 : Nat → Nat → Int32), md_V v2 → md_F f2 → f2 2 = f 2 → f2 0 = f 0 → f2 1 = f 1 → f2 12 = f 12 → f2 13 = f 13 → f2 14 = f 14 → f2 15 = f 15 → (0 ≤ z5_11.toInt ∧ z5_11.toInt ≤ x1.toInt + 1) → (goB (v2 7) (f2 0) z5_11.toInt) → (v2 0).toInt = (v 0).toInt → (v2 1).toInt = (v 1).toInt → (v2 2).toInt = (v 2).toInt → (v2 3).toInt = (v 3).toInt → (v2 4).toInt = (v 4).toInt → (v2 6).toInt = (v 6).toInt → 200 - z5_11.toInt < (n : Int) → J 11 [some (.ref h), some (.int x1), some (.int x2), some (.int x3), some (.int z4_11), some (.int z5_11)] [] (md A0 g h q v2 f2) 0 0 := by
    intro n
    induction n with
    | zero =>
      intro z4_11 z5_11 v2 f2 hv2 hf2 hw2 hr2_0 hr2_1 hr2_12 hr2_13 hr2_14 hr2_15 j0_11 j1_11 j2_11 j3_11 j4_11 j5_11 j6_11 j7_11 j8_11
      omega
    | succ n ih4 =>
      intro z4_11 z5_11 v2 f2 hv2 hf2 hw2 hr2_0 hr2_1 hr2_12 hr2_13 hr2_14 hr2_15 j0_11 j1_11 j2_11 j3_11 j4_11 j5_11 j6_11 j7_11 j8_11
      refine hC.1 1 11 _ _ rfl _ _ _ _ _ ?_
      have hu5 := hv2
      unfold md_V at hu5
      refine And.intro (fun c6 => ?_) (fun c6 => ?_)
      · skip
        refine hC.1 5 96 _ _ rfl _ _ _ _ _ ?_
        exact ⟨rfl, fun e9 => absurd e9 (by decide), rfl, z4_11, v2, f2, rfl, rfl, hv2, hf2, hw2, hr2_0, hr2_1, hr2_12, hr2_13, hr2_14, hr2_15, by first | omega | (dsimp only; omega) | trivial⟩
      · skip
        refine Exists.intro _ (And.intro md_o ?_)
        refine Exists.intro _ (And.intro md_o ?_)
        refine Exists.intro _ (Exists.intro _ (And.intro (Or.inl (md_a_colours D)) (And.intro (by omega) ?_)))
        have w7 : (0 : Int) ≤ (f2 0 (z5_11).toInt.toNat).toInt ∧ (f2 0 (z5_11).toInt.toNat).toInt ≤ (23 : Int) := hf2 0 _
        have k1 : (1 : Int32).toInt = 1 := rfl
        refine And.intro (fun c8 => ?_) (fun c8 => ?_)
        · skip
          have dc8 := pm_neI c8
          refine hC.1 2 38 _ _ rfl _ _ _ _ _ ?_
          intro m9 em_38
          try have e9 : m9.toInt = (z4_11).toInt + (1) := by rw [em_38]; exact pm_addc _ _ (1) rfl (by omega) (by omega)
          refine Exists.intro _ (And.intro md_o ?_)
          refine Exists.intro _ (Exists.intro _ (Exists.intro _ (Exists.intro _ (And.intro (c_X11_bits (md A0 g h q v2 f2) (v2 7) ) (And.intro rfl (fun r9 A9 h9 => ?_))))))
          obtain ⟨y10, rfl, rfl, by10⟩ := h9
          refine And.intro (fun c11 => ?_) (fun c11 => ?_)
          · skip
            have dc11 := pm_neI c11
            refine hC.1 3 72 _ _ rfl _ _ _ _ _ ?_
            refine Exists.intro _ (And.intro md_o ?_)
            refine Exists.intro _ (And.intro md_o ?_)
            refine Exists.intro _ (Exists.intro _ (And.intro (Or.inl (md_a_colours D)) (And.intro (by omega) ?_)))
            have w12 : (0 : Int) ≤ (f2 0 (z5_11).toInt.toNat).toInt ∧ (f2 0 (z5_11).toInt.toNat).toInt ≤ (23 : Int) := hf2 0 _
            refine Exists.intro _ (And.intro md_o (And.intro rfl ?_))
            rw [md_p_shelfSet D]
            obtain ⟨v13, ev13⟩ : ∃ z9, z9 = upd v2 7 ((v2 7) ||| ((1 : Int32) <<< ((f2 0 (z5_11).toInt.toNat) &&& 31))) := ⟨_, rfl⟩
            rw [← ev13]
            have ev13_0 : (v13 0).toInt = (v2 0).toInt := by rw [ev13]; rfl
            have ev13_1 : (v13 1).toInt = (v2 1).toInt := by rw [ev13]; rfl
            have ev13_2 : (v13 2).toInt = (v2 2).toInt := by rw [ev13]; rfl
            have ev13_3 : (v13 3).toInt = (v2 3).toInt := by rw [ev13]; rfl
            have ev13_4 : (v13 4).toInt = (v2 4).toInt := by rw [ev13]; rfl
            have ev13_5 : (v13 5).toInt = (v2 5).toInt := by rw [ev13]; rfl
            have ev13_6 : (v13 6).toInt = (v2 6).toInt := by rw [ev13]; rfl
            have ev13_7 : (v13 7).toInt = (((v2 7) ||| ((1 : Int32) <<< ((f2 0 (z5_11).toInt.toNat) &&& 31)))).toInt := by rw [ev13]; rfl
            have pn_87 : v13 7 = ((v2 7) ||| ((1 : Int32) <<< ((f2 0 (z5_11).toInt.toNat) &&& 31))) := by rw [ev13]; rfl
            refine hC.1 4 90 _ _ rfl _ _ _ _ _ ?_
            intro m14 em_90
            try have e14 : m14.toInt = (z5_11).toInt + (1) := by rw [em_90]; exact pm_addc _ _ (1) rfl (by omega) (by omega)
            have hv15 : md_V v13 := by unfold md_V; omega
            exact ih4 m9 m14 v13 f2 hv15 hf2 hw2 hr2_0 hr2_1 hr2_12 hr2_13 hr2_14 hr2_15 (by omega) (by first | exact go_mono j1_11 (by omega) | (rw [pn_87, pn_69]; exact go_or (go_and j1_11) (by omega) (by omega) rfl (by omega)) | (rw [pn_87]; exact go_or j1_11 (by omega) (by omega) rfl (by omega))) (by omega) (by omega) (by omega) (by omega) (by omega) (by omega) (by omega)
          · skip
            have dc11 : (y10).toInt = (x2 : Int32).toInt := congrArg Int32.toInt c11
            refine Exists.intro _ (And.intro md_o ?_)
            refine And.intro (Exists.intro _ md_o) (Exists.intro _ (Exists.intro _ (Exists.intro _ (Exists.intro _ (And.intro (c_X11_goner D v2 f2 hv2 hf2 z5_11 x3 (by omega) (by exact j1_11)) (And.intro rfl (fun r9 A9 h9 => ?_)))))))
            obtain ⟨y16, rfl, rfl, by16⟩ := h9
            have km1 : (-1 : Int32).toInt = -1 := rfl
            refine Exists.intro _ (And.intro md_o (And.intro rfl ?_))
            rw [md_p_shelfSet D]
            obtain ⟨v17, ev17⟩ : ∃ z9, z9 = upd v2 7 ((v2 7) &&& (((1 : Int32) <<< (y16 &&& 31)) ^^^ (-1 : Int32))) := ⟨_, rfl⟩
            rw [← ev17]
            have ev17_0 : (v17 0).toInt = (v2 0).toInt := by rw [ev17]; rfl
            have ev17_1 : (v17 1).toInt = (v2 1).toInt := by rw [ev17]; rfl
            have ev17_2 : (v17 2).toInt = (v2 2).toInt := by rw [ev17]; rfl
            have ev17_3 : (v17 3).toInt = (v2 3).toInt := by rw [ev17]; rfl
            have ev17_4 : (v17 4).toInt = (v2 4).toInt := by rw [ev17]; rfl
            have ev17_5 : (v17 5).toInt = (v2 5).toInt := by rw [ev17]; rfl
            have ev17_6 : (v17 6).toInt = (v2 6).toInt := by rw [ev17]; rfl
            have ev17_7 : (v17 7).toInt = (((v2 7) &&& (((1 : Int32) <<< (y16 &&& 31)) ^^^ (-1 : Int32)))).toInt := by rw [ev17]; rfl
            have pn_69 : v17 7 = ((v2 7) &&& (((1 : Int32) <<< (y16 &&& 31)) ^^^ (-1 : Int32))) := by rw [ev17]; rfl
            refine hC.1 3 72 _ _ rfl _ _ _ _ _ ?_
            refine Exists.intro _ (And.intro md_o ?_)
            refine Exists.intro _ (And.intro md_o ?_)
            refine Exists.intro _ (Exists.intro _ (And.intro (Or.inl (md_a_colours D)) (And.intro (by omega) ?_)))
            have w18 : (0 : Int) ≤ (f2 0 (z5_11).toInt.toNat).toInt ∧ (f2 0 (z5_11).toInt.toNat).toInt ≤ (23 : Int) := hf2 0 _
            refine Exists.intro _ (And.intro md_o (And.intro rfl ?_))
            rw [md_p_shelfSet D]
            obtain ⟨v19, ev19⟩ : ∃ z9, z9 = upd v17 7 ((v17 7) ||| ((1 : Int32) <<< ((f2 0 (z5_11).toInt.toNat) &&& 31))) := ⟨_, rfl⟩
            rw [← ev19]
            have ev19_0 : (v19 0).toInt = (v17 0).toInt := by rw [ev19]; rfl
            have ev19_1 : (v19 1).toInt = (v17 1).toInt := by rw [ev19]; rfl
            have ev19_2 : (v19 2).toInt = (v17 2).toInt := by rw [ev19]; rfl
            have ev19_3 : (v19 3).toInt = (v17 3).toInt := by rw [ev19]; rfl
            have ev19_4 : (v19 4).toInt = (v17 4).toInt := by rw [ev19]; rfl
            have ev19_5 : (v19 5).toInt = (v17 5).toInt := by rw [ev19]; rfl
            have ev19_6 : (v19 6).toInt = (v17 6).toInt := by rw [ev19]; rfl
            have ev19_7 : (v19 7).toInt = (((v17 7) ||| ((1 : Int32) <<< ((f2 0 (z5_11).toInt.toNat) &&& 31)))).toInt := by rw [ev19]; rfl
            have pn_87 : v19 7 = ((v17 7) ||| ((1 : Int32) <<< ((f2 0 (z5_11).toInt.toNat) &&& 31))) := by rw [ev19]; rfl
            refine hC.1 4 90 _ _ rfl _ _ _ _ _ ?_
            intro m20 em_90
            try have e20 : m20.toInt = (z5_11).toInt + (1) := by rw [em_90]; exact pm_addc _ _ (1) rfl (by omega) (by omega)
            have hv21 : md_V v19 := by unfold md_V; omega
            exact ih4 m9 m20 v19 f2 hv21 hf2 hw2 hr2_0 hr2_1 hr2_12 hr2_13 hr2_14 hr2_15 (by omega) (by first | exact go_mono j1_11 (by omega) | (rw [pn_87, pn_69]; exact go_or (go_and j1_11) (by omega) (by omega) rfl (by omega)) | (rw [pn_87]; exact go_or j1_11 (by omega) (by omega) rfl (by omega))) (by omega) (by omega) (by omega) (by omega) (by omega) (by omega) (by omega)
        · skip
          have dc8 : ((((v2 7) >>> ((f2 0 (z5_11).toInt.toNat) &&& 31)) &&& (1 : Int32))).toInt = ((1 : Int32) : Int32).toInt := congrArg Int32.toInt c8
          refine hC.1 4 90 _ _ rfl _ _ _ _ _ ?_
          intro m22 em_90
          try have e22 : m22.toInt = (z5_11).toInt + (1) := by rw [em_90]; exact pm_addc _ _ (1) rfl (by omega) (by omega)
          exact ih4 z4_11 m22 v2 f2 hv2 hf2 hw2 hr2_0 hr2_1 hr2_12 hr2_13 hr2_14 hr2_15 (by omega) (by first | exact go_mono j1_11 (by omega) | (rw [pn_87, pn_69]; exact go_or (go_and j1_11) (by omega) (by omega) rfl (by omega)) | (rw [pn_87]; exact go_or j1_11 (by omega) (by omega) rfl (by omega))) (by omega) (by omega) (by omega) (by omega) (by omega) (by omega) (by omega)
  have hv23 : md_V v1 := by unfold md_V; omega
  exact lp3 (200 - (0 : Int32).toInt).toNat.succ (0 : Int32) (0 : Int32) v1 f hv23 hf rfl rfl rfl rfl rfl rfl rfl (by omega) (by rw [pn_5]; exact go_0 _ _) (by omega) (by omega) (by omega) (by omega) (by omega) (by omega) (by omega)

set_option maxRecDepth 100000 in
set_option maxHeartbeats 2000000 in
theorem Y_X11_misses (D : md_D h q) (v : Nat → Int32) (f : Nat → Nat → Int32) (hv : md_V v) (hf : md_F f) (x1 : Int32) (x2 : Int32)  : pm_Mt l g 257 3 0 0 [.ref h, .int x1, .int x2] (md A0 g h q v f) (md_Qw A0 g h q f (fun r v2 f2 => f2 0 = f 0 ∧ f2 1 = f 1 ∧ f2 12 = f 12 ∧ f2 13 = f 13 ∧ f2 14 = f 14 ∧ f2 15 = f 15 ∧ (v2 0).toInt = (v 0).toInt ∧ (v2 1).toInt = (v 1).toInt ∧ (v2 2).toInt = (v 2).toInt ∧ (v2 3).toInt = (v 3).toInt ∧ (v2 4).toInt = (v 4).toInt ∧ (v2 6).toInt = (v 6).toInt)) := by
  refine mt_X11_misses rfl (fun J hC => ?_)
  have hv9 := hv
  unfold md_V at hv9
  have rg_x1 := pm_rng x1
  have rg_x2 := pm_rng x2
  refine hC.1 0 0 _ _ rfl _ _ _ _ _ ?_
  refine Exists.intro _ (Exists.intro _ (Exists.intro _ (Exists.intro _ (And.intro (c_X11_isShelf (md A0 g h q v f) x1 x2 ) (And.intro rfl (fun r9 A9 h9 => ?_))))))
  rcases h9 with ⟨y1, rfl, rfl, ⟨rfl, by1⟩ | ⟨rfl, by1⟩⟩
  · skip
    have k1 : (1 : Int32).toInt = 1 := rfl
    refine And.intro (fun c9 => absurd c9 (by decide)) (fun _ => ?_)
    refine Exists.intro _ (And.intro md_o ?_)
    intro m2 em_14
    try have e2 : m2.toInt = ((v 0)).toInt - (1) := by rw [em_14]; exact pm_subc _ _ (1) rfl (by omega) (by omega)
    refine And.intro (Exists.intro _ md_o) (Exists.intro _ (Exists.intro _ (Exists.intro _ (Exists.intro _ (And.intro (Y_X11_goOver D v f hv hf m2 x1 x2 (by omega)) (And.intro rfl (fun r9 A9 h9 => ?_)))))))
    obtain ⟨y3, v4, f4, rfl, rfl, hv4, hf4, hx4, hg4_0, hg4_1, hg4_12, hg4_13, hg4_14, hg4_15, by3⟩ := h9
    have hw4 : f4 2 = f 2 := hx4.trans rfl
    have hr4_0 : f4 0 = f 0 := hg4_0.trans rfl
    have hr4_1 : f4 1 = f 1 := hg4_1.trans rfl
    have hr4_12 : f4 12 = f 12 := hg4_12.trans rfl
    have hr4_13 : f4 13 = f 13 := hg4_13.trans rfl
    have hr4_14 : f4 14 = f 14 := hg4_14.trans rfl
    have hr4_15 : f4 15 = f 15 := hg4_15.trans rfl
    have hu5 := hv4
    unfold md_V at hu5
    refine hC.1 2 24 _ _ rfl _ _ _ _ _ ?_
    exact ⟨rfl, fun e9 => absurd e9 (by decide), rfl, y3, v4, f4, rfl, rfl, hv4, hf4, hw4, hr4_0, hr4_1, hr4_12, hr4_13, hr4_14, hr4_15, by first | omega | (dsimp only; omega) | trivial⟩
  · skip
    have k0 : (0 : Int32).toInt = 0 := rfl
    refine And.intro (fun _ => ?_) (fun c9 => absurd c9 (by decide))
    refine hC.1 1 23 _ _ rfl _ _ _ _ _ ?_
    have km1 : (-1 : Int32).toInt = -1 := rfl
    refine hC.1 2 24 _ _ rfl _ _ _ _ _ ?_
    exact ⟨rfl, fun e9 => absurd e9 (by decide), rfl, (-1 : Int32), v, f, rfl, rfl, hv, hf, rfl, rfl, rfl, rfl, rfl, rfl, rfl, by first | omega | (dsimp only; omega) | trivial⟩

set_option maxRecDepth 100000 in
set_option maxHeartbeats 2000000 in
theorem Y_X11_shelf (D : md_D h q) (v : Nat → Int32) (f : Nat → Nat → Int32) (hv : md_V v) (hf : md_F f) (x1 : Int32) (x2 : Int32) (x3 : Int32)  : pm_Mt l g 262 3 0 0 [.ref h, .int x1, .int x2, .int x3] (md A0 g h q v f) (md_Qw A0 g h q f (fun r v2 f2 => f2 0 = f 0 ∧ f2 1 = f 1 ∧ f2 12 = f 12 ∧ f2 13 = f 13 ∧ f2 14 = f 14 ∧ f2 15 = f 15 ∧ (v2 0).toInt = (v 0).toInt ∧ (v2 1).toInt = (v 1).toInt ∧ (v2 2).toInt = (v 2).toInt ∧ (v2 3).toInt = (v 3).toInt ∧ (v2 4).toInt = (v 4).toInt ∧ (v2 6).toInt = (v 6).toInt)) := by
  refine mt_X11_shelf rfl (fun J hC => ?_)
  have hv9 := hv
  unfold md_V at hv9
  have rg_x1 := pm_rng x1
  have rg_x2 := pm_rng x2
  have rg_x3 := pm_rng x3
  refine hC.1 0 0 _ _ rfl _ _ _ _ _ ?_
  refine And.intro (Exists.intro _ md_o) (Exists.intro _ (Exists.intro _ (Exists.intro _ (Exists.intro _ (And.intro (c_X11_isPlace D v f hv hf x1 ) (And.intro rfl (fun r9 A9 h9 => ?_)))))))
  rcases h9 with ⟨y1, rfl, rfl, ⟨rfl, by1⟩ | ⟨rfl, by1⟩⟩
  · skip
    have k1 : (1 : Int32).toInt = 1 := rfl
    refine And.intro (fun c9 => absurd c9 (by decide)) (fun _ => ?_)
    refine Exists.intro _ (Exists.intro _ (Exists.intro _ (Exists.intro _ (And.intro (c_X11_isShelf (md A0 g h q v f) x2 x3 ) (And.intro rfl (fun r9 A9 h9 => ?_))))))
    rcases h9 with ⟨y2, rfl, rfl, ⟨rfl, by2⟩ | ⟨rfl, by2⟩⟩
    · skip
      refine And.intro (fun _ => ?_) (fun c9 => absurd c9 (by decide))
      refine hC.1 2 18 _ _ rfl _ _ _ _ _ ?_
      refine And.intro (Exists.intro _ md_o) (Exists.intro _ (Exists.intro _ (Exists.intro _ (Exists.intro _ (And.intro (Y_X11_goOver D v f hv hf x1 x2 x3 (by omega)) (And.intro rfl (fun r9 A9 h9 => ?_)))))))
      obtain ⟨y3, v4, f4, rfl, rfl, hv4, hf4, hx4, hg4_0, hg4_1, hg4_12, hg4_13, hg4_14, hg4_15, by3⟩ := h9
      have hw4 : f4 2 = f 2 := hx4.trans rfl
      have hr4_0 : f4 0 = f 0 := hg4_0.trans rfl
      have hr4_1 : f4 1 = f 1 := hg4_1.trans rfl
      have hr4_12 : f4 12 = f 12 := hg4_12.trans rfl
      have hr4_13 : f4 13 = f 13 := hg4_13.trans rfl
      have hr4_14 : f4 14 = f 14 := hg4_14.trans rfl
      have hr4_15 : f4 15 = f 15 := hg4_15.trans rfl
      have hu5 := hv4
      unfold md_V at hu5
      refine And.intro (fun c6 => ?_) (fun c6 => ?_)
      · skip
        refine hC.1 3 36 _ _ rfl _ _ _ _ _ ?_
        refine Exists.intro _ (And.intro md_o ?_)
        refine hC.1 4 40 _ _ rfl _ _ _ _ _ ?_
        exact ⟨rfl, fun e9 => absurd e9 (by decide), rfl, (v4 7), v4, f4, rfl, rfl, hv4, hf4, hw4, hr4_0, hr4_1, hr4_12, hr4_13, hr4_14, hr4_15, by first | omega | (dsimp only; omega) | trivial⟩
      · skip
        have km1 : (-1 : Int32).toInt = -1 := rfl
        refine hC.1 4 40 _ _ rfl _ _ _ _ _ ?_
        exact ⟨rfl, fun e9 => absurd e9 (by decide), rfl, (-1 : Int32), v4, f4, rfl, rfl, hv4, hf4, hw4, hr4_0, hr4_1, hr4_12, hr4_13, hr4_14, hr4_15, by first | omega | (dsimp only; omega) | trivial⟩
    · skip
      have k0 : (0 : Int32).toInt = 0 := rfl
      refine And.intro (fun c9 => absurd c9 (by decide)) (fun _ => ?_)
      refine hC.1 1 16 _ _ rfl _ _ _ _ _ ?_
      have km1 : (-1 : Int32).toInt = -1 := rfl
      exact ⟨rfl, fun e9 => absurd e9 (by decide), rfl, (-1 : Int32), v, f, rfl, rfl, hv, hf, rfl, rfl, rfl, rfl, rfl, rfl, rfl, by first | omega | (dsimp only; omega) | trivial⟩
  · skip
    have k0 : (0 : Int32).toInt = 0 := rfl
    refine And.intro (fun _ => ?_) (fun c9 => absurd c9 (by decide))
    refine hC.1 1 16 _ _ rfl _ _ _ _ _ ?_
    have km1 : (-1 : Int32).toInt = -1 := rfl
    exact ⟨rfl, fun e9 => absurd e9 (by decide), rfl, (-1 : Int32), v, f, rfl, rfl, hv, hf, rfl, rfl, rfl, rfl, rfl, rfl, rfl, by first | omega | (dsimp only; omega) | trivial⟩

end
end
section
section
variable {l : Launch} {g : pm_G} {A0 : pm_H} {h : Nat} {q : Nat → Nat}
set_option maxRecDepth 100000 in
set_option maxHeartbeats 2000000 in
theorem Y_X11_suffices (D : md_D h q) (v : Nat → Int32) (f : Nat → Nat → Int32) (hv : md_V v) (hf : md_F f) (x1 : Int32) (x2 : Int32)  : pm_Mt l g 263 3 0 0 [.ref h, .int x1, .int x2] (md A0 g h q v f) (md_Qw A0 g h q f (fun r v2 f2 => f2 0 = f 0 ∧ f2 1 = f 1 ∧ f2 12 = f 12 ∧ f2 13 = f 13 ∧ f2 14 = f 14 ∧ f2 15 = f 15 ∧ (v2 0).toInt = (v 0).toInt ∧ (v2 1).toInt = (v 1).toInt ∧ (v2 2).toInt = (v 2).toInt ∧ (v2 3).toInt = (v 3).toInt ∧ (v2 4).toInt = (v 4).toInt ∧ (v2 6).toInt = (v 6).toInt)) := by
  refine mt_X11_suffices rfl (fun J hC => ?_)
  have hv9 := hv
  unfold md_V at hv9
  have rg_x1 := pm_rng x1
  have rg_x2 := pm_rng x2
  refine hC.1 0 0 _ _ rfl _ _ _ _ _ ?_
  refine And.intro (fun c1 => ?_) (fun c1 => ?_)
  · skip
    refine hC.1 1 13 _ _ rfl _ _ _ _ _ ?_
    have km1 : (-1 : Int32).toInt = -1 := rfl
    exact ⟨rfl, fun e9 => absurd e9 (by decide), rfl, (-1 : Int32), v, f, rfl, rfl, hv, hf, rfl, rfl, rfl, rfl, rfl, rfl, rfl, by first | omega | (dsimp only; omega) | trivial⟩
  · skip
    have k0 : (0 : Int32).toInt = 0 := rfl
    have k1 : (1 : Int32).toInt = 1 := rfl
    refine Exists.intro _ (Exists.intro _ (Exists.intro _ (Exists.intro _ (And.intro (c_X11_isIn (md A0 g h q v f) x2 (0 : Int32) (1 : Int32) ) (And.intro rfl (fun r9 A9 h9 => ?_))))))
    rcases h9 with ⟨y2, rfl, rfl, ⟨rfl, by2⟩ | ⟨rfl, by2⟩⟩
    · skip
      refine And.intro (fun _ => ?_) (fun c9 => absurd c9 (by decide))
      refine hC.1 2 15 _ _ rfl _ _ _ _ _ ?_
      have lp4 : ∀ (n : Nat) (z3_17 : Int32) (v3 : Nat → Int32) (f3 : Nat → Nat → Int32), md_V v3 → md_F f3 → f3 2 = f 2 → f3 0 = f 0 → f3 1 = f 1 → f3 12 = f 12 → f3 13 = f 13 → f3 14 = f 14 → f3 15 = f 15 → (1 ≤ z3_17.toInt ∧ z3_17.toInt ≤ 25) → (v3 0).toInt = (v 0).toInt → (v3 1).toInt = (v 1).toInt → (v3 2).toInt = (v 2).toInt → (v3 3).toInt = (v 3).toInt → (v3 4).toInt = (v 4).toInt → (v3 6).toInt = (v 6).toInt → 200 - z3_17.toInt < (n : Int) → J 17 [some (.ref h), some (.int x1), some (.int x2), some (.int z3_17)] [] (md A0 g h q v3 f3) 0 0 := by
        intro n
        induction n with
        | zero =>
          intro z3_17 v3 f3 hv3 hf3 hw3 hr3_0 hr3_1 hr3_12 hr3_13 hr3_14 hr3_15 j0_17 j1_17 j2_17 j3_17 j4_17 j5_17 j6_17 j7_17
          omega
        | succ n ih5 =>
          intro z3_17 v3 f3 hv3 hf3 hw3 hr3_0 hr3_1 hr3_12 hr3_13 hr3_14 hr3_15 j0_17 j1_17 j2_17 j3_17 j4_17 j5_17 j6_17 j7_17
          refine hC.1 3 17 _ _ rfl _ _ _ _ _ ?_
          have hu6 := hv3
          unfold md_V at hu6
          have k24 : (24 : Int32).toInt = 24 := rfl
          refine And.intro (fun c7 => ?_) (fun c7 => ?_)
          · skip
            refine hC.1 5 47 _ _ rfl _ _ _ _ _ ?_
            have km1 : (-1 : Int32).toInt = -1 := rfl
            exact ⟨rfl, fun e9 => absurd e9 (by decide), rfl, (-1 : Int32), v3, f3, rfl, rfl, hv3, hf3, hw3, hr3_0, hr3_1, hr3_12, hr3_13, hr3_14, hr3_15, by first | omega | (dsimp only; omega) | trivial⟩
          · skip
            refine Exists.intro _ (And.intro md_o ?_)
            intro m8 em_29
            try have e8 : m8.toInt = ((v3 0)).toInt - (1) := by rw [em_29]; exact pm_subc _ _ (1) rfl (by omega) (by omega)
            refine And.intro (Exists.intro _ md_o) (Exists.intro _ (Exists.intro _ (Exists.intro _ (Exists.intro _ (And.intro (Y_X11_goOver D v3 f3 hv3 hf3 m8 z3_17 x2 (by omega)) (And.intro rfl (fun r9 A9 h9 => ?_)))))))
            obtain ⟨y9, v10, f10, rfl, rfl, hv10, hf10, hx10, hg10_0, hg10_1, hg10_12, hg10_13, hg10_14, hg10_15, by9⟩ := h9
            have hw10 : f10 2 = f 2 := hx10.trans hw3
            have hr10_0 : f10 0 = f 0 := hg10_0.trans hr3_0
            have hr10_1 : f10 1 = f 1 := hg10_1.trans hr3_1
            have hr10_12 : f10 12 = f 12 := hg10_12.trans hr3_12
            have hr10_13 : f10 13 = f 13 := hg10_13.trans hr3_13
            have hr10_14 : f10 14 = f 14 := hg10_14.trans hr3_14
            have hr10_15 : f10 15 = f 15 := hg10_15.trans hr3_15
            have hu11 := hv10
            unfold md_V at hu11
            refine And.intro (fun c12 => ?_) (fun c12 => ?_)
            · skip
              refine hC.1 4 41 _ _ rfl _ _ _ _ _ ?_
              intro m13 em_41
              try have e13 : m13.toInt = (z3_17).toInt + (1) := by rw [em_41]; exact pm_addc _ _ (1) rfl (by omega) (by omega)
              exact ih5 m13 v10 f10 hv10 hf10 hw10 hr10_0 hr10_1 hr10_12 hr10_13 hr10_14 hr10_15 (by omega) (by omega) (by omega) (by omega) (by omega) (by omega) (by omega) (by omega)
            · skip
              exact ⟨rfl, fun e9 => absurd e9 (by decide), rfl, z3_17, v10, f10, rfl, rfl, hv10, hf10, hw10, hr10_0, hr10_1, hr10_12, hr10_13, hr10_14, hr10_15, by first | omega | (dsimp only; omega) | trivial⟩
      exact lp4 (200 - (1 : Int32).toInt).toNat.succ (1 : Int32) v f hv hf rfl rfl rfl rfl rfl rfl rfl (by omega) (by omega) (by omega) (by omega) (by omega) (by omega) (by omega) (by omega)
    · skip
      refine And.intro (fun c9 => absurd c9 (by decide)) (fun _ => ?_)
      refine hC.1 1 13 _ _ rfl _ _ _ _ _ ?_
      have km1 : (-1 : Int32).toInt = -1 := rfl
      exact ⟨rfl, fun e9 => absurd e9 (by decide), rfl, (-1 : Int32), v, f, rfl, rfl, hv, hf, rfl, rfl, rfl, rfl, rfl, rfl, rfl, by first | omega | (dsimp only; omega) | trivial⟩

set_option maxRecDepth 100000 in
set_option maxHeartbeats 2000000 in
theorem Y_X11_layGaps (D : md_D h q) (v : Nat → Int32) (f : Nat → Nat → Int32) (hv : md_V v) (hf : md_F f)  : pm_Mt l g 268 1 0 0 [.ref h] (md A0 g h q v f) (md_Qv A0 g h q f (fun v2 f2 => f2 0 = f 0 ∧ f2 1 = f 1 ∧ f2 12 = f 12 ∧ f2 13 = f 13 ∧ f2 14 = f 14 ∧ f2 15 = f 15 ∧ (v2 0).toInt = (v 0).toInt ∧ (v2 1).toInt = (v 1).toInt ∧ (v2 2).toInt = (v 2).toInt ∧ (v2 3).toInt = (v 3).toInt ∧ (v2 4).toInt = (v 4).toInt ∧ (v2 6).toInt = (v 6).toInt)) := by
  refine mt_X11_layGaps rfl (fun J hC => ?_)
  have hv9 := hv
  unfold md_V at hv9
  refine hC.1 0 0 _ _ rfl _ _ _ _ _ ?_
  have k0 : (0 : Int32).toInt = 0 := rfl
  have lp2 : ∀ (n : Nat) (z1_2 : Int32) (v1 : Nat → Int32) (f1 : Nat → Nat → Int32), md_V v1 → md_F f1 → f1 2 = f 2 → f1 0 = f 0 → f1 1 = f 1 → f1 12 = f 12 → f1 13 = f 13 → f1 14 = f 14 → f1 15 = f 15 → (0 ≤ z1_2.toInt ∧ z1_2.toInt ≤ (v 0).toInt) → (v1 0).toInt = (v 0).toInt → (v1 1).toInt = (v 1).toInt → (v1 2).toInt = (v 2).toInt → (v1 3).toInt = (v 3).toInt → (v1 4).toInt = (v 4).toInt → (v1 6).toInt = (v 6).toInt → 200 - z1_2.toInt < (n : Int) → J 2 [some (.ref h), some (.int z1_2)] [] (md A0 g h q v1 f1) 0 0 := by
    intro n
    induction n with
    | zero =>
      intro z1_2 v1 f1 hv1 hf1 hw1 hr1_0 hr1_1 hr1_12 hr1_13 hr1_14 hr1_15 j0_2 j1_2 j2_2 j3_2 j4_2 j5_2 j6_2 j7_2
      omega
    | succ n ih3 =>
      intro z1_2 v1 f1 hv1 hf1 hw1 hr1_0 hr1_1 hr1_12 hr1_13 hr1_14 hr1_15 j0_2 j1_2 j2_2 j3_2 j4_2 j5_2 j6_2 j7_2
      refine hC.1 1 2 _ _ rfl _ _ _ _ _ ?_
      have hu4 := hv1
      unfold md_V at hu4
      refine Exists.intro _ (And.intro md_o ?_)
      refine And.intro (fun c5 => ?_) (fun c5 => ?_)
      · skip
        refine hC.1 4 42 _ _ rfl _ _ _ _ _ ?_
        exact ⟨rfl, rfl, v1, f1, rfl, rfl, hv1, hf1, hw1, hr1_0, hr1_1, hr1_12, hr1_13, hr1_14, hr1_15, by first | omega | (dsimp only; omega) | trivial⟩
      · skip
        refine Exists.intro _ (And.intro md_o ?_)
        refine And.intro (Exists.intro _ md_o) (Exists.intro _ (Exists.intro _ (Exists.intro _ (Exists.intro _ (And.intro (c_X11_ahead D v1 f1 hv1 hf1 z1_2 (by omega)) (And.intro rfl (fun r9 A9 h9 => ?_)))))))
        obtain ⟨y6, rfl, rfl, by6⟩ := h9
        refine And.intro (fun c7 => ?_) (fun c7 => ?_)
        · skip
          refine hC.1 2 28 _ _ rfl _ _ _ _ _ ?_
          refine And.intro (Exists.intro _ md_o) (Exists.intro _ (Exists.intro _ (Exists.intro _ (Exists.intro _ (And.intro (c_X11_ahead D v1 f1 hv1 hf1 z1_2 (by omega)) (And.intro rfl (fun r9 A9 h9 => ?_)))))))
          obtain ⟨y8, rfl, rfl, by8⟩ := h9
          intro m9 em_34
          try have e9 : m9.toInt = (z1_2).toInt - (y8).toInt := by rw [em_34]; exact pm_sub _ _ (by omega) (by omega)
          refine hC.1 3 35 _ _ rfl _ _ _ _ _ ?_
          refine Exists.intro _ (Exists.intro _ (And.intro (md_a_gaps D) (And.intro (by omega) ?_)))
          rw [md_s_gaps D]
          obtain ⟨f10, ef10⟩ : ∃ z9, z9 = va_up f1 17 (upd (f1 17) (z1_2).toInt.toNat m9) := ⟨_, rfl⟩
          rw [← ef10]
          have hf10 : md_F f10 := by rw [ef10]; exact md_F_st hf1 17 _ _ (md_rng _ _ (by decide))
          have hw10 : f10 2 = f 2 := (show f10 2 = f1 2 by rw [ef10]; rfl).trans hw1
          have hr10_0 : f10 0 = f 0 := (show f10 0 = f1 0 by rw [ef10]; rfl).trans hr1_0
          have hr10_1 : f10 1 = f 1 := (show f10 1 = f1 1 by rw [ef10]; rfl).trans hr1_1
          have hr10_12 : f10 12 = f 12 := (show f10 12 = f1 12 by rw [ef10]; rfl).trans hr1_12
          have hr10_13 : f10 13 = f 13 := (show f10 13 = f1 13 by rw [ef10]; rfl).trans hr1_13
          have hr10_14 : f10 14 = f 14 := (show f10 14 = f1 14 by rw [ef10]; rfl).trans hr1_14
          have hr10_15 : f10 15 = f 15 := (show f10 15 = f1 15 by rw [ef10]; rfl).trans hr1_15
          have k1 : (1 : Int32).toInt = 1 := rfl
          intro m11 em_36
          try have e11 : m11.toInt = (z1_2).toInt + (1) := by rw [em_36]; exact pm_addc _ _ (1) rfl (by omega) (by omega)
          exact ih3 m11 v1 f10 hv1 hf10 hw10 hr10_0 hr10_1 hr10_12 hr10_13 hr10_14 hr10_15 (by omega) (by omega) (by omega) (by omega) (by omega) (by omega) (by omega) (by omega)
        · skip
          have k268435456 : (268435456 : Int32).toInt = 268435456 := rfl
          refine hC.1 3 35 _ _ rfl _ _ _ _ _ ?_
          refine Exists.intro _ (Exists.intro _ (And.intro (md_a_gaps D) (And.intro (by omega) ?_)))
          rw [md_s_gaps D]
          obtain ⟨f12, ef12⟩ : ∃ z9, z9 = va_up f1 17 (upd (f1 17) (z1_2).toInt.toNat (268435456 : Int32)) := ⟨_, rfl⟩
          rw [← ef12]
          have hf12 : md_F f12 := by rw [ef12]; exact md_F_st hf1 17 _ _ (md_rng _ _ (by decide))
          have hw12 : f12 2 = f 2 := (show f12 2 = f1 2 by rw [ef12]; rfl).trans hw1
          have hr12_0 : f12 0 = f 0 := (show f12 0 = f1 0 by rw [ef12]; rfl).trans hr1_0
          have hr12_1 : f12 1 = f 1 := (show f12 1 = f1 1 by rw [ef12]; rfl).trans hr1_1
          have hr12_12 : f12 12 = f 12 := (show f12 12 = f1 12 by rw [ef12]; rfl).trans hr1_12
          have hr12_13 : f12 13 = f 13 := (show f12 13 = f1 13 by rw [ef12]; rfl).trans hr1_13
          have hr12_14 : f12 14 = f 14 := (show f12 14 = f1 14 by rw [ef12]; rfl).trans hr1_14
          have hr12_15 : f12 15 = f 15 := (show f12 15 = f1 15 by rw [ef12]; rfl).trans hr1_15
          have k1 : (1 : Int32).toInt = 1 := rfl
          intro m13 em_36
          try have e13 : m13.toInt = (z1_2).toInt + (1) := by rw [em_36]; exact pm_addc _ _ (1) rfl (by omega) (by omega)
          exact ih3 m13 v1 f12 hv1 hf12 hw12 hr12_0 hr12_1 hr12_12 hr12_13 hr12_14 hr12_15 (by omega) (by omega) (by omega) (by omega) (by omega) (by omega) (by omega) (by omega)
  exact lp2 (200 - (0 : Int32).toInt).toNat.succ (0 : Int32) v f hv hf rfl rfl rfl rfl rfl rfl rfl (by omega) (by omega) (by omega) (by omega) (by omega) (by omega) (by omega) (by omega)

set_option maxRecDepth 100000 in
set_option maxHeartbeats 2000000 in
theorem Y_X11_match (D : md_D h q) (v : Nat → Int32) (f : Nat → Nat → Int32) (hv : md_V v) (hf : md_F f) (x1 : Int32) (x2 : Int32) (x3 : Int32)  : pm_Mt l g 267 2 0 0 [.ref h, .int x1, .int x2, .int x3] (md A0 g h q v f) (md_Qw A0 g h q f (fun r v2 f2 => f2 0 = f 0 ∧ f2 1 = f 1 ∧ f2 12 = f 12 ∧ f2 13 = f 13 ∧ f2 14 = f 14 ∧ f2 15 = f 15 ∧ (v2 0).toInt = (v 0).toInt ∧ (v2 1).toInt = (v 1).toInt ∧ (v2 2).toInt = (v 2).toInt ∧ (v2 3).toInt = (v 3).toInt ∧ (v2 4).toInt = (v 4).toInt ∧ (v2 6).toInt = (v 6).toInt)) := by
  refine mt_X11_match rfl (fun J hC => ?_)
  have hv9 := hv
  unfold md_V at hv9
  have rg_x1 := pm_rng x1
  have rg_x2 := pm_rng x2
  have rg_x3 := pm_rng x3
  refine hC.1 0 0 _ _ rfl _ _ _ _ _ ?_
  refine And.intro (Exists.intro _ md_o) (Exists.intro _ (Exists.intro _ (Exists.intro _ (Exists.intro _ (And.intro (c_X11_isSpan D v f hv hf x1 x2 ) (And.intro rfl (fun r9 A9 h9 => ?_)))))))
  rcases h9 with ⟨y1, rfl, rfl, ⟨rfl, by1⟩ | ⟨rfl, by1⟩⟩
  · skip
    have k1 : (1 : Int32).toInt = 1 := rfl
    refine And.intro (fun c9 => absurd c9 (by decide)) (fun _ => ?_)
    have km1 : (-1 : Int32).toInt = -1 := rfl
    refine And.intro (fun c2 => ?_) (fun c2 => ?_)
    · skip
      refine hC.1 2 16 _ _ rfl _ _ _ _ _ ?_
      refine And.intro (Exists.intro _ md_o) (Exists.intro _ (Exists.intro _ (Exists.intro _ (Exists.intro _ (And.intro (Y_X11_layGaps D v f hv hf  ) (And.intro rfl (fun r9 A9 h9 => ?_)))))))
      obtain ⟨v4, f4, rfl, rfl, hv4, hf4, hx4, hg4_0, hg4_1, hg4_12, hg4_13, hg4_14, hg4_15, by3⟩ := h9
      have hw4 : f4 2 = f 2 := hx4.trans rfl
      have hr4_0 : f4 0 = f 0 := hg4_0.trans rfl
      have hr4_1 : f4 1 = f 1 := hg4_1.trans rfl
      have hr4_12 : f4 12 = f 12 := hg4_12.trans rfl
      have hr4_13 : f4 13 = f 13 := hg4_13.trans rfl
      have hr4_14 : f4 14 = f 14 := hg4_14.trans rfl
      have hr4_15 : f4 15 = f 15 := hg4_15.trans rfl
      have hu5 := hv4
      unfold md_V at hu5
      intro m6 em_22
      try have e6 : m6.toInt = (x2).toInt - (x1).toInt := by rw [em_22]; exact pm_sub _ _ (by omega) (by omega)
      intro m7 em_24
      try have e7 : m7.toInt = (m6).toInt + (1) := by rw [em_24]; exact pm_addc _ _ (1) rfl (by omega) (by omega)
      have k0 : (0 : Int32).toInt = 0 := rfl
      have lp8 : ∀ (n : Nat) (z5_33 : Int32) (z6_33 : Int32), (0 ≤ z6_33.toInt ∧ z6_33.toInt ≤ 161) → 200 - z6_33.toInt < (n : Int) → J 33 [some (.ref h), some (.int x1), some (.int x2), some (.int x3), some (.int m7), some (.int z5_33), some (.int z6_33)] [] (md A0 g h q v4 f4) 0 0 := by
        intro n
        induction n with
        | zero =>
          intro z5_33 z6_33 j0_33 j1_33
          omega
        | succ n ih9 =>
          intro z5_33 z6_33 j0_33 j1_33
          refine hC.1 3 33 _ _ rfl _ _ _ _ _ ?_
          intro m10 em_37
          try have e10 : m10.toInt = (z6_33).toInt + (m7).toInt := by rw [em_37]; exact pm_add _ _ (by omega) (by omega)
          refine Exists.intro _ (And.intro md_o ?_)
          refine And.intro (fun c11 => ?_) (fun c11 => ?_)
          · skip
            refine hC.1 7 80 _ _ rfl _ _ _ _ _ ?_
            refine And.intro (fun c12 => ?_) (fun c12 => ?_)
            · skip
              have dc12 := pm_neI c12
              refine hC.1 8 90 _ _ rfl _ _ _ _ _ ?_
              refine hC.1 9 91 _ _ rfl _ _ _ _ _ ?_
              exact ⟨rfl, fun e9 => absurd e9 (by decide), rfl, (-1 : Int32), v4, f4, rfl, rfl, hv4, hf4, hw4, hr4_0, hr4_1, hr4_12, hr4_13, hr4_14, hr4_15, by first | omega | (dsimp only; omega) | trivial⟩
            · skip
              have dc12 : (x3).toInt = ((-1 : Int32) : Int32).toInt := congrArg Int32.toInt c12
              refine hC.1 9 91 _ _ rfl _ _ _ _ _ ?_
              exact ⟨rfl, fun e9 => absurd e9 (by decide), rfl, z5_33, v4, f4, rfl, rfl, hv4, hf4, hw4, hr4_0, hr4_1, hr4_12, hr4_13, hr4_14, hr4_15, by first | omega | (dsimp only; omega) | trivial⟩
          · skip
            refine And.intro (Exists.intro _ md_o) (Exists.intro _ (Exists.intro _ (Exists.intro _ (Exists.intro _ (And.intro (c_X11_matched D v4 f4 hv4 hf4 x1 z6_33 m7 (by omega) (by omega) (by omega)) (And.intro rfl (fun r9 A9 h9 => ?_)))))))
            obtain ⟨y13, rfl, rfl, by13⟩ := h9
            refine And.intro (fun c14 => ?_) (fun c14 => ?_)
            · skip
              refine hC.1 4 62 _ _ rfl _ _ _ _ _ ?_
              refine And.intro (fun c15 => ?_) (fun c15 => ?_)
              · skip
                have dc15 := pm_neI c15
                refine hC.1 5 71 _ _ rfl _ _ _ _ _ ?_
                intro m16 em_71
                try have e16 : m16.toInt = (z5_33).toInt + (1) := by rw [em_71]; exact pm_addc _ _ (1) rfl (by omega) (by omega)
                refine hC.1 6 74 _ _ rfl _ _ _ _ _ ?_
                intro m17 em_74
                try have e17 : m17.toInt = (z6_33).toInt + (1) := by rw [em_74]; exact pm_addc _ _ (1) rfl (by omega) (by omega)
                exact ih9 m16 m17 (by omega) (by omega)
              · skip
                have dc15 : (z5_33).toInt = (x3 : Int32).toInt := congrArg Int32.toInt c15
                exact ⟨rfl, fun e9 => absurd e9 (by decide), rfl, z6_33, v4, f4, rfl, rfl, hv4, hf4, hw4, hr4_0, hr4_1, hr4_12, hr4_13, hr4_14, hr4_15, by first | omega | (dsimp only; omega) | trivial⟩
            · skip
              refine hC.1 6 74 _ _ rfl _ _ _ _ _ ?_
              intro m18 em_74
              try have e18 : m18.toInt = (z6_33).toInt + (1) := by rw [em_74]; exact pm_addc _ _ (1) rfl (by omega) (by omega)
              exact ih9 z5_33 m18 (by omega) (by omega)
      exact lp8 (200 - (0 : Int32).toInt).toNat.succ (0 : Int32) (0 : Int32) (by omega) (by omega)
    · skip
      refine hC.1 1 14 _ _ rfl _ _ _ _ _ ?_
      exact ⟨rfl, fun e9 => absurd e9 (by decide), rfl, (-1 : Int32), v, f, rfl, rfl, hv, hf, rfl, rfl, rfl, rfl, rfl, rfl, rfl, by first | omega | (dsimp only; omega) | trivial⟩
  · skip
    have k0 : (0 : Int32).toInt = 0 := rfl
    refine And.intro (fun _ => ?_) (fun c9 => absurd c9 (by decide))
    refine hC.1 1 14 _ _ rfl _ _ _ _ _ ?_
    have km1 : (-1 : Int32).toInt = -1 := rfl
    exact ⟨rfl, fun e9 => absurd e9 (by decide), rfl, (-1 : Int32), v, f, rfl, rfl, hv, hf, rfl, rfl, rfl, rfl, rfl, rfl, rfl, by first | omega | (dsimp only; omega) | trivial⟩

set_option maxRecDepth 100000 in
set_option maxHeartbeats 2000000 in
theorem Y_X11_twin (D : md_D h q) (v : Nat → Int32) (f : Nat → Nat → Int32) (hv : md_V v) (hf : md_F f) (x1 : Int32)  : pm_Mt l g 270 2 0 0 [.ref h, .int x1] (md A0 g h q v f) (md_Qw A0 g h q f (fun r v2 f2 => f2 0 = f 0 ∧ f2 1 = f 1 ∧ f2 12 = f 12 ∧ f2 13 = f 13 ∧ f2 14 = f 14 ∧ f2 15 = f 15 ∧ (v2 0).toInt = (v 0).toInt ∧ (v2 1).toInt = (v 1).toInt ∧ (v2 2).toInt = (v 2).toInt ∧ (v2 3).toInt = (v 3).toInt ∧ (v2 4).toInt = (v 4).toInt ∧ (v2 6).toInt = (v 6).toInt)) := by
  refine mt_X11_twin rfl (fun J hC => ?_)
  have hv9 := hv
  unfold md_V at hv9
  have rg_x1 := pm_rng x1
  refine hC.1 0 0 _ _ rfl _ _ _ _ _ ?_
  have k0 : (0 : Int32).toInt = 0 := rfl
  have k1 : (1 : Int32).toInt = 1 := rfl
  refine Exists.intro _ (Exists.intro _ (Exists.intro _ (Exists.intro _ (And.intro (c_X11_isIn (md A0 g h q v f) x1 (0 : Int32) (1 : Int32) ) (And.intro rfl (fun r9 A9 h9 => ?_))))))
  rcases h9 with ⟨y1, rfl, rfl, ⟨rfl, by1⟩ | ⟨rfl, by1⟩⟩
  · skip
    refine And.intro (fun _ => ?_) (fun c9 => absurd c9 (by decide))
    refine hC.1 1 11 _ _ rfl _ _ _ _ _ ?_
    refine And.intro (Exists.intro _ md_o) (Exists.intro _ (Exists.intro _ (Exists.intro _ (Exists.intro _ (And.intro (Y_X11_layGaps D v f hv hf  ) (And.intro rfl (fun r9 A9 h9 => ?_)))))))
    obtain ⟨v3, f3, rfl, rfl, hv3, hf3, hx3, hg3_0, hg3_1, hg3_12, hg3_13, hg3_14, hg3_15, by2⟩ := h9
    have hw3 : f3 2 = f 2 := hx3.trans rfl
    have hr3_0 : f3 0 = f 0 := hg3_0.trans rfl
    have hr3_1 : f3 1 = f 1 := hg3_1.trans rfl
    have hr3_12 : f3 12 = f 12 := hg3_12.trans rfl
    have hr3_13 : f3 13 = f 13 := hg3_13.trans rfl
    have hr3_14 : f3 14 = f 14 := hg3_14.trans rfl
    have hr3_15 : f3 15 = f 15 := hg3_15.trans rfl
    have hu4 := hv3
    unfold md_V at hu4
    have km1 : (-1 : Int32).toInt = -1 := rfl
    have lp5 : ∀ (n : Nat) (z2_22 : Int32) (z3_22 : Int32) (z4_22 : Int32), (0 ≤ z4_22.toInt ∧ z4_22.toInt ≤ (v 0).toInt) → 200 - z4_22.toInt < (n : Int) → J 22 [some (.ref h), some (.int x1), some (.int z2_22), some (.int z3_22), some (.int z4_22), none, none] [] (md A0 g h q v3 f3) 0 0 := by
      intro n
      induction n with
      | zero =>
        intro z2_22 z3_22 z4_22 j0_22 j1_22
        omega
      | succ n ih6 =>
        intro z2_22 z3_22 z4_22 j0_22 j1_22
        refine hC.1 2 22 _ _ rfl _ _ _ _ _ ?_
        refine Exists.intro _ (And.intro md_o ?_)
        refine And.intro (fun c7 => ?_) (fun c7 => ?_)
        · skip
          refine hC.1 7 86 _ _ rfl _ _ _ _ _ ?_
          refine And.intro (fun c8 => ?_) (fun c8 => ?_)
          · skip
            refine hC.1 8 94 _ _ rfl _ _ _ _ _ ?_
            refine hC.1 10 99 _ _ rfl _ _ _ _ _ ?_
            exact ⟨rfl, fun e9 => absurd e9 (by decide), rfl, z2_22, v3, f3, rfl, rfl, hv3, hf3, hw3, hr3_0, hr3_1, hr3_12, hr3_13, hr3_14, hr3_15, by first | omega | (dsimp only; omega) | trivial⟩
          · skip
            refine And.intro (fun c9 => ?_) (fun c9 => ?_)
            · skip
              have dc9 := pm_neI c9
              refine hC.1 9 98 _ _ rfl _ _ _ _ _ ?_
              refine hC.1 10 99 _ _ rfl _ _ _ _ _ ?_
              exact ⟨rfl, fun e9 => absurd e9 (by decide), rfl, z3_22, v3, f3, rfl, rfl, hv3, hf3, hw3, hr3_0, hr3_1, hr3_12, hr3_13, hr3_14, hr3_15, by first | omega | (dsimp only; omega) | trivial⟩
            · skip
              have dc9 : (x1).toInt = (0 : Int32).toInt := congrArg Int32.toInt c9
              refine hC.1 8 94 _ _ rfl _ _ _ _ _ ?_
              refine hC.1 10 99 _ _ rfl _ _ _ _ _ ?_
              exact ⟨rfl, fun e9 => absurd e9 (by decide), rfl, z2_22, v3, f3, rfl, rfl, hv3, hf3, hw3, hr3_0, hr3_1, hr3_12, hr3_13, hr3_14, hr3_15, by first | omega | (dsimp only; omega) | trivial⟩
        · skip
          intro m10 em_34
          try have e10 : m10.toInt = (z4_22).toInt + (1) := by rw [em_34]; exact pm_addc _ _ (1) rfl (by omega) (by omega)
          have lp11 : ∀ (n : Nat) (z2_37 : Int32) (z3_37 : Int32) (z5_37 : Int32), (0 ≤ z5_37.toInt ∧ z5_37.toInt ≤ 161) → 200 - z5_37.toInt < (n : Int) → J 37 [some (.ref h), some (.int x1), some (.int z2_37), some (.int z3_37), some (.int z4_22), some (.int z5_37), none] [] (md A0 g h q v3 f3) 0 0 := by
            intro n
            induction n with
            | zero =>
              intro z2_37 z3_37 z5_37 j0_37 j1_37
              omega
            | succ n ih12 =>
              intro z2_37 z3_37 z5_37 j0_37 j1_37
              refine hC.1 3 37 _ _ rfl _ _ _ _ _ ?_
              refine Exists.intro _ (And.intro md_o ?_)
              refine And.intro (fun c13 => ?_) (fun c13 => ?_)
              · skip
                refine hC.1 6 80 _ _ rfl _ _ _ _ _ ?_
                intro m14 em_80
                try have e14 : m14.toInt = (z4_22).toInt + (1) := by rw [em_80]; exact pm_addc _ _ (1) rfl (by omega) (by omega)
                exact hC.2 [false, false, false, false, false, true, false] _ _ _ _ _ _ (ih6 z2_37 z3_37 m14 (by omega) (by omega))
              · skip
                have k160 : (160 : Int32).toInt = 160 := rfl
                refine And.intro (Exists.intro _ md_o) (Exists.intro _ (Exists.intro _ (Exists.intro _ (Exists.intro _ (And.intro (c_X11_matched D v3 f3 hv3 hf3 z4_22 z5_37 (160 : Int32) (by omega) (by omega) (by omega)) (And.intro rfl (fun r9 A9 h9 => ?_)))))))
                obtain ⟨y15, rfl, rfl, by15⟩ := h9
                refine And.intro (fun c16 => ?_) (fun c16 => ?_)
                · skip
                  refine hC.1 4 68 _ _ rfl _ _ _ _ _ ?_
                  refine hC.1 5 74 _ _ rfl _ _ _ _ _ ?_
                  intro m17 em_74
                  try have e17 : m17.toInt = (z5_37).toInt + (1) := by rw [em_74]; exact pm_addc _ _ (1) rfl (by omega) (by omega)
                  exact hC.2 [false, false, false, false, false, false, true] _ _ _ _ _ _ (ih12 z4_22 y15 m17 (by omega) (by omega))
                · skip
                  refine hC.1 5 74 _ _ rfl _ _ _ _ _ ?_
                  intro m18 em_74
                  try have e18 : m18.toInt = (z5_37).toInt + (1) := by rw [em_74]; exact pm_addc _ _ (1) rfl (by omega) (by omega)
                  exact hC.2 [false, false, false, false, false, false, true] _ _ _ _ _ _ (ih12 z2_37 z3_37 m18 (by omega) (by omega))
          exact lp11 (200 - m10.toInt).toNat.succ z2_22 z3_22 m10 (by omega) (by omega)
    exact lp5 (200 - (0 : Int32).toInt).toNat.succ (-1 : Int32) (0 : Int32) (0 : Int32) (by omega) (by omega)
  · skip
    refine And.intro (fun c9 => absurd c9 (by decide)) (fun _ => ?_)
    have km1 : (-1 : Int32).toInt = -1 := rfl
    exact ⟨rfl, fun e9 => absurd e9 (by decide), rfl, (-1 : Int32), v, f, rfl, rfl, hv, hf, rfl, rfl, rfl, rfl, rfl, rfl, rfl, by first | omega | (dsimp only; omega) | trivial⟩

end
end
