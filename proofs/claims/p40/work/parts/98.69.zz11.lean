
theorem PLN {m : Nat → Int32} {n s : Int} {x : Int32} (hn : 0 ≤ n) (h : (x.toInt < 0 ∧ s = -1) ∨ (0 ≤ x.toInt ∧ FST m n x s)) : (0 ≤ s ↔ (0 ≤ x.toInt ∧ 0 ≤ nextEq m x 0 n.toNat)) := by
  rcases h with ⟨h1, h2⟩ | ⟨h1, h2⟩
  · exact ⟨fun q => by omega, fun q => by omega⟩
  · have h3 := FST_n hn h2
    exact ⟨fun q => ⟨h1, by omega⟩, fun q => by omega⟩
def PBR (n : Int) (m : Nat → Int32) (E : Int) (hn : Int → Int) (hm : Int → Nat → Int32) (ed x : Int32) (r : Int) : Prop := (ed.toInt = -1 ∧ r = nextEq m x 0 n.toNat) ∨ (¬ ed.toInt = -1 ∧ kno E ed.toInt ∧ r = nextEq (hm ed.toInt) x 0 (hn ed.toInt).toNat) ∨ (¬ ed.toInt = -1 ∧ ¬ kno E ed.toInt ∧ r = -1)
theorem AKI_no {c m W : Nat → Int32} {n E : Int} {hn : Int → Int} {hc hm : Int → Nat → Int32} {ed a b x y : Int32} {p q : Int} (hp : PBR n m E hn hm ed a p) (hq : PBR n m E hn hm ed b q) (h : ¬ (0 ≤ p ∧ 0 ≤ q)) (hx : x = -1) (hy : y = -1) : AKI c m W n E hn hc hm ed a b x y := by
  rcases hp with ⟨p1, p2⟩ | ⟨p1, p2, p3⟩ | ⟨p1, p2, p3⟩
  · rcases hq with ⟨q1, q2⟩ | ⟨q1, q2, q3⟩ | ⟨q1, q2, q3⟩
    · exact Or.inl ⟨p1, ANR_no p2 q2 h hx hy⟩
    · exact absurd p1 q1
    · exact absurd p1 q1
  · rcases hq with ⟨q1, q2⟩ | ⟨q1, q2, q3⟩ | ⟨q1, q2, q3⟩
    · exact absurd q1 p1
    · exact Or.inr (Or.inl ⟨p1, p2, ANR_no p3 q3 h hx hy⟩)
    · exact absurd p2 q2
  · exact Or.inr (Or.inr ⟨p1, p2, hx, hy⟩)
theorem AKI_yes {c m W : Nat → Int32} {n E : Int} {hn : Int → Int} {hc hm : Int → Nat → Int32} {ed a b x y S : Int32} {p q l r : Int} (hp : PBR n m E hn hm ed a p) (hq : PBR n m E hn hm ed b q) (h : 0 ≤ p ∧ 0 ≤ q) (hl : (p ≤ q ∧ l = p ∧ r = q) ∨ (q ≤ p ∧ l = q ∧ r = p)) (hS : (ed.toInt = -1 → S = sS c l r) ∧ (¬ ed.toInt = -1 → S = sS (hc ed.toInt) l r)) (hx : x.toInt = (cntB S 24 : Int)) (hy : y = msB W S 24) : AKI c m W n E hn hc hm ed a b x y := by
  rcases hp with ⟨p1, p2⟩ | ⟨p1, p2, p3⟩ | ⟨p1, p2, p3⟩
  · rcases hq with ⟨q1, q2⟩ | ⟨q1, q2, q3⟩ | ⟨q1, q2, q3⟩
    · have e := hS.1 p1
      subst e
      exact Or.inl ⟨p1, ANR_yes p2 q2 h hl hx hy⟩
    · exact absurd p1 q1
    · exact absurd p1 q1
  · rcases hq with ⟨q1, q2⟩ | ⟨q1, q2, q3⟩ | ⟨q1, q2, q3⟩
    · exact absurd q1 p1
    · have e := hS.2 p1
      subst e
      exact Or.inr (Or.inl ⟨p1, p2, ANR_yes p3 q3 h hl hx hy⟩)
    · exact absurd p2 q2
  · omega
def ABT (n gv ed ta ak : Int32) (c : Nat → Int32) (t : Int) : Int := if t = 0 then n.toInt else if t = 1 then (cntB (sS c 0 (n.toInt - 1)) 24 : Int) else if t = 2 then gv.toInt else if t = 3 then ed.toInt else if t = 4 then ta.toInt else if t = 5 then ak.toInt else -1
theorem ABT_0 {n gv ed ta ak : Int32} {c : Nat → Int32} {t : Int} (h : t = 0) : ABT n gv ed ta ak c t = n.toInt := if_pos h
theorem ABT_1 {n gv ed ta ak : Int32} {c : Nat → Int32} {t : Int} (h : t = 1) : ABT n gv ed ta ak c t = (cntB (sS c 0 (n.toInt - 1)) 24 : Int) := by unfold ABT; rw [if_neg (by omega), if_pos h]
theorem ABT_2 {n gv ed ta ak : Int32} {c : Nat → Int32} {t : Int} (h : t = 2) : ABT n gv ed ta ak c t = gv.toInt := by unfold ABT; rw [if_neg (by omega), if_neg (by omega), if_pos h]
theorem ABT_3 {n gv ed ta ak : Int32} {c : Nat → Int32} {t : Int} (h : t = 3) : ABT n gv ed ta ak c t = ed.toInt := by unfold ABT; rw [if_neg (by omega), if_neg (by omega), if_neg (by omega), if_pos h]
theorem ABT_4 {n gv ed ta ak : Int32} {c : Nat → Int32} {t : Int} (h : t = 4) : ABT n gv ed ta ak c t = ta.toInt := by unfold ABT; rw [if_neg (by omega), if_neg (by omega), if_neg (by omega), if_neg (by omega), if_pos h]
theorem ABT_5 {n gv ed ta ak : Int32} {c : Nat → Int32} {t : Int} (h : t = 5) : ABT n gv ed ta ak c t = ak.toInt := by unfold ABT; rw [if_neg (by omega), if_neg (by omega), if_neg (by omega), if_neg (by omega), if_neg (by omega), if_pos h]
theorem ABT_d {n gv ed ta ak : Int32} {c : Nat → Int32} {t : Int} (h : ¬ (0 ≤ t ∧ t ≤ 5)) : ABT n gv ed ta ak c t = -1 := by unfold ABT; rw [if_neg (by omega), if_neg (by omega), if_neg (by omega), if_neg (by omega), if_neg (by omega), if_neg (by omega)]
theorem ABT_u {n n2 gv gv2 ed ed2 ta ta2 ak ak2 : Int32} {c d : Nat → Int32} {t x y : Int} (hc : ∀ j : Nat, (j : Int) < n.toInt → c j = d j) (hn : n.toInt = n2.toInt) (hg : gv = gv2) (he : ed.toInt = ed2.toInt) (h5 : ta = ta2) (h6 : ak = ak2) (a : x = ABT n gv ed ta ak c t) (b : y = ABT n2 gv2 ed2 ta2 ak2 d t) : x = y := by
  subst hg; subst h5; subst h6
  have e1 := pm_eqI hn
  have e2 := pm_eqI he
  subst e1; subst e2
  rw [a, b]
  unfold ABT
  rw [sS_eq (c := c) (d := d) (n := n.toInt) hc (by omega)]
theorem SB24 {c : Nat → Int32} {hc : Int → Nat → Int32} {ed S : Int32} {l r : Int} (h : (ed.toInt = -1 → S = sS c l r) ∧ (¬ ed.toInt = -1 → S = sS (hc ed.toInt) l r)) (k1 : ok24 c) (k2 : ∀ i, ok24 (hc i)) : cntB S 32 = cntB S 24 := by
  by_cases e : ed.toInt = -1
  · rw [h.1 e]; exact set_24 k1 _
  · rw [h.2 e]; exact set_24 (k2 _) _

