
def ANR (c m W : Nat → Int32) (n : Int) (a b x y : Int32) : Prop := (¬ (0 ≤ nextEq m a 0 n.toNat ∧ 0 ≤ nextEq m b 0 n.toNat) ∧ x = -1 ∧ y = -1) ∨ ((0 ≤ nextEq m a 0 n.toNat ∧ 0 ≤ nextEq m b 0 n.toNat) ∧ x.toInt = (cntB (sS c (min (nextEq m a 0 n.toNat) (nextEq m b 0 n.toNat)) (max (nextEq m a 0 n.toNat) (nextEq m b 0 n.toNat))) 24 : Int) ∧ y = msB W (sS c (min (nextEq m a 0 n.toNat) (nextEq m b 0 n.toNat)) (max (nextEq m a 0 n.toNat) (nextEq m b 0 n.toNat))) 24)
theorem ANR_no {c m W : Nat → Int32} {n : Int} {a b x y : Int32} {p q : Int} (hp : p = nextEq m a 0 n.toNat) (hq : q = nextEq m b 0 n.toNat) (h : ¬ (0 ≤ p ∧ 0 ≤ q)) (hx : x = -1) (hy : y = -1) : ANR c m W n a b x y := Or.inl ⟨by rw [← hp, ← hq]; exact h, hx, hy⟩
theorem ANR_yes {c m W : Nat → Int32} {n : Int} {a b x y : Int32} {p q l r : Int} (hp : p = nextEq m a 0 n.toNat) (hq : q = nextEq m b 0 n.toNat) (h : 0 ≤ p ∧ 0 ≤ q) (hl : (p ≤ q ∧ l = p ∧ r = q) ∨ (q ≤ p ∧ l = q ∧ r = p)) (hx : x.toInt = (cntB (sS c l r) 24 : Int)) (hy : y = msB W (sS c l r) 24) : ANR c m W n a b x y := Or.inr (by
  rw [← hp, ← hq]
  rw [show min p q = l by omega, show max p q = r by omega]
  exact ⟨h, hx, hy⟩)
theorem ANR_u {c m W d k V : Nat → Int32} {n n2 : Int32} {a b x y x2 y2 : Int32} {L : List pl_P} (h1 : rp n c m L) (h2 : rp n2 d k L) (hw : ∀ j, j < 24 → W j = V j) (g1 : ANR c m W n.toInt a b x y) (g2 : ANR d k V n2.toInt a b x2 y2) : x = x2 ∧ y = y2 := by
  have e0 : n.toInt = n2.toInt := h1.1.trans h2.1.symm
  have hl := h1.1
  have hc : ∀ j : Nat, (j : Int) < n.toInt → c j = d j := fun j hj => by rw [(h1.2 j (by omega)).1, (h2.2 j (by omega)).1]
  have hm : ∀ j : Nat, (j : Int) < n.toInt → m j = k j := fun j hj => by rw [(h1.2 j (by omega)).2, (h2.2 j (by omega)).2]
  have e1 : ∀ z, nextEq m z 0 n.toInt.toNat = nextEq k z 0 n2.toInt.toNat := fun z => by
    rw [← e0]
    exact nextEq_eq _ _ (fun j hj => hm j (by omega))
  have q1 := nextEq_lt m a 0 n.toInt.toNat
  have q2 := nextEq_lt m b 0 n.toInt.toNat
  unfold ANR at g2
  rw [← e1, ← e1] at g2
  rcases g1 with ⟨a1, a2, a3⟩ | ⟨a1, a2, a3⟩
  · rcases g2 with ⟨b1, b2, b3⟩ | ⟨b1, b2, b3⟩
    · exact ⟨a2.trans b2.symm, a3.trans b3.symm⟩
    · exact absurd b1 a1
  · rcases g2 with ⟨b1, b2, b3⟩ | ⟨b1, b2, b3⟩
    · exact absurd a1 b1
    · have es := sS_eq (c := c) (d := d) (n := n.toInt) (l := min (nextEq m a 0 n.toInt.toNat) (nextEq m b 0 n.toInt.toNat)) (r := max (nextEq m a 0 n.toInt.toNat) (nextEq m b 0 n.toInt.toNat)) hc (by omega)
      rw [← es] at b2 b3
      exact ⟨pm_eqI (a2.trans b2.symm), a3.trans ((msB_eq 24 hw).trans b3.symm)⟩
def AKI (c m W : Nat → Int32) (n E : Int) (hn : Int → Int) (hc hm : Int → Nat → Int32) (ed a b x y : Int32) : Prop := (ed.toInt = -1 ∧ ANR c m W n a b x y) ∨ (¬ ed.toInt = -1 ∧ kno E ed.toInt ∧ ANR (hc ed.toInt) (hm ed.toInt) W (hn ed.toInt) a b x y) ∨ (¬ ed.toInt = -1 ∧ ¬ kno E ed.toInt ∧ x = -1 ∧ y = -1)
def cro (i : Int) : Nat := (40 + 4 * (i % 41)).toNat
def cN (w : Nat → Int32) (i : Int) : Int := (w (cro i)).toInt
def cC (e : Nat → Nat → Int32) (i : Int) : Nat → Int32 := e (cro i + 1)
def cM (e : Nat → Nat → Int32) (i : Int) : Nat → Int32 := e (cro i + 2)
theorem cro_i {i : Int} (h : 0 ≤ i) : (cro i : Int) = 40 + 4 * (i % 41) := by unfold cro; omega
def rNi (f : Nat → Nat → Int32) (i : Int) : Int := (rN f i).toInt
def cnA (x : Nat → Int32) : Nat → Int
  | 0 => 0
  | k + 1 => cnA x k + (if x k = -1 then 0 else 1)
theorem cnA_eq {x y : Nat → Int32} : ∀ k, (∀ j, j < k → x j = y j) → cnA x k = cnA y k
  | 0, _ => rfl
  | k + 1, h => by rw [cnA, cnA, cnA_eq k (fun j hj => h j (by omega)), h k (by omega)]
theorem cnA_r (x : Nat → Int32) : ∀ k, 0 ≤ cnA x k ∧ cnA x k ≤ k
  | 0 => ⟨Int.le_refl _, Int.le_refl _⟩
  | k + 1 => by
    have h := cnA_r x k
    rw [cnA]
    split <;> omega
theorem cnA_1 {x y : Nat → Int32} {k : Nat} {z : Int32} (h : y = upd x k z) (hz : ¬ z = -1) : cnA y (k + 1) = cnA x k + 1 := by
  subst h
  rw [cnA, pk_us, if_neg hz, cnA_eq k (fun j hj => pk_un (by omega))]
theorem cnA_0 {x y : Nat → Int32} {k : Nat} {z : Int32} (h : y = upd x k z) (hz : z = -1) : cnA y (k + 1) = cnA x k := by
  subst h
  rw [cnA, pk_us, if_pos hz, cnA_eq k (fun j hj => pk_un (by omega)), Int.add_zero]
theorem m1_ne {z : Int32} (h : 0 ≤ z.toInt) : ¬ z = -1 := fun e => by rw [e] at h; exact absurd h (by decide)
def QST (ok : Prop) (ed a b n n2 r : Int32) (p o s t i p2 o2 s2 t2 i2 : Nat → Int32) : Prop := (¬ ok ∧ n2 = n ∧ r = -1 ∧ p2 = p ∧ o2 = o ∧ s2 = s ∧ t2 = t ∧ i2 = i) ∨ (ok ∧ n2 = n + 1 ∧ r = n ∧ p2 = upd p n.toInt.toNat a ∧ o2 = upd o n.toInt.toNat b ∧ s2 = upd s n.toInt.toNat (-1) ∧ t2 = upd t n.toInt.toNat (-1) ∧ i2 = upd i n.toInt.toNat ed)
def ASD (n x t : Int) (p o s u i : Nat → Int32) : Int32 := if 0 ≤ x ∧ x < n then (if t = 0 then s x.toNat else if t = 1 then u x.toNat else if t = 2 then p x.toNat else if t = 3 then o x.toNat else if t = 4 then i x.toNat else -1) else -1
theorem ASD_n {n x t : Int} {p o s u i : Nat → Int32} (h : ¬ (0 ≤ x ∧ x < n)) : ASD n x t p o s u i = -1 := if_neg h
theorem ASD_d {n x t : Int} {p o s u i : Nat → Int32} (h : ¬ (0 ≤ t ∧ t ≤ 4)) : ASD n x t p o s u i = -1 := by
  unfold ASD
  split
  · rw [if_neg (by omega), if_neg (by omega), if_neg (by omega), if_neg (by omega), if_neg (by omega)]
  · rfl
theorem ASD_0 {n x t : Int} {p o s u i : Nat → Int32} (h : 0 ≤ x ∧ x < n) (ht : t = 0) : ASD n x t p o s u i = s x.toNat := by unfold ASD; rw [if_pos h, if_pos ht]
theorem ASD_1 {n x t : Int} {p o s u i : Nat → Int32} (h : 0 ≤ x ∧ x < n) (ht : t = 1) : ASD n x t p o s u i = u x.toNat := by unfold ASD; rw [if_pos h, if_neg (by omega), if_pos ht]
theorem ASD_2 {n x t : Int} {p o s u i : Nat → Int32} (h : 0 ≤ x ∧ x < n) (ht : t = 2) : ASD n x t p o s u i = p x.toNat := by unfold ASD; rw [if_pos h, if_neg (by omega), if_neg (by omega), if_pos ht]
theorem ASD_3 {n x t : Int} {p o s u i : Nat → Int32} (h : 0 ≤ x ∧ x < n) (ht : t = 3) : ASD n x t p o s u i = o x.toNat := by unfold ASD; rw [if_pos h, if_neg (by omega), if_neg (by omega), if_neg (by omega), if_pos ht]
theorem ASD_4 {n x t : Int} {p o s u i : Nat → Int32} (h : 0 ≤ x ∧ x < n) (ht : t = 4) : ASD n x t p o s u i = i x.toNat := by unfold ASD; rw [if_pos h, if_neg (by omega), if_neg (by omega), if_neg (by omega), if_neg (by omega), if_pos ht]
theorem pk_uu {c : Nat → Int32} {i : Nat} {a b : Int32} : upd (upd c i a) i b = upd c i b := funext (fun j => by
  by_cases h : j = i
  · rw [h, pk_us, pk_us]
  · rw [pk_un h, pk_un h, pk_un h])
theorem ANR_e {c m W c2 m2 W2 : Nat → Int32} {n n2 : Int} {a b a2 b2 x y : Int32} (h : ANR c m W n a b x y) (hc : c = c2) (hm : m = m2) (hw : W = W2) (hn : n = n2) (ha : a = a2) (hb : b = b2) : ANR c2 m2 W2 n2 a2 b2 x y := by
  subst hc; subst hm; subst hw; subst hn; subst ha; subst hb; exact h
theorem AKI_row {w : Nat → Int32} {e : Nat → Nat → Int32} {c m W : Nat → Int32} {n E : Int} {ed a b x y : Int32} {o : Nat} (he : ¬ ed.toInt = -1) (hk : kno E ed.toInt) (ho : cro ed.toInt = o) (h : ANR (e (o + 1)) (e (o + 2)) W (w o).toInt a b x y) : AKI c m W n E (cN w) (cC e) (cM e) ed a b x y := Or.inr (Or.inl ⟨he, hk, by unfold cC cM cN; rw [ho]; exact h⟩)
theorem QST_i {ok ok2 : Prop} {ed a b n n2 r : Int32} {p o s t i p2 o2 s2 t2 i2 : Nat → Int32} (h : QST ok ed a b n n2 r p o s t i p2 o2 s2 t2 i2) (hk : ok ↔ ok2) : QST ok2 ed a b n n2 r p o s t i p2 o2 s2 t2 i2 := by
  rcases h with ⟨h1, h2⟩ | ⟨h1, h2⟩
  · exact Or.inl ⟨fun q => h1 (hk.mpr q), h2⟩
  · exact Or.inr ⟨hk.mp h1, h2⟩
