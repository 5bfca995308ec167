section
/-! the questions: an answer by its row, all of them, one more -/
def ANR (c m W : Nat → Int32) (n : Int) (a b x y : Int32) : Prop := (¬ (0 ≤ nextEq m a 0 n.toNat ∧ 0 ≤ nextEq m b 0 n.toNat) ∧ x = -1 ∧ y = -1) ∨ ((0 ≤ nextEq m a 0 n.toNat ∧ 0 ≤ nextEq m b 0 n.toNat) ∧ x.toInt = (cntB (sS c (min (nextEq m a 0 n.toNat) (nextEq m b 0 n.toNat)) (max (nextEq m a 0 n.toNat) (nextEq m b 0 n.toNat))) 24 : Int) ∧ y = msB W (sS c (min (nextEq m a 0 n.toNat) (nextEq m b 0 n.toNat)) (max (nextEq m a 0 n.toNat) (nextEq m b 0 n.toNat))) 24)
theorem ANR_no {c m W : Nat → Int32} {n : Int} {a b x y : Int32} {p q : Int} (hp : p = nextEq m a 0 n.toNat) (hq : q = nextEq m b 0 n.toNat) (h : ¬ (0 ≤ p ∧ 0 ≤ q)) (hx : x = -1) (hy : y = -1) : ANR c m W n a b x y := Or.inl ⟨by rw [← hp, ← hq]; exact h, hx, hy⟩
theorem ANR_yes {c m W : Nat → Int32} {n : Int} {a b x y : Int32} {p q l r : Int} (hp : p = nextEq m a 0 n.toNat) (hq : q = nextEq m b 0 n.toNat) (h : 0 ≤ p ∧ 0 ≤ q) (hl : (p ≤ q ∧ l = p ∧ r = q) ∨ (q ≤ p ∧ l = q ∧ r = p)) (hx : x.toInt = (cntB (sS c l r) 24 : Int)) (hy : y = msB W (sS c l r) 24) : ANR c m W n a b x y := Or.inr (by
  rw [← hp, ← hq]
  rw [show min p q = l by omega, show max p q = r by omega]
  exact ⟨h, hx, hy⟩)
theorem ANR_u {c m W d k V : Nat → Int32} {n n2 : Int32} {a b x y x2 y2 : Int32} {L : List pl_P} (h1 : rp n c m L) (h2 : rp n2 d k L) (hw : ∀ j, j < 24 → W j = V j) (g1 : ANR c m W n.toInt a b x y) (g2 : ANR d k V n2.toInt a b x2 y2) : x = x2 ∧ y = y2 := by
  have e0 : n.toInt = n2.toInt := h1.1.trans h2.1.symm
  have hl := h1.1
  have hc : ∀ j : Nat, (j : Int) < n.toInt → c j = d j := fun j hj => by rw [(h1.2 j (by omega)).1, (h2.2 j (by omega)).1]
  have hm : ∀ j : Nat, (j : Int) < n.toInt → m j = k j := fun j hj => by rw [(h1.2 j (by omega)).2, (h2.2 j (by omega)).2]
  have e1 : ∀ z, nextEq m z 0 n.toInt.toNat = nextEq k z 0 n2.toInt.toNat := fun z => by
    rw [← e0]
    exact nextEq_eq _ _ (fun j hj => hm j (by omega))
  have q1 := nextEq_lt m a 0 n.toInt.toNat
  have q2 := nextEq_lt m b 0 n.toInt.toNat
  unfold ANR at g2
  rw [← e1, ← e1] at g2
  rcases g1 with ⟨a1, a2, a3⟩ | ⟨a1, a2, a3⟩
  · rcases g2 with ⟨b1, b2, b3⟩ | ⟨b1, b2, b3⟩
    · exact ⟨a2.trans b2.symm, a3.trans b3.symm⟩
    · exact absurd b1 a1
  · rcases g2 with ⟨b1, b2, b3⟩ | ⟨b1, b2, b3⟩
    · exact absurd a1 b1
    · have es := sS_eq (c := c) (d := d) (n := n.toInt) (l := min (nextEq m a 0 n.toInt.toNat) (nextEq m b 0 n.toInt.toNat)) (r := max (nextEq m a 0 n.toInt.toNat) (nextEq m b 0 n.toInt.toNat)) hc (by omega)
      rw [← es] at b2 b3
      exact ⟨pm_eqI (a2.trans b2.symm), a3.trans ((msB_eq 24 hw).trans b3.symm)⟩
/-- of what was asked of an edit, or of none -/
def AKI (c m W : Nat → Int32) (n E : Int) (hn : Int → Int) (hc hm : Int → Nat → Int32) (ed a b x y : Int32) : Prop := (ed.toInt = -1 ∧ ANR c m W n a b x y) ∨ (¬ ed.toInt = -1 ∧ kno E ed.toInt ∧ ANR (hc ed.toInt) (hm ed.toInt) W (hn ed.toInt) a b x y) ∨ (¬ ed.toInt = -1 ∧ ¬ kno E ed.toInt ∧ x = -1 ∧ y = -1)
/-- the class's rows by edits -/
def cro (i : Int) : Nat := (40 + 4 * (i % 41)).toNat
def cN (w : Nat → Int32) (i : Int) : Int := (w (cro i)).toInt
def cC (e : Nat → Nat → Int32) (i : Int) : Nat → Int32 := e (cro i + 1)
def cM (e : Nat → Nat → Int32) (i : Int) : Nat → Int32 := e (cro i + 2)
theorem cro_i {i : Int} (h : 0 ≤ i) : (cro i : Int) = 40 + 4 * (i % 41) := by unfold cro; omega
def rNi (f : Nat → Nat → Int32) (i : Int) : Int := (rN f i).toInt
/-- how many have answers -/
def cnA (x : Nat → Int32) : Nat → Int
  | 0 => 0
  | k + 1 => cnA x k + (if x k = -1 then 0 else 1)
theorem cnA_eq {x y : Nat → Int32} : ∀ k, (∀ j, j < k → x j = y j) → cnA x k = cnA y k
  | 0, _ => rfl
  | k + 1, h => by rw [cnA, cnA, cnA_eq k (fun j hj => h j (by omega)), h k (by omega)]
theorem cnA_r (x : Nat → Int32) : ∀ k, 0 ≤ cnA x k ∧ cnA x k ≤ k
  | 0 => ⟨Int.le_refl _, Int.le_refl _⟩
  | k + 1 => by
    have h := cnA_r x k
    rw [cnA]
    split <;> omega
theorem cnA_1 {x y : Nat → Int32} {k : Nat} {z : Int32} (h : y = upd x k z) (hz : ¬ z = -1) : cnA y (k + 1) = cnA x k + 1 := by
  subst h
  rw [cnA, pk_us, if_neg hz, cnA_eq k (fun j hj => pk_un (by omega))]
theorem cnA_0 {x y : Nat → Int32} {k : Nat} {z : Int32} (h : y = upd x k z) (hz : z = -1) : cnA y (k + 1) = cnA x k := by
  subst h
  rw [cnA, pk_us, if_pos hz, cnA_eq k (fun j hj => pk_un (by omega)), Int.add_zero]
theorem m1_ne {z : Int32} (h : 0 ≤ z.toInt) : ¬ z = -1 := fun e => by rw [e] at h; exact absurd h (by decide)
/-- one more asked: n how many, p names, o others, s kinds, t masses, i edits -/
def QST (ok : Prop) (ed a b n n2 r : Int32) (p o s t i p2 o2 s2 t2 i2 : Nat → Int32) : Prop := (¬ ok ∧ n2 = n ∧ r = -1 ∧ p2 = p ∧ o2 = o ∧ s2 = s ∧ t2 = t ∧ i2 = i) ∨ (ok ∧ n2 = n + 1 ∧ r = n ∧ p2 = upd p n.toInt.toNat a ∧ o2 = upd o n.toInt.toNat b ∧ s2 = upd s n.toInt.toNat (-1) ∧ t2 = upd t n.toInt.toNat (-1) ∧ i2 = upd i n.toInt.toNat ed)
/-- what asked tells -/
def ASD (n x t : Int) (p o s u i : Nat → Int32) : Int32 := if 0 ≤ x ∧ x < n then (if t = 0 then s x.toNat else if t = 1 then u x.toNat else if t = 2 then p x.toNat else if t = 3 then o x.toNat else if t = 4 then i x.toNat else -1) else -1
theorem ASD_n {n x t : Int} {p o s u i : Nat → Int32} (h : ¬ (0 ≤ x ∧ x < n)) : ASD n x t p o s u i = -1 := if_neg h
theorem ASD_d {n x t : Int} {p o s u i : Nat → Int32} (h : ¬ (0 ≤ t ∧ t ≤ 4)) : ASD n x t p o s u i = -1 := by
  unfold ASD
  split
  · rw [if_neg (by omega), if_neg (by omega), if_neg (by omega), if_neg (by omega), if_neg (by omega)]
  · rfl
theorem ASD_0 {n x t : Int} {p o s u i : Nat → Int32} (h : 0 ≤ x ∧ x < n) (ht : t = 0) : ASD n x t p o s u i = s x.toNat := by unfold ASD; rw [if_pos h, if_pos ht]
theorem ASD_1 {n x t : Int} {p o s u i : Nat → Int32} (h : 0 ≤ x ∧ x < n) (ht : t = 1) : ASD n x t p o s u i = u x.toNat := by unfold ASD; rw [if_pos h, if_neg (by omega), if_pos ht]
theorem ASD_2 {n x t : Int} {p o s u i : Nat → Int32} (h : 0 ≤ x ∧ x < n) (ht : t = 2) : ASD n x t p o s u i = p x.toNat := by unfold ASD; rw [if_pos h, if_neg (by omega), if_neg (by omega), if_pos ht]
theorem ASD_3 {n x t : Int} {p o s u i : Nat → Int32} (h : 0 ≤ x ∧ x < n) (ht : t = 3) : ASD n x t p o s u i = o x.toNat := by unfold ASD; rw [if_pos h, if_neg (by omega), if_neg (by omega), if_neg (by omega), if_pos ht]
theorem ASD_4 {n x t : Int} {p o s u i : Nat → Int32} (h : 0 ≤ x ∧ x < n) (ht : t = 4) : ASD n x t p o s u i = i x.toNat := by unfold ASD; rw [if_pos h, if_neg (by omega), if_neg (by omega), if_neg (by omega), if_neg (by omega), if_pos ht]
theorem pk_uu {c : Nat → Int32} {i : Nat} {a b : Int32} : upd (upd c i a) i b = upd c i b := funext (fun j => by
  by_cases h : j = i
  · rw [h, pk_us, pk_us]
  · rw [pk_un h, pk_un h, pk_un h])
theorem ANR_e {c m W c2 m2 W2 : Nat → Int32} {n n2 : Int} {a b a2 b2 x y : Int32} (h : ANR c m W n a b x y) (hc : c = c2) (hm : m = m2) (hw : W = W2) (hn : n = n2) (ha : a = a2) (hb : b = b2) : ANR c2 m2 W2 n2 a2 b2 x y := by
  subst hc; subst hm; subst hw; subst hn; subst ha; subst hb; exact h
theorem AKI_row {w : Nat → Int32} {e : Nat → Nat → Int32} {c m W : Nat → Int32} {n E : Int} {ed a b x y : Int32} {o : Nat} (he : ¬ ed.toInt = -1) (hk : kno E ed.toInt) (ho : cro ed.toInt = o) (h : ANR (e (o + 1)) (e (o + 2)) W (w o).toInt a b x y) : AKI c m W n E (cN w) (cC e) (cM e) ed a b x y := Or.inr (Or.inl ⟨he, hk, by unfold cC cM cN; rw [ho]; exact h⟩)
theorem QST_i {ok ok2 : Prop} {ed a b n n2 r : Int32} {p o s t i p2 o2 s2 t2 i2 : Nat → Int32} (h : QST ok ed a b n n2 r p o s t i p2 o2 s2 t2 i2) (hk : ok ↔ ok2) : QST ok2 ed a b n n2 r p o s t i p2 o2 s2 t2 i2 := by
  rcases h with ⟨h1, h2⟩ | ⟨h1, h2⟩
  · exact Or.inl ⟨fun q => h1 (hk.mpr q), h2⟩
  · exact Or.inr ⟨hk.mp h1, h2⟩
theorem PLN {m : Nat → Int32} {n s : Int} {x : Int32} (hn : 0 ≤ n) (h : (x.toInt < 0 ∧ s = -1) ∨ (0 ≤ x.toInt ∧ FST m n x s)) : (0 ≤ s ↔ (0 ≤ x.toInt ∧ 0 ≤ nextEq m x 0 n.toNat)) := by
  rcases h with ⟨h1, h2⟩ | ⟨h1, h2⟩
  · exact ⟨fun q => by omega, fun q => by omega⟩
  · have h3 := FST_n hn h2
    exact ⟨fun q => ⟨h1, by omega⟩, fun q => by omega⟩
def PBR (n : Int) (m : Nat → Int32) (E : Int) (hn : Int → Int) (hm : Int → Nat → Int32) (ed x : Int32) (r : Int) : Prop := (ed.toInt = -1 ∧ r = nextEq m x 0 n.toNat) ∨ (¬ ed.toInt = -1 ∧ kno E ed.toInt ∧ r = nextEq (hm ed.toInt) x 0 (hn ed.toInt).toNat) ∨ (¬ ed.toInt = -1 ∧ ¬ kno E ed.toInt ∧ r = -1)
/-- an answer of the reference, by the places that were found and the set of what is between -/
theorem AKI_no {c m W : Nat → Int32} {n E : Int} {hn : Int → Int} {hc hm : Int → Nat → Int32} {ed a b x y : Int32} {p q : Int} (hp : PBR n m E hn hm ed a p) (hq : PBR n m E hn hm ed b q) (h : ¬ (0 ≤ p ∧ 0 ≤ q)) (hx : x = -1) (hy : y = -1) : AKI c m W n E hn hc hm ed a b x y := by
  rcases hp with ⟨p1, p2⟩ | ⟨p1, p2, p3⟩ | ⟨p1, p2, p3⟩
  · rcases hq with ⟨q1, q2⟩ | ⟨q1, q2, q3⟩ | ⟨q1, q2, q3⟩
    · exact Or.inl ⟨p1, ANR_no p2 q2 h hx hy⟩
    · exact absurd p1 q1
    · exact absurd p1 q1
  · rcases hq with ⟨q1, q2⟩ | ⟨q1, q2, q3⟩ | ⟨q1, q2, q3⟩
    · exact absurd q1 p1
    · exact Or.inr (Or.inl ⟨p1, p2, ANR_no p3 q3 h hx hy⟩)
    · exact absurd p2 q2
  · exact Or.inr (Or.inr ⟨p1, p2, hx, hy⟩)
theorem AKI_yes {c m W : Nat → Int32} {n E : Int} {hn : Int → Int} {hc hm : Int → Nat → Int32} {ed a b x y S : Int32} {p q l r : Int} (hp : PBR n m E hn hm ed a p) (hq : PBR n m E hn hm ed b q) (h : 0 ≤ p ∧ 0 ≤ q) (hl : (p ≤ q ∧ l = p ∧ r = q) ∨ (q ≤ p ∧ l = q ∧ r = p)) (hS : (ed.toInt = -1 → S = sS c l r) ∧ (¬ ed.toInt = -1 → S = sS (hc ed.toInt) l r)) (hx : x.toInt = (cntB S 24 : Int)) (hy : y = msB W S 24) : AKI c m W n E hn hc hm ed a b x y := by
  rcases hp with ⟨p1, p2⟩ | ⟨p1, p2, p3⟩ | ⟨p1, p2, p3⟩
  · rcases hq with ⟨q1, q2⟩ | ⟨q1, q2, q3⟩ | ⟨q1, q2, q3⟩
    · have e := hS.1 p1
      subst e
      exact Or.inl ⟨p1, ANR_yes p2 q2 h hl hx hy⟩
    · exact absurd p1 q1
    · exact absurd p1 q1
  · rcases hq with ⟨q1, q2⟩ | ⟨q1, q2, q3⟩ | ⟨q1, q2, q3⟩
    · exact absurd q1 p1
    · have e := hS.2 p1
      subst e
      exact Or.inr (Or.inl ⟨p1, p2, ANR_yes p3 q3 h hl hx hy⟩)
    · exact absurd p2 q2
  · omega
/-- what about tells -/
def ABT (n gv ed ta ak : Int32) (c : Nat → Int32) (t : Int) : Int := if t = 0 then n.toInt else if t = 1 then (cntB (sS c 0 (n.toInt - 1)) 24 : Int) else if t = 2 then gv.toInt else if t = 3 then ed.toInt else if t = 4 then ta.toInt else if t = 5 then ak.toInt else -1
theorem ABT_0 {n gv ed ta ak : Int32} {c : Nat → Int32} {t : Int} (h : t = 0) : ABT n gv ed ta ak c t = n.toInt := if_pos h
theorem ABT_1 {n gv ed ta ak : Int32} {c : Nat → Int32} {t : Int} (h : t = 1) : ABT n gv ed ta ak c t = (cntB (sS c 0 (n.toInt - 1)) 24 : Int) := by unfold ABT; rw [if_neg (by omega), if_pos h]
theorem ABT_2 {n gv ed ta ak : Int32} {c : Nat → Int32} {t : Int} (h : t = 2) : ABT n gv ed ta ak c t = gv.toInt := by unfold ABT; rw [if_neg (by omega), if_neg (by omega), if_pos h]
theorem ABT_3 {n gv ed ta ak : Int32} {c : Nat → Int32} {t : Int} (h : t = 3) : ABT n gv ed ta ak c t = ed.toInt := by unfold ABT; rw [if_neg (by omega), if_neg (by omega), if_neg (by omega), if_pos h]
theorem ABT_4 {n gv ed ta ak : Int32} {c : Nat → Int32} {t : Int} (h : t = 4) : ABT n gv ed ta ak c t = ta.toInt := by unfold ABT; rw [if_neg (by omega), if_neg (by omega), if_neg (by omega), if_neg (by omega), if_pos h]
theorem ABT_5 {n gv ed ta ak : Int32} {c : Nat → Int32} {t : Int} (h : t = 5) : ABT n gv ed ta ak c t = ak.toInt := by unfold ABT; rw [if_neg (by omega), if_neg (by omega), if_neg (by omega), if_neg (by omega), if_neg (by omega), if_pos h]
theorem ABT_d {n gv ed ta ak : Int32} {c : Nat → Int32} {t : Int} (h : ¬ (0 ≤ t ∧ t ≤ 5)) : ABT n gv ed ta ak c t = -1 := by unfold ABT; rw [if_neg (by omega), if_neg (by omega), if_neg (by omega), if_neg (by omega), if_neg (by omega), if_neg (by omega)]
theorem ABT_u {n n2 gv gv2 ed ed2 ta ta2 ak ak2 : Int32} {c d : Nat → Int32} {t x y : Int} (hc : ∀ j : Nat, (j : Int) < n.toInt → c j = d j) (hn : n.toInt = n2.toInt) (hg : gv = gv2) (he : ed.toInt = ed2.toInt) (h5 : ta = ta2) (h6 : ak = ak2) (a : x = ABT n gv ed ta ak c t) (b : y = ABT n2 gv2 ed2 ta2 ak2 d t) : x = y := by
  subst hg; subst h5; subst h6
  have e1 := pm_eqI hn
  have e2 := pm_eqI he
  subst e1; subst e2
  rw [a, b]
  unfold ABT
  rw [sS_eq (c := c) (d := d) (n := n.toInt) hc (by omega)]
theorem SB24 {c : Nat → Int32} {hc : Int → Nat → Int32} {ed S : Int32} {l r : Int} (h : (ed.toInt = -1 → S = sS c l r) ∧ (¬ ed.toInt = -1 → S = sS (hc ed.toInt) l r)) (k1 : ok24 c) (k2 : ∀ i, ok24 (hc i)) : cntB S 32 = cntB S 24 := by
  by_cases e : ed.toInt = -1
  · rw [h.1 e]; exact set_24 k1 _
  · rw [h.2 e]; exact set_24 (k2 _) _

end
section
section
variable {l : Launch} {g : pm_G} {A0 : pm_H} {h : Nat} {q : Nat → Nat}
set_option maxRecDepth 100000 in
set_option maxHeartbeats 2000000 in
theorem V_X11_placeBy (D : md_D h q) (v : Nat → Int32) (f : Nat → Nat → Int32) (hv : md_V v) (hf : md_F f) (x1 : Int32) (x2 : Int32)  : pm_Mt l g 279 2 0 0 [.ref h, .int x1, .int x2] (md A0 g h q v f) (md_Qp (md A0 g h q v f) (fun r => (-1 ≤ r.toInt ∧ r.toInt < 160 ∧ (0 ≤ r.toInt → x1.toInt = -1 ∨ 0 ≤ x1.toInt)) ∧ PBR (v 0).toInt (f 1) (v 4).toInt (rNi f) (rM f) x1 x2 r.toInt)) := by
  refine mt_X11_placeBy rfl (fun J hC => ?_)
  have hv9 := hv
  unfold md_V at hv9
  have rg_x1 := pm_rng x1
  have rg_x2 := pm_rng x2
  have rb9 : 0 ≤ (rN f x1.toInt).toInt ∧ (rN f x1.toInt).toInt ≤ 160 := hf 14 _
  refine hC.1 0 0 _ _ rfl _ _ _ _ _ ?_
  have km1 : (-1 : Int32).toInt = -1 := rfl
  refine And.intro (fun c1 => ?_) (fun c1 => ?_)
  · skip
    have dc1 := pm_neI c1
    refine hC.1 1 13 _ _ rfl _ _ _ _ _ ?_
    refine And.intro (Exists.intro _ md_o) (Exists.intro _ (Exists.intro _ (Exists.intro _ (Exists.intro _ (And.intro (c_X11_isKnown D v f hv hf x1 ) (And.intro rfl (fun r9 A9 h9 => ?_)))))))
    rcases h9 with ⟨y2, rfl, rfl, ⟨rfl, by2⟩ | ⟨rfl, by2⟩⟩
    · skip
      have k1 : (1 : Int32).toInt = 1 := rfl
      refine And.intro (fun c9 => absurd c9 (by decide)) (fun _ => ?_)
      refine And.intro (Exists.intro _ md_o) (Exists.intro _ (Exists.intro _ (Exists.intro _ (Exists.intro _ (And.intro (F_X11_wasPlace D v f hv hf x1 x2 (by omega)) (And.intro rfl (fun r9 A9 h9 => ?_)))))))
      obtain ⟨y3, rfl, rfl, by3⟩ := h9
      have yq_9 := by3.2
      have yq_8 := by3.1
      refine hC.1 3 31 _ _ rfl _ _ _ _ _ ?_
      exact ⟨rfl, fun e9 => absurd e9 (by decide), rfl, y3, rfl, rfl, by first | (exact ⟨by omega, Or.inl ⟨by omega, yp_9⟩⟩) | (exact ⟨by omega, Or.inr (Or.inl ⟨by omega, by unfold kno; omega, yq_9⟩)⟩) | (exact ⟨by omega, Or.inr (Or.inr ⟨by omega, by unfold kno; omega, rfl⟩)⟩)⟩
    · skip
      have k0 : (0 : Int32).toInt = 0 := rfl
      refine And.intro (fun _ => ?_) (fun c9 => absurd c9 (by decide))
      refine hC.1 2 30 _ _ rfl _ _ _ _ _ ?_
      refine hC.1 3 31 _ _ rfl _ _ _ _ _ ?_
      exact ⟨rfl, fun e9 => absurd e9 (by decide), rfl, (-1 : Int32), rfl, rfl, by first | (exact ⟨by omega, Or.inl ⟨by omega, yp_9⟩⟩) | (exact ⟨by omega, Or.inr (Or.inl ⟨by omega, by unfold kno; omega, yq_9⟩)⟩) | (exact ⟨by omega, Or.inr (Or.inr ⟨by omega, by unfold kno; omega, rfl⟩)⟩)⟩
  · skip
    have dc1 : (x1).toInt = ((-1 : Int32) : Int32).toInt := congrArg Int32.toInt c1
    refine And.intro (Exists.intro _ md_o) (Exists.intro _ (Exists.intro _ (Exists.intro _ (Exists.intro _ (And.intro (F_X11_placeOf D v f hv hf x2 ) (And.intro rfl (fun r9 A9 h9 => ?_)))))))
    obtain ⟨y4, rfl, rfl, by4⟩ := h9
    have yp_9 := FST_n (by omega) by4.2
    have yp_8 := by4.1
    refine hC.1 3 31 _ _ rfl _ _ _ _ _ ?_
    exact ⟨rfl, fun e9 => absurd e9 (by decide), rfl, y4, rfl, rfl, by first | (exact ⟨by omega, Or.inl ⟨by omega, yp_9⟩⟩) | (exact ⟨by omega, Or.inr (Or.inl ⟨by omega, by unfold kno; omega, yq_9⟩)⟩) | (exact ⟨by omega, Or.inr (Or.inr ⟨by omega, by unfold kno; omega, rfl⟩)⟩)⟩

set_option maxRecDepth 100000 in
set_option maxHeartbeats 2000000 in
theorem V_X11_setBy (D : md_D h q) (v : Nat → Int32) (f : Nat → Nat → Int32) (hv : md_V v) (hf : md_F f) (x1 : Int32) (x2 : Int32) (x3 : Int32) (p0 : x1.toInt = -1 ∨ 0 ≤ x1.toInt) (p1 : 0 ≤ x2.toInt ∧ x2.toInt ≤ 160) (p2 : -1 ≤ x3.toInt ∧ x3.toInt < 160) : pm_Mt l g 280 2 0 0 [.ref h, .int x1, .int x2, .int x3] (md A0 g h q v f) (md_Qp (md A0 g h q v f) (fun r => (x1.toInt = -1 → r = sS (f 0) x2.toInt x3.toInt) ∧ (¬ x1.toInt = -1 → r = sS (rC f x1.toInt) x2.toInt x3.toInt))) := by
  refine mt_X11_setBy rfl (fun J hC => ?_)
  have hv9 := hv
  unfold md_V at hv9
  have rg_x1 := pm_rng x1
  have rg_x2 := pm_rng x2
  have rg_x3 := pm_rng x3
  refine hC.1 0 0 _ _ rfl _ _ _ _ _ ?_
  have km1 : (-1 : Int32).toInt = -1 := rfl
  refine And.intro (fun c1 => ?_) (fun c1 => ?_)
  · skip
    have dc1 := pm_neI c1
    refine hC.1 1 14 _ _ rfl _ _ _ _ _ ?_
    refine And.intro (Exists.intro _ md_o) (Exists.intro _ (Exists.intro _ (Exists.intro _ (Exists.intro _ (And.intro (F_X11_wasSet D v f hv hf x1 x2 x3 (by omega) (by omega) (by omega)) (And.intro rfl (fun r9 A9 h9 => ?_)))))))
    obtain ⟨y2, rfl, rfl, by2⟩ := h9
    have yq_9 := by2
    refine hC.1 2 21 _ _ rfl _ _ _ _ _ ?_
    exact ⟨rfl, fun e9 => absurd e9 (by decide), rfl, y2, rfl, rfl, by first | (exact ⟨fun _ => yp_9, fun h9 => absurd (by omega) h9⟩) | (exact ⟨fun h9 => absurd h9 (by omega), fun _ => yq_9⟩)⟩
  · skip
    have dc1 : (x1).toInt = ((-1 : Int32) : Int32).toInt := congrArg Int32.toInt c1
    refine And.intro (Exists.intro _ md_o) (Exists.intro _ (Exists.intro _ (Exists.intro _ (Exists.intro _ (And.intro (c_X11_setOf D v f hv hf x2 x3 (by omega) (by omega)) (And.intro rfl (fun r9 A9 h9 => ?_)))))))
    obtain ⟨y3, rfl, rfl, by3⟩ := h9
    have yp_9 := by3
    refine hC.1 2 21 _ _ rfl _ _ _ _ _ ?_
    exact ⟨rfl, fun e9 => absurd e9 (by decide), rfl, y3, rfl, rfl, by first | (exact ⟨fun _ => yp_9, fun h9 => absurd (by omega) h9⟩) | (exact ⟨fun h9 => absurd h9 (by omega), fun _ => yq_9⟩)⟩

set_option maxRecDepth 100000 in
set_option maxHeartbeats 2000000 in
theorem V_X11_asks (D : md_D h q) (v : Nat → Int32) (f : Nat → Nat → Int32) (hv : md_V v) (hf : md_F f) (x1 : Int32) (x2 : Int32) (x3 : Int32) (p0 : (v 6).toInt < 30) : pm_Mt l g 276 0 0 0 [.ref h, .int x1, .int x2, .int x3] (md A0 g h q v f) (md_Qw A0 g h q f (fun r v2 f2 => f2 0 = f 0 ∧ f2 1 = f 1 ∧ f2 12 = f 12 ∧ f2 13 = f 13 ∧ f2 14 = f 14 ∧ f2 15 = f 15 ∧ ((v2 0).toInt = (v 0).toInt ∧ (v2 1).toInt = (v 1).toInt ∧ (v2 2).toInt = (v 2).toInt ∧ (v2 3).toInt = (v 3).toInt ∧ (v2 4).toInt = (v 4).toInt ∧ (v2 5).toInt = (v 5).toInt) ∧ (QST True x1 x2 x3 (v 6) (v2 6) r (f 7) (f 8) (f 9) (f 10) (f 11) (f2 7) (f2 8) (f2 9) (f2 10) (f2 11)))) := by
  refine mt_X11_asks rfl (fun J hC => ?_)
  have hv9 := hv
  unfold md_V at hv9
  have rg_x1 := pm_rng x1
  have rg_x2 := pm_rng x2
  have rg_x3 := pm_rng x3
  refine hC.1 0 0 _ _ rfl _ _ _ _ _ ?_
  refine Exists.intro _ (And.intro md_o ?_)
  refine Exists.intro _ (And.intro md_o ?_)
  refine Exists.intro _ (Exists.intro _ (And.intro (md_a_askedOne D) (And.intro (by omega) ?_)))
  rw [md_s_askedOne D]
  obtain ⟨f1, ef1⟩ : ∃ z9, z9 = va_up f 7 (upd (f 7) ((v 6)).toInt.toNat x2) := ⟨_, rfl⟩
  rw [← ef1]
  have pf_9 : f1 7 = upd (f 7) ((v 6)).toInt.toNat x2 := by rw [ef1]; exact if_pos rfl
  have pg_9 : ∀ i9, i9 ≠ 7 → f1 i9 = f i9 := fun i9 h9 => by rw [ef1]; exact if_neg h9
  have hf1 : md_F f1 := by rw [ef1]; exact md_F_st hf 7 _ _ (md_rng _ _ (by decide))
  have hw1 : f1 2 = f 2 := (show f1 2 = f 2 by rw [ef1]; rfl).trans rfl
  have hr1_0 : f1 0 = f 0 := (show f1 0 = f 0 by rw [ef1]; rfl).trans rfl
  have hr1_1 : f1 1 = f 1 := (show f1 1 = f 1 by rw [ef1]; rfl).trans rfl
  have hr1_12 : f1 12 = f 12 := (show f1 12 = f 12 by rw [ef1]; rfl).trans rfl
  have hr1_13 : f1 13 = f 13 := (show f1 13 = f 13 by rw [ef1]; rfl).trans rfl
  have hr1_14 : f1 14 = f 14 := (show f1 14 = f 14 by rw [ef1]; rfl).trans rfl
  have hr1_15 : f1 15 = f 15 := (show f1 15 = f 15 by rw [ef1]; rfl).trans rfl
  refine Exists.intro _ (And.intro md_o ?_)
  refine Exists.intro _ (And.intro md_o ?_)
  refine Exists.intro _ (Exists.intro _ (And.intro (md_a_askedOther D) (And.intro (by omega) ?_)))
  rw [md_s_askedOther D]
  obtain ⟨f2, ef2⟩ : ∃ z9, z9 = va_up f1 8 (upd (f1 8) ((v 6)).toInt.toNat x3) := ⟨_, rfl⟩
  rw [← ef2]
  have pf_19 : f2 8 = upd (f1 8) ((v 6)).toInt.toNat x3 := by rw [ef2]; exact if_pos rfl
  have pg_19 : ∀ i9, i9 ≠ 8 → f2 i9 = f1 i9 := fun i9 h9 => by rw [ef2]; exact if_neg h9
  have hf2 : md_F f2 := by rw [ef2]; exact md_F_st hf1 8 _ _ (md_rng _ _ (by decide))
  have hw2 : f2 2 = f 2 := (show f2 2 = f1 2 by rw [ef2]; rfl).trans hw1
  have hr2_0 : f2 0 = f 0 := (show f2 0 = f1 0 by rw [ef2]; rfl).trans hr1_0
  have hr2_1 : f2 1 = f 1 := (show f2 1 = f1 1 by rw [ef2]; rfl).trans hr1_1
  have hr2_12 : f2 12 = f 12 := (show f2 12 = f1 12 by rw [ef2]; rfl).trans hr1_12
  have hr2_13 : f2 13 = f 13 := (show f2 13 = f1 13 by rw [ef2]; rfl).trans hr1_13
  have hr2_14 : f2 14 = f 14 := (show f2 14 = f1 14 by rw [ef2]; rfl).trans hr1_14
  have hr2_15 : f2 15 = f 15 := (show f2 15 = f1 15 by rw [ef2]; rfl).trans hr1_15
  refine Exists.intro _ (And.intro md_o ?_)
  refine Exists.intro _ (And.intro md_o ?_)
  refine Exists.intro _ (Exists.intro _ (And.intro (md_a_askedEdit D) (And.intro (by omega) ?_)))
  rw [md_s_askedEdit D]
  obtain ⟨f3, ef3⟩ : ∃ z9, z9 = va_up f2 11 (upd (f2 11) ((v 6)).toInt.toNat x1) := ⟨_, rfl⟩
  rw [← ef3]
  have pf_29 : f3 11 = upd (f2 11) ((v 6)).toInt.toNat x1 := by rw [ef3]; exact if_pos rfl
  have pg_29 : ∀ i9, i9 ≠ 11 → f3 i9 = f2 i9 := fun i9 h9 => by rw [ef3]; exact if_neg h9
  have hf3 : md_F f3 := by rw [ef3]; exact md_F_st hf2 11 _ _ (md_rng _ _ (by decide))
  have hw3 : f3 2 = f 2 := (show f3 2 = f2 2 by rw [ef3]; rfl).trans hw2
  have hr3_0 : f3 0 = f 0 := (show f3 0 = f2 0 by rw [ef3]; rfl).trans hr2_0
  have hr3_1 : f3 1 = f 1 := (show f3 1 = f2 1 by rw [ef3]; rfl).trans hr2_1
  have hr3_12 : f3 12 = f 12 := (show f3 12 = f2 12 by rw [ef3]; rfl).trans hr2_12
  have hr3_13 : f3 13 = f 13 := (show f3 13 = f2 13 by rw [ef3]; rfl).trans hr2_13
  have hr3_14 : f3 14 = f 14 := (show f3 14 = f2 14 by rw [ef3]; rfl).trans hr2_14
  have hr3_15 : f3 15 = f 15 := (show f3 15 = f2 15 by rw [ef3]; rfl).trans hr2_15
  refine Exists.intro _ (And.intro md_o ?_)
  refine Exists.intro _ (And.intro md_o ?_)
  have km1 : (-1 : Int32).toInt = -1 := rfl
  refine Exists.intro _ (Exists.intro _ (And.intro (md_a_answerCount D) (And.intro (by omega) ?_)))
  rw [md_s_answerCount D]
  obtain ⟨f4, ef4⟩ : ∃ z9, z9 = va_up f3 9 (upd (f3 9) ((v 6)).toInt.toNat (-1 : Int32)) := ⟨_, rfl⟩
  rw [← ef4]
  have pf_39 : f4 9 = upd (f3 9) ((v 6)).toInt.toNat (-1 : Int32) := by rw [ef4]; exact if_pos rfl
  have pg_39 : ∀ i9, i9 ≠ 9 → f4 i9 = f3 i9 := fun i9 h9 => by rw [ef4]; exact if_neg h9
  have hf4 : md_F f4 := by rw [ef4]; exact md_F_st hf3 9 _ _ (md_rng _ _ (by decide))
  have hw4 : f4 2 = f 2 := (show f4 2 = f3 2 by rw [ef4]; rfl).trans hw3
  have hr4_0 : f4 0 = f 0 := (show f4 0 = f3 0 by rw [ef4]; rfl).trans hr3_0
  have hr4_1 : f4 1 = f 1 := (show f4 1 = f3 1 by rw [ef4]; rfl).trans hr3_1
  have hr4_12 : f4 12 = f 12 := (show f4 12 = f3 12 by rw [ef4]; rfl).trans hr3_12
  have hr4_13 : f4 13 = f 13 := (show f4 13 = f3 13 by rw [ef4]; rfl).trans hr3_13
  have hr4_14 : f4 14 = f 14 := (show f4 14 = f3 14 by rw [ef4]; rfl).trans hr3_14
  have hr4_15 : f4 15 = f 15 := (show f4 15 = f3 15 by rw [ef4]; rfl).trans hr3_15
  refine Exists.intro _ (And.intro md_o ?_)
  refine Exists.intro _ (And.intro md_o ?_)
  refine Exists.intro _ (Exists.intro _ (And.intro (md_a_answerWeight D) (And.intro (by omega) ?_)))
  rw [md_s_answerWeight D]
  obtain ⟨f5, ef5⟩ : ∃ z9, z9 = va_up f4 10 (upd (f4 10) ((v 6)).toInt.toNat (-1 : Int32)) := ⟨_, rfl⟩
  rw [← ef5]
  have pf_49 : f5 10 = upd (f4 10) ((v 6)).toInt.toNat (-1 : Int32) := by rw [ef5]; exact if_pos rfl
  have pg_49 : ∀ i9, i9 ≠ 10 → f5 i9 = f4 i9 := fun i9 h9 => by rw [ef5]; exact if_neg h9
  have hf5 : md_F f5 := by rw [ef5]; exact md_F_st hf4 10 _ _ (md_rng _ _ (by decide))
  have hw5 : f5 2 = f 2 := (show f5 2 = f4 2 by rw [ef5]; rfl).trans hw4
  have hr5_0 : f5 0 = f 0 := (show f5 0 = f4 0 by rw [ef5]; rfl).trans hr4_0
  have hr5_1 : f5 1 = f 1 := (show f5 1 = f4 1 by rw [ef5]; rfl).trans hr4_1
  have hr5_12 : f5 12 = f 12 := (show f5 12 = f4 12 by rw [ef5]; rfl).trans hr4_12
  have hr5_13 : f5 13 = f 13 := (show f5 13 = f4 13 by rw [ef5]; rfl).trans hr4_13
  have hr5_14 : f5 14 = f 14 := (show f5 14 = f4 14 by rw [ef5]; rfl).trans hr4_14
  have hr5_15 : f5 15 = f 15 := (show f5 15 = f4 15 by rw [ef5]; rfl).trans hr4_15
  refine Exists.intro _ (And.intro md_o ?_)
  have k1 : (1 : Int32).toInt = 1 := rfl
  intro m6 em_56
  try have e6 : m6.toInt = ((v 6)).toInt + (1) := by rw [em_56]; exact pm_addc _ _ (1) rfl (by omega) (by omega)
  refine Exists.intro _ (And.intro md_o (And.intro rfl ?_))
  rw [md_p_askedMany D]
  obtain ⟨v7, ev7⟩ : ∃ z9, z9 = upd v 6 m6 := ⟨_, rfl⟩
  rw [← ev7]
  have ev7_0 : (v7 0).toInt = (v 0).toInt := by rw [ev7]; rfl
  have ev7_1 : (v7 1).toInt = (v 1).toInt := by rw [ev7]; rfl
  have ev7_2 : (v7 2).toInt = (v 2).toInt := by rw [ev7]; rfl
  have ev7_3 : (v7 3).toInt = (v 3).toInt := by rw [ev7]; rfl
  have ev7_4 : (v7 4).toInt = (v 4).toInt := by rw [ev7]; rfl
  have ev7_5 : (v7 5).toInt = (v 5).toInt := by rw [ev7]; rfl
  have ev7_6 : (v7 6).toInt = (m6).toInt := by rw [ev7]; rfl
  have ev7_7 : (v7 7).toInt = (v 7).toInt := by rw [ev7]; rfl
  have pn_57 : v7 6 = m6 := by rw [ev7]; rfl
  refine Exists.intro _ (And.intro md_o ?_)
  intro m8 em_65
  try have e8 : m8.toInt = ((v7 6)).toInt - (1) := by rw [em_65]; exact pm_subc _ _ (1) rfl (by omega) (by omega)
  have hv9 : md_V v7 := by unfold md_V; omega
  exact ⟨rfl, fun e9 => absurd e9 (by decide), rfl, m8, v7, f5, rfl, rfl, hv9, hf5, hw5, hr5_0, hr5_1, hr5_12, hr5_13, hr5_14, hr5_15, by first | omega | (dsimp only; omega) | trivial, by refine Or.inr ⟨trivial, pn_57.trans em_56, pm_eqI (by omega), ?_, ?_, ?_, ?_, ?_⟩; (rw [pg_49 7 (by decide), pg_39 7 (by decide), pg_29 7 (by decide), pg_19 7 (by decide), pf_9]); (rw [pg_49 8 (by decide), pg_39 8 (by decide), pg_29 8 (by decide), pf_19, pg_9 8 (by decide)]); (rw [pg_49 9 (by decide), pf_39, pg_29 9 (by decide), pg_19 9 (by decide), pg_9 9 (by decide)]); (rw [pf_49, pg_39 10 (by decide), pg_29 10 (by decide), pg_19 10 (by decide), pg_9 10 (by decide)]); (rw [pg_49 11 (by decide), pg_39 11 (by decide), pf_29, pg_19 11 (by decide), pg_9 11 (by decide)])⟩

set_option maxRecDepth 100000 in
set_option maxHeartbeats 2000000 in
theorem V_X11_ask (D : md_D h q) (v : Nat → Int32) (f : Nat → Nat → Int32) (hv : md_V v) (hf : md_F f) (x1 : Int32) (x2 : Int32)  : pm_Mt l g 275 2 0 0 [.ref h, .int x1, .int x2] (md A0 g h q v f) (md_Qw A0 g h q f (fun r v2 f2 => f2 0 = f 0 ∧ f2 1 = f 1 ∧ f2 12 = f 12 ∧ f2 13 = f 13 ∧ f2 14 = f 14 ∧ f2 15 = f 15 ∧ ((v2 0).toInt = (v 0).toInt ∧ (v2 1).toInt = (v 1).toInt ∧ (v2 2).toInt = (v 2).toInt ∧ (v2 3).toInt = (v 3).toInt ∧ (v2 4).toInt = (v 4).toInt ∧ (v2 5).toInt = (v 5).toInt) ∧ (QST ((v 6).toInt < 30 ∧ (0 ≤ x1.toInt ∧ 0 ≤ nextEq (f 1) x1 0 (v 0).toInt.toNat) ∧ (0 ≤ x2.toInt ∧ 0 ≤ nextEq (f 1) x2 0 (v 0).toInt.toNat)) (-1) x1 x2 (v 6) (v2 6) r (f 7) (f 8) (f 9) (f 10) (f 11) (f2 7) (f2 8) (f2 9) (f2 10) (f2 11)))) := by
  refine mt_X11_ask rfl (fun J hC => ?_)
  have hv9 := hv
  unfold md_V at hv9
  have rg_x1 := pm_rng x1
  have rg_x2 := pm_rng x2
  refine hC.1 0 0 _ _ rfl _ _ _ _ _ ?_
  refine Exists.intro _ (And.intro md_o ?_)
  have k30 : (30 : Int32).toInt = 30 := rfl
  refine And.intro (fun c1 => ?_) (fun c1 => ?_)
  · skip
    refine hC.1 1 35 _ _ rfl _ _ _ _ _ ?_
    have km1 : (-1 : Int32).toInt = -1 := rfl
    refine hC.1 2 36 _ _ rfl _ _ _ _ _ ?_
    exact ⟨rfl, fun e9 => absurd e9 (by decide), rfl, (-1 : Int32), v, f, rfl, rfl, hv, hf, rfl, rfl, rfl, rfl, rfl, rfl, rfl, by first | omega | (dsimp only; omega) | trivial, by first | (exact QST_i yf_9 ⟨fun _ => (by omega), fun _ => trivial⟩) | (exact Or.inl ⟨fun h9 => (by omega), rfl, rfl, rfl, rfl, rfl, rfl, rfl⟩)⟩
  · skip
    refine And.intro (Exists.intro _ md_o) (Exists.intro _ (Exists.intro _ (Exists.intro _ (Exists.intro _ (And.intro (F_X11_place D v f hv hf x1 ) (And.intro rfl (fun r9 A9 h9 => ?_)))))))
    obtain ⟨y2, rfl, rfl, by2⟩ := h9
    have ya_9 := PLN (by omega) by2.2
    refine And.intro (fun c3 => ?_) (fun c3 => ?_)
    · skip
      refine hC.1 1 35 _ _ rfl _ _ _ _ _ ?_
      have km1 : (-1 : Int32).toInt = -1 := rfl
      refine hC.1 2 36 _ _ rfl _ _ _ _ _ ?_
      exact ⟨rfl, fun e9 => absurd e9 (by decide), rfl, (-1 : Int32), v, f, rfl, rfl, hv, hf, rfl, rfl, rfl, rfl, rfl, rfl, rfl, by first | omega | (dsimp only; omega) | trivial, by first | (exact QST_i yf_9 ⟨fun _ => (by omega), fun _ => trivial⟩) | (exact Or.inl ⟨fun h9 => (by omega), rfl, rfl, rfl, rfl, rfl, rfl, rfl⟩)⟩
    · skip
      refine And.intro (Exists.intro _ md_o) (Exists.intro _ (Exists.intro _ (Exists.intro _ (Exists.intro _ (And.intro (F_X11_place D v f hv hf x2 ) (And.intro rfl (fun r9 A9 h9 => ?_)))))))
      obtain ⟨y4, rfl, rfl, by4⟩ := h9
      have yb_9 := PLN (by omega) by4.2
      refine And.intro (fun c5 => ?_) (fun c5 => ?_)
      · skip
        refine hC.1 1 35 _ _ rfl _ _ _ _ _ ?_
        have km1 : (-1 : Int32).toInt = -1 := rfl
        refine hC.1 2 36 _ _ rfl _ _ _ _ _ ?_
        exact ⟨rfl, fun e9 => absurd e9 (by decide), rfl, (-1 : Int32), v, f, rfl, rfl, hv, hf, rfl, rfl, rfl, rfl, rfl, rfl, rfl, by first | omega | (dsimp only; omega) | trivial, by first | (exact QST_i yf_9 ⟨fun _ => (by omega), fun _ => trivial⟩) | (exact Or.inl ⟨fun h9 => (by omega), rfl, rfl, rfl, rfl, rfl, rfl, rfl⟩)⟩
      · skip
        have km1 : (-1 : Int32).toInt = -1 := rfl
        refine And.intro (Exists.intro _ md_o) (Exists.intro _ (Exists.intro _ (Exists.intro _ (Exists.intro _ (And.intro (V_X11_asks D v f hv hf (-1 : Int32) x1 x2 (by omega)) (And.intro rfl (fun r9 A9 h9 => ?_)))))))
        obtain ⟨y6, v7, f7, rfl, rfl, hv7, hf7, hx7, hg7_0, hg7_1, hg7_12, hg7_13, hg7_14, hg7_15, by6⟩ := h9
        have hw7 : f7 2 = f 2 := hx7.trans rfl
        have hr7_0 : f7 0 = f 0 := hg7_0.trans rfl
        have hr7_1 : f7 1 = f 1 := hg7_1.trans rfl
        have hr7_12 : f7 12 = f 12 := hg7_12.trans rfl
        have hr7_13 : f7 13 = f 13 := hg7_13.trans rfl
        have hr7_14 : f7 14 = f 14 := hg7_14.trans rfl
        have hr7_15 : f7 15 = f 15 := hg7_15.trans rfl
        have hu8 := hv7
        unfold md_V at hu8
        have yf_9 := by6.2
        refine hC.1 2 36 _ _ rfl _ _ _ _ _ ?_
        exact ⟨rfl, fun e9 => absurd e9 (by decide), rfl, y6, v7, f7, rfl, rfl, hv7, hf7, hw7, hr7_0, hr7_1, hr7_12, hr7_13, hr7_14, hr7_15, by first | omega | (dsimp only; omega) | trivial, by first | (exact QST_i yf_9 ⟨fun _ => (by omega), fun _ => trivial⟩) | (exact Or.inl ⟨fun h9 => (by omega), rfl, rfl, rfl, rfl, rfl, rfl, rfl⟩)⟩

set_option maxRecDepth 100000 in
set_option maxHeartbeats 2000000 in
theorem V_X11_askOf (D : md_D h q) (v : Nat → Int32) (f : Nat → Nat → Int32) (hv : md_V v) (hf : md_F f) (x1 : Int32) (x2 : Int32) (x3 : Int32)  : pm_Mt l g 277 2 0 0 [.ref h, .int x1, .int x2, .int x3] (md A0 g h q v f) (md_Qw A0 g h q f (fun r v2 f2 => f2 0 = f 0 ∧ f2 1 = f 1 ∧ f2 12 = f 12 ∧ f2 13 = f 13 ∧ f2 14 = f 14 ∧ f2 15 = f 15 ∧ ((v2 0).toInt = (v 0).toInt ∧ (v2 1).toInt = (v 1).toInt ∧ (v2 2).toInt = (v 2).toInt ∧ (v2 3).toInt = (v 3).toInt ∧ (v2 4).toInt = (v 4).toInt ∧ (v2 5).toInt = (v 5).toInt) ∧ (QST ((v 6).toInt < 30 ∧ kno (v 4).toInt x1.toInt ∧ (0 ≤ x2.toInt ∧ 0 ≤ nextEq (rM f x1.toInt) x2 0 (rN f x1.toInt).toInt.toNat) ∧ (0 ≤ x3.toInt ∧ 0 ≤ nextEq (rM f x1.toInt) x3 0 (rN f x1.toInt).toInt.toNat)) x1 x2 x3 (v 6) (v2 6) r (f 7) (f 8) (f 9) (f 10) (f 11) (f2 7) (f2 8) (f2 9) (f2 10) (f2 11)))) := by
  refine mt_X11_askOf rfl (fun J hC => ?_)
  have hv9 := hv
  unfold md_V at hv9
  have rg_x1 := pm_rng x1
  have rg_x2 := pm_rng x2
  have rg_x3 := pm_rng x3
  have rb9 : 0 ≤ (rN f x1.toInt).toInt ∧ (rN f x1.toInt).toInt ≤ 160 := hf 14 _
  refine hC.1 0 0 _ _ rfl _ _ _ _ _ ?_
  refine Exists.intro _ (And.intro md_o ?_)
  have k30 : (30 : Int32).toInt = 30 := rfl
  refine And.intro (fun c1 => ?_) (fun c1 => ?_)
  · skip
    have dc1 : ((v 6)).toInt = ((30 : Int32) : Int32).toInt := congrArg Int32.toInt c1
    refine hC.1 1 43 _ _ rfl _ _ _ _ _ ?_
    have km1 : (-1 : Int32).toInt = -1 := rfl
    exact ⟨rfl, fun e9 => absurd e9 (by decide), rfl, (-1 : Int32), v, f, rfl, rfl, hv, hf, rfl, rfl, rfl, rfl, rfl, rfl, rfl, by first | omega | (dsimp only; omega) | trivial, by first | (exact QST_i yf_9 ⟨fun _ => ⟨by omega, by unfold kno; omega, by omega, by omega⟩, fun _ => trivial⟩) | (exact Or.inl ⟨fun h9 => (by have h8 := h9.2.1; have h7 := h9.2.2; unfold kno at h8; omega), rfl, rfl, rfl, rfl, rfl, rfl, rfl⟩)⟩
  · skip
    have dc1 := pm_neI c1
    refine And.intro (Exists.intro _ md_o) (Exists.intro _ (Exists.intro _ (Exists.intro _ (Exists.intro _ (And.intro (c_X11_isKnown D v f hv hf x1 ) (And.intro rfl (fun r9 A9 h9 => ?_)))))))
    rcases h9 with ⟨y2, rfl, rfl, ⟨rfl, by2⟩ | ⟨rfl, by2⟩⟩
    · skip
      have k1 : (1 : Int32).toInt = 1 := rfl
      refine And.intro (fun c9 => absurd c9 (by decide)) (fun _ => ?_)
      refine And.intro (fun c3 => ?_) (fun c3 => ?_)
      · skip
        refine hC.1 1 43 _ _ rfl _ _ _ _ _ ?_
        have km1 : (-1 : Int32).toInt = -1 := rfl
        exact ⟨rfl, fun e9 => absurd e9 (by decide), rfl, (-1 : Int32), v, f, rfl, rfl, hv, hf, rfl, rfl, rfl, rfl, rfl, rfl, rfl, by first | omega | (dsimp only; omega) | trivial, by first | (exact QST_i yf_9 ⟨fun _ => ⟨by omega, by unfold kno; omega, by omega, by omega⟩, fun _ => trivial⟩) | (exact Or.inl ⟨fun h9 => (by have h8 := h9.2.1; have h7 := h9.2.2; unfold kno at h8; omega), rfl, rfl, rfl, rfl, rfl, rfl, rfl⟩)⟩
      · skip
        refine And.intro (fun c4 => ?_) (fun c4 => ?_)
        · skip
          refine hC.1 1 43 _ _ rfl _ _ _ _ _ ?_
          have km1 : (-1 : Int32).toInt = -1 := rfl
          exact ⟨rfl, fun e9 => absurd e9 (by decide), rfl, (-1 : Int32), v, f, rfl, rfl, hv, hf, rfl, rfl, rfl, rfl, rfl, rfl, rfl, by first | omega | (dsimp only; omega) | trivial, by first | (exact QST_i yf_9 ⟨fun _ => ⟨by omega, by unfold kno; omega, by omega, by omega⟩, fun _ => trivial⟩) | (exact Or.inl ⟨fun h9 => (by have h8 := h9.2.1; have h7 := h9.2.2; unfold kno at h8; omega), rfl, rfl, rfl, rfl, rfl, rfl, rfl⟩)⟩
        · skip
          refine And.intro (Exists.intro _ md_o) (Exists.intro _ (Exists.intro _ (Exists.intro _ (Exists.intro _ (And.intro (F_X11_wasPlace D v f hv hf x1 x2 (by omega)) (And.intro rfl (fun r9 A9 h9 => ?_)))))))
          obtain ⟨y5, rfl, rfl, by5⟩ := h9
          have ya_9 := by5.2
          refine And.intro (fun c6 => ?_) (fun c6 => ?_)
          · skip
            refine hC.1 1 43 _ _ rfl _ _ _ _ _ ?_
            have km1 : (-1 : Int32).toInt = -1 := rfl
            exact ⟨rfl, fun e9 => absurd e9 (by decide), rfl, (-1 : Int32), v, f, rfl, rfl, hv, hf, rfl, rfl, rfl, rfl, rfl, rfl, rfl, by first | omega | (dsimp only; omega) | trivial, by first | (exact QST_i yf_9 ⟨fun _ => ⟨by omega, by unfold kno; omega, by omega, by omega⟩, fun _ => trivial⟩) | (exact Or.inl ⟨fun h9 => (by have h8 := h9.2.1; have h7 := h9.2.2; unfold kno at h8; omega), rfl, rfl, rfl, rfl, rfl, rfl, rfl⟩)⟩
          · skip
            refine And.intro (Exists.intro _ md_o) (Exists.intro _ (Exists.intro _ (Exists.intro _ (Exists.intro _ (And.intro (F_X11_wasPlace D v f hv hf x1 x3 (by omega)) (And.intro rfl (fun r9 A9 h9 => ?_)))))))
            obtain ⟨y7, rfl, rfl, by7⟩ := h9
            have yb_9 := by7.2
            refine And.intro (fun c8 => ?_) (fun c8 => ?_)
            · skip
              refine hC.1 2 45 _ _ rfl _ _ _ _ _ ?_
              refine And.intro (Exists.intro _ md_o) (Exists.intro _ (Exists.intro _ (Exists.intro _ (Exists.intro _ (And.intro (V_X11_asks D v f hv hf x1 x2 x3 (by omega)) (And.intro rfl (fun r9 A9 h9 => ?_)))))))
              obtain ⟨y9, v10, f10, rfl, rfl, hv10, hf10, hx10, hg10_0, hg10_1, hg10_12, hg10_13, hg10_14, hg10_15, by9⟩ := h9
              have hw10 : f10 2 = f 2 := hx10.trans rfl
              have hr10_0 : f10 0 = f 0 := hg10_0.trans rfl
              have hr10_1 : f10 1 = f 1 := hg10_1.trans rfl
              have hr10_12 : f10 12 = f 12 := hg10_12.trans rfl
              have hr10_13 : f10 13 = f 13 := hg10_13.trans rfl
              have hr10_14 : f10 14 = f 14 := hg10_14.trans rfl
              have hr10_15 : f10 15 = f 15 := hg10_15.trans rfl
              have hu11 := hv10
              unfold md_V at hu11
              have yf_9 := by9.2
              exact ⟨rfl, fun e9 => absurd e9 (by decide), rfl, y9, v10, f10, rfl, rfl, hv10, hf10, hw10, hr10_0, hr10_1, hr10_12, hr10_13, hr10_14, hr10_15, by first | omega | (dsimp only; omega) | trivial, by first | (exact QST_i yf_9 ⟨fun _ => ⟨by omega, by unfold kno; omega, by omega, by omega⟩, fun _ => trivial⟩) | (exact Or.inl ⟨fun h9 => (by have h8 := h9.2.1; have h7 := h9.2.2; unfold kno at h8; omega), rfl, rfl, rfl, rfl, rfl, rfl, rfl⟩)⟩
            · skip
              refine hC.1 1 43 _ _ rfl _ _ _ _ _ ?_
              have km1 : (-1 : Int32).toInt = -1 := rfl
              exact ⟨rfl, fun e9 => absurd e9 (by decide), rfl, (-1 : Int32), v, f, rfl, rfl, hv, hf, rfl, rfl, rfl, rfl, rfl, rfl, rfl, by first | omega | (dsimp only; omega) | trivial, by first | (exact QST_i yf_9 ⟨fun _ => ⟨by omega, by unfold kno; omega, by omega, by omega⟩, fun _ => trivial⟩) | (exact Or.inl ⟨fun h9 => (by have h8 := h9.2.1; have h7 := h9.2.2; unfold kno at h8; omega), rfl, rfl, rfl, rfl, rfl, rfl, rfl⟩)⟩
    · skip
      have k0 : (0 : Int32).toInt = 0 := rfl
      refine And.intro (fun _ => ?_) (fun c9 => absurd c9 (by decide))
      refine hC.1 1 43 _ _ rfl _ _ _ _ _ ?_
      have km1 : (-1 : Int32).toInt = -1 := rfl
      exact ⟨rfl, fun e9 => absurd e9 (by decide), rfl, (-1 : Int32), v, f, rfl, rfl, hv, hf, rfl, rfl, rfl, rfl, rfl, rfl, rfl, by first | omega | (dsimp only; omega) | trivial, by first | (exact QST_i yf_9 ⟨fun _ => ⟨by omega, by unfold kno; omega, by omega, by omega⟩, fun _ => trivial⟩) | (exact Or.inl ⟨fun h9 => (by have h8 := h9.2.1; have h7 := h9.2.2; unfold kno at h8; omega), rfl, rfl, rfl, rfl, rfl, rfl, rfl⟩)⟩

end

end
section
section
variable {l : Launch} {g : pm_G} {A0 : pm_H} {h : Nat} {q : Nat → Nat}
set_option maxRecDepth 100000 in
set_option maxHeartbeats 2000000 in
theorem V_X11_solve (D : md_D h q) (v : Nat → Int32) (f : Nat → Nat → Int32) (hv : md_V v) (hf : md_F f)  : pm_Mt l g 278 3 0 0 [.ref h] (md A0 g h q v f) (md_Qw A0 g h q f (fun r v2 f2 => f2 0 = f 0 ∧ f2 1 = f 1 ∧ f2 12 = f 12 ∧ f2 13 = f 13 ∧ f2 14 = f 14 ∧ f2 15 = f 15 ∧ f2 7 = f 7 ∧ f2 8 = f 8 ∧ f2 11 = f 11 ∧ ((v2 0).toInt = (v 0).toInt ∧ (v2 1).toInt = (v 1).toInt ∧ (v2 2).toInt = (v 2).toInt ∧ (v2 3).toInt = (v 3).toInt ∧ (v2 4).toInt = (v 4).toInt ∧ (v2 5).toInt = (v 5).toInt ∧ (v2 6).toInt = (v 6).toInt) ∧ ((∀ j9 : Nat, (j9 : Int) < (v 6).toInt → AKI (f 0) (f 1) (f 2) (v 0).toInt (v 4).toInt (rNi f) (rC f) (rM f) (f 11 j9) (f 7 j9) (f 8 j9) (f2 9 j9) (f2 10 j9)) ∧ r.toInt = cnA (f2 9) (v 6).toInt.toNat))) := by
  refine mt_X11_solve rfl (fun J hC => ?_)
  have hv9 := hv
  unfold md_V at hv9
  refine hC.1 0 0 _ _ rfl _ _ _ _ _ ?_
  have k0 : (0 : Int32).toInt = 0 := rfl
  have lp2 : ∀ (n : Nat) (z1_4 : Int32) (z2_4 : Int32) (v1 : Nat → Int32) (f1 : Nat → Nat → Int32), md_V v1 → md_F f1 → f1 2 = f 2 → f1 0 = f 0 → f1 1 = f 1 → f1 12 = f 12 → f1 13 = f 13 → f1 14 = f 14 → f1 15 = f 15 → f1 7 = f 7 → f1 8 = f 8 → f1 11 = f 11 → (0 ≤ z2_4.toInt ∧ z2_4.toInt ≤ (v 6).toInt) → (z1_4.toInt = cnA (f1 9) z2_4.toInt.toNat) → (∀ j9 : Nat, (j9 : Int) < z2_4.toInt → AKI (f 0) (f 1) (f 2) (v 0).toInt (v 4).toInt (rNi f) (rC f) (rM f) (f 11 j9) (f 7 j9) (f 8 j9) (f1 9 j9) (f1 10 j9)) → (v1 0).toInt = (v 0).toInt → (v1 1).toInt = (v 1).toInt → (v1 2).toInt = (v 2).toInt → (v1 3).toInt = (v 3).toInt → (v1 4).toInt = (v 4).toInt → (v1 5).toInt = (v 5).toInt → (v1 6).toInt = (v 6).toInt → 200 - z2_4.toInt < (n : Int) → J 4 [some (.ref h), some (.int z1_4), some (.int z2_4), none, none, none, none] [] (md A0 g h q v1 f1) 0 0 := by
    intro n
    induction n with
    | zero =>
      intro z1_4 z2_4 v1 f1 hv1 hf1 hw1 hr1_0 hr1_1 hr1_12 hr1_13 hr1_14 hr1_15 hr1_7 hr1_8 hr1_11 j0_4 j1_4 j2_4 j3_4 j4_4 j5_4 j6_4 j7_4 j8_4 j9_4 j10_4
      omega
    | succ n ih3 =>
      intro z1_4 z2_4 v1 f1 hv1 hf1 hw1 hr1_0 hr1_1 hr1_12 hr1_13 hr1_14 hr1_15 hr1_7 hr1_8 hr1_11 j0_4 j1_4 j2_4 j3_4 j4_4 j5_4 j6_4 j7_4 j8_4 j9_4 j10_4
      have yn_9 := cnA_r (f1 9) z2_4.toInt.toNat
      have l0_9 := hr1_0
      have l1_9 := hr1_1
      have l7_9 := hr1_7
      have l8_9 := hr1_8
      have l11_9 := hr1_11
      have l12_9 := hr1_12
      have l13_9 := hr1_13
      have l14_9 := hr1_14
      have lf_9 := hf1
      have lN_9 : rNi f1 = rNi f := (by unfold rNi rN; rw [l14_9])
      have lC_9 : rC f1 = rC f := (by unfold rC; rw [l12_9])
      have lM_9 : rM f1 = rM f := (by unfold rM; rw [l13_9])
      have lv0_9 : (v1 0).toInt = (v 0).toInt := (by omega)
      have lv4_9 : (v1 4).toInt = (v 4).toInt := (by omega)
      refine hC.1 1 4 _ _ rfl _ _ _ _ _ ?_
      have hu4 := hv1
      unfold md_V at hu4
      refine Exists.intro _ (And.intro md_o ?_)
      refine And.intro (fun c5 => ?_) (fun c5 => ?_)
      · skip
        refine hC.1 13 169 _ _ rfl _ _ _ _ _ ?_
        exact ⟨rfl, fun e9 => absurd e9 (by decide), rfl, z1_4, v1, f1, rfl, rfl, hv1, hf1, hw1, hr1_0, hr1_1, hr1_12, hr1_13, hr1_14, hr1_15, hr1_7, hr1_8, hr1_11, by first | omega | (dsimp only; omega) | trivial, by refine ⟨fun j9 h9 => j2_4 j9 (by omega), ?_⟩; refine Eq.trans j1_4 ?_; rw [show z2_4.toInt.toNat = (v 6).toInt.toNat by omega]⟩
      · skip
        refine Exists.intro _ (And.intro md_o ?_)
        refine Exists.intro _ (Exists.intro _ (And.intro (Or.inl (md_a_askedEdit D)) (And.intro (by omega) ?_)))
        refine Exists.intro _ (And.intro md_o ?_)
        refine Exists.intro _ (Exists.intro _ (And.intro (Or.inl (md_a_askedOne D)) (And.intro (by omega) ?_)))
        refine And.intro (Exists.intro _ md_o) (Exists.intro _ (Exists.intro _ (Exists.intro _ (Exists.intro _ (And.intro (V_X11_placeBy D v1 f1 hv1 hf1 (f1 11 (z2_4).toInt.toNat) (f1 7 (z2_4).toInt.toNat) ) (And.intro rfl (fun r9 A9 h9 => ?_)))))))
        obtain ⟨y6, rfl, rfl, by6⟩ := h9
        have yp_9 := by6.2
        rw [lv0_9, lv4_9, l1_9, lN_9, lM_9, l7_9, l11_9] at yp_9
        have yp_8 := by6.1
        refine Exists.intro _ (And.intro md_o ?_)
        refine Exists.intro _ (Exists.intro _ (And.intro (Or.inl (md_a_askedEdit D)) (And.intro (by omega) ?_)))
        refine Exists.intro _ (And.intro md_o ?_)
        refine Exists.intro _ (Exists.intro _ (And.intro (Or.inl (md_a_askedOther D)) (And.intro (by omega) ?_)))
        refine And.intro (Exists.intro _ md_o) (Exists.intro _ (Exists.intro _ (Exists.intro _ (Exists.intro _ (And.intro (V_X11_placeBy D v1 f1 hv1 hf1 (f1 11 (z2_4).toInt.toNat) (f1 8 (z2_4).toInt.toNat) ) (And.intro rfl (fun r9 A9 h9 => ?_)))))))
        obtain ⟨y7, rfl, rfl, by7⟩ := h9
        have yq_9 := by7.2
        rw [lv0_9, lv4_9, l1_9, lN_9, lM_9, l8_9, l11_9] at yq_9
        have yq_8 := by7.1
        refine And.intro (fun c8 => ?_) (fun c8 => ?_)
        · skip
          refine hC.1 2 60 _ _ rfl _ _ _ _ _ ?_
          refine hC.1 3 61 _ _ rfl _ _ _ _ _ ?_
          refine And.intro (fun c9 => absurd c9 (by decide)) (fun _ => ?_)
          refine hC.1 6 107 _ _ rfl _ _ _ _ _ ?_
          refine Exists.intro _ (And.intro md_o ?_)
          refine And.intro (fun _ => ?_) (fun c9 => absurd c9 (by decide))
          refine hC.1 7 127 _ _ rfl _ _ _ _ _ ?_
          have km1 : (-1 : Int32).toInt = -1 := rfl
          refine hC.1 8 128 _ _ rfl _ _ _ _ _ ?_
          refine Exists.intro _ (Exists.intro _ (And.intro (md_a_answerCount D) (And.intro (by omega) ?_)))
          rw [md_s_answerCount D]
          obtain ⟨f9, ef9⟩ : ∃ z9, z9 = va_up f1 9 (upd (f1 9) (z2_4).toInt.toNat (-1 : Int32)) := ⟨_, rfl⟩
          rw [← ef9]
          have pf_128 : f9 9 = upd (f1 9) (z2_4).toInt.toNat (-1 : Int32) := by rw [ef9]; exact if_pos rfl
          have pg_128 : ∀ i9, i9 ≠ 9 → f9 i9 = f1 i9 := fun i9 h9 => by rw [ef9]; exact if_neg h9
          have hf9 : md_F f9 := by rw [ef9]; exact md_F_st hf1 9 _ _ (md_rng _ _ (by decide))
          have hw9 : f9 2 = f 2 := (show f9 2 = f1 2 by rw [ef9]; rfl).trans hw1
          have hr9_0 : f9 0 = f 0 := (show f9 0 = f1 0 by rw [ef9]; rfl).trans hr1_0
          have hr9_1 : f9 1 = f 1 := (show f9 1 = f1 1 by rw [ef9]; rfl).trans hr1_1
          have hr9_12 : f9 12 = f 12 := (show f9 12 = f1 12 by rw [ef9]; rfl).trans hr1_12
          have hr9_13 : f9 13 = f 13 := (show f9 13 = f1 13 by rw [ef9]; rfl).trans hr1_13
          have hr9_14 : f9 14 = f 14 := (show f9 14 = f1 14 by rw [ef9]; rfl).trans hr1_14
          have hr9_15 : f9 15 = f 15 := (show f9 15 = f1 15 by rw [ef9]; rfl).trans hr1_15
          have hr9_7 : f9 7 = f 7 := (show f9 7 = f1 7 by rw [ef9]; rfl).trans hr1_7
          have hr9_8 : f9 8 = f 8 := (show f9 8 = f1 8 by rw [ef9]; rfl).trans hr1_8
          have hr9_11 : f9 11 = f 11 := (show f9 11 = f1 11 by rw [ef9]; rfl).trans hr1_11
          refine Exists.intro _ (And.intro md_o ?_)
          refine And.intro (fun _ => ?_) (fun c9 => absurd c9 (by decide))
          refine hC.1 9 148 _ _ rfl _ _ _ _ _ ?_
          refine hC.1 10 149 _ _ rfl _ _ _ _ _ ?_
          refine Exists.intro _ (Exists.intro _ (And.intro (md_a_answerWeight D) (And.intro (by omega) ?_)))
          rw [md_s_answerWeight D]
          obtain ⟨f10, ef10⟩ : ∃ z9, z9 = va_up f9 10 (upd (f9 10) (z2_4).toInt.toNat (-1 : Int32)) := ⟨_, rfl⟩
          rw [← ef10]
          have pf_149 : f10 10 = upd (f9 10) (z2_4).toInt.toNat (-1 : Int32) := by rw [ef10]; exact if_pos rfl
          have pg_149 : ∀ i9, i9 ≠ 10 → f10 i9 = f9 i9 := fun i9 h9 => by rw [ef10]; exact if_neg h9
          have hf10 : md_F f10 := by rw [ef10]; exact md_F_st hf9 10 _ _ (md_rng _ _ (by decide))
          have hw10 : f10 2 = f 2 := (show f10 2 = f9 2 by rw [ef10]; rfl).trans hw9
          have hr10_0 : f10 0 = f 0 := (show f10 0 = f9 0 by rw [ef10]; rfl).trans hr9_0
          have hr10_1 : f10 1 = f 1 := (show f10 1 = f9 1 by rw [ef10]; rfl).trans hr9_1
          have hr10_12 : f10 12 = f 12 := (show f10 12 = f9 12 by rw [ef10]; rfl).trans hr9_12
          have hr10_13 : f10 13 = f 13 := (show f10 13 = f9 13 by rw [ef10]; rfl).trans hr9_13
          have hr10_14 : f10 14 = f 14 := (show f10 14 = f9 14 by rw [ef10]; rfl).trans hr9_14
          have hr10_15 : f10 15 = f 15 := (show f10 15 = f9 15 by rw [ef10]; rfl).trans hr9_15
          have hr10_7 : f10 7 = f 7 := (show f10 7 = f9 7 by rw [ef10]; rfl).trans hr9_7
          have hr10_8 : f10 8 = f 8 := (show f10 8 = f9 8 by rw [ef10]; rfl).trans hr9_8
          have hr10_11 : f10 11 = f 11 := (show f10 11 = f9 11 by rw [ef10]; rfl).trans hr9_11
          refine And.intro (fun _ => ?_) (fun c9 => absurd c9 (by decide))
          refine hC.1 11 160 _ _ rfl _ _ _ _ _ ?_
          refine hC.1 12 161 _ _ rfl _ _ _ _ _ ?_
          intro m11 em_161
          try have e11 : m11.toInt = (z1_4).toInt + (0) := by rw [em_161]; exact pm_addc _ _ (0) rfl (by omega) (by omega)
          have k1 : (1 : Int32).toInt = 1 := rfl
          intro m12 em_163
          try have e12 : m12.toInt = (z2_4).toInt + (1) := by rw [em_163]; exact pm_addc _ _ (1) rfl (by omega) (by omega)
          exact hC.2 [false, false, false, true, true, true, true] _ _ _ _ _ _ (ih3 m11 m12 v1 f10 hv1 hf10 hw10 hr10_0 hr10_1 hr10_12 hr10_13 hr10_14 hr10_15 hr10_7 hr10_8 hr10_11 (by omega) (by rw [show m12.toInt.toNat = z2_4.toInt.toNat + 1 by omega]; first | (rw [cnA_0 ((pg_149 9 (by decide)).trans pf_128) rfl]; omega) | (rw [cnA_1 ((pg_149 9 (by decide)).trans pf_128) (m1_ne (by omega))]; omega)) (by intro j9 h9; by_cases h8 : j9 = z2_4.toInt.toNat; (subst h8; rw [pg_149 9 (by decide), pf_128, pf_149, pg_128 10 (by decide), pk_us, pk_us]; first | (exact AKI_no yp_9 yq_9 (by omega) rfl rfl) | (exact AKI_yes yp_9 yq_9 (by omega) (by omega) ys_9 yc_7 yw_9)); (rw [pg_149 9 (by decide), pf_128, pf_149, pg_128 10 (by decide), pk_un h8, pk_un h8]; exact j2_4 j9 (by omega))) (by omega) (by omega) (by omega) (by omega) (by omega) (by omega) (by omega) (by omega))
        · skip
          refine And.intro (fun c13 => ?_) (fun c13 => ?_)
          · skip
            refine hC.1 2 60 _ _ rfl _ _ _ _ _ ?_
            refine hC.1 3 61 _ _ rfl _ _ _ _ _ ?_
            refine And.intro (fun c9 => absurd c9 (by decide)) (fun _ => ?_)
            refine hC.1 6 107 _ _ rfl _ _ _ _ _ ?_
            refine Exists.intro _ (And.intro md_o ?_)
            refine And.intro (fun _ => ?_) (fun c9 => absurd c9 (by decide))
            refine hC.1 7 127 _ _ rfl _ _ _ _ _ ?_
            have km1 : (-1 : Int32).toInt = -1 := rfl
            refine hC.1 8 128 _ _ rfl _ _ _ _ _ ?_
            refine Exists.intro _ (Exists.intro _ (And.intro (md_a_answerCount D) (And.intro (by omega) ?_)))
            rw [md_s_answerCount D]
            obtain ⟨f14, ef14⟩ : ∃ z9, z9 = va_up f1 9 (upd (f1 9) (z2_4).toInt.toNat (-1 : Int32)) := ⟨_, rfl⟩
            rw [← ef14]
            have pf_128 : f14 9 = upd (f1 9) (z2_4).toInt.toNat (-1 : Int32) := by rw [ef14]; exact if_pos rfl
            have pg_128 : ∀ i9, i9 ≠ 9 → f14 i9 = f1 i9 := fun i9 h9 => by rw [ef14]; exact if_neg h9
            have hf14 : md_F f14 := by rw [ef14]; exact md_F_st hf1 9 _ _ (md_rng _ _ (by decide))
            have hw14 : f14 2 = f 2 := (show f14 2 = f1 2 by rw [ef14]; rfl).trans hw1
            have hr14_0 : f14 0 = f 0 := (show f14 0 = f1 0 by rw [ef14]; rfl).trans hr1_0
            have hr14_1 : f14 1 = f 1 := (show f14 1 = f1 1 by rw [ef14]; rfl).trans hr1_1
            have hr14_12 : f14 12 = f 12 := (show f14 12 = f1 12 by rw [ef14]; rfl).trans hr1_12
            have hr14_13 : f14 13 = f 13 := (show f14 13 = f1 13 by rw [ef14]; rfl).trans hr1_13
            have hr14_14 : f14 14 = f 14 := (show f14 14 = f1 14 by rw [ef14]; rfl).trans hr1_14
            have hr14_15 : f14 15 = f 15 := (show f14 15 = f1 15 by rw [ef14]; rfl).trans hr1_15
            have hr14_7 : f14 7 = f 7 := (show f14 7 = f1 7 by rw [ef14]; rfl).trans hr1_7
            have hr14_8 : f14 8 = f 8 := (show f14 8 = f1 8 by rw [ef14]; rfl).trans hr1_8
            have hr14_11 : f14 11 = f 11 := (show f14 11 = f1 11 by rw [ef14]; rfl).trans hr1_11
            refine Exists.intro _ (And.intro md_o ?_)
            refine And.intro (fun _ => ?_) (fun c9 => absurd c9 (by decide))
            refine hC.1 9 148 _ _ rfl _ _ _ _ _ ?_
            refine hC.1 10 149 _ _ rfl _ _ _ _ _ ?_
            refine Exists.intro _ (Exists.intro _ (And.intro (md_a_answerWeight D) (And.intro (by omega) ?_)))
            rw [md_s_answerWeight D]
            obtain ⟨f15, ef15⟩ : ∃ z9, z9 = va_up f14 10 (upd (f14 10) (z2_4).toInt.toNat (-1 : Int32)) := ⟨_, rfl⟩
            rw [← ef15]
            have pf_149 : f15 10 = upd (f14 10) (z2_4).toInt.toNat (-1 : Int32) := by rw [ef15]; exact if_pos rfl
            have pg_149 : ∀ i9, i9 ≠ 10 → f15 i9 = f14 i9 := fun i9 h9 => by rw [ef15]; exact if_neg h9
            have hf15 : md_F f15 := by rw [ef15]; exact md_F_st hf14 10 _ _ (md_rng _ _ (by decide))
            have hw15 : f15 2 = f 2 := (show f15 2 = f14 2 by rw [ef15]; rfl).trans hw14
            have hr15_0 : f15 0 = f 0 := (show f15 0 = f14 0 by rw [ef15]; rfl).trans hr14_0
            have hr15_1 : f15 1 = f 1 := (show f15 1 = f14 1 by rw [ef15]; rfl).trans hr14_1
            have hr15_12 : f15 12 = f 12 := (show f15 12 = f14 12 by rw [ef15]; rfl).trans hr14_12
            have hr15_13 : f15 13 = f 13 := (show f15 13 = f14 13 by rw [ef15]; rfl).trans hr14_13
            have hr15_14 : f15 14 = f 14 := (show f15 14 = f14 14 by rw [ef15]; rfl).trans hr14_14
            have hr15_15 : f15 15 = f 15 := (show f15 15 = f14 15 by rw [ef15]; rfl).trans hr14_15
            have hr15_7 : f15 7 = f 7 := (show f15 7 = f14 7 by rw [ef15]; rfl).trans hr14_7
            have hr15_8 : f15 8 = f 8 := (show f15 8 = f14 8 by rw [ef15]; rfl).trans hr14_8
            have hr15_11 : f15 11 = f 11 := (show f15 11 = f14 11 by rw [ef15]; rfl).trans hr14_11
            refine And.intro (fun _ => ?_) (fun c9 => absurd c9 (by decide))
            refine hC.1 11 160 _ _ rfl _ _ _ _ _ ?_
            refine hC.1 12 161 _ _ rfl _ _ _ _ _ ?_
            intro m16 em_161
            try have e16 : m16.toInt = (z1_4).toInt + (0) := by rw [em_161]; exact pm_addc _ _ (0) rfl (by omega) (by omega)
            have k1 : (1 : Int32).toInt = 1 := rfl
            intro m17 em_163
            try have e17 : m17.toInt = (z2_4).toInt + (1) := by rw [em_163]; exact pm_addc _ _ (1) rfl (by omega) (by omega)
            exact hC.2 [false, false, false, true, true, true, true] _ _ _ _ _ _ (ih3 m16 m17 v1 f15 hv1 hf15 hw15 hr15_0 hr15_1 hr15_12 hr15_13 hr15_14 hr15_15 hr15_7 hr15_8 hr15_11 (by omega) (by rw [show m17.toInt.toNat = z2_4.toInt.toNat + 1 by omega]; first | (rw [cnA_0 ((pg_149 9 (by decide)).trans pf_128) rfl]; omega) | (rw [cnA_1 ((pg_149 9 (by decide)).trans pf_128) (m1_ne (by omega))]; omega)) (by intro j9 h9; by_cases h8 : j9 = z2_4.toInt.toNat; (subst h8; rw [pg_149 9 (by decide), pf_128, pf_149, pg_128 10 (by decide), pk_us, pk_us]; first | (exact AKI_no yp_9 yq_9 (by omega) rfl rfl) | (exact AKI_yes yp_9 yq_9 (by omega) (by omega) ys_9 yc_7 yw_9)); (rw [pg_149 9 (by decide), pf_128, pf_149, pg_128 10 (by decide), pk_un h8, pk_un h8]; exact j2_4 j9 (by omega))) (by omega) (by omega) (by omega) (by omega) (by omega) (by omega) (by omega) (by omega))
          · skip
            have k1 : (1 : Int32).toInt = 1 := rfl
            refine hC.1 3 61 _ _ rfl _ _ _ _ _ ?_
            refine And.intro (fun _ => ?_) (fun c9 => absurd c9 (by decide))
            refine hC.1 4 72 _ _ rfl _ _ _ _ _ ?_
            refine And.intro (fun c18 => ?_) (fun c18 => ?_)
            · skip
              refine hC.1 5 94 _ _ rfl _ _ _ _ _ ?_
              refine Exists.intro _ (And.intro md_o ?_)
              refine Exists.intro _ (Exists.intro _ (And.intro (Or.inl (md_a_askedEdit D)) (And.intro (by omega) ?_)))
              refine And.intro (Exists.intro _ md_o) (Exists.intro _ (Exists.intro _ (Exists.intro _ (Exists.intro _ (And.intro (V_X11_setBy D v1 f1 hv1 hf1 (f1 11 (z2_4).toInt.toNat) y7 y6 (by omega) (by omega) (by omega)) (And.intro rfl (fun r9 A9 h9 => ?_)))))))
              obtain ⟨y19, rfl, rfl, by19⟩ := h9
              have ys_9 := by19
              rw [l0_9, lC_9, l11_9] at ys_9
              refine hC.1 6 107 _ _ rfl _ _ _ _ _ ?_
              refine Exists.intro _ (And.intro md_o ?_)
              refine And.intro (fun c9 => absurd c9 (by decide)) (fun _ => ?_)
              refine Exists.intro _ (Exists.intro _ (Exists.intro _ (Exists.intro _ (And.intro (F_X11_bits (md A0 g h q v1 f1) y19 ) (And.intro rfl (fun r9 A9 h9 => ?_))))))
              obtain ⟨y20, rfl, rfl, by20⟩ := h9
              have yc_9 := by20
              have yc_7 := yc_9.trans (congrArg (fun n9 : Nat => (n9 : Int)) (SB24 ys_9 (fun j9 => hf 0 j9) (fun i9 j9 => hf 12 _)))
              refine hC.1 8 128 _ _ rfl _ _ _ _ _ ?_
              refine Exists.intro _ (Exists.intro _ (And.intro (md_a_answerCount D) (And.intro (by omega) ?_)))
              rw [md_s_answerCount D]
              obtain ⟨f21, ef21⟩ : ∃ z9, z9 = va_up f1 9 (upd (f1 9) (z2_4).toInt.toNat y20) := ⟨_, rfl⟩
              rw [← ef21]
              have pf_128 : f21 9 = upd (f1 9) (z2_4).toInt.toNat y20 := by rw [ef21]; exact if_pos rfl
              have pg_128 : ∀ i9, i9 ≠ 9 → f21 i9 = f1 i9 := fun i9 h9 => by rw [ef21]; exact if_neg h9
              have hf21 : md_F f21 := by rw [ef21]; exact md_F_st hf1 9 _ _ (md_rng _ _ (by decide))
              have hw21 : f21 2 = f 2 := (show f21 2 = f1 2 by rw [ef21]; rfl).trans hw1
              have hr21_0 : f21 0 = f 0 := (show f21 0 = f1 0 by rw [ef21]; rfl).trans hr1_0
              have hr21_1 : f21 1 = f 1 := (show f21 1 = f1 1 by rw [ef21]; rfl).trans hr1_1
              have hr21_12 : f21 12 = f 12 := (show f21 12 = f1 12 by rw [ef21]; rfl).trans hr1_12
              have hr21_13 : f21 13 = f 13 := (show f21 13 = f1 13 by rw [ef21]; rfl).trans hr1_13
              have hr21_14 : f21 14 = f 14 := (show f21 14 = f1 14 by rw [ef21]; rfl).trans hr1_14
              have hr21_15 : f21 15 = f 15 := (show f21 15 = f1 15 by rw [ef21]; rfl).trans hr1_15
              have hr21_7 : f21 7 = f 7 := (show f21 7 = f1 7 by rw [ef21]; rfl).trans hr1_7
              have hr21_8 : f21 8 = f 8 := (show f21 8 = f1 8 by rw [ef21]; rfl).trans hr1_8
              have hr21_11 : f21 11 = f 11 := (show f21 11 = f1 11 by rw [ef21]; rfl).trans hr1_11
              refine Exists.intro _ (And.intro md_o ?_)
              refine And.intro (fun c9 => absurd c9 (by decide)) (fun _ => ?_)
              refine And.intro (Exists.intro _ md_o) (Exists.intro _ (Exists.intro _ (Exists.intro _ (Exists.intro _ (And.intro (F_X11_weightOf D v1 f21 hv1 hf21 y19 ) (And.intro rfl (fun r9 A9 h9 => ?_)))))))
              obtain ⟨y22, rfl, rfl, by22⟩ := h9
              have yw_9 := by22
              rw [hw21] at yw_9
              refine hC.1 10 149 _ _ rfl _ _ _ _ _ ?_
              refine Exists.intro _ (Exists.intro _ (And.intro (md_a_answerWeight D) (And.intro (by omega) ?_)))
              rw [md_s_answerWeight D]
              obtain ⟨f23, ef23⟩ : ∃ z9, z9 = va_up f21 10 (upd (f21 10) (z2_4).toInt.toNat y22) := ⟨_, rfl⟩
              rw [← ef23]
              have pf_149 : f23 10 = upd (f21 10) (z2_4).toInt.toNat y22 := by rw [ef23]; exact if_pos rfl
              have pg_149 : ∀ i9, i9 ≠ 10 → f23 i9 = f21 i9 := fun i9 h9 => by rw [ef23]; exact if_neg h9
              have hf23 : md_F f23 := by rw [ef23]; exact md_F_st hf21 10 _ _ (md_rng _ _ (by decide))
              have hw23 : f23 2 = f 2 := (show f23 2 = f21 2 by rw [ef23]; rfl).trans hw21
              have hr23_0 : f23 0 = f 0 := (show f23 0 = f21 0 by rw [ef23]; rfl).trans hr21_0
              have hr23_1 : f23 1 = f 1 := (show f23 1 = f21 1 by rw [ef23]; rfl).trans hr21_1
              have hr23_12 : f23 12 = f 12 := (show f23 12 = f21 12 by rw [ef23]; rfl).trans hr21_12
              have hr23_13 : f23 13 = f 13 := (show f23 13 = f21 13 by rw [ef23]; rfl).trans hr21_13
              have hr23_14 : f23 14 = f 14 := (show f23 14 = f21 14 by rw [ef23]; rfl).trans hr21_14
              have hr23_15 : f23 15 = f 15 := (show f23 15 = f21 15 by rw [ef23]; rfl).trans hr21_15
              have hr23_7 : f23 7 = f 7 := (show f23 7 = f21 7 by rw [ef23]; rfl).trans hr21_7
              have hr23_8 : f23 8 = f 8 := (show f23 8 = f21 8 by rw [ef23]; rfl).trans hr21_8
              have hr23_11 : f23 11 = f 11 := (show f23 11 = f21 11 by rw [ef23]; rfl).trans hr21_11
              refine And.intro (fun c9 => absurd c9 (by decide)) (fun _ => ?_)
              refine hC.1 12 161 _ _ rfl _ _ _ _ _ ?_
              intro m24 em_161
              try have e24 : m24.toInt = (z1_4).toInt + (1) := by rw [em_161]; exact pm_addc _ _ (1) rfl (by omega) (by omega)
              intro m25 em_163
              try have e25 : m25.toInt = (z2_4).toInt + (1) := by rw [em_163]; exact pm_addc _ _ (1) rfl (by omega) (by omega)
              exact hC.2 [false, false, false, true, true, true, true] _ _ _ _ _ _ (ih3 m24 m25 v1 f23 hv1 hf23 hw23 hr23_0 hr23_1 hr23_12 hr23_13 hr23_14 hr23_15 hr23_7 hr23_8 hr23_11 (by omega) (by rw [show m25.toInt.toNat = z2_4.toInt.toNat + 1 by omega]; first | (rw [cnA_0 ((pg_149 9 (by decide)).trans pf_128) rfl]; omega) | (rw [cnA_1 ((pg_149 9 (by decide)).trans pf_128) (m1_ne (by omega))]; omega)) (by intro j9 h9; by_cases h8 : j9 = z2_4.toInt.toNat; (subst h8; rw [pg_149 9 (by decide), pf_128, pf_149, pg_128 10 (by decide), pk_us, pk_us]; first | (exact AKI_no yp_9 yq_9 (by omega) rfl rfl) | (exact AKI_yes yp_9 yq_9 (by omega) (by omega) ys_9 yc_7 yw_9)); (rw [pg_149 9 (by decide), pf_128, pf_149, pg_128 10 (by decide), pk_un h8, pk_un h8]; exact j2_4 j9 (by omega))) (by omega) (by omega) (by omega) (by omega) (by omega) (by omega) (by omega) (by omega))
            · skip
              refine Exists.intro _ (And.intro md_o ?_)
              refine Exists.intro _ (Exists.intro _ (And.intro (Or.inl (md_a_askedEdit D)) (And.intro (by omega) ?_)))
              refine And.intro (Exists.intro _ md_o) (Exists.intro _ (Exists.intro _ (Exists.intro _ (Exists.intro _ (And.intro (V_X11_setBy D v1 f1 hv1 hf1 (f1 11 (z2_4).toInt.toNat) y6 y7 (by omega) (by omega) (by omega)) (And.intro rfl (fun r9 A9 h9 => ?_)))))))
              obtain ⟨y26, rfl, rfl, by26⟩ := h9
              have ys_9 := by26
              rw [l0_9, lC_9, l11_9] at ys_9
              refine hC.1 6 107 _ _ rfl _ _ _ _ _ ?_
              refine Exists.intro _ (And.intro md_o ?_)
              refine And.intro (fun c9 => absurd c9 (by decide)) (fun _ => ?_)
              refine Exists.intro _ (Exists.intro _ (Exists.intro _ (Exists.intro _ (And.intro (F_X11_bits (md A0 g h q v1 f1) y26 ) (And.intro rfl (fun r9 A9 h9 => ?_))))))
              obtain ⟨y27, rfl, rfl, by27⟩ := h9
              have yc_9 := by27
              have yc_7 := yc_9.trans (congrArg (fun n9 : Nat => (n9 : Int)) (SB24 ys_9 (fun j9 => hf 0 j9) (fun i9 j9 => hf 12 _)))
              refine hC.1 8 128 _ _ rfl _ _ _ _ _ ?_
              refine Exists.intro _ (Exists.intro _ (And.intro (md_a_answerCount D) (And.intro (by omega) ?_)))
              rw [md_s_answerCount D]
              obtain ⟨f28, ef28⟩ : ∃ z9, z9 = va_up f1 9 (upd (f1 9) (z2_4).toInt.toNat y27) := ⟨_, rfl⟩
              rw [← ef28]
              have pf_128 : f28 9 = upd (f1 9) (z2_4).toInt.toNat y27 := by rw [ef28]; exact if_pos rfl
              have pg_128 : ∀ i9, i9 ≠ 9 → f28 i9 = f1 i9 := fun i9 h9 => by rw [ef28]; exact if_neg h9
              have hf28 : md_F f28 := by rw [ef28]; exact md_F_st hf1 9 _ _ (md_rng _ _ (by decide))
              have hw28 : f28 2 = f 2 := (show f28 2 = f1 2 by rw [ef28]; rfl).trans hw1
              have hr28_0 : f28 0 = f 0 := (show f28 0 = f1 0 by rw [ef28]; rfl).trans hr1_0
              have hr28_1 : f28 1 = f 1 := (show f28 1 = f1 1 by rw [ef28]; rfl).trans hr1_1
              have hr28_12 : f28 12 = f 12 := (show f28 12 = f1 12 by rw [ef28]; rfl).trans hr1_12
              have hr28_13 : f28 13 = f 13 := (show f28 13 = f1 13 by rw [ef28]; rfl).trans hr1_13
              have hr28_14 : f28 14 = f 14 := (show f28 14 = f1 14 by rw [ef28]; rfl).trans hr1_14
              have hr28_15 : f28 15 = f 15 := (show f28 15 = f1 15 by rw [ef28]; rfl).trans hr1_15
              have hr28_7 : f28 7 = f 7 := (show f28 7 = f1 7 by rw [ef28]; rfl).trans hr1_7
              have hr28_8 : f28 8 = f 8 := (show f28 8 = f1 8 by rw [ef28]; rfl).trans hr1_8
              have hr28_11 : f28 11 = f 11 := (show f28 11 = f1 11 by rw [ef28]; rfl).trans hr1_11
              refine Exists.intro _ (And.intro md_o ?_)
              refine And.intro (fun c9 => absurd c9 (by decide)) (fun _ => ?_)
              refine And.intro (Exists.intro _ md_o) (Exists.intro _ (Exists.intro _ (Exists.intro _ (Exists.intro _ (And.intro (F_X11_weightOf D v1 f28 hv1 hf28 y26 ) (And.intro rfl (fun r9 A9 h9 => ?_)))))))
              obtain ⟨y29, rfl, rfl, by29⟩ := h9
              have yw_9 := by29
              rw [hw28] at yw_9
              refine hC.1 10 149 _ _ rfl _ _ _ _ _ ?_
              refine Exists.intro _ (Exists.intro _ (And.intro (md_a_answerWeight D) (And.intro (by omega) ?_)))
              rw [md_s_answerWeight D]
              obtain ⟨f30, ef30⟩ : ∃ z9, z9 = va_up f28 10 (upd (f28 10) (z2_4).toInt.toNat y29) := ⟨_, rfl⟩
              rw [← ef30]
              have pf_149 : f30 10 = upd (f28 10) (z2_4).toInt.toNat y29 := by rw [ef30]; exact if_pos rfl
              have pg_149 : ∀ i9, i9 ≠ 10 → f30 i9 = f28 i9 := fun i9 h9 => by rw [ef30]; exact if_neg h9
              have hf30 : md_F f30 := by rw [ef30]; exact md_F_st hf28 10 _ _ (md_rng _ _ (by decide))
              have hw30 : f30 2 = f 2 := (show f30 2 = f28 2 by rw [ef30]; rfl).trans hw28
              have hr30_0 : f30 0 = f 0 := (show f30 0 = f28 0 by rw [ef30]; rfl).trans hr28_0
              have hr30_1 : f30 1 = f 1 := (show f30 1 = f28 1 by rw [ef30]; rfl).trans hr28_1
              have hr30_12 : f30 12 = f 12 := (show f30 12 = f28 12 by rw [ef30]; rfl).trans hr28_12
              have hr30_13 : f30 13 = f 13 := (show f30 13 = f28 13 by rw [ef30]; rfl).trans hr28_13
              have hr30_14 : f30 14 = f 14 := (show f30 14 = f28 14 by rw [ef30]; rfl).trans hr28_14
              have hr30_15 : f30 15 = f 15 := (show f30 15 = f28 15 by rw [ef30]; rfl).trans hr28_15
              have hr30_7 : f30 7 = f 7 := (show f30 7 = f28 7 by rw [ef30]; rfl).trans hr28_7
              have hr30_8 : f30 8 = f 8 := (show f30 8 = f28 8 by rw [ef30]; rfl).trans hr28_8
              have hr30_11 : f30 11 = f 11 := (show f30 11 = f28 11 by rw [ef30]; rfl).trans hr28_11
              refine And.intro (fun c9 => absurd c9 (by decide)) (fun _ => ?_)
              refine hC.1 12 161 _ _ rfl _ _ _ _ _ ?_
              intro m31 em_161
              try have e31 : m31.toInt = (z1_4).toInt + (1) := by rw [em_161]; exact pm_addc _ _ (1) rfl (by omega) (by omega)
              intro m32 em_163
              try have e32 : m32.toInt = (z2_4).toInt + (1) := by rw [em_163]; exact pm_addc _ _ (1) rfl (by omega) (by omega)
              exact hC.2 [false, false, false, true, true, true, true] _ _ _ _ _ _ (ih3 m31 m32 v1 f30 hv1 hf30 hw30 hr30_0 hr30_1 hr30_12 hr30_13 hr30_14 hr30_15 hr30_7 hr30_8 hr30_11 (by omega) (by rw [show m32.toInt.toNat = z2_4.toInt.toNat + 1 by omega]; first | (rw [cnA_0 ((pg_149 9 (by decide)).trans pf_128) rfl]; omega) | (rw [cnA_1 ((pg_149 9 (by decide)).trans pf_128) (m1_ne (by omega))]; omega)) (by intro j9 h9; by_cases h8 : j9 = z2_4.toInt.toNat; (subst h8; rw [pg_149 9 (by decide), pf_128, pf_149, pg_128 10 (by decide), pk_us, pk_us]; first | (exact AKI_no yp_9 yq_9 (by omega) rfl rfl) | (exact AKI_yes yp_9 yq_9 (by omega) (by omega) ys_9 yc_7 yw_9)); (rw [pg_149 9 (by decide), pf_128, pf_149, pg_128 10 (by decide), pk_un h8, pk_un h8]; exact j2_4 j9 (by omega))) (by omega) (by omega) (by omega) (by omega) (by omega) (by omega) (by omega) (by omega))
  exact lp2 (200 - (0 : Int32).toInt).toNat.succ (0 : Int32) (0 : Int32) v f hv hf rfl rfl rfl rfl rfl rfl rfl rfl rfl rfl (by omega) (by rfl) (by intro j9 h9; omega) (by omega) (by omega) (by omega) (by omega) (by omega) (by omega) (by omega) (by omega)

set_option maxRecDepth 100000 in
set_option maxHeartbeats 2000000 in
theorem V_X11_forget (D : md_D h q) (v : Nat → Int32) (f : Nat → Nat → Int32) (hv : md_V v) (hf : md_F f)  : pm_Mt l g 282 0 0 0 [.ref h] (md A0 g h q v f) (md_Qw A0 g h q f (fun r v2 f2 => f2 0 = f 0 ∧ f2 1 = f 1 ∧ f2 12 = f 12 ∧ f2 13 = f 13 ∧ f2 14 = f 14 ∧ f2 15 = f 15 ∧ f2 7 = f 7 ∧ f2 8 = f 8 ∧ f2 9 = f 9 ∧ f2 10 = f 10 ∧ f2 11 = f 11 ∧ ((v2 0).toInt = (v 0).toInt ∧ (v2 1).toInt = (v 1).toInt ∧ (v2 2).toInt = (v 2).toInt ∧ (v2 3).toInt = (v 3).toInt ∧ (v2 4).toInt = (v 4).toInt ∧ (v2 5).toInt = (v 5).toInt) ∧ (r = v 6 ∧ (v2 6).toInt = 0))) := by
  refine mt_X11_forget rfl (fun J hC => ?_)
  have hv9 := hv
  unfold md_V at hv9
  refine hC.1 0 0 _ _ rfl _ _ _ _ _ ?_
  refine Exists.intro _ (And.intro md_o ?_)
  have k0 : (0 : Int32).toInt = 0 := rfl
  refine Exists.intro _ (And.intro md_o (And.intro rfl ?_))
  rw [md_p_askedMany D]
  obtain ⟨v1, ev1⟩ : ∃ z9, z9 = upd v 6 (0 : Int32) := ⟨_, rfl⟩
  rw [← ev1]
  have ev1_0 : (v1 0).toInt = (v 0).toInt := by rw [ev1]; rfl
  have ev1_1 : (v1 1).toInt = (v 1).toInt := by rw [ev1]; rfl
  have ev1_2 : (v1 2).toInt = (v 2).toInt := by rw [ev1]; rfl
  have ev1_3 : (v1 3).toInt = (v 3).toInt := by rw [ev1]; rfl
  have ev1_4 : (v1 4).toInt = (v 4).toInt := by rw [ev1]; rfl
  have ev1_5 : (v1 5).toInt = (v 5).toInt := by rw [ev1]; rfl
  have ev1_6 : (v1 6).toInt = ((0 : Int32)).toInt := by rw [ev1]; rfl
  have ev1_7 : (v1 7).toInt = (v 7).toInt := by rw [ev1]; rfl
  have pn_7 : v1 6 = (0 : Int32) := by rw [ev1]; rfl
  have hv2 : md_V v1 := by unfold md_V; omega
  exact ⟨rfl, fun e9 => absurd e9 (by decide), rfl, (v 6), v1, f, rfl, rfl, hv2, hf, rfl, rfl, rfl, rfl, rfl, rfl, rfl, rfl, rfl, rfl, rfl, rfl, by first | omega | (dsimp only; omega) | trivial, by exact ⟨rfl, by omega⟩⟩

set_option maxRecDepth 100000 in
set_option maxHeartbeats 2000000 in
theorem V_X11_about (D : md_D h q) (v : Nat → Int32) (f : Nat → Nat → Int32) (hv : md_V v) (hf : md_F f) (x1 : Int32)  : pm_Mt l g 205 1 0 0 [.ref h, .int x1] (md A0 g h q v f) (md_Qp (md A0 g h q v f) (fun r => r.toInt = ABT (v 0) (v 3) (v 4) (v 5) (v 6) (f 0) x1.toInt)) := by
  refine mt_X11_about rfl (fun J hC => ?_)
  have hv9 := hv
  unfold md_V at hv9
  have rg_x1 := pm_rng x1
  refine hC.1 0 0 _ _ rfl _ _ _ _ _ ?_
  refine pm_swc 6 rfl (by decide) ?_ ?_
  · intro _
    refine hC.1 7 80 _ _ rfl _ _ _ _ _ ?_
    have km1 : (-1 : Int32).toInt = -1 := rfl
    exact ⟨rfl, fun e9 => absurd e9 (by decide), rfl, (-1 : Int32), rfl, rfl, by first | (exact (ABT_0 (by omega)).symm) | (rw [ABT_1 (by omega)]; refine yb_9.trans ?_; rw [ys_9, set_24 (fun j9 => hf 0 j9)]; unfold sS; congr 3 <;> omega) | (exact (ABT_2 (by omega)).symm) | (exact (ABT_3 (by omega)).symm) | (exact (ABT_4 (by omega)).symm) | (exact (ABT_5 (by omega)).symm) | (exact (ABT_d (by omega)).symm)⟩
  · intro i9 hi9 he9
    rcases (show i9 = 0 ∨ i9 = 1 ∨ i9 = 2 ∨ i9 = 3 ∨ i9 = 4 ∨ i9 = 5 by omega) with rfl | rfl | rfl | rfl | rfl | rfl
    · skip
      refine hC.1 1 40 _ _ rfl _ _ _ _ _ ?_
      refine Exists.intro _ (And.intro md_o ?_)
      exact ⟨rfl, fun e9 => absurd e9 (by decide), rfl, (v 0), rfl, rfl, by first | (exact (ABT_0 (by omega)).symm) | (rw [ABT_1 (by omega)]; refine yb_9.trans ?_; rw [ys_9, set_24 (fun j9 => hf 0 j9)]; unfold sS; congr 3 <;> omega) | (exact (ABT_2 (by omega)).symm) | (exact (ABT_3 (by omega)).symm) | (exact (ABT_4 (by omega)).symm) | (exact (ABT_5 (by omega)).symm) | (exact (ABT_d (by omega)).symm)⟩
    · skip
      refine hC.1 2 45 _ _ rfl _ _ _ _ _ ?_
      have k0 : (0 : Int32).toInt = 0 := rfl
      refine Exists.intro _ (And.intro md_o ?_)
      have k1 : (1 : Int32).toInt = 1 := rfl
      intro m3 em_52
      try have e3 : m3.toInt = ((v 0)).toInt - (1) := by rw [em_52]; exact pm_subc _ _ (1) rfl (by omega) (by omega)
      refine And.intro (Exists.intro _ md_o) (Exists.intro _ (Exists.intro _ (Exists.intro _ (Exists.intro _ (And.intro (c_X11_setOf D v f hv hf (0 : Int32) m3 (by omega) (by omega)) (And.intro rfl (fun r9 A9 h9 => ?_)))))))
      obtain ⟨y4, rfl, rfl, by4⟩ := h9
      have ys_9 := by4
      refine Exists.intro _ (Exists.intro _ (Exists.intro _ (Exists.intro _ (And.intro (F_X11_bits (md A0 g h q v f) y4 ) (And.intro rfl (fun r9 A9 h9 => ?_))))))
      obtain ⟨y5, rfl, rfl, by5⟩ := h9
      have yb_9 := by5
      exact ⟨rfl, fun e9 => absurd e9 (by decide), rfl, y5, rfl, rfl, by first | (exact (ABT_0 (by omega)).symm) | (rw [ABT_1 (by omega)]; refine yb_9.trans ?_; rw [ys_9, set_24 (fun j9 => hf 0 j9)]; unfold sS; congr 3 <;> omega) | (exact (ABT_2 (by omega)).symm) | (exact (ABT_3 (by omega)).symm) | (exact (ABT_4 (by omega)).symm) | (exact (ABT_5 (by omega)).symm) | (exact (ABT_d (by omega)).symm)⟩
    · skip
      refine hC.1 3 60 _ _ rfl _ _ _ _ _ ?_
      refine Exists.intro _ (And.intro md_o ?_)
      exact ⟨rfl, fun e9 => absurd e9 (by decide), rfl, (v 3), rfl, rfl, by first | (exact (ABT_0 (by omega)).symm) | (rw [ABT_1 (by omega)]; refine yb_9.trans ?_; rw [ys_9, set_24 (fun j9 => hf 0 j9)]; unfold sS; congr 3 <;> omega) | (exact (ABT_2 (by omega)).symm) | (exact (ABT_3 (by omega)).symm) | (exact (ABT_4 (by omega)).symm) | (exact (ABT_5 (by omega)).symm) | (exact (ABT_d (by omega)).symm)⟩
    · skip
      refine hC.1 4 65 _ _ rfl _ _ _ _ _ ?_
      refine Exists.intro _ (And.intro md_o ?_)
      exact ⟨rfl, fun e9 => absurd e9 (by decide), rfl, (v 4), rfl, rfl, by first | (exact (ABT_0 (by omega)).symm) | (rw [ABT_1 (by omega)]; refine yb_9.trans ?_; rw [ys_9, set_24 (fun j9 => hf 0 j9)]; unfold sS; congr 3 <;> omega) | (exact (ABT_2 (by omega)).symm) | (exact (ABT_3 (by omega)).symm) | (exact (ABT_4 (by omega)).symm) | (exact (ABT_5 (by omega)).symm) | (exact (ABT_d (by omega)).symm)⟩
    · skip
      refine hC.1 5 70 _ _ rfl _ _ _ _ _ ?_
      refine Exists.intro _ (And.intro md_o ?_)
      exact ⟨rfl, fun e9 => absurd e9 (by decide), rfl, (v 5), rfl, rfl, by first | (exact (ABT_0 (by omega)).symm) | (rw [ABT_1 (by omega)]; refine yb_9.trans ?_; rw [ys_9, set_24 (fun j9 => hf 0 j9)]; unfold sS; congr 3 <;> omega) | (exact (ABT_2 (by omega)).symm) | (exact (ABT_3 (by omega)).symm) | (exact (ABT_4 (by omega)).symm) | (exact (ABT_5 (by omega)).symm) | (exact (ABT_d (by omega)).symm)⟩
    · skip
      refine hC.1 6 75 _ _ rfl _ _ _ _ _ ?_
      refine Exists.intro _ (And.intro md_o ?_)
      exact ⟨rfl, fun e9 => absurd e9 (by decide), rfl, (v 6), rfl, rfl, by first | (exact (ABT_0 (by omega)).symm) | (rw [ABT_1 (by omega)]; refine yb_9.trans ?_; rw [ys_9, set_24 (fun j9 => hf 0 j9)]; unfold sS; congr 3 <;> omega) | (exact (ABT_2 (by omega)).symm) | (exact (ABT_3 (by omega)).symm) | (exact (ABT_4 (by omega)).symm) | (exact (ABT_5 (by omega)).symm) | (exact (ABT_d (by omega)).symm)⟩

end

end
section
section
variable {l : Launch} {g : pm_G} {A0 : pm_H} {h : Nat} {q : Nat → Nat}
set_option maxRecDepth 100000 in
set_option maxHeartbeats 2000000 in
theorem V_X11_asked (D : md_D h q) (v : Nat → Int32) (f : Nat → Nat → Int32) (hv : md_V v) (hf : md_F f) (x1 : Int32) (x2 : Int32)  : pm_Mt l g 281 1 0 0 [.ref h, .int x1, .int x2] (md A0 g h q v f) (md_Qp (md A0 g h q v f) (fun r => r = ASD (v 6).toInt x1.toInt x2.toInt (f 7) (f 8) (f 9) (f 10) (f 11))) := by
  refine mt_X11_asked rfl (fun J hC => ?_)
  have hv9 := hv
  unfold md_V at hv9
  have rg_x1 := pm_rng x1
  have rg_x2 := pm_rng x2
  refine hC.1 0 0 _ _ rfl _ _ _ _ _ ?_
  have k0 : (0 : Int32).toInt = 0 := rfl
  refine Exists.intro _ (And.intro md_o ?_)
  have k1 : (1 : Int32).toInt = 1 := rfl
  intro m1 em_7
  try have e1 : m1.toInt = ((v 6)).toInt - (1) := by rw [em_7]; exact pm_subc _ _ (1) rfl (by omega) (by omega)
  refine Exists.intro _ (Exists.intro _ (Exists.intro _ (Exists.intro _ (And.intro (c_X11_isIn (md A0 g h q v f) x1 (0 : Int32) m1 ) (And.intro rfl (fun r9 A9 h9 => ?_))))))
  rcases h9 with ⟨y2, rfl, rfl, ⟨rfl, by2⟩ | ⟨rfl, by2⟩⟩
  · skip
    refine And.intro (fun _ => ?_) (fun c9 => absurd c9 (by decide))
    refine hC.1 1 16 _ _ rfl _ _ _ _ _ ?_
    refine pm_swc 5 rfl (by decide) ?_ ?_
    · intro _
      refine hC.1 7 87 _ _ rfl _ _ _ _ _ ?_
      have km1 : (-1 : Int32).toInt = -1 := rfl
      exact ⟨rfl, fun e9 => absurd e9 (by decide), rfl, (-1 : Int32), rfl, rfl, by first | (exact (ASD_n (by omega)).symm) | (exact (ASD_0 (by omega) (by omega)).symm) | (exact (ASD_1 (by omega) (by omega)).symm) | (exact (ASD_2 (by omega) (by omega)).symm) | (exact (ASD_3 (by omega) (by omega)).symm) | (exact (ASD_4 (by omega) (by omega)).symm) | (exact (ASD_d (by omega)).symm)⟩
    · intro i9 hi9 he9
      rcases (show i9 = 0 ∨ i9 = 1 ∨ i9 = 2 ∨ i9 = 3 ∨ i9 = 4 by omega) with rfl | rfl | rfl | rfl | rfl
      · skip
        refine hC.1 2 52 _ _ rfl _ _ _ _ _ ?_
        refine Exists.intro _ (And.intro md_o ?_)
        refine Exists.intro _ (Exists.intro _ (And.intro (Or.inl (md_a_answerCount D)) (And.intro (by omega) ?_)))
        exact ⟨rfl, fun e9 => absurd e9 (by decide), rfl, (f 9 (x1).toInt.toNat), rfl, rfl, by first | (exact (ASD_n (by omega)).symm) | (exact (ASD_0 (by omega) (by omega)).symm) | (exact (ASD_1 (by omega) (by omega)).symm) | (exact (ASD_2 (by omega) (by omega)).symm) | (exact (ASD_3 (by omega) (by omega)).symm) | (exact (ASD_4 (by omega) (by omega)).symm) | (exact (ASD_d (by omega)).symm)⟩
      · skip
        refine hC.1 3 59 _ _ rfl _ _ _ _ _ ?_
        refine Exists.intro _ (And.intro md_o ?_)
        refine Exists.intro _ (Exists.intro _ (And.intro (Or.inl (md_a_answerWeight D)) (And.intro (by omega) ?_)))
        exact ⟨rfl, fun e9 => absurd e9 (by decide), rfl, (f 10 (x1).toInt.toNat), rfl, rfl, by first | (exact (ASD_n (by omega)).symm) | (exact (ASD_0 (by omega) (by omega)).symm) | (exact (ASD_1 (by omega) (by omega)).symm) | (exact (ASD_2 (by omega) (by omega)).symm) | (exact (ASD_3 (by omega) (by omega)).symm) | (exact (ASD_4 (by omega) (by omega)).symm) | (exact (ASD_d (by omega)).symm)⟩
      · skip
        refine hC.1 4 66 _ _ rfl _ _ _ _ _ ?_
        refine Exists.intro _ (And.intro md_o ?_)
        refine Exists.intro _ (Exists.intro _ (And.intro (Or.inl (md_a_askedOne D)) (And.intro (by omega) ?_)))
        exact ⟨rfl, fun e9 => absurd e9 (by decide), rfl, (f 7 (x1).toInt.toNat), rfl, rfl, by first | (exact (ASD_n (by omega)).symm) | (exact (ASD_0 (by omega) (by omega)).symm) | (exact (ASD_1 (by omega) (by omega)).symm) | (exact (ASD_2 (by omega) (by omega)).symm) | (exact (ASD_3 (by omega) (by omega)).symm) | (exact (ASD_4 (by omega) (by omega)).symm) | (exact (ASD_d (by omega)).symm)⟩
      · skip
        refine hC.1 5 73 _ _ rfl _ _ _ _ _ ?_
        refine Exists.intro _ (And.intro md_o ?_)
        refine Exists.intro _ (Exists.intro _ (And.intro (Or.inl (md_a_askedOther D)) (And.intro (by omega) ?_)))
        exact ⟨rfl, fun e9 => absurd e9 (by decide), rfl, (f 8 (x1).toInt.toNat), rfl, rfl, by first | (exact (ASD_n (by omega)).symm) | (exact (ASD_0 (by omega) (by omega)).symm) | (exact (ASD_1 (by omega) (by omega)).symm) | (exact (ASD_2 (by omega) (by omega)).symm) | (exact (ASD_3 (by omega) (by omega)).symm) | (exact (ASD_4 (by omega) (by omega)).symm) | (exact (ASD_d (by omega)).symm)⟩
      · skip
        refine hC.1 6 80 _ _ rfl _ _ _ _ _ ?_
        refine Exists.intro _ (And.intro md_o ?_)
        refine Exists.intro _ (Exists.intro _ (And.intro (Or.inl (md_a_askedEdit D)) (And.intro (by omega) ?_)))
        exact ⟨rfl, fun e9 => absurd e9 (by decide), rfl, (f 11 (x1).toInt.toNat), rfl, rfl, by first | (exact (ASD_n (by omega)).symm) | (exact (ASD_0 (by omega) (by omega)).symm) | (exact (ASD_1 (by omega) (by omega)).symm) | (exact (ASD_2 (by omega) (by omega)).symm) | (exact (ASD_3 (by omega) (by omega)).symm) | (exact (ASD_4 (by omega) (by omega)).symm) | (exact (ASD_d (by omega)).symm)⟩
  · skip
    refine And.intro (fun c9 => absurd c9 (by decide)) (fun _ => ?_)
    have km1 : (-1 : Int32).toInt = -1 := rfl
    exact ⟨rfl, fun e9 => absurd e9 (by decide), rfl, (-1 : Int32), rfl, rfl, by first | (exact (ASD_n (by omega)).symm) | (exact (ASD_0 (by omega) (by omega)).symm) | (exact (ASD_1 (by omega) (by omega)).symm) | (exact (ASD_2 (by omega) (by omega)).symm) | (exact (ASD_3 (by omega) (by omega)).symm) | (exact (ASD_4 (by omega) (by omega)).symm) | (exact (ASD_d (by omega)).symm)⟩

end

end
section
section
variable {l : Launch} {g : pm_G} {A0 : pm_H} {K nn dn : Nat} {q : Nat → Nat} {w : Nat → Int32} {e : Nat → Nat → Int32} {v : Nat → Int32} {f : Nat → Nat → Int32}
set_option maxRecDepth 100000 in
set_option maxHeartbeats 2000000 in
theorem V_X7_hasName (hI : cw_I K nn dn q w e) (hs : cw_S v f) {o0 : Nat} (ho0 : cw_ro K o0) (x1 : Int32)  : pm_Mt l g 154 1 0 0 [.ref (q o0), .int x1] (cw A0 g K nn dn q w e v f) (md_Qp (cw A0 g K nn dn q w e v f) (fun r => (r = 1 ∧ (0 ≤ nextEq (e (o0 + 2)) x1 0 (w o0).toInt.toNat)) ∨ (r = 0 ∧ (¬ (0 ≤ nextEq (e (o0 + 2)) x1 0 (w o0).toInt.toNat))))) := by
  refine mt_X7_hasName rfl (fun J hC => ?_)
  have ro_nn : cw_ro K nn := hI.2.1.2.1
  have ro_dn : cw_ro K dn := hI.2.1.2.2.1
  have hu1 := hI.2.1
  unfold cw_W at hu1
  have rg_x1 := pm_rng x1
  have zz0 := cw_sz hI ho0
  refine hC.1 0 0 _ _ rfl _ _ _ _ _ ?_
  refine And.intro (Exists.intro _ (cw_ro_o hI.1 ho0)) (Exists.intro _ (Exists.intro _ (Exists.intro _ (Exists.intro _ (And.intro (F_X7_placeOf hI hs ho0 x1 ) (And.intro rfl (fun r9 A9 h9 => ?_)))))))
  obtain ⟨y2, rfl, rfl, by2⟩ := h9
  have yf_9 := FST_n (by omega) by2.2
  have km1 : (-1 : Int32).toInt = -1 := rfl
  refine And.intro (fun c4 => ?_) (fun c4 => ?_)
  · skip
    have dc4 : (y2).toInt = ((-1 : Int32) : Int32).toInt := congrArg Int32.toInt c4
    refine hC.1 1 13 _ _ rfl _ _ _ _ _ ?_
    have k0 : (0 : Int32).toInt = 0 := rfl
    refine hC.1 2 14 _ _ rfl _ _ _ _ _ ?_
    exact ⟨rfl, fun _ => (by decide), rfl, (0 : Int32), rfl, rfl, Or.inr ⟨rfl, by first | omega | (dsimp only; omega) | trivial⟩⟩
  · skip
    have dc4 := pm_neI c4
    have k1 : (1 : Int32).toInt = 1 := rfl
    refine hC.1 2 14 _ _ rfl _ _ _ _ _ ?_
    exact ⟨rfl, fun _ => (by decide), rfl, (1 : Int32), rfl, rfl, Or.inl ⟨rfl, by first | omega | (dsimp only; omega) | trivial⟩⟩

set_option maxRecDepth 100000 in
set_option maxHeartbeats 2000000 in
theorem V_X5_add (hI : cw_I K nn dn q w e) (hs : cw_S v f) (x1 : Int32) (x2 : Int32) (x3 : Int32)  : pm_Mt l g 159 0 0 0 [.ref (q 9), .int x1, .int x2, .int x3] (cw A0 g K nn dn q w e v f) (cw_Qt A0 g K nn dn q (fun r w2 e2 => e2 15 = e 15 ∧ (∃ x : Int32, r = some (.int x) ∧ (((w2 0).toInt = (w 0).toInt ∧ (w2 1).toInt = (w 1).toInt ∧ (w2 2).toInt = (w 2).toInt) ∧ ((∀ i9, 40 ≤ i9 → w2 i9 = w i9 ∧ e2 i9 = e i9) ∧ QST (0 ≤ (w 3).toInt ∧ (w 3).toInt < 30) x1 x2 x3 (w 3) (w2 3) x (e 35) (e 36) (e 37) (e 38) (e 39) (e2 35) (e2 36) (e2 37) (e2 38) (e2 39)))))) := by
  refine mt_X5_add rfl (fun J hC => ?_)
  have ro_nn : cw_ro K nn := hI.2.1.2.1
  have ro_dn : cw_ro K dn := hI.2.1.2.2.1
  have hu1 := hI.2.1
  unfold cw_W at hu1
  have rg_x1 := pm_rng x1
  have rg_x2 := pm_rng x2
  have rg_x3 := pm_rng x3
  refine hC.1 0 0 _ _ rfl _ _ _ _ _ ?_
  refine Exists.intro _ (And.intro (cw_o9 hI.1) ?_)
  refine And.intro (fun c2 => ?_) (fun c2 => ?_)
  · skip
    refine hC.1 1 16 _ _ rfl _ _ _ _ _ ?_
    have km1 : (-1 : Int32).toInt = -1 := rfl
    exact ⟨rfl, fun e9 => absurd e9 (by decide), rfl, w, e, v, f, rfl, hI, hs, rfl, (-1 : Int32), rfl, by first | omega | (dsimp only; omega) | trivial, by exact ⟨fun _ _ => ⟨rfl, rfl⟩, Or.inl ⟨fun h9 => (by omega), rfl, rfl, rfl, rfl, rfl, rfl, rfl⟩⟩⟩
  · skip
    refine Exists.intro _ (And.intro (cw_o9 hI.1) ?_)
    have k30 : (30 : Int32).toInt = 30 := rfl
    refine And.intro (fun c3 => ?_) (fun c3 => ?_)
    · skip
      refine hC.1 2 18 _ _ rfl _ _ _ _ _ ?_
      refine Exists.intro _ (And.intro (cw_o9 hI.1) ?_)
      refine Exists.intro _ (And.intro (cw_o9 hI.1) ?_)
      refine Exists.intro _ (Exists.intro _ (And.intro (cw_a35 hI.1) (And.intro (by omega) ?_)))
      rw [cw_s35 hI.1]
      obtain ⟨e4, ee4⟩ : ∃ z9, z9 = va_up e 35 (upd (e 35) ((w 3)).toInt.toNat x2) := ⟨_, rfl⟩
      rw [← ee4]
      have hI4 : cw_I K nn dn q w e4 := ⟨hI.1, hI.2.1, hI.2.2.1, by rw [ee4]; exact cw_E_up hI.2.2.2 _ _ (fun h9 _ => absurd h9 (by decide)) (fun h9 _ => absurd h9 (by decide))⟩
      have hx4 : e4 15 = e 15 := (show e4 15 = e 15 by rw [ee4]; exact if_neg (by omega)).trans rfl
      have pe_31 := ee4
      refine Exists.intro _ (And.intro (cw_o9 hI4.1) ?_)
      refine Exists.intro _ (Exists.intro _ (And.intro (cw_a36 hI4.1) (And.intro (by omega) ?_)))
      rw [cw_s36 hI4.1]
      obtain ⟨e5, ee5⟩ : ∃ z9, z9 = va_up e4 36 (upd (e4 36) ((w 3)).toInt.toNat x3) := ⟨_, rfl⟩
      rw [← ee5]
      have hI5 : cw_I K nn dn q w e5 := ⟨hI4.1, hI4.2.1, hI4.2.2.1, by rw [ee5]; exact cw_E_up hI4.2.2.2 _ _ (fun h9 _ => absurd h9 (by decide)) (fun h9 _ => absurd h9 (by decide))⟩
      have hx5 : e5 15 = e 15 := (show e5 15 = e4 15 by rw [ee5]; exact if_neg (by omega)).trans hx4
      have pe_39 := ee5
      refine Exists.intro _ (And.intro (cw_o9 hI5.1) ?_)
      refine Exists.intro _ (Exists.intro _ (And.intro (cw_a39 hI5.1) (And.intro (by omega) ?_)))
      rw [cw_s39 hI5.1]
      obtain ⟨e6, ee6⟩ : ∃ z9, z9 = va_up e5 39 (upd (e5 39) ((w 3)).toInt.toNat x1) := ⟨_, rfl⟩
      rw [← ee6]
      have hI6 : cw_I K nn dn q w e6 := ⟨hI5.1, hI5.2.1, hI5.2.2.1, by rw [ee6]; exact cw_E_up hI5.2.2.2 _ _ (fun h9 _ => absurd h9 (by decide)) (fun h9 _ => absurd h9 (by decide))⟩
      have hx6 : e6 15 = e 15 := (show e6 15 = e5 15 by rw [ee6]; exact if_neg (by omega)).trans hx5
      have pe_47 := ee6
      refine Exists.intro _ (And.intro (cw_o9 hI6.1) ?_)
      have km1 : (-1 : Int32).toInt = -1 := rfl
      refine Exists.intro _ (Exists.intro _ (And.intro (cw_a37 hI6.1) (And.intro (by omega) ?_)))
      rw [cw_s37 hI6.1]
      obtain ⟨e7, ee7⟩ : ∃ z9, z9 = va_up e6 37 (upd (e6 37) ((w 3)).toInt.toNat (-1 : Int32)) := ⟨_, rfl⟩
      rw [← ee7]
      have hI7 : cw_I K nn dn q w e7 := ⟨hI6.1, hI6.2.1, hI6.2.2.1, by rw [ee7]; exact cw_E_up hI6.2.2.2 _ _ (fun h9 _ => absurd h9 (by decide)) (fun h9 _ => absurd h9 (by decide))⟩
      have hx7 : e7 15 = e 15 := (show e7 15 = e6 15 by rw [ee7]; exact if_neg (by omega)).trans hx6
      have pe_55 := ee7
      refine Exists.intro _ (And.intro (cw_o9 hI7.1) ?_)
      refine Exists.intro _ (Exists.intro _ (And.intro (cw_a38 hI7.1) (And.intro (by omega) ?_)))
      rw [cw_s38 hI7.1]
      obtain ⟨e8, ee8⟩ : ∃ z9, z9 = va_up e7 38 (upd (e7 38) ((w 3)).toInt.toNat (-1 : Int32)) := ⟨_, rfl⟩
      rw [← ee8]
      have hI8 : cw_I K nn dn q w e8 := ⟨hI7.1, hI7.2.1, hI7.2.2.1, by rw [ee8]; exact cw_E_up hI7.2.2.2 _ _ (fun h9 _ => absurd h9 (by decide)) (fun h9 _ => absurd h9 (by decide))⟩
      have hx8 : e8 15 = e 15 := (show e8 15 = e7 15 by rw [ee8]; exact if_neg (by omega)).trans hx7
      have pe_63 := ee8
      refine Exists.intro _ (And.intro (cw_o9 hI8.1) ?_)
      have k1 : (1 : Int32).toInt = 1 := rfl
      intro m9 em_70
      try have e9 : m9.toInt = ((w 3)).toInt + (1) := by rw [em_70]; exact pm_addc _ _ (1) rfl (by omega) (by omega)
      refine Exists.intro _ (And.intro (cw_o9 hI8.1) (And.intro rfl ?_))
      rw [cw_p_number hI8.1]
      obtain ⟨w10, ew10⟩ : ∃ z9, z9 = upd w 3 m9 := ⟨_, rfl⟩
      rw [← ew10]
      have ew10_0 : (w10 0).toInt = (w 0).toInt := by rw [ew10]; rfl
      have ew10_1 : (w10 1).toInt = (w 1).toInt := by rw [ew10]; rfl
      have ew10_2 : (w10 2).toInt = (w 2).toInt := by rw [ew10]; rfl
      have ew10_3 : (w10 3).toInt = (m9).toInt := by rw [ew10]; rfl
      have pn_71 : w10 3 = m9 := by rw [ew10, pk_us]
      have pw_71 := ew10
      have hZ10 : cw_Z w10 := by rw [ew10]; exact cw_Z_up hI8.2.2.1 _ _ (by omega)
      have hI10 : cw_I K nn dn q w10 e8 := ⟨hI8.1, by unfold cw_W; omega, hZ10, hI8.2.2.2⟩
      exact ⟨rfl, fun e9 => absurd e9 (by decide), rfl, w10, e8, v, f, rfl, hI10, hs, hx8, (w 3), rfl, by first | omega | (dsimp only; omega) | trivial, by refine ⟨fun i9 h9 => ⟨by rw [pw_71, pk_un (by omega)], by rw [pe_63, va_un (by omega), pe_55, va_un (by omega), pe_47, va_un (by omega), pe_39, va_un (by omega), pe_31, va_un (by omega)]⟩, Or.inr ⟨by omega, (by rw [pw_71, pk_us] : w10 3 = _).trans em_70, rfl, ?_, ?_, ?_, ?_, ?_⟩⟩; (rw [pe_63, va_un (by decide), pe_55, va_un (by decide), pe_47, va_un (by decide), pe_39, va_un (by decide), pe_31, va_us]); (rw [pe_63, va_un (by decide), pe_55, va_un (by decide), pe_47, va_un (by decide), pe_39, va_us, pe_31, va_un (by decide)]); (rw [pe_63, va_un (by decide), pe_55, va_us, pe_47, va_un (by decide), pe_39, va_un (by decide), pe_31, va_un (by decide)]); (rw [pe_63, va_us, pe_55, va_un (by decide), pe_47, va_un (by decide), pe_39, va_un (by decide), pe_31, va_un (by decide)]); (rw [pe_63, va_un (by decide), pe_55, va_un (by decide), pe_47, va_us, pe_39, va_un (by decide), pe_31, va_un (by decide)])⟩
    · skip
      refine hC.1 1 16 _ _ rfl _ _ _ _ _ ?_
      have km1 : (-1 : Int32).toInt = -1 := rfl
      exact ⟨rfl, fun e9 => absurd e9 (by decide), rfl, w, e, v, f, rfl, hI, hs, rfl, (-1 : Int32), rfl, by first | omega | (dsimp only; omega) | trivial, by exact ⟨fun _ _ => ⟨rfl, rfl⟩, Or.inl ⟨fun h9 => (by omega), rfl, rfl, rfl, rfl, rfl, rfl, rfl⟩⟩⟩

set_option maxRecDepth 100000 in
set_option maxHeartbeats 2000000 in
theorem V_X10_ask (hI : cw_I K nn dn q w e) (hs : cw_S v f) (x1 : Int32) (x2 : Int32)  : pm_Mt l g 158 2 0 0 [.ref (q 0), .int x1, .int x2] (cw A0 g K nn dn q w e v f) (cw_Qt A0 g K nn dn q (fun r w2 e2 => e2 15 = e 15 ∧ (∃ x : Int32, r = some (.int x) ∧ (((w2 0).toInt = (w 0).toInt ∧ (w2 1).toInt = (w 1).toInt ∧ (w2 2).toInt = (w 2).toInt) ∧ ((∀ i9, 40 ≤ i9 → w2 i9 = w i9 ∧ e2 i9 = e i9) ∧ QST ((w 3).toInt < 30 ∧ 0 ≤ nextEq (e (nn + 2)) x1 0 (w nn).toInt.toNat ∧ 0 ≤ nextEq (e (nn + 2)) x2 0 (w nn).toInt.toNat) (-1) x1 x2 (w 3) (w2 3) x (e 35) (e 36) (e 37) (e 38) (e 39) (e2 35) (e2 36) (e2 37) (e2 38) (e2 39)))))) := by
  refine mt_X10_ask rfl (fun J hC => ?_)
  have ro_nn : cw_ro K nn := hI.2.1.2.1
  have ro_dn : cw_ro K dn := hI.2.1.2.2.1
  have hu1 := hI.2.1
  unfold cw_W at hu1
  have rg_x1 := pm_rng x1
  have rg_x2 := pm_rng x2
  refine hC.1 0 0 _ _ rfl _ _ _ _ _ ?_
  refine Exists.intro _ (And.intro (cw_o0 hI.1) ?_)
  refine Exists.intro _ (And.intro (cw_o1 hI.1) ?_)
  refine And.intro (Exists.intro _ (cw_ro_o hI.1 ro_nn)) (Exists.intro _ (Exists.intro _ (Exists.intro _ (Exists.intro _ (And.intro (V_X7_hasName hI hs ro_nn x1 ) (And.intro rfl (fun r9 A9 h9 => ?_)))))))
  rcases h9 with ⟨y2, rfl, rfl, ⟨rfl, by2⟩ | ⟨rfl, by2⟩⟩
  · skip
    have k1 : (1 : Int32).toInt = 1 := rfl
    have ya_9 := by2
    refine And.intro (fun c9 => absurd c9 (by decide)) (fun _ => ?_)
    refine And.intro (Exists.intro _ (cw_ro_o hI.1 ro_nn)) (Exists.intro _ (Exists.intro _ (Exists.intro _ (Exists.intro _ (And.intro (V_X7_hasName hI hs ro_nn x2 ) (And.intro rfl (fun r9 A9 h9 => ?_)))))))
    rcases h9 with ⟨y4, rfl, rfl, ⟨rfl, by4⟩ | ⟨rfl, by4⟩⟩
    · skip
      have yb_9 := by4
      refine And.intro (fun c9 => absurd c9 (by decide)) (fun _ => ?_)
      refine Exists.intro _ (And.intro (cw_o0 hI.1) ?_)
      have km1 : (-1 : Int32).toInt = -1 := rfl
      refine And.intro (Exists.intro _ (cw_o9 hI.1)) (Exists.intro _ (Exists.intro _ (Exists.intro _ (Exists.intro _ (And.intro (V_X5_add hI hs (-1 : Int32) x1 x2 ) (And.intro rfl (fun r9 A9 h9 => ?_)))))))
      rcases h9 with ⟨w7, e7, v7, f7, rfl, hI7, hs7, hy7, y6, rfl, by6⟩
      have hx7 : e7 15 = e 15 := hy7.trans rfl
      have hu8 := hI7.2.1
      unfold cw_W at hu8
      have hb_31 := by6.2
      refine hC.1 2 38 _ _ rfl _ _ _ _ _ ?_
      exact ⟨rfl, fun e9 => absurd e9 (by decide), rfl, w7, e7, v7, f7, rfl, hI7, hs7, hx7, y6, rfl, by first | omega | (dsimp only; omega) | trivial, by first | (exact ⟨hb_31.1, QST_i hb_31.2 ⟨fun h9 => ⟨h9.2, ya_9, yb_9⟩, fun h9 => (by omega)⟩⟩) | (exact ⟨fun _ _ => ⟨rfl, rfl⟩, Or.inl ⟨fun h9 => absurd h9.2.1 ya_9, rfl, rfl, rfl, rfl, rfl, rfl, rfl⟩⟩) | (exact ⟨fun _ _ => ⟨rfl, rfl⟩, Or.inl ⟨fun h9 => absurd h9.2.2 yb_9, rfl, rfl, rfl, rfl, rfl, rfl, rfl⟩⟩)⟩
    · skip
      have k0 : (0 : Int32).toInt = 0 := rfl
      have yb_9 := by4
      refine And.intro (fun _ => ?_) (fun c9 => absurd c9 (by decide))
      refine hC.1 1 37 _ _ rfl _ _ _ _ _ ?_
      have km1 : (-1 : Int32).toInt = -1 := rfl
      refine hC.1 2 38 _ _ rfl _ _ _ _ _ ?_
      exact ⟨rfl, fun e9 => absurd e9 (by decide), rfl, w, e, v, f, rfl, hI, hs, rfl, (-1 : Int32), rfl, by first | omega | (dsimp only; omega) | trivial, by first | (exact ⟨hb_31.1, QST_i hb_31.2 ⟨fun h9 => ⟨h9.2, ya_9, yb_9⟩, fun h9 => (by omega)⟩⟩) | (exact ⟨fun _ _ => ⟨rfl, rfl⟩, Or.inl ⟨fun h9 => absurd h9.2.1 ya_9, rfl, rfl, rfl, rfl, rfl, rfl, rfl⟩⟩) | (exact ⟨fun _ _ => ⟨rfl, rfl⟩, Or.inl ⟨fun h9 => absurd h9.2.2 yb_9, rfl, rfl, rfl, rfl, rfl, rfl, rfl⟩⟩)⟩
  · skip
    have k0 : (0 : Int32).toInt = 0 := rfl
    have ya_9 := by2
    refine And.intro (fun _ => ?_) (fun c9 => absurd c9 (by decide))
    refine hC.1 1 37 _ _ rfl _ _ _ _ _ ?_
    have km1 : (-1 : Int32).toInt = -1 := rfl
    refine hC.1 2 38 _ _ rfl _ _ _ _ _ ?_
    exact ⟨rfl, fun e9 => absurd e9 (by decide), rfl, w, e, v, f, rfl, hI, hs, rfl, (-1 : Int32), rfl, by first | omega | (dsimp only; omega) | trivial, by first | (exact ⟨hb_31.1, QST_i hb_31.2 ⟨fun h9 => ⟨h9.2, ya_9, yb_9⟩, fun h9 => (by omega)⟩⟩) | (exact ⟨fun _ _ => ⟨rfl, rfl⟩, Or.inl ⟨fun h9 => absurd h9.2.1 ya_9, rfl, rfl, rfl, rfl, rfl, rfl, rfl⟩⟩) | (exact ⟨fun _ _ => ⟨rfl, rfl⟩, Or.inl ⟨fun h9 => absurd h9.2.2 yb_9, rfl, rfl, rfl, rfl, rfl, rfl, rfl⟩⟩)⟩

set_option maxRecDepth 100000 in
set_option maxHeartbeats 2000000 in
theorem V_X10_askOf (hI : cw_I K nn dn q w e) (hs : cw_S v f) (x1 : Int32) (x2 : Int32) (x3 : Int32)  : pm_Mt l g 160 2 0 0 [.ref (q 0), .int x1, .int x2, .int x3] (cw A0 g K nn dn q w e v f) (cw_Qt A0 g K nn dn q (fun r w2 e2 => e2 15 = e 15 ∧ (∃ x : Int32, r = some (.int x) ∧ (((w2 0).toInt = (w 0).toInt ∧ (w2 1).toInt = (w 1).toInt ∧ (w2 2).toInt = (w 2).toInt) ∧ ((∀ i9, 40 ≤ i9 → w2 i9 = w i9 ∧ e2 i9 = e i9) ∧ QST ((w 3).toInt < 30 ∧ kno (w 0).toInt x1.toInt ∧ 0 ≤ nextEq (cM e x1.toInt) x2 0 (cN w x1.toInt).toNat ∧ 0 ≤ nextEq (cM e x1.toInt) x3 0 (cN w x1.toInt).toNat) x1 x2 x3 (w 3) (w2 3) x (e 35) (e 36) (e 37) (e 38) (e 39) (e2 35) (e2 36) (e2 37) (e2 38) (e2 39)))))) := by
  refine mt_X10_askOf rfl (fun J hC => ?_)
  have ro_nn : cw_ro K nn := hI.2.1.2.1
  have ro_dn : cw_ro K dn := hI.2.1.2.2.1
  have hu1 := hI.2.1
  unfold cw_W at hu1
  have rg_x1 := pm_rng x1
  have rg_x2 := pm_rng x2
  have rg_x3 := pm_rng x3
  refine hC.1 0 0 _ _ rfl _ _ _ _ _ ?_
  refine Exists.intro _ (And.intro (cw_o0 hI.1) ?_)
  refine And.intro (Exists.intro _ (cw_o1 hI.1)) (Exists.intro _ (Exists.intro _ (Exists.intro _ (Exists.intro _ (And.intro (F_X9_behind hI hs x1 ) (And.intro rfl (fun r9 A9 h9 => ?_)))))))
  rcases h9 with ⟨rfl, ⟨rfl, hn3⟩ | ⟨o3, rfl, ho3, hn3, he3⟩⟩
  · skip
    have kn_5 := hn3
    unfold kno at hn3
    refine hC.1 1 33 _ _ rfl _ _ _ _ _ ?_
    have km1 : (-1 : Int32).toInt = -1 := rfl
    exact ⟨rfl, fun e9 => absurd e9 (by decide), rfl, w, e, v, f, rfl, hI, hs, rfl, (-1 : Int32), rfl, by first | omega | (dsimp only; omega) | trivial, by first | (exact ⟨hb_42.1, QST_i hb_42.2 ⟨fun h9 => ⟨h9.2, kn_5, ya_9, yb_9⟩, fun h9 => (by omega)⟩⟩) | (exact ⟨fun _ _ => ⟨rfl, rfl⟩, Or.inl ⟨fun h9 => kn_5 h9.2.1, rfl, rfl, rfl, rfl, rfl, rfl, rfl⟩⟩) | (exact ⟨fun _ _ => ⟨rfl, rfl⟩, Or.inl ⟨fun h9 => ya_9 h9.2.2.1, rfl, rfl, rfl, rfl, rfl, rfl, rfl⟩⟩) | (exact ⟨fun _ _ => ⟨rfl, rfl⟩, Or.inl ⟨fun h9 => yb_9 h9.2.2.2, rfl, rfl, rfl, rfl, rfl, rfl, rfl⟩⟩)⟩
  · skip
    have kn_5 := hn3
    have ke_5 := he3
    have ko_5 : ∀ z9 : Nat, (z9 : Int) = 40 + 4 * ((x1).toInt % 41) → z9 = o3 := fun z9 h9 => (by omega)
    unfold kno at hn3
    have yo_9 : cro x1.toInt = o3 := ko_5 (cro x1.toInt) (cro_i kn_5.1)
    have yM_9 : cM e x1.toInt = e (o3 + 2) := (by unfold cM; rw [yo_9])
    have yN_9 : cN w x1.toInt = (w o3).toInt := (by unfold cN; rw [yo_9])
    refine And.intro (Exists.intro _ (cw_ro_o hI.1 ho3)) (Exists.intro _ (Exists.intro _ (Exists.intro _ (Exists.intro _ (And.intro (V_X7_hasName hI hs ho3 x2 ) (And.intro rfl (fun r9 A9 h9 => ?_)))))))
    rcases h9 with ⟨y4, rfl, rfl, ⟨rfl, by4⟩ | ⟨rfl, by4⟩⟩
    · skip
      have k1 : (1 : Int32).toInt = 1 := rfl
      have ya_9 := by4
      rw [← yM_9, ← yN_9] at ya_9
      refine And.intro (fun c9 => absurd c9 (by decide)) (fun _ => ?_)
      refine And.intro (Exists.intro _ (cw_ro_o hI.1 ho3)) (Exists.intro _ (Exists.intro _ (Exists.intro _ (Exists.intro _ (And.intro (V_X7_hasName hI hs ho3 x3 ) (And.intro rfl (fun r9 A9 h9 => ?_)))))))
      rcases h9 with ⟨y6, rfl, rfl, ⟨rfl, by6⟩ | ⟨rfl, by6⟩⟩
      · skip
        have yb_9 := by6
        rw [← yM_9, ← yN_9] at yb_9
        refine And.intro (fun _ => ?_) (fun c9 => absurd c9 (by decide))
        refine hC.1 2 35 _ _ rfl _ _ _ _ _ ?_
        refine Exists.intro _ (And.intro (cw_o0 hI.1) ?_)
        refine And.intro (Exists.intro _ (cw_o9 hI.1)) (Exists.intro _ (Exists.intro _ (Exists.intro _ (Exists.intro _ (And.intro (V_X5_add hI hs x1 x2 x3 ) (And.intro rfl (fun r9 A9 h9 => ?_)))))))
        rcases h9 with ⟨w9, e9, v9, f9, rfl, hI9, hs9, hy9, y8, rfl, by8⟩
        have hx9 : e9 15 = e 15 := hy9.trans rfl
        have hu10 := hI9.2.1
        unfold cw_W at hu10
        have hb_42 := by8.2
        exact ⟨rfl, fun e9 => absurd e9 (by decide), rfl, w9, e9, v9, f9, rfl, hI9, hs9, hx9, y8, rfl, by first | omega | (dsimp only; omega) | trivial, by first | (exact ⟨hb_42.1, QST_i hb_42.2 ⟨fun h9 => ⟨h9.2, kn_5, ya_9, yb_9⟩, fun h9 => (by omega)⟩⟩) | (exact ⟨fun _ _ => ⟨rfl, rfl⟩, Or.inl ⟨fun h9 => kn_5 h9.2.1, rfl, rfl, rfl, rfl, rfl, rfl, rfl⟩⟩) | (exact ⟨fun _ _ => ⟨rfl, rfl⟩, Or.inl ⟨fun h9 => ya_9 h9.2.2.1, rfl, rfl, rfl, rfl, rfl, rfl, rfl⟩⟩) | (exact ⟨fun _ _ => ⟨rfl, rfl⟩, Or.inl ⟨fun h9 => yb_9 h9.2.2.2, rfl, rfl, rfl, rfl, rfl, rfl, rfl⟩⟩)⟩
      · skip
        have k0 : (0 : Int32).toInt = 0 := rfl
        have yb_9 := by6
        rw [← yM_9, ← yN_9] at yb_9
        refine And.intro (fun c9 => absurd c9 (by decide)) (fun _ => ?_)
        refine hC.1 1 33 _ _ rfl _ _ _ _ _ ?_
        have km1 : (-1 : Int32).toInt = -1 := rfl
        exact ⟨rfl, fun e9 => absurd e9 (by decide), rfl, w, e, v, f, rfl, hI, hs, rfl, (-1 : Int32), rfl, by first | omega | (dsimp only; omega) | trivial, by first | (exact ⟨hb_42.1, QST_i hb_42.2 ⟨fun h9 => ⟨h9.2, kn_5, ya_9, yb_9⟩, fun h9 => (by omega)⟩⟩) | (exact ⟨fun _ _ => ⟨rfl, rfl⟩, Or.inl ⟨fun h9 => kn_5 h9.2.1, rfl, rfl, rfl, rfl, rfl, rfl, rfl⟩⟩) | (exact ⟨fun _ _ => ⟨rfl, rfl⟩, Or.inl ⟨fun h9 => ya_9 h9.2.2.1, rfl, rfl, rfl, rfl, rfl, rfl, rfl⟩⟩) | (exact ⟨fun _ _ => ⟨rfl, rfl⟩, Or.inl ⟨fun h9 => yb_9 h9.2.2.2, rfl, rfl, rfl, rfl, rfl, rfl, rfl⟩⟩)⟩
    · skip
      have k0 : (0 : Int32).toInt = 0 := rfl
      have ya_9 := by4
      rw [← yM_9, ← yN_9] at ya_9
      refine And.intro (fun _ => ?_) (fun c9 => absurd c9 (by decide))
      refine hC.1 1 33 _ _ rfl _ _ _ _ _ ?_
      have km1 : (-1 : Int32).toInt = -1 := rfl
      exact ⟨rfl, fun e9 => absurd e9 (by decide), rfl, w, e, v, f, rfl, hI, hs, rfl, (-1 : Int32), rfl, by first | omega | (dsimp only; omega) | trivial, by first | (exact ⟨hb_42.1, QST_i hb_42.2 ⟨fun h9 => ⟨h9.2, kn_5, ya_9, yb_9⟩, fun h9 => (by omega)⟩⟩) | (exact ⟨fun _ _ => ⟨rfl, rfl⟩, Or.inl ⟨fun h9 => kn_5 h9.2.1, rfl, rfl, rfl, rfl, rfl, rfl, rfl⟩⟩) | (exact ⟨fun _ _ => ⟨rfl, rfl⟩, Or.inl ⟨fun h9 => ya_9 h9.2.2.1, rfl, rfl, rfl, rfl, rfl, rfl, rfl⟩⟩) | (exact ⟨fun _ _ => ⟨rfl, rfl⟩, Or.inl ⟨fun h9 => yb_9 h9.2.2.2, rfl, rfl, rfl, rfl, rfl, rfl, rfl⟩⟩)⟩

set_option maxRecDepth 100000 in
set_option maxHeartbeats 2000000 in
theorem V_X10_forget (hI : cw_I K nn dn q w e) (hs : cw_S v f)   : pm_Mt l g 165 0 0 0 [.ref (q 0)] (cw A0 g K nn dn q w e v f) (cw_Qt A0 g K nn dn q (fun r w2 e2 => e2 15 = e 15 ∧ (∃ x : Int32, r = some (.int x) ∧ (((w2 0).toInt = (w 0).toInt ∧ (w2 1).toInt = (w 1).toInt ∧ (w2 2).toInt = (w 2).toInt) ∧ ((∀ i9, 40 ≤ i9 → w2 i9 = w i9 ∧ e2 i9 = e i9) ∧ (x = w 3 ∧ (w2 3).toInt = 0) ∧ ∀ i9, e2 i9 = e i9))))) := by
  refine mt_X10_forget rfl (fun J hC => ?_)
  have ro_nn : cw_ro K nn := hI.2.1.2.1
  have ro_dn : cw_ro K dn := hI.2.1.2.2.1
  have hu1 := hI.2.1
  unfold cw_W at hu1
  refine hC.1 0 0 _ _ rfl _ _ _ _ _ ?_
  refine Exists.intro _ (And.intro (cw_o0 hI.1) ?_)
  refine Exists.intro _ (And.intro (cw_o9 hI.1) ?_)
  refine Exists.intro _ (And.intro (cw_o0 hI.1) ?_)
  have k0 : (0 : Int32).toInt = 0 := rfl
  refine Exists.intro _ (And.intro (cw_o9 hI.1) (And.intro rfl ?_))
  rw [cw_p_number hI.1]
  obtain ⟨w2, ew2⟩ : ∃ z9, z9 = upd w 3 (0 : Int32) := ⟨_, rfl⟩
  rw [← ew2]
  have ew2_0 : (w2 0).toInt = (w 0).toInt := by rw [ew2]; rfl
  have ew2_1 : (w2 1).toInt = (w 1).toInt := by rw [ew2]; rfl
  have ew2_2 : (w2 2).toInt = (w 2).toInt := by rw [ew2]; rfl
  have ew2_3 : (w2 3).toInt = ((0 : Int32)).toInt := by rw [ew2]; rfl
  have pn_13 : w2 3 = (0 : Int32) := by rw [ew2, pk_us]
  have pw_13 := ew2
  have hZ2 : cw_Z w2 := by rw [ew2]; exact cw_Z_up hI.2.2.1 _ _ (by omega)
  have hI2 : cw_I K nn dn q w2 e := ⟨hI.1, by unfold cw_W; omega, hZ2, hI.2.2.2⟩
  exact ⟨rfl, fun e9 => absurd e9 (by decide), rfl, w2, e, v, f, rfl, hI2, hs, rfl, (w 3), rfl, by first | omega | (dsimp only; omega) | trivial, by exact ⟨fun i9 h9 => ⟨by rw [pw_13, pk_un (by omega)], rfl⟩, ⟨rfl, by rw [pw_13, pk_us]; rfl⟩, fun _ => rfl⟩⟩

set_option maxRecDepth 100000 in
set_option maxHeartbeats 2000000 in
theorem V_X5_answer (hI : cw_I K nn dn q w e) (hs : cw_S v f) (x1 : Int32) {o2 : Nat} (ho2 : cw_ro K o2) (p0 : 0 ≤ x1.toInt ∧ x1.toInt < 30) : pm_Mt l g 162 3 0 0 [.ref (q 9), .int x1, .ref (q o2), .ref (q 2)] (cw A0 g K nn dn q w e v f) (cw_Qt A0 g K nn dn q (fun r w2 e2 => e2 15 = e 15 ∧ ((r = some (.int 1) ∧ (((w2 0).toInt = (w 0).toInt ∧ (w2 1).toInt = (w 1).toInt ∧ (w2 2).toInt = (w 2).toInt ∧ (w2 3).toInt = (w 3).toInt) ∧ (w2 = w ∧ (∀ i9, i9 ≠ 37 → i9 ≠ 38 → e2 i9 = e i9) ∧ ∃ a9 b9 : Int32, e2 37 = upd (e 37) x1.toInt.toNat a9 ∧ e2 38 = upd (e 38) x1.toInt.toNat b9 ∧ ANR (e (o2 + 1)) (e (o2 + 2)) (e 15) (w o2).toInt (e 35 x1.toInt.toNat) (e 36 x1.toInt.toNat) a9 b9 ∧ ¬ a9 = -1))) ∨ (r = some (.int 0) ∧ (((w2 0).toInt = (w 0).toInt ∧ (w2 1).toInt = (w 1).toInt ∧ (w2 2).toInt = (w 2).toInt ∧ (w2 3).toInt = (w 3).toInt) ∧ (w2 = w ∧ (∀ i9, i9 ≠ 37 → i9 ≠ 38 → e2 i9 = e i9) ∧ ∃ a9 b9 : Int32, e2 37 = upd (e 37) x1.toInt.toNat a9 ∧ e2 38 = upd (e 38) x1.toInt.toNat b9 ∧ ANR (e (o2 + 1)) (e (o2 + 2)) (e 15) (w o2).toInt (e 35 x1.toInt.toNat) (e 36 x1.toInt.toNat) a9 b9 ∧ a9 = -1)))))) := by
  refine mt_X5_answer rfl (fun J hC => ?_)
  have ro_nn : cw_ro K nn := hI.2.1.2.1
  have ro_dn : cw_ro K dn := hI.2.1.2.2.1
  have hu1 := hI.2.1
  unfold cw_W at hu1
  have rg_x1 := pm_rng x1
  have yd_9 := ho2
  unfold cw_ro at yd_9
  have zz2 := cw_sz hI ho2
  refine hC.1 0 0 _ _ rfl _ _ _ _ _ ?_
  refine Exists.intro _ (And.intro (cw_o9 hI.1) ?_)
  have km1 : (-1 : Int32).toInt = -1 := rfl
  refine Exists.intro _ (Exists.intro _ (And.intro (cw_a37 hI.1) (And.intro (by omega) ?_)))
  rw [cw_s37 hI.1]
  obtain ⟨e2, ee2⟩ : ∃ z9, z9 = va_up e 37 (upd (e 37) (x1).toInt.toNat (-1 : Int32)) := ⟨_, rfl⟩
  rw [← ee2]
  have hI2 : cw_I K nn dn q w e2 := ⟨hI.1, hI.2.1, hI.2.2.1, by rw [ee2]; exact cw_E_up hI.2.2.2 _ _ (fun h9 _ => absurd h9 (by decide)) (fun h9 _ => absurd h9 (by decide))⟩
  have hx2 : e2 15 = e 15 := (show e2 15 = e 15 by rw [ee2]; exact if_neg (by omega)).trans rfl
  have pe_6 := ee2
  refine Exists.intro _ (And.intro (cw_o9 hI2.1) ?_)
  refine Exists.intro _ (Exists.intro _ (And.intro (cw_a38 hI2.1) (And.intro (by omega) ?_)))
  rw [cw_s38 hI2.1]
  obtain ⟨e3, ee3⟩ : ∃ z9, z9 = va_up e2 38 (upd (e2 38) (x1).toInt.toNat (-1 : Int32)) := ⟨_, rfl⟩
  rw [← ee3]
  have hI3 : cw_I K nn dn q w e3 := ⟨hI2.1, hI2.2.1, hI2.2.2.1, by rw [ee3]; exact cw_E_up hI2.2.2.2 _ _ (fun h9 _ => absurd h9 (by decide)) (fun h9 _ => absurd h9 (by decide))⟩
  have hx3 : e3 15 = e 15 := (show e3 15 = e2 15 by rw [ee3]; exact if_neg (by omega)).trans hx2
  have pe_13 := ee3
  refine hC.1 1 20 _ _ rfl _ _ _ _ _ ?_
  have en_9 : ∀ i9, i9 ≠ 37 → i9 ≠ 38 → e3 i9 = e i9 := fun i9 h9 h8 => (by rw [pe_13, va_un h8, pe_6, va_un h9])
  refine Exists.intro _ (And.intro (cw_o9 hI3.1) ?_)
  refine Exists.intro _ (Exists.intro _ (And.intro (Or.inl (cw_a35 hI3.1)) (And.intro (by omega) ?_)))
  refine And.intro (Exists.intro _ (cw_ro_o hI3.1 ho2)) (Exists.intro _ (Exists.intro _ (Exists.intro _ (Exists.intro _ (And.intro (F_X7_placeOf hI3 hs ho2 (e3 35 (x1).toInt.toNat) ) (And.intro rfl (fun r9 A9 h9 => ?_)))))))
  obtain ⟨y4, rfl, rfl, by4⟩ := h9
  have yp_9 := FST_n (by omega) by4.2
  have yp_8 := by4.1
  rw [en_9 (o2 + 2) (by omega) (by omega), en_9 35 (by decide) (by decide)] at yp_9
  refine Exists.intro _ (And.intro (cw_o9 hI3.1) ?_)
  refine Exists.intro _ (Exists.intro _ (And.intro (Or.inl (cw_a36 hI3.1)) (And.intro (by omega) ?_)))
  refine And.intro (Exists.intro _ (cw_ro_o hI3.1 ho2)) (Exists.intro _ (Exists.intro _ (Exists.intro _ (Exists.intro _ (And.intro (F_X7_placeOf hI3 hs ho2 (e3 36 (x1).toInt.toNat) ) (And.intro rfl (fun r9 A9 h9 => ?_)))))))
  obtain ⟨y6, rfl, rfl, by6⟩ := h9
  have yq_9 := FST_n (by omega) by6.2
  have yq_8 := by6.1
  rw [en_9 (o2 + 2) (by omega) (by omega), en_9 36 (by decide) (by decide)] at yq_9
  refine And.intro (fun c8 => ?_) (fun c8 => ?_)
  · skip
    have dc8 : (y4).toInt = ((-1 : Int32) : Int32).toInt := congrArg Int32.toInt c8
    refine hC.1 2 56 _ _ rfl _ _ _ _ _ ?_
    have k0 : (0 : Int32).toInt = 0 := rfl
    exact ⟨rfl, fun _ => (by decide), rfl, w, e3, v, f, rfl, hI3, hs, hx3, Or.inr ⟨rfl, by first | omega | (dsimp only; omega) | trivial, by exact ⟨rfl, fun i9 h9 h8 => (by rw [pe_13, va_un h8, pe_6, va_un h9]), -1, -1, (by rw [pe_13, va_un (by decide), pe_6, va_us]), (by rw [pe_13, va_us, pe_6, va_un (by decide)]), ANR_no yp_9 yq_9 (by omega) rfl rfl, rfl⟩⟩⟩
  · skip
    have dc8 := pm_neI c8
    refine And.intro (fun c9 => ?_) (fun c9 => ?_)
    · skip
      have dc9 := pm_neI c9
      refine hC.1 3 58 _ _ rfl _ _ _ _ _ ?_
      refine Exists.intro _ (Exists.intro _ (Exists.intro _ (Exists.intro _ (And.intro (c_J9_min_7cf53 (cw A0 g K nn dn q w e3 v f) y4 y6 ) (And.intro rfl (fun r9 A9 h9 => ?_))))))
      obtain ⟨y10, rfl, rfl, by10⟩ := h9
      refine Exists.intro _ (Exists.intro _ (Exists.intro _ (Exists.intro _ (And.intro (c_J9_max_7cf53 (cw A0 g K nn dn q w e3 v f) y4 y6 ) (And.intro rfl (fun r9 A9 h9 => ?_))))))
      obtain ⟨y12, rfl, rfl, by12⟩ := h9
      refine And.intro (Exists.intro _ (cw_o2 hI3.1)) (Exists.intro _ (Exists.intro _ (Exists.intro _ (Exists.intro _ (And.intro (F_X2_read hI3 hs ho2 y10 y12 (by omega)) (And.intro rfl (fun r9 A9 h9 => ?_)))))))
      rcases h9 with ⟨v15, f15, rfl, hs15, rfl, by14⟩
      have yr_9 := by14.2.1
      rw [en_9 (o2 + 1) (by omega) (by omega), en_9 15 (by decide) (by decide)] at yr_9
      have yk_9 := PAL_kd (fun j9 => cw_col hI ho2 j9) yr_9
      have ym_9 := PAL_ms (fun j9 => cw_col hI ho2 j9) yr_9
      refine Exists.intro _ (And.intro (cw_o9 hI3.1) ?_)
      refine Exists.intro _ (And.intro (cw_o2 hI3.1) ?_)
      refine Exists.intro _ (Exists.intro _ (And.intro (cw_a37 hI3.1) (And.intro (by omega) ?_)))
      rw [cw_s37 hI3.1]
      obtain ⟨e16, ee16⟩ : ∃ z9, z9 = va_up e3 37 (upd (e3 37) (x1).toInt.toNat (v15 2)) := ⟨_, rfl⟩
      rw [← ee16]
      have hI16 : cw_I K nn dn q w e16 := ⟨hI3.1, hI3.2.1, hI3.2.2.1, by rw [ee16]; exact cw_E_up hI3.2.2.2 _ _ (fun h9 _ => absurd h9 (by decide)) (fun h9 _ => absurd h9 (by decide))⟩
      have hx16 : e16 15 = e 15 := (show e16 15 = e3 15 by rw [ee16]; exact if_neg (by omega)).trans hx3
      have pe_86 := ee16
      refine Exists.intro _ (And.intro (cw_o9 hI16.1) ?_)
      refine Exists.intro _ (And.intro (cw_o2 hI16.1) ?_)
      refine Exists.intro _ (Exists.intro _ (And.intro (cw_a38 hI16.1) (And.intro (by omega) ?_)))
      rw [cw_s38 hI16.1]
      obtain ⟨e17, ee17⟩ : ∃ z9, z9 = va_up e16 38 (upd (e16 38) (x1).toInt.toNat (v15 4)) := ⟨_, rfl⟩
      rw [← ee17]
      have hI17 : cw_I K nn dn q w e17 := ⟨hI16.1, hI16.2.1, hI16.2.2.1, by rw [ee17]; exact cw_E_up hI16.2.2.2 _ _ (fun h9 _ => absurd h9 (by decide)) (fun h9 _ => absurd h9 (by decide))⟩
      have hx17 : e17 15 = e 15 := (show e17 15 = e16 15 by rw [ee17]; exact if_neg (by omega)).trans hx16
      have pe_96 := ee17
      have k1 : (1 : Int32).toInt = 1 := rfl
      exact ⟨rfl, fun _ => (by decide), rfl, w, e17, v15, f15, rfl, hI17, hs15, hx17, Or.inl ⟨rfl, by first | omega | (dsimp only; omega) | trivial, by exact ⟨rfl, fun i9 h9 h8 => (by rw [pe_96, va_un h8, pe_86, va_un h9, pe_13, va_un h8, pe_6, va_un h9]), _, _, (by rw [pe_96, va_un (by decide), pe_86, va_us, pe_13, va_un (by decide), pe_6, va_us, pk_uu]), (by rw [pe_96, va_us, pe_86, va_un (by decide), pe_13, va_us, pe_6, va_un (by decide), pk_uu]), ANR_yes yp_9 yq_9 (by omega) (by omega) yk_9 ym_9, m1_ne (by rw [yk_9]; omega)⟩⟩⟩
    · skip
      have dc9 : (y6).toInt = ((-1 : Int32) : Int32).toInt := congrArg Int32.toInt c9
      refine hC.1 2 56 _ _ rfl _ _ _ _ _ ?_
      have k0 : (0 : Int32).toInt = 0 := rfl
      exact ⟨rfl, fun _ => (by decide), rfl, w, e3, v, f, rfl, hI3, hs, hx3, Or.inr ⟨rfl, by first | omega | (dsimp only; omega) | trivial, by exact ⟨rfl, fun i9 h9 h8 => (by rw [pe_13, va_un h8, pe_6, va_un h9]), -1, -1, (by rw [pe_13, va_un (by decide), pe_6, va_us]), (by rw [pe_13, va_us, pe_6, va_un (by decide)]), ANR_no yp_9 yq_9 (by omega) rfl rfl, rfl⟩⟩⟩

set_option maxRecDepth 100000 in
set_option maxHeartbeats 2000000 in
theorem V_X5_answer__n (hI : cw_I K nn dn q w e) (hs : cw_S v f) (x1 : Int32) (p0 : 0 ≤ x1.toInt ∧ x1.toInt < 30) : pm_Mt l g 162 3 0 0 [.ref (q 9), .int x1, .null, .ref (q 2)] (cw A0 g K nn dn q w e v f) (cw_Qt A0 g K nn dn q (fun r w2 e2 => e2 15 = e 15 ∧ ((r = some (.int 1) ∧ (((w2 0).toInt = (w 0).toInt ∧ (w2 1).toInt = (w 1).toInt ∧ (w2 2).toInt = (w 2).toInt ∧ (w2 3).toInt = (w 3).toInt) ∧ (False))) ∨ (r = some (.int 0) ∧ (((w2 0).toInt = (w 0).toInt ∧ (w2 1).toInt = (w 1).toInt ∧ (w2 2).toInt = (w 2).toInt ∧ (w2 3).toInt = (w 3).toInt) ∧ (w2 = w ∧ (∀ i9, i9 ≠ 37 → i9 ≠ 38 → e2 i9 = e i9) ∧ (e2 37 = upd (e 37) x1.toInt.toNat (-1) ∧ e2 38 = upd (e 38) x1.toInt.toNat (-1)))))))) := by
  refine mt_X5_answer rfl (fun J hC => ?_)
  have ro_nn : cw_ro K nn := hI.2.1.2.1
  have ro_dn : cw_ro K dn := hI.2.1.2.2.1
  have hu1 := hI.2.1
  unfold cw_W at hu1
  have rg_x1 := pm_rng x1
  refine hC.1 0 0 _ _ rfl _ _ _ _ _ ?_
  refine Exists.intro _ (And.intro (cw_o9 hI.1) ?_)
  have km1 : (-1 : Int32).toInt = -1 := rfl
  refine Exists.intro _ (Exists.intro _ (And.intro (cw_a37 hI.1) (And.intro (by omega) ?_)))
  rw [cw_s37 hI.1]
  obtain ⟨e2, ee2⟩ : ∃ z9, z9 = va_up e 37 (upd (e 37) (x1).toInt.toNat (-1 : Int32)) := ⟨_, rfl⟩
  rw [← ee2]
  have hI2 : cw_I K nn dn q w e2 := ⟨hI.1, hI.2.1, hI.2.2.1, by rw [ee2]; exact cw_E_up hI.2.2.2 _ _ (fun h9 _ => absurd h9 (by decide)) (fun h9 _ => absurd h9 (by decide))⟩
  have hx2 : e2 15 = e 15 := (show e2 15 = e 15 by rw [ee2]; exact if_neg (by omega)).trans rfl
  have pe_6 := ee2
  refine Exists.intro _ (And.intro (cw_o9 hI2.1) ?_)
  refine Exists.intro _ (Exists.intro _ (And.intro (cw_a38 hI2.1) (And.intro (by omega) ?_)))
  rw [cw_s38 hI2.1]
  obtain ⟨e3, ee3⟩ : ∃ z9, z9 = va_up e2 38 (upd (e2 38) (x1).toInt.toNat (-1 : Int32)) := ⟨_, rfl⟩
  rw [← ee3]
  have hI3 : cw_I K nn dn q w e3 := ⟨hI2.1, hI2.2.1, hI2.2.2.1, by rw [ee3]; exact cw_E_up hI2.2.2.2 _ _ (fun h9 _ => absurd h9 (by decide)) (fun h9 _ => absurd h9 (by decide))⟩
  have hx3 : e3 15 = e 15 := (show e3 15 = e2 15 by rw [ee3]; exact if_neg (by omega)).trans hx2
  have pe_13 := ee3
  have k0 : (0 : Int32).toInt = 0 := rfl
  exact ⟨rfl, fun _ => (by decide), rfl, w, e3, v, f, rfl, hI3, hs, hx3, Or.inr ⟨rfl, by first | omega | (dsimp only; omega) | trivial, by exact ⟨rfl, fun i9 h9 h8 => (by rw [pe_13, va_un h8, pe_6, va_un h9]), (by rw [pe_13, va_un (by decide), pe_6, va_us]), (by rw [pe_13, va_us, pe_6, va_un (by decide)])⟩⟩⟩

end

end
section
section
variable {l : Launch} {g : pm_G} {A0 : pm_H} {K nn dn : Nat} {q : Nat → Nat} {w : Nat → Int32} {e : Nat → Nat → Int32} {v : Nat → Int32} {f : Nat → Nat → Int32}
set_option maxRecDepth 100000 in
set_option maxHeartbeats 2000000 in
theorem V_X10_solve (hI : cw_I K nn dn q w e) (hs : cw_S v f)   : pm_Mt l g 161 4 0 0 [.ref (q 0)] (cw A0 g K nn dn q w e v f) (cw_Qt A0 g K nn dn q (fun r w2 e2 => e2 15 = e 15 ∧ (∃ x : Int32, r = some (.int x) ∧ (((w2 0).toInt = (w 0).toInt ∧ (w2 1).toInt = (w 1).toInt ∧ (w2 2).toInt = (w 2).toInt ∧ (w2 3).toInt = (w 3).toInt) ∧ ((∀ i9, 40 ≤ i9 → w2 i9 = w i9 ∧ e2 i9 = e i9) ∧ (w2 3 = w 3 ∧ w2 2 = w 2 ∧ e2 35 = e 35 ∧ e2 36 = e 36 ∧ e2 39 = e 39) ∧ (∀ j9 : Nat, (j9 : Int) < (w 3).toInt → AKI (e (nn + 1)) (e (nn + 2)) (e 15) (w nn).toInt (w 0).toInt (cN w) (cC e) (cM e) (e 39 j9) (e 35 j9) (e 36 j9) (e2 37 j9) (e2 38 j9)) ∧ x.toInt = cnA (e2 37) (w 3).toInt.toNat))))) := by
  refine mt_X10_solve rfl (fun J hC => ?_)
  have ro_nn : cw_ro K nn := hI.2.1.2.1
  have ro_dn : cw_ro K dn := hI.2.1.2.2.1
  have hu1 := hI.2.1
  unfold cw_W at hu1
  refine hC.1 0 0 _ _ rfl _ _ _ _ _ ?_
  have k0 : (0 : Int32).toInt = 0 := rfl
  have lp3 : ∀ (n : Nat) (z1_4 : Int32) (z2_4 : Int32) (w2 : Nat → Int32) (e2 : Nat → Nat → Int32) (v2 : Nat → Int32) (f2 : Nat → Nat → Int32), cw_I K nn dn q w2 e2 → e2 15 = e 15 → cw_S v2 f2 → (0 ≤ z2_4.toInt ∧ z2_4.toInt ≤ (w 3).toInt) → (w2 = w ∧ ∀ i9, i9 ≠ 37 → i9 ≠ 38 → e2 i9 = e i9) → (0 ≤ z1_4.toInt ∧ z1_4.toInt ≤ z2_4.toInt ∧ z1_4.toInt = cnA (e2 37) z2_4.toInt.toNat) → (∀ j9 : Nat, (j9 : Int) < z2_4.toInt → AKI (e (nn + 1)) (e (nn + 2)) (e 15) (w nn).toInt (w 0).toInt (cN w) (cC e) (cM e) (e 39 j9) (e 35 j9) (e 36 j9) (e2 37 j9) (e2 38 j9)) → (w2 0).toInt = (w 0).toInt → (w2 1).toInt = (w 1).toInt → (w2 2).toInt = (w 2).toInt → (w2 3).toInt = (w 3).toInt → 200 - z2_4.toInt < (n : Int) → J 4 [some (.ref (q 0)), some (.int z1_4), some (.int z2_4), none, none] [] (cw A0 g K nn dn q w2 e2 v2 f2) 0 0 := by
    intro n
    induction n with
    | zero =>
      intro z1_4 z2_4 w2 e2 v2 f2 hI2 hx2 hs2 j0_4 j1_4 j2_4 j3_4 j4_4 j5_4 j6_4 j7_4 j8_4
      omega
    | succ n ih4 =>
      intro z1_4 z2_4 w2 e2 v2 f2 hI2 hx2 hs2 j0_4 j1_4 j2_4 j3_4 j4_4 j5_4 j6_4 j7_4 j8_4
      have en_9 := j1_4.2
      have ew_9 := j1_4.1
      have nn_9 := ro_nn
      unfold cw_ro at nn_9
      have e39_9 : e2 39 = e 39 := en_9 39 (by decide) (by decide)
      have e35_9 : e2 35 = e 35 := en_9 35 (by decide) (by decide)
      have e36_9 : e2 36 = e 36 := en_9 36 (by decide) (by decide)
      have e15_9 : e2 15 = e 15 := en_9 15 (by decide) (by decide)
      have hu5 := hI2.2.1
      unfold cw_W at hu5
      refine hC.1 1 4 _ _ rfl _ _ _ _ _ ?_
      refine Exists.intro _ (And.intro (cw_o0 hI2.1) ?_)
      refine Exists.intro _ (And.intro (cw_o9 hI2.1) ?_)
      refine And.intro (fun c6 => ?_) (fun c6 => ?_)
      · skip
        refine hC.1 5 76 _ _ rfl _ _ _ _ _ ?_
        exact ⟨rfl, fun e9 => absurd e9 (by decide), rfl, w2, e2, v2, f2, rfl, hI2, hs2, hx2, z1_4, rfl, by first | omega | (dsimp only; omega) | trivial, by exact ⟨fun i9 h9 => ⟨by rw [ew_9], en_9 i9 (by omega) (by omega)⟩, ⟨by rw [ew_9], by rw [ew_9], e35_9, e36_9, e39_9⟩, fun j9 h9 => j3_4 j9 (by rw [← ew_9] at h9; omega), by rw [show (w 3).toInt.toNat = z2_4.toInt.toNat by (rw [← ew_9]; omega)]; exact j2_4.2.2⟩⟩
      · skip
        refine Exists.intro _ (And.intro (cw_o0 hI2.1) ?_)
        refine Exists.intro _ (And.intro (cw_o9 hI2.1) ?_)
        refine Exists.intro _ (Exists.intro _ (And.intro (Or.inl (cw_a39 hI2.1)) (And.intro (by omega) ?_)))
        have km1 : (-1 : Int32).toInt = -1 := rfl
        refine And.intro (fun c7 => ?_) (fun c7 => ?_)
        · skip
          have dc7 := pm_neI c7
          refine hC.1 2 40 _ _ rfl _ _ _ _ _ ?_
          refine Exists.intro _ (And.intro (cw_o0 hI2.1) ?_)
          refine And.intro (Exists.intro _ (cw_o1 hI2.1)) (Exists.intro _ (Exists.intro _ (Exists.intro _ (Exists.intro _ (And.intro (F_X9_behind hI2 hs2 (e2 39 (z2_4).toInt.toNat) ) (And.intro rfl (fun r9 A9 h9 => ?_)))))))
          rcases h9 with ⟨rfl, ⟨rfl, hn9⟩ | ⟨o9, rfl, ho9, hn9, he9⟩⟩
          · skip
            have kn_45 := hn9
            unfold kno at hn9
            refine hC.1 3 48 _ _ rfl _ _ _ _ _ ?_
            refine Exists.intro _ (And.intro (cw_o0 hI2.1) ?_)
            refine Exists.intro _ (And.intro (cw_o0 hI2.1) ?_)
            refine And.intro (Exists.intro _ (cw_o9 hI2.1)) (Exists.intro _ (Exists.intro _ (Exists.intro _ (Exists.intro _ (And.intro (V_X5_answer__n hI2 hs2 z2_4 (by omega)) (And.intro rfl (fun r9 A9 h9 => ?_)))))))
            rcases h9 with ⟨w11, e11, v11, f11, rfl, hI11, hs11, hy11, hzy10⟩
            have hx11 : e11 15 = e 15 := hy11.trans hx2
            have hu12 := hI11.2.1
            unfold cw_W at hu12
            rcases hzy10 with ⟨rfl, by10⟩ | ⟨rfl, by10⟩
            · skip
              have k1 : (1 : Int32).toInt = 1 := rfl
              have hb_61 := by10.2
              refine And.intro (fun c9 => absurd c9 (by decide)) (fun _ => ?_)
              intro m13 em_67
              try have e13 : m13.toInt = (z1_4).toInt + (1) := by rw [em_67]; exact pm_addc _ _ (1) rfl (by omega) (by omega)
              refine hC.1 4 70 _ _ rfl _ _ _ _ _ ?_
              intro m14 em_70
              try have e14 : m14.toInt = (z2_4).toInt + (1) := by rw [em_70]; exact pm_addc _ _ (1) rfl (by omega) (by omega)
              exact hC.2 [false, false, false, true, true] _ _ _ _ _ _ (ih4 m13 m14 w11 e11 v11 f11 hI11 hx11 hs11 (by omega) (by exact ⟨hb_61.1.trans ew_9, fun i9 h9 h8 => (hb_61.2.1 i9 h9 h8).trans (en_9 i9 h9 h8)⟩) (by refine ⟨by omega, by omega, ?_⟩; rw [show m14.toInt.toNat = z2_4.toInt.toNat + 1 by omega]; first | (exact hb_61.elim) | (rw [cnA_0 hb_61.2.2.1 rfl]; omega) | (obtain ⟨a8, b8, g1, g2, g3, g4⟩ := hb_61.2.2; first | (rw [cnA_1 g1 g4]; omega) | (rw [cnA_0 g1 g4]; omega))) (by first | (exact hb_61.elim) | (intro j9 h9; by_cases h8 : j9 = z2_4.toInt.toNat; (subst h8; first | (obtain ⟨a8, b8, g1, g2, g3, g4⟩ := hb_61.2.2; rw [g1, g2, pk_us, pk_us]; first | (exact Or.inl ⟨by rw [← e39_9]; omega, (ANR_e g3 (en_9 _ (by omega) (by omega)) (en_9 _ (by omega) (by omega)) e15_9 (by rw [ew_9]) (by rw [e35_9]) (by rw [e36_9]))⟩) | (exact AKI_row (by rw [← e39_9]; omega) (by rw [← e39_9, ← ew_9]; exact kn_44) yo_9 (ANR_e g3 (en_9 _ (by omega) (by omega)) (en_9 _ (by omega) (by omega)) e15_9 (by rw [ew_9]) (by rw [e35_9]) (by rw [e36_9])))) | (rw [hb_61.2.2.1, hb_61.2.2.2, pk_us, pk_us]; exact Or.inr (Or.inr ⟨by rw [← e39_9]; omega, by rw [← e39_9, ← ew_9]; exact kn_44, rfl, rfl⟩))); (first | (obtain ⟨a8, b8, g1, g2, g3, g4⟩ := hb_61.2.2; rw [g1, g2, pk_un h8, pk_un h8]; exact j3_4 j9 (by omega)) | (rw [hb_61.2.2.1, hb_61.2.2.2, pk_un h8, pk_un h8]; exact j3_4 j9 (by omega))))) (by omega) (by omega) (by omega) (by omega) (by omega))
            · skip
              have hb_61 := by10.2
              refine And.intro (fun _ => ?_) (fun c9 => absurd c9 (by decide))
              refine hC.1 4 70 _ _ rfl _ _ _ _ _ ?_
              have k1 : (1 : Int32).toInt = 1 := rfl
              intro m15 em_70
              try have e15 : m15.toInt = (z2_4).toInt + (1) := by rw [em_70]; exact pm_addc _ _ (1) rfl (by omega) (by omega)
              exact hC.2 [false, false, false, true, true] _ _ _ _ _ _ (ih4 z1_4 m15 w11 e11 v11 f11 hI11 hx11 hs11 (by omega) (by exact ⟨hb_61.1.trans ew_9, fun i9 h9 h8 => (hb_61.2.1 i9 h9 h8).trans (en_9 i9 h9 h8)⟩) (by refine ⟨by omega, by omega, ?_⟩; rw [show m15.toInt.toNat = z2_4.toInt.toNat + 1 by omega]; first | (exact hb_61.elim) | (rw [cnA_0 hb_61.2.2.1 rfl]; omega) | (obtain ⟨a8, b8, g1, g2, g3, g4⟩ := hb_61.2.2; first | (rw [cnA_1 g1 g4]; omega) | (rw [cnA_0 g1 g4]; omega))) (by first | (exact hb_61.elim) | (intro j9 h9; by_cases h8 : j9 = z2_4.toInt.toNat; (subst h8; first | (obtain ⟨a8, b8, g1, g2, g3, g4⟩ := hb_61.2.2; rw [g1, g2, pk_us, pk_us]; first | (exact Or.inl ⟨by rw [← e39_9]; omega, (ANR_e g3 (en_9 _ (by omega) (by omega)) (en_9 _ (by omega) (by omega)) e15_9 (by rw [ew_9]) (by rw [e35_9]) (by rw [e36_9]))⟩) | (exact AKI_row (by rw [← e39_9]; omega) (by rw [← e39_9, ← ew_9]; exact kn_44) yo_9 (ANR_e g3 (en_9 _ (by omega) (by omega)) (en_9 _ (by omega) (by omega)) e15_9 (by rw [ew_9]) (by rw [e35_9]) (by rw [e36_9])))) | (rw [hb_61.2.2.1, hb_61.2.2.2, pk_us, pk_us]; exact Or.inr (Or.inr ⟨by rw [← e39_9]; omega, by rw [← e39_9, ← ew_9]; exact kn_44, rfl, rfl⟩))); (first | (obtain ⟨a8, b8, g1, g2, g3, g4⟩ := hb_61.2.2; rw [g1, g2, pk_un h8, pk_un h8]; exact j3_4 j9 (by omega)) | (rw [hb_61.2.2.1, hb_61.2.2.2, pk_un h8, pk_un h8]; exact j3_4 j9 (by omega))))) (by omega) (by omega) (by omega) (by omega) (by omega))
          · skip
            have kn_45 := hn9
            have ke_45 := he9
            have ko_45 : ∀ z9 : Nat, (z9 : Int) = 40 + 4 * (((e2 39 (z2_4).toInt.toNat)).toInt % 41) → z9 = o9 := fun z9 h9 => (by omega)
            unfold kno at hn9
            refine hC.1 3 48 _ _ rfl _ _ _ _ _ ?_
            refine Exists.intro _ (And.intro (cw_o0 hI2.1) ?_)
            refine Exists.intro _ (And.intro (cw_o0 hI2.1) ?_)
            refine And.intro (Exists.intro _ (cw_o9 hI2.1)) (Exists.intro _ (Exists.intro _ (Exists.intro _ (Exists.intro _ (And.intro (V_X5_answer hI2 hs2 z2_4 ho9 (by omega)) (And.intro rfl (fun r9 A9 h9 => ?_)))))))
            rcases h9 with ⟨w17, e17, v17, f17, rfl, hI17, hs17, hy17, hzy16⟩
            have hx17 : e17 15 = e 15 := hy17.trans hx2
            have hu18 := hI17.2.1
            unfold cw_W at hu18
            rcases hzy16 with ⟨rfl, by16⟩ | ⟨rfl, by16⟩
            · skip
              have k1 : (1 : Int32).toInt = 1 := rfl
              have hb_61 := by16.2
              refine And.intro (fun c9 => absurd c9 (by decide)) (fun _ => ?_)
              intro m19 em_67
              try have e19 : m19.toInt = (z1_4).toInt + (1) := by rw [em_67]; exact pm_addc _ _ (1) rfl (by omega) (by omega)
              refine hC.1 4 70 _ _ rfl _ _ _ _ _ ?_
              intro m20 em_70
              try have e20 : m20.toInt = (z2_4).toInt + (1) := by rw [em_70]; exact pm_addc _ _ (1) rfl (by omega) (by omega)
              exact hC.2 [false, false, false, true, true] _ _ _ _ _ _ (ih4 m19 m20 w17 e17 v17 f17 hI17 hx17 hs17 (by omega) (by exact ⟨hb_61.1.trans ew_9, fun i9 h9 h8 => (hb_61.2.1 i9 h9 h8).trans (en_9 i9 h9 h8)⟩) (by refine ⟨by omega, by omega, ?_⟩; rw [show m20.toInt.toNat = z2_4.toInt.toNat + 1 by omega]; first | (exact hb_61.elim) | (rw [cnA_0 hb_61.2.2.1 rfl]; omega) | (obtain ⟨a8, b8, g1, g2, g3, g4⟩ := hb_61.2.2; first | (rw [cnA_1 g1 g4]; omega) | (rw [cnA_0 g1 g4]; omega))) (by first | (exact hb_61.elim) | (intro j9 h9; by_cases h8 : j9 = z2_4.toInt.toNat; (subst h8; first | (obtain ⟨a8, b8, g1, g2, g3, g4⟩ := hb_61.2.2; rw [g1, g2, pk_us, pk_us]; first | (exact Or.inl ⟨by rw [← e39_9]; omega, (ANR_e g3 (en_9 _ (by omega) (by omega)) (en_9 _ (by omega) (by omega)) e15_9 (by rw [ew_9]) (by rw [e35_9]) (by rw [e36_9]))⟩) | (exact AKI_row (by rw [← e39_9]; omega) (by rw [← e39_9, ← ew_9]; exact kn_44) yo_9 (ANR_e g3 (en_9 _ (by omega) (by omega)) (en_9 _ (by omega) (by omega)) e15_9 (by rw [ew_9]) (by rw [e35_9]) (by rw [e36_9])))) | (rw [hb_61.2.2.1, hb_61.2.2.2, pk_us, pk_us]; exact Or.inr (Or.inr ⟨by rw [← e39_9]; omega, by rw [← e39_9, ← ew_9]; exact kn_44, rfl, rfl⟩))); (first | (obtain ⟨a8, b8, g1, g2, g3, g4⟩ := hb_61.2.2; rw [g1, g2, pk_un h8, pk_un h8]; exact j3_4 j9 (by omega)) | (rw [hb_61.2.2.1, hb_61.2.2.2, pk_un h8, pk_un h8]; exact j3_4 j9 (by omega))))) (by omega) (by omega) (by omega) (by omega) (by omega))
            · skip
              have hb_61 := by16.2
              refine And.intro (fun _ => ?_) (fun c9 => absurd c9 (by decide))
              refine hC.1 4 70 _ _ rfl _ _ _ _ _ ?_
              have k1 : (1 : Int32).toInt = 1 := rfl
              intro m21 em_70
              try have e21 : m21.toInt = (z2_4).toInt + (1) := by rw [em_70]; exact pm_addc _ _ (1) rfl (by omega) (by omega)
              exact hC.2 [false, false, false, true, true] _ _ _ _ _ _ (ih4 z1_4 m21 w17 e17 v17 f17 hI17 hx17 hs17 (by omega) (by exact ⟨hb_61.1.trans ew_9, fun i9 h9 h8 => (hb_61.2.1 i9 h9 h8).trans (en_9 i9 h9 h8)⟩) (by refine ⟨by omega, by omega, ?_⟩; rw [show m21.toInt.toNat = z2_4.toInt.toNat + 1 by omega]; first | (exact hb_61.elim) | (rw [cnA_0 hb_61.2.2.1 rfl]; omega) | (obtain ⟨a8, b8, g1, g2, g3, g4⟩ := hb_61.2.2; first | (rw [cnA_1 g1 g4]; omega) | (rw [cnA_0 g1 g4]; omega))) (by first | (exact hb_61.elim) | (intro j9 h9; by_cases h8 : j9 = z2_4.toInt.toNat; (subst h8; first | (obtain ⟨a8, b8, g1, g2, g3, g4⟩ := hb_61.2.2; rw [g1, g2, pk_us, pk_us]; first | (exact Or.inl ⟨by rw [← e39_9]; omega, (ANR_e g3 (en_9 _ (by omega) (by omega)) (en_9 _ (by omega) (by omega)) e15_9 (by rw [ew_9]) (by rw [e35_9]) (by rw [e36_9]))⟩) | (exact AKI_row (by rw [← e39_9]; omega) (by rw [← e39_9, ← ew_9]; exact kn_44) yo_9 (ANR_e g3 (en_9 _ (by omega) (by omega)) (en_9 _ (by omega) (by omega)) e15_9 (by rw [ew_9]) (by rw [e35_9]) (by rw [e36_9])))) | (rw [hb_61.2.2.1, hb_61.2.2.2, pk_us, pk_us]; exact Or.inr (Or.inr ⟨by rw [← e39_9]; omega, by rw [← e39_9, ← ew_9]; exact kn_44, rfl, rfl⟩))); (first | (obtain ⟨a8, b8, g1, g2, g3, g4⟩ := hb_61.2.2; rw [g1, g2, pk_un h8, pk_un h8]; exact j3_4 j9 (by omega)) | (rw [hb_61.2.2.1, hb_61.2.2.2, pk_un h8, pk_un h8]; exact j3_4 j9 (by omega))))) (by omega) (by omega) (by omega) (by omega) (by omega))
        · skip
          have dc7 : ((e2 39 (z2_4).toInt.toNat)).toInt = ((-1 : Int32) : Int32).toInt := congrArg Int32.toInt c7
          refine Exists.intro _ (And.intro (cw_o0 hI2.1) ?_)
          refine Exists.intro _ (And.intro (cw_o1 hI2.1) ?_)
          refine hC.1 3 48 _ _ rfl _ _ _ _ _ ?_
          refine Exists.intro _ (And.intro (cw_o0 hI2.1) ?_)
          refine Exists.intro _ (And.intro (cw_o0 hI2.1) ?_)
          refine And.intro (Exists.intro _ (cw_o9 hI2.1)) (Exists.intro _ (Exists.intro _ (Exists.intro _ (Exists.intro _ (And.intro (V_X5_answer hI2 hs2 z2_4 ro_nn (by omega)) (And.intro rfl (fun r9 A9 h9 => ?_)))))))
          rcases h9 with ⟨w23, e23, v23, f23, rfl, hI23, hs23, hy23, hzy22⟩
          have hx23 : e23 15 = e 15 := hy23.trans hx2
          have hu24 := hI23.2.1
          unfold cw_W at hu24
          rcases hzy22 with ⟨rfl, by22⟩ | ⟨rfl, by22⟩
          · skip
            have k1 : (1 : Int32).toInt = 1 := rfl
            have hb_61 := by22.2
            refine And.intro (fun c9 => absurd c9 (by decide)) (fun _ => ?_)
            intro m25 em_67
            try have e25 : m25.toInt = (z1_4).toInt + (1) := by rw [em_67]; exact pm_addc _ _ (1) rfl (by omega) (by omega)
            refine hC.1 4 70 _ _ rfl _ _ _ _ _ ?_
            intro m26 em_70
            try have e26 : m26.toInt = (z2_4).toInt + (1) := by rw [em_70]; exact pm_addc _ _ (1) rfl (by omega) (by omega)
            exact hC.2 [false, false, false, true, true] _ _ _ _ _ _ (ih4 m25 m26 w23 e23 v23 f23 hI23 hx23 hs23 (by omega) (by exact ⟨hb_61.1.trans ew_9, fun i9 h9 h8 => (hb_61.2.1 i9 h9 h8).trans (en_9 i9 h9 h8)⟩) (by refine ⟨by omega, by omega, ?_⟩; rw [show m26.toInt.toNat = z2_4.toInt.toNat + 1 by omega]; first | (exact hb_61.elim) | (rw [cnA_0 hb_61.2.2.1 rfl]; omega) | (obtain ⟨a8, b8, g1, g2, g3, g4⟩ := hb_61.2.2; first | (rw [cnA_1 g1 g4]; omega) | (rw [cnA_0 g1 g4]; omega))) (by first | (exact hb_61.elim) | (intro j9 h9; by_cases h8 : j9 = z2_4.toInt.toNat; (subst h8; first | (obtain ⟨a8, b8, g1, g2, g3, g4⟩ := hb_61.2.2; rw [g1, g2, pk_us, pk_us]; first | (exact Or.inl ⟨by rw [← e39_9]; omega, (ANR_e g3 (en_9 _ (by omega) (by omega)) (en_9 _ (by omega) (by omega)) e15_9 (by rw [ew_9]) (by rw [e35_9]) (by rw [e36_9]))⟩) | (exact AKI_row (by rw [← e39_9]; omega) (by rw [← e39_9, ← ew_9]; exact kn_44) yo_9 (ANR_e g3 (en_9 _ (by omega) (by omega)) (en_9 _ (by omega) (by omega)) e15_9 (by rw [ew_9]) (by rw [e35_9]) (by rw [e36_9])))) | (rw [hb_61.2.2.1, hb_61.2.2.2, pk_us, pk_us]; exact Or.inr (Or.inr ⟨by rw [← e39_9]; omega, by rw [← e39_9, ← ew_9]; exact kn_44, rfl, rfl⟩))); (first | (obtain ⟨a8, b8, g1, g2, g3, g4⟩ := hb_61.2.2; rw [g1, g2, pk_un h8, pk_un h8]; exact j3_4 j9 (by omega)) | (rw [hb_61.2.2.1, hb_61.2.2.2, pk_un h8, pk_un h8]; exact j3_4 j9 (by omega))))) (by omega) (by omega) (by omega) (by omega) (by omega))
          · skip
            have hb_61 := by22.2
            refine And.intro (fun _ => ?_) (fun c9 => absurd c9 (by decide))
            refine hC.1 4 70 _ _ rfl _ _ _ _ _ ?_
            have k1 : (1 : Int32).toInt = 1 := rfl
            intro m27 em_70
            try have e27 : m27.toInt = (z2_4).toInt + (1) := by rw [em_70]; exact pm_addc _ _ (1) rfl (by omega) (by omega)
            exact hC.2 [false, false, false, true, true] _ _ _ _ _ _ (ih4 z1_4 m27 w23 e23 v23 f23 hI23 hx23 hs23 (by omega) (by exact ⟨hb_61.1.trans ew_9, fun i9 h9 h8 => (hb_61.2.1 i9 h9 h8).trans (en_9 i9 h9 h8)⟩) (by refine ⟨by omega, by omega, ?_⟩; rw [show m27.toInt.toNat = z2_4.toInt.toNat + 1 by omega]; first | (exact hb_61.elim) | (rw [cnA_0 hb_61.2.2.1 rfl]; omega) | (obtain ⟨a8, b8, g1, g2, g3, g4⟩ := hb_61.2.2; first | (rw [cnA_1 g1 g4]; omega) | (rw [cnA_0 g1 g4]; omega))) (by first | (exact hb_61.elim) | (intro j9 h9; by_cases h8 : j9 = z2_4.toInt.toNat; (subst h8; first | (obtain ⟨a8, b8, g1, g2, g3, g4⟩ := hb_61.2.2; rw [g1, g2, pk_us, pk_us]; first | (exact Or.inl ⟨by rw [← e39_9]; omega, (ANR_e g3 (en_9 _ (by omega) (by omega)) (en_9 _ (by omega) (by omega)) e15_9 (by rw [ew_9]) (by rw [e35_9]) (by rw [e36_9]))⟩) | (exact AKI_row (by rw [← e39_9]; omega) (by rw [← e39_9, ← ew_9]; exact kn_44) yo_9 (ANR_e g3 (en_9 _ (by omega) (by omega)) (en_9 _ (by omega) (by omega)) e15_9 (by rw [ew_9]) (by rw [e35_9]) (by rw [e36_9])))) | (rw [hb_61.2.2.1, hb_61.2.2.2, pk_us, pk_us]; exact Or.inr (Or.inr ⟨by rw [← e39_9]; omega, by rw [← e39_9, ← ew_9]; exact kn_44, rfl, rfl⟩))); (first | (obtain ⟨a8, b8, g1, g2, g3, g4⟩ := hb_61.2.2; rw [g1, g2, pk_un h8, pk_un h8]; exact j3_4 j9 (by omega)) | (rw [hb_61.2.2.1, hb_61.2.2.2, pk_un h8, pk_un h8]; exact j3_4 j9 (by omega))))) (by omega) (by omega) (by omega) (by omega) (by omega))
  exact lp3 (200 - (0 : Int32).toInt).toNat.succ (0 : Int32) (0 : Int32) w e v f hI rfl hs (by omega) (by exact ⟨rfl, fun _ _ _ => rfl⟩) (by exact ⟨by omega, by omega, rfl⟩) (by intro j9 h9; omega) (by omega) (by omega) (by omega) (by omega) (by omega)

set_option maxRecDepth 100000 in
set_option maxHeartbeats 2000000 in
theorem V_X10_about (hI : cw_I K nn dn q w e) (hs : cw_S v f) (x1 : Int32)  : pm_Mt l g 53 4 0 0 [.ref (q 0), .int x1] (cw A0 g K nn dn q w e v f) (cw_Qs A0 g K nn dn q w e (fun r v2 f2 => ∃ x : Int32, r = some (.int x) ∧ ((True) ∧ (x.toInt = ABT (w nn) (w 1) (w 0) (w 2) (w 3) (e (nn + 1)) x1.toInt)))) := by
  refine mt_X10_about rfl (fun J hC => ?_)
  have ro_nn : cw_ro K nn := hI.2.1.2.1
  have ro_dn : cw_ro K dn := hI.2.1.2.2.1
  have hu1 := hI.2.1
  unfold cw_W at hu1
  have rg_x1 := pm_rng x1
  have zz0 := cw_sz hI ro_nn
  refine hC.1 0 0 _ _ rfl _ _ _ _ _ ?_
  refine pm_swc 6 rfl (by decide) ?_ ?_
  · intro _
    refine hC.1 7 108 _ _ rfl _ _ _ _ _ ?_
    have km1 : (-1 : Int32).toInt = -1 := rfl
    exact ⟨rfl, fun e9 => absurd e9 (by decide), rfl, v, f, rfl, hs, (-1 : Int32), rfl, by exact True.intro, by first | (exact (ABT_0 (by omega)).symm) | (rw [ABT_1 (by omega)]; refine yf_9.trans ?_; congr 3 <;> omega) | (exact (ABT_2 (by omega)).symm) | (exact (ABT_3 (by omega)).symm) | (exact (ABT_4 (by omega)).symm) | (exact (ABT_5 (by omega)).symm) | (exact (ABT_d (by omega)).symm)⟩
  · intro i9 hi9 he9
    rcases (show i9 = 0 ∨ i9 = 1 ∨ i9 = 2 ∨ i9 = 3 ∨ i9 = 4 ∨ i9 = 5 by omega) with rfl | rfl | rfl | rfl | rfl | rfl
    · skip
      refine hC.1 1 40 _ _ rfl _ _ _ _ _ ?_
      refine Exists.intro _ (And.intro (cw_o0 hI.1) ?_)
      refine Exists.intro _ (And.intro (cw_o1 hI.1) ?_)
      refine Exists.intro _ (And.intro (cw_ro_o hI.1 ro_nn) ?_)
      have z4 := cw_sz hI ro_nn
      exact ⟨rfl, fun e9 => absurd e9 (by decide), rfl, v, f, rfl, hs, (w nn), rfl, by exact True.intro, by first | (exact (ABT_0 (by omega)).symm) | (rw [ABT_1 (by omega)]; refine yf_9.trans ?_; congr 3 <;> omega) | (exact (ABT_2 (by omega)).symm) | (exact (ABT_3 (by omega)).symm) | (exact (ABT_4 (by omega)).symm) | (exact (ABT_5 (by omega)).symm) | (exact (ABT_d (by omega)).symm)⟩
    · skip
      refine hC.1 2 51 _ _ rfl _ _ _ _ _ ?_
      refine Exists.intro _ (And.intro (cw_o0 hI.1) ?_)
      refine Exists.intro _ (And.intro (cw_o1 hI.1) ?_)
      have k0 : (0 : Int32).toInt = 0 := rfl
      refine Exists.intro _ (And.intro (cw_o0 hI.1) ?_)
      refine Exists.intro _ (And.intro (cw_o1 hI.1) ?_)
      refine Exists.intro _ (And.intro (cw_ro_o hI.1 ro_nn) ?_)
      have z5 := cw_sz hI ro_nn
      have k1 : (1 : Int32).toInt = 1 := rfl
      intro m6 em_71
      try have e6 : m6.toInt = ((w nn)).toInt - (1) := by rw [em_71]; exact pm_subc _ _ (1) rfl (by omega) (by omega)
      refine And.intro (Exists.intro _ (cw_o0 hI.1)) (Exists.intro _ (Exists.intro _ (Exists.intro _ (Exists.intro _ (And.intro (F_X10_colourNumber hI hs ro_nn (0 : Int32) m6 (by omega)) (And.intro rfl (fun r9 A9 h9 => ?_)))))))
      rcases h9 with ⟨v8, f8, rfl, hs8, y7, rfl, by7⟩
      have yf_9 := by7.2
      exact ⟨rfl, fun e9 => absurd e9 (by decide), rfl, v8, f8, rfl, hs8, y7, rfl, by exact True.intro, by first | (exact (ABT_0 (by omega)).symm) | (rw [ABT_1 (by omega)]; refine yf_9.trans ?_; congr 3 <;> omega) | (exact (ABT_2 (by omega)).symm) | (exact (ABT_3 (by omega)).symm) | (exact (ABT_4 (by omega)).symm) | (exact (ABT_5 (by omega)).symm) | (exact (ABT_d (by omega)).symm)⟩
    · skip
      refine hC.1 3 76 _ _ rfl _ _ _ _ _ ?_
      refine Exists.intro _ (And.intro (cw_o0 hI.1) ?_)
      refine Exists.intro _ (And.intro (cw_o1 hI.1) ?_)
      exact ⟨rfl, fun e9 => absurd e9 (by decide), rfl, v, f, rfl, hs, (w 1), rfl, by exact True.intro, by first | (exact (ABT_0 (by omega)).symm) | (rw [ABT_1 (by omega)]; refine yf_9.trans ?_; congr 3 <;> omega) | (exact (ABT_2 (by omega)).symm) | (exact (ABT_3 (by omega)).symm) | (exact (ABT_4 (by omega)).symm) | (exact (ABT_5 (by omega)).symm) | (exact (ABT_d (by omega)).symm)⟩
    · skip
      refine hC.1 4 84 _ _ rfl _ _ _ _ _ ?_
      refine Exists.intro _ (And.intro (cw_o0 hI.1) ?_)
      refine Exists.intro _ (And.intro (cw_o1 hI.1) ?_)
      exact ⟨rfl, fun e9 => absurd e9 (by decide), rfl, v, f, rfl, hs, (w 0), rfl, by exact True.intro, by first | (exact (ABT_0 (by omega)).symm) | (rw [ABT_1 (by omega)]; refine yf_9.trans ?_; congr 3 <;> omega) | (exact (ABT_2 (by omega)).symm) | (exact (ABT_3 (by omega)).symm) | (exact (ABT_4 (by omega)).symm) | (exact (ABT_5 (by omega)).symm) | (exact (ABT_d (by omega)).symm)⟩
    · skip
      refine hC.1 5 92 _ _ rfl _ _ _ _ _ ?_
      refine Exists.intro _ (And.intro (cw_o0 hI.1) ?_)
      refine Exists.intro _ (And.intro (cw_o1 hI.1) ?_)
      exact ⟨rfl, fun e9 => absurd e9 (by decide), rfl, v, f, rfl, hs, (w 2), rfl, by exact True.intro, by first | (exact (ABT_0 (by omega)).symm) | (rw [ABT_1 (by omega)]; refine yf_9.trans ?_; congr 3 <;> omega) | (exact (ABT_2 (by omega)).symm) | (exact (ABT_3 (by omega)).symm) | (exact (ABT_4 (by omega)).symm) | (exact (ABT_5 (by omega)).symm) | (exact (ABT_d (by omega)).symm)⟩
    · skip
      refine hC.1 6 100 _ _ rfl _ _ _ _ _ ?_
      refine Exists.intro _ (And.intro (cw_o0 hI.1) ?_)
      refine Exists.intro _ (And.intro (cw_o9 hI.1) ?_)
      exact ⟨rfl, fun e9 => absurd e9 (by decide), rfl, v, f, rfl, hs, (w 3), rfl, by exact True.intro, by first | (exact (ABT_0 (by omega)).symm) | (rw [ABT_1 (by omega)]; refine yf_9.trans ?_; congr 3 <;> omega) | (exact (ABT_2 (by omega)).symm) | (exact (ABT_3 (by omega)).symm) | (exact (ABT_4 (by omega)).symm) | (exact (ABT_5 (by omega)).symm) | (exact (ABT_d (by omega)).symm)⟩

set_option maxRecDepth 100000 in
set_option maxHeartbeats 2000000 in
theorem V_X5_tell (hI : cw_I K nn dn q w e) (hs : cw_S v f) (x1 : Int32) (x2 : Int32)  : pm_Mt l g 164 0 0 0 [.ref (q 9), .int x1, .int x2] (cw A0 g K nn dn q w e v f) (md_Qp (cw A0 g K nn dn q w e v f) (fun r => r = ASD (w 3).toInt x1.toInt x2.toInt (e 35) (e 36) (e 37) (e 38) (e 39))) := by
  refine mt_X5_tell rfl (fun J hC => ?_)
  have ro_nn : cw_ro K nn := hI.2.1.2.1
  have ro_dn : cw_ro K dn := hI.2.1.2.2.1
  have hu1 := hI.2.1
  unfold cw_W at hu1
  have rg_x1 := pm_rng x1
  have rg_x2 := pm_rng x2
  refine hC.1 0 0 _ _ rfl _ _ _ _ _ ?_
  refine And.intro (fun c2 => ?_) (fun c2 => ?_)
  · skip
    refine hC.1 1 12 _ _ rfl _ _ _ _ _ ?_
    have km1 : (-1 : Int32).toInt = -1 := rfl
    exact ⟨rfl, fun e9 => absurd e9 (by decide), rfl, (-1 : Int32), rfl, rfl, by first | (exact (ASD_n (by omega)).symm) | (exact (ASD_0 (by omega) (by omega)).symm) | (exact (ASD_1 (by omega) (by omega)).symm) | (exact (ASD_2 (by omega) (by omega)).symm) | (exact (ASD_3 (by omega) (by omega)).symm) | (exact (ASD_4 (by omega) (by omega)).symm) | (exact (ASD_d (by omega)).symm)⟩
  · skip
    refine Exists.intro _ (And.intro (cw_o9 hI.1) ?_)
    refine And.intro (fun c3 => ?_) (fun c3 => ?_)
    · skip
      refine hC.1 2 14 _ _ rfl _ _ _ _ _ ?_
      refine pm_swc 5 rfl (by decide) ?_ ?_
      · intro _
        refine hC.1 8 83 _ _ rfl _ _ _ _ _ ?_
        have km1 : (-1 : Int32).toInt = -1 := rfl
        exact ⟨rfl, fun e9 => absurd e9 (by decide), rfl, (-1 : Int32), rfl, rfl, by first | (exact (ASD_n (by omega)).symm) | (exact (ASD_0 (by omega) (by omega)).symm) | (exact (ASD_1 (by omega) (by omega)).symm) | (exact (ASD_2 (by omega) (by omega)).symm) | (exact (ASD_3 (by omega) (by omega)).symm) | (exact (ASD_4 (by omega) (by omega)).symm) | (exact (ASD_d (by omega)).symm)⟩
      · intro i9 hi9 he9
        rcases (show i9 = 0 ∨ i9 = 1 ∨ i9 = 2 ∨ i9 = 3 ∨ i9 = 4 by omega) with rfl | rfl | rfl | rfl | rfl
        · skip
          refine hC.1 3 48 _ _ rfl _ _ _ _ _ ?_
          refine Exists.intro _ (And.intro (cw_o9 hI.1) ?_)
          refine Exists.intro _ (Exists.intro _ (And.intro (Or.inl (cw_a37 hI.1)) (And.intro (by omega) ?_)))
          exact ⟨rfl, fun e9 => absurd e9 (by decide), rfl, (e 37 (x1).toInt.toNat), rfl, rfl, by first | (exact (ASD_n (by omega)).symm) | (exact (ASD_0 (by omega) (by omega)).symm) | (exact (ASD_1 (by omega) (by omega)).symm) | (exact (ASD_2 (by omega) (by omega)).symm) | (exact (ASD_3 (by omega) (by omega)).symm) | (exact (ASD_4 (by omega) (by omega)).symm) | (exact (ASD_d (by omega)).symm)⟩
        · skip
          refine hC.1 4 55 _ _ rfl _ _ _ _ _ ?_
          refine Exists.intro _ (And.intro (cw_o9 hI.1) ?_)
          refine Exists.intro _ (Exists.intro _ (And.intro (Or.inl (cw_a38 hI.1)) (And.intro (by omega) ?_)))
          exact ⟨rfl, fun e9 => absurd e9 (by decide), rfl, (e 38 (x1).toInt.toNat), rfl, rfl, by first | (exact (ASD_n (by omega)).symm) | (exact (ASD_0 (by omega) (by omega)).symm) | (exact (ASD_1 (by omega) (by omega)).symm) | (exact (ASD_2 (by omega) (by omega)).symm) | (exact (ASD_3 (by omega) (by omega)).symm) | (exact (ASD_4 (by omega) (by omega)).symm) | (exact (ASD_d (by omega)).symm)⟩
        · skip
          refine hC.1 5 62 _ _ rfl _ _ _ _ _ ?_
          refine Exists.intro _ (And.intro (cw_o9 hI.1) ?_)
          refine Exists.intro _ (Exists.intro _ (And.intro (Or.inl (cw_a35 hI.1)) (And.intro (by omega) ?_)))
          exact ⟨rfl, fun e9 => absurd e9 (by decide), rfl, (e 35 (x1).toInt.toNat), rfl, rfl, by first | (exact (ASD_n (by omega)).symm) | (exact (ASD_0 (by omega) (by omega)).symm) | (exact (ASD_1 (by omega) (by omega)).symm) | (exact (ASD_2 (by omega) (by omega)).symm) | (exact (ASD_3 (by omega) (by omega)).symm) | (exact (ASD_4 (by omega) (by omega)).symm) | (exact (ASD_d (by omega)).symm)⟩
        · skip
          refine hC.1 6 69 _ _ rfl _ _ _ _ _ ?_
          refine Exists.intro _ (And.intro (cw_o9 hI.1) ?_)
          refine Exists.intro _ (Exists.intro _ (And.intro (Or.inl (cw_a36 hI.1)) (And.intro (by omega) ?_)))
          exact ⟨rfl, fun e9 => absurd e9 (by decide), rfl, (e 36 (x1).toInt.toNat), rfl, rfl, by first | (exact (ASD_n (by omega)).symm) | (exact (ASD_0 (by omega) (by omega)).symm) | (exact (ASD_1 (by omega) (by omega)).symm) | (exact (ASD_2 (by omega) (by omega)).symm) | (exact (ASD_3 (by omega) (by omega)).symm) | (exact (ASD_4 (by omega) (by omega)).symm) | (exact (ASD_d (by omega)).symm)⟩
        · skip
          refine hC.1 7 76 _ _ rfl _ _ _ _ _ ?_
          refine Exists.intro _ (And.intro (cw_o9 hI.1) ?_)
          refine Exists.intro _ (Exists.intro _ (And.intro (Or.inl (cw_a39 hI.1)) (And.intro (by omega) ?_)))
          exact ⟨rfl, fun e9 => absurd e9 (by decide), rfl, (e 39 (x1).toInt.toNat), rfl, rfl, by first | (exact (ASD_n (by omega)).symm) | (exact (ASD_0 (by omega) (by omega)).symm) | (exact (ASD_1 (by omega) (by omega)).symm) | (exact (ASD_2 (by omega) (by omega)).symm) | (exact (ASD_3 (by omega) (by omega)).symm) | (exact (ASD_4 (by omega) (by omega)).symm) | (exact (ASD_d (by omega)).symm)⟩
    · skip
      refine hC.1 1 12 _ _ rfl _ _ _ _ _ ?_
      have km1 : (-1 : Int32).toInt = -1 := rfl
      exact ⟨rfl, fun e9 => absurd e9 (by decide), rfl, (-1 : Int32), rfl, rfl, by first | (exact (ASD_n (by omega)).symm) | (exact (ASD_0 (by omega) (by omega)).symm) | (exact (ASD_1 (by omega) (by omega)).symm) | (exact (ASD_2 (by omega) (by omega)).symm) | (exact (ASD_3 (by omega) (by omega)).symm) | (exact (ASD_4 (by omega) (by omega)).symm) | (exact (ASD_d (by omega)).symm)⟩

set_option maxRecDepth 100000 in
set_option maxHeartbeats 2000000 in
theorem V_X10_asked (hI : cw_I K nn dn q w e) (hs : cw_S v f) (x1 : Int32) (x2 : Int32)  : pm_Mt l g 163 1 0 0 [.ref (q 0), .int x1, .int x2] (cw A0 g K nn dn q w e v f) (md_Qp (cw A0 g K nn dn q w e v f) (fun r => r = ASD (w 3).toInt x1.toInt x2.toInt (e 35) (e 36) (e 37) (e 38) (e 39))) := by
  refine mt_X10_asked rfl (fun J hC => ?_)
  have ro_nn : cw_ro K nn := hI.2.1.2.1
  have ro_dn : cw_ro K dn := hI.2.1.2.2.1
  have hu1 := hI.2.1
  unfold cw_W at hu1
  have rg_x1 := pm_rng x1
  have rg_x2 := pm_rng x2
  refine hC.1 0 0 _ _ rfl _ _ _ _ _ ?_
  refine Exists.intro _ (And.intro (cw_o0 hI.1) ?_)
  refine And.intro (Exists.intro _ (cw_o9 hI.1)) (Exists.intro _ (Exists.intro _ (Exists.intro _ (Exists.intro _ (And.intro (V_X5_tell hI hs x1 x2 ) (And.intro rfl (fun r9 A9 h9 => ?_)))))))
  obtain ⟨y2, rfl, rfl, by2⟩ := h9
  exact ⟨rfl, fun e9 => absurd e9 (by decide), rfl, y2, rfl, rfl, by assumption⟩

end

end
