/-! names are told apart and below the next one, behind every edit -/
def UL (L : List pl_P) (g : Int) : Prop := (L.map Prod.snd).Nodup ∧ ∀ p ∈ L, p.2.toInt < g
theorem UL_perm {L M : List pl_P} {g : Int} (h : M.Perm L) (u : UL L g) : UL M g := ⟨((h.map Prod.snd).nodup_iff).mpr u.1, fun p hp => u.2 p (h.mem_iff.mp hp)⟩
theorem UL_sub {L M : List pl_P} {g : Int} (h : M.Sublist L) (u : UL L g) : UL M g := ⟨u.1.sublist (h.map Prod.snd), fun p hp => u.2 p (h.subset hp)⟩
theorem UL_nm {L M : List pl_P} {g : Int} (h : M.map Prod.snd = L.map Prod.snd) (u : UL L g) : UL M g := ⟨by rw [h]; exact u.1, fun p hp => by
  have h1 : p.2 ∈ M.map Prod.snd := List.mem_map.mpr ⟨p, hp, rfl⟩
  rw [h] at h1
  obtain ⟨q, hq, e⟩ := List.mem_map.mp h1
  rw [← e]; exact u.2 q hq⟩
theorem UL_mono {L : List pl_P} {g k : Int} (u : UL L g) (h : g ≤ k) : UL L k := ⟨u.1, fun p hp => by have := u.2 p hp; omega⟩
theorem UL_app {A B : List pl_P} {g k : Int} (a : UL A g) (b : UL B k) (hb : ∀ p ∈ B, g ≤ p.2.toInt) (hg : g ≤ k) : UL (A ++ B) k := by
  refine ⟨?_, fun p hp => ?_⟩
  · rw [List.map_append]
    refine List.pairwise_append.mpr ⟨a.1, b.1, fun x hx y hy e => ?_⟩
    obtain ⟨p, hp, e1⟩ := List.mem_map.mp hx
    obtain ⟨q, hq, e2⟩ := List.mem_map.mp hy
    have h1 := a.2 p hp
    have h2 := hb q hq
    rw [e1, e] at h1
    rw [e2] at h2
    omega
  · rcases List.mem_append.mp hp with h | h
    · have := a.2 p h; omega
    · exact b.2 p h
theorem nw_UL : ∀ (cs : List Int32) (g : Int32), 0 ≤ g.toInt → g.toInt + (cs.length : Int) < 2147483647 → UL (nw_l g cs) (g.toInt + (cs.length : Int)) ∧ ∀ p ∈ nw_l g cs, g.toInt ≤ p.2.toInt
  | [], g, _, _ => ⟨⟨List.nodup_nil, fun p hp => absurd hp List.not_mem_nil⟩, fun p hp => absurd hp List.not_mem_nil⟩
  | c :: r, g, h0, h1 => by
    have hl : ((c :: r).length : Int) = (r.length : Int) + 1 := by simp
    have hr := pm_rng g
    have h2 : (g + 1).toInt = g.toInt + 1 := pm_addc g 1 1 rfl (by omega) (by omega)
    have ih := nw_UL r (g + 1) (by omega) (by omega)
    rw [h2] at ih
    have hm : ∀ p ∈ nw_l g (c :: r), p = (c, g) ∨ p ∈ nw_l (g + 1) r := fun p hp => List.mem_cons.mp hp
    refine ⟨⟨?_, fun p hp => ?_⟩, fun p hp => ?_⟩
    · show (g :: (nw_l (g + 1) r).map Prod.snd).Nodup
      refine List.nodup_cons.mpr ⟨fun hx => ?_, ih.1.1⟩
      obtain ⟨p, hp, e1⟩ := List.mem_map.mp hx
      have := ih.2 p hp
      rw [e1] at this
      omega
    · rcases hm p hp with h | h
      · rw [h]; show g.toInt < _; omega
      · have := ih.1.2 p h; omega
    · rcases hm p hp with h | h
      · rw [h]; show g.toInt ≤ g.toInt; omega
      · have := ih.2 p h; omega
theorem si_3 {L : List pl_P} {a b : Int} (h0 : 0 ≤ a) (h1 : a ≤ b) (h2 : b ≤ (L.length : Int)) : si L 0 a ++ si L a b ++ si L b L.length = L := by
  rw [← si_app (L := L) (a := 0) (m := a) (b := b) (by omega) h0 h1, ← si_app (L := L) (a := 0) (m := b) (b := L.length) (by omega) (by omega) h2, si_all]
theorem UL_cut {L : List pl_P} {l r : Int32} {g : Int} (h : UL L g) : UL ((ed_cut L l r).getD L) g := by
  unfold ed_cut
  split
  · rename_i hc
    show UL (si L 0 l.toInt ++ si L (r.toInt + 1) L.length) g
    have e := si_3 (L := L) (a := l.toInt) (b := r.toInt + 1) (by omega) (by omega) (by omega)
    refine UL_sub ?_ (e.symm ▸ h)
    exact List.Sublist.append (List.sublist_append_left _ _) (List.Sublist.refl _)
  · exact h
theorem pm_1 {α : Type} (A B C D : List α) : (A ++ C ++ B ++ D).Perm (A ++ B ++ C ++ D) := by
  refine List.Perm.append_right D ?_
  rw [List.append_assoc, List.append_assoc]
  exact List.Perm.append_left A List.perm_append_comm
theorem UL_shift {L : List pl_P} {l r n : Int32} {g : Int} (h : UL L g) : UL ((ed_shift L l r n).getD L) g := by
  unfold ed_shift
  split
  · rename_i hc
    show UL (si L 0 l.toInt ++ si L (l.toInt + n.toInt) (r.toInt + 1) ++ si L l.toInt (l.toInt + n.toInt) ++ si L (r.toInt + 1) L.length) g
    refine UL_perm (pm_1 _ _ _ _) ?_
    rw [List.append_assoc (si L 0 l.toInt), ← si_app (L := L) (a := l.toInt) (m := l.toInt + n.toInt) (b := r.toInt + 1) (by omega) (by omega) (by omega), si_3 (by omega) (by omega) (by omega)]
    exact h
  · exact h
theorem UL_swl {L : List pl_P} {a b c d : Int} {g : Int} (h : UL L g) (h0 : 0 ≤ a ∧ a ≤ b ∧ b < c ∧ c ≤ d ∧ d < (L.length : Int)) : UL (sw_l L a b c d) g := by
  unfold sw_l
  have p1 : (si L c (d + 1) ++ si L (b + 1) c ++ si L a (b + 1)).Perm (si L a (b + 1) ++ si L (b + 1) c ++ si L c (d + 1)) := by
    refine List.Perm.trans List.perm_append_comm ?_
    rw [List.append_assoc]
    exact List.Perm.append_left _ List.perm_append_comm
  have p2 : (si L 0 a ++ si L c (d + 1) ++ si L (b + 1) c ++ si L a (b + 1) ++ si L (d + 1) L.length).Perm (si L 0 a ++ (si L a (b + 1) ++ si L (b + 1) c ++ si L c (d + 1)) ++ si L (d + 1) L.length) := by
    refine List.Perm.append_right _ ?_
    rw [List.append_assoc, List.append_assoc, ← List.append_assoc (si L c (d + 1))]
    exact List.Perm.append_left _ p1
  refine UL_perm p2 ?_
  rw [← si_app (L := L) (a := a) (m := b + 1) (b := c) (by omega) (by omega) (by omega), ← si_app (L := L) (a := a) (m := c) (b := d + 1) (by omega) (by omega) (by omega), si_3 (by omega) (by omega) (by omega)]
  exact h
theorem UL_swap {L : List pl_P} {l r f t : Int32} {g : Int} (h : UL L g) : UL ((ed_swap L l r f t).getD L) g := by
  unfold ed_swap
  split
  · rename_i hc
    show UL (if r.toInt < f.toInt then sw_l L l.toInt r.toInt f.toInt t.toInt else sw_l L f.toInt t.toInt l.toInt r.toInt) g
    split
    · exact UL_swl h (by omega)
    · exact UL_swl h (by omega)
  · exact h
theorem UL_turn {L : List pl_P} {l r : Int32} {g : Int} (h : UL L g) : UL ((ed_turn L l r).getD L) g := by
  unfold ed_turn
  split
  · rename_i hc
    show UL (si L 0 l.toInt ++ (si L l.toInt (r.toInt + 1)).reverse ++ si L (r.toInt + 1) L.length) g
    refine UL_perm (List.Perm.append_right _ (List.Perm.append_left _ (List.reverse_perm _))) ?_
    rw [si_3 (by omega) (by omega) (by omega)]
    exact h
  · exact h
theorem UL_rc {L : List pl_P} {l r : Int} {q : Int32 → Int32} {g : Int} (h : UL L g) (h0 : 0 ≤ l ∧ l ≤ r + 1 ∧ r < (L.length : Int)) : UL (rc_l L l r q) g := by
  refine UL_nm ?_ h
  unfold rc_l
  have e := congrArg (List.map Prod.snd) (si_3 (L := L) (a := l) (b := r + 1) (by omega) (by omega) (by omega))
  rw [← e, List.map_append, List.map_append, List.map_append, List.map_append, List.map_map]
  rfl
theorem UL_paint {L : List pl_P} {l r c : Int32} {g : Int} (h : UL L g) : UL ((ed_paint L l r c).getD L) g := by
  unfold ed_paint
  split
  · rename_i hc
    show UL (rc_l L l.toInt r.toInt (fun _ => c)) g
    exact UL_rc h (by omega)
  · exact h
theorem UL_mp {L : List pl_P} {q : Int32 → Int32} {g : Int} (h : UL L g) : UL (L.map (fun p => (q p.1, p.2))) g := UL_nm (by rw [List.map_map]; rfl) h
theorem UL_merge {L : List pl_P} {a b : Int32} {g : Int} (h : UL L g) : UL ((ed_merge L a b).getD L) g := by
  unfold ed_merge
  split
  · exact UL_mp (q := fun c => if c = a then b else c) h
  · exact h
theorem UL_exch {L : List pl_P} {a b : Int32} {g : Int} (h : UL L g) : UL ((ed_exch L a b).getD L) g := by
  unfold ed_exch
  split
  · exact UL_mp (q := fun c => if c = a then b else if c = b then a else c) h
  · exact h
theorem UL_in {A X C : List pl_P} {g k : Int} (h : UL (A ++ C) g) (x : UL X k) (hx : ∀ p ∈ X, g ≤ p.2.toInt) (hg : g ≤ k) : UL (A ++ X ++ C) k := by
  refine UL_perm ?_ (UL_app h x hx hg)
  rw [List.append_assoc, List.append_assoc]
  exact List.Perm.append_left _ List.perm_append_comm
theorem si_2 {L : List pl_P} {a : Int} (h0 : 0 ≤ a) (h2 : a ≤ (L.length : Int)) : si L 0 a ++ si L a L.length = L := by
  rw [← si_app (L := L) (a := 0) (m := a) (b := L.length) (by omega) h0 h2, si_all]
theorem UL_insert {L : List pl_P} {g p c : Int32} (h : UL L g.toInt) (hg : 0 ≤ g.toInt) : UL ((ed_insert L g p c).getD L) (g.toInt + edn (ed_insert L g p c) * 1) := by
  unfold ed_insert
  split
  · rename_i hc
    have h1 := nw_UL [c] g hg (by simp; omega)
    show UL (si L 0 p.toInt ++ nw_l g [c] ++ si L p.toInt L.length) (g.toInt + 1)
    exact UL_in (g := g.toInt) (by rw [si_2 (by omega) (by omega)]; exact h) h1.1 h1.2 (by omega)
  · exact UL_mono h (by show _ ≤ _ + (0 : Int) * 1; omega)
theorem UL_copy {L : List pl_P} {g l r p : Int32} (h : UL L g.toInt) (hg : 0 ≤ g.toInt) : UL ((ed_copy L g l r p).getD L) (g.toInt + edn (ed_copy L g l r p) * (r.toInt - l.toInt + 1)) := by
  unfold ed_copy
  split
  · rename_i hc
    have hk := si_len (L := L) (a := l.toInt) (b := r.toInt + 1) (by omega) (by omega) (by omega)
    have h1 := nw_UL ((si L l.toInt (r.toInt + 1)).map Prod.fst) g hg (by rw [List.length_map]; omega)
    rw [List.length_map] at h1
    show UL (si L 0 p.toInt ++ nw_l g ((si L l.toInt (r.toInt + 1)).map Prod.fst) ++ si L p.toInt L.length) (g.toInt + 1 * (r.toInt - l.toInt + 1))
    exact UL_mono (UL_in (g := g.toInt) (by rw [si_2 (by omega) (by omega)]; exact h) h1.1 h1.2 (by omega)) (by omega)
  · exact UL_mono h (by show _ ≤ _ + (0 : Int) * _; omega)
theorem UL_draw {L : List pl_P} {g s n k : Int32} (h : UL L g.toInt) (hg : 0 ≤ g.toInt) : UL ((ed_draw L g s n k).getD L) (g.toInt + edn (ed_draw L g s n k) * n.toInt) := by
  unfold ed_draw
  split
  · rename_i hc
    have h1 := nw_UL (dr_l s.toInt k.toInt n.toInt.toNat) g hg (by rw [dr_len]; omega)
    rw [dr_len] at h1
    show UL (L ++ nw_l g (dr_l s.toInt k.toInt n.toInt.toNat)) (g.toInt + 1 * n.toInt)
    exact UL_mono (UL_app h h1.1 h1.2 (by omega)) (by omega)
  · exact UL_mono h (by show _ ≤ _ + (0 : Int) * _; omega)
theorem nd_e : ∀ {A : List pl_P}, (A.map Prod.snd).Nodup → ∀ p ∈ A, ∀ q ∈ A, p.2 = q.2 → p = q
  | [], _, p, hp, _, _, _ => absurd hp List.not_mem_nil
  | x :: r, h, p, hp, q, hq, e => by
    have h1 := List.nodup_cons.mp (show (x.2 :: r.map Prod.snd).Nodup from h)
    rcases List.mem_cons.mp hp with a | a
    · rcases List.mem_cons.mp hq with b | b
      · rw [a, b]
      · exact absurd (List.mem_map.mpr ⟨q, b, by rw [← e, a]⟩) h1.1
    · rcases List.mem_cons.mp hq with b | b
      · exact absurd (List.mem_map.mpr ⟨p, a, by rw [e, b]⟩) h1.1
      · exact nd_e h1.2 p a q b e
theorem st_mem {A : List pl_P} : ∀ (c : Nat) (p : pl_P), p ∈ st_l A c → p ∈ A ∧ p.1.toInt < (c : Int)
  | 0, p, h => absurd h List.not_mem_nil
  | c + 1, p, h => by
    rcases List.mem_append.mp (show p ∈ st_l A c ++ A.filter (fun p => decide (p.1.toInt = (c : Int))) from h) with a | a
    · have := st_mem c p a
      exact ⟨this.1, by omega⟩
    · have h1 := List.mem_filter.mp a
      have h2 := of_decide_eq_true h1.2
      exact ⟨h1.1, by omega⟩
theorem st_nd {A : List pl_P} (h : (A.map Prod.snd).Nodup) : ∀ c : Nat, ((st_l A c).map Prod.snd).Nodup
  | 0 => List.nodup_nil
  | c + 1 => by
    show ((st_l A c ++ A.filter (fun p => decide (p.1.toInt = (c : Int)))).map Prod.snd).Nodup
    rw [List.map_append]
    refine List.pairwise_append.mpr ⟨st_nd h c, h.sublist (List.filter_sublist.map Prod.snd), fun x hx y hy e => ?_⟩
    obtain ⟨p, hp, e1⟩ := List.mem_map.mp hx
    obtain ⟨q, hq, e2⟩ := List.mem_map.mp hy
    have h1 := st_mem c p hp
    have h2 := List.mem_filter.mp hq
    have h3 := of_decide_eq_true h2.2
    have h4 := nd_e h p h1.1 q h2.1 (by rw [e1, e2, e])
    rw [h4] at h1
    omega
theorem UL_sort {L : List pl_P} {l r : Int32} {g : Int} (h : UL L g) : UL ((ed_sort L l r).getD L) g := by
  unfold ed_sort
  split
  · rename_i hc
    show UL (si L 0 l.toInt ++ st_l (si L l.toInt (r.toInt + 1)) 24 ++ si L (r.toInt + 1) L.length) g
    have e := si_3 (L := L) (a := l.toInt) (b := r.toInt + 1) (by omega) (by omega) (by omega)
    have u := h
    rw [← e] at u
    obtain ⟨u1, u2⟩ := u
    rw [List.map_append, List.map_append] at u1
    have v1 := List.pairwise_append.mp u1
    have v2 := List.pairwise_append.mp v1.1
    have sb : ∀ x ∈ (st_l (si L l.toInt (r.toInt + 1)) 24).map Prod.snd, x ∈ (si L l.toInt (r.toInt + 1)).map Prod.snd := fun x hx => by
      obtain ⟨p, hp, e1⟩ := List.mem_map.mp hx
      exact List.mem_map.mpr ⟨p, (st_mem 24 p hp).1, e1⟩
    refine ⟨?_, fun p hp => ?_⟩
    · rw [List.map_append, List.map_append]
      refine List.pairwise_append.mpr ⟨List.pairwise_append.mpr ⟨v2.1, st_nd v2.2.1 24, fun x hx y hy => v2.2.2 x hx y (sb y hy)⟩, v1.2.1, fun x hx y hy => ?_⟩
      rcases List.mem_append.mp hx with a | a
      · exact v1.2.2 x (List.mem_append.mpr (Or.inl a)) y hy
      · exact v1.2.2 x (List.mem_append.mpr (Or.inr (sb x a))) y hy
    · refine u2 p ?_
      rcases List.mem_append.mp hp with a | a
      · rcases List.mem_append.mp a with b | b
        · exact List.mem_append.mpr (Or.inl (List.mem_append.mpr (Or.inl b)))
        · exact List.mem_append.mpr (Or.inl (List.mem_append.mpr (Or.inr (st_mem 24 p b).1)))
      · exact List.mem_append.mpr (Or.inr a)
  · exact h
theorem UL_UQ {n : Int32} {c m : Nat → Int32} {L : List pl_P} {g : Int} (h : rp n c m L) (h0 : nm0 L) (u : UL L g) : UQ n.toInt m ∧ ∀ i : Nat, (i : Int) < n.toInt → (m i).toInt < g := by
  have hl := h.1
  have key : ∀ i j : Nat, i < j → j < L.length → ¬ m i = m j := fun i j hij hj e => by
    have h1 := List.pairwise_iff_getElem.mp u.1 i j (by rw [List.length_map]; omega) (by rw [List.length_map]; omega) hij
    rw [List.getElem_map, List.getElem_map, ← (h.2 i (by omega)).2, ← (h.2 j hj).2] at h1
    exact h1 e
  refine ⟨⟨fun i j hi hj e => ?_, fun i hi => ?_⟩, fun i hi => ?_⟩
  · by_cases a : i < j
    · exact absurd e (key i j a (by omega))
    · by_cases b : j < i
      · exact absurd e.symm (key j i b (by omega))
      · omega
  · rw [(h.2 i (by omega)).2]; exact h0 _ (List.getElem_mem _)
  · rw [(h.2 i (by omega)).2]; exact u.2 _ (List.getElem_mem _)
