section
/-! names are told apart and below the next one, behind every edit -/
noncomputable def UL (L : List pl_P) (g : Int) : Prop := (L.map Prod.snd).Nodup ∧ ∀ p ∈ L, p.2.toInt < g
theorem UL_perm {L M : List pl_P} {g : Int} (h : M.Perm L) (u : UL L g) : UL M g := ⟨((h.map Prod.snd).nodup_iff).mpr u.1, fun p hp => u.2 p (h.mem_iff.mp hp)⟩
theorem UL_sub {L M : List pl_P} {g : Int} (h : M.Sublist L) (u : UL L g) : UL M g := ⟨u.1.sublist (h.map Prod.snd), fun p hp => u.2 p (h.subset hp)⟩
theorem UL_nm {L M : List pl_P} {g : Int} (h : M.map Prod.snd = L.map Prod.snd) (u : UL L g) : UL M g := ⟨by rw [h]; exact u.1, fun p hp => by
  have h1 : p.2 ∈ M.map Prod.snd := List.mem_map.mpr ⟨p, hp, rfl⟩
  rw [h] at h1
  obtain ⟨q, hq, e⟩ := List.mem_map.mp h1
  rw [← e]; exact u.2 q hq⟩
theorem UL_mono {L : List pl_P} {g k : Int} (u : UL L g) (h : g ≤ k) : UL L k := ⟨u.1, fun p hp => by have := u.2 p hp; omega⟩
theorem UL_app {A B : List pl_P} {g k : Int} (a : UL A g) (b : UL B k) (hb : ∀ p ∈ B, g ≤ p.2.toInt) (hg : g ≤ k) : UL (A ++ B) k := by
  refine ⟨?_, fun p hp => ?_⟩
  · rw [List.map_append]
    refine List.pairwise_append.mpr ⟨a.1, b.1, fun x hx y hy e => ?_⟩
    obtain ⟨p, hp, e1⟩ := List.mem_map.mp hx
    obtain ⟨q, hq, e2⟩ := List.mem_map.mp hy
    have h1 := a.2 p hp
    have h2 := hb q hq
    rw [e1, e] at h1
    rw [e2] at h2
    omega
  · rcases List.mem_append.mp hp with h | h
    · have := a.2 p h; omega
    · exact b.2 p h
theorem nw_UL : ∀ (cs : List Int32) (g : Int32), 0 ≤ g.toInt → g.toInt + (cs.length : Int) < 2147483647 → UL (nw_l g cs) (g.toInt + (cs.length : Int)) ∧ ∀ p ∈ nw_l g cs, g.toInt ≤ p.2.toInt
  | [], g, _, _ => ⟨⟨List.nodup_nil, fun p hp => absurd hp List.not_mem_nil⟩, fun p hp => absurd hp List.not_mem_nil⟩
  | c :: r, g, h0, h1 => by
    have hl : ((c :: r).length : Int) = (r.length : Int) + 1 := by simp
    have hr := pm_rng g
    have h2 : (g + 1).toInt = g.toInt + 1 := pm_addc g 1 1 rfl (by omega) (by omega)
    have ih := nw_UL r (g + 1) (by omega) (by omega)
    rw [h2] at ih
    have hm : ∀ p ∈ nw_l g (c :: r), p = (c, g) ∨ p ∈ nw_l (g + 1) r := fun p hp => List.mem_cons.mp hp
    refine ⟨⟨?_, fun p hp => ?_⟩, fun p hp => ?_⟩
    · show (g :: (nw_l (g + 1) r).map Prod.snd).Nodup
      refine List.nodup_cons.mpr ⟨fun hx => ?_, ih.1.1⟩
      obtain ⟨p, hp, e1⟩ := List.mem_map.mp hx
      have := ih.2 p hp
      rw [e1] at this
      omega
    · rcases hm p hp with h | h
      · rw [h]; show g.toInt < _; omega
      · have := ih.1.2 p h; omega
    · rcases hm p hp with h | h
      · rw [h]; show g.toInt ≤ g.toInt; omega
      · have := ih.2 p h; omega
theorem si_3 {L : List pl_P} {a b : Int} (h0 : 0 ≤ a) (h1 : a ≤ b) (h2 : b ≤ (L.length : Int)) : si L 0 a ++ si L a b ++ si L b L.length = L := by
  rw [← si_app (L := L) (a := 0) (m := a) (b := b) (by omega) h0 h1, ← si_app (L := L) (a := 0) (m := b) (b := L.length) (by omega) (by omega) h2, si_all]
theorem UL_cut {L : List pl_P} {l r : Int32} {g : Int} (h : UL L g) : UL ((ed_cut L l r).getD L) g := by
  unfold ed_cut
  split
  · rename_i hc
    show UL (si L 0 l.toInt ++ si L (r.toInt + 1) L.length) g
    have e := si_3 (L := L) (a := l.toInt) (b := r.toInt + 1) (by omega) (by omega) (by omega)
    refine UL_sub ?_ (e.symm ▸ h)
    exact List.Sublist.append (List.sublist_append_left _ _) (List.Sublist.refl _)
  · exact h
theorem pm_1 {α : Type} (A B C D : List α) : (A ++ C ++ B ++ D).Perm (A ++ B ++ C ++ D) := by
  refine List.Perm.append_right D ?_
  rw [List.append_assoc, List.append_assoc]
  exact List.Perm.append_left A List.perm_append_comm
theorem UL_shift {L : List pl_P} {l r n : Int32} {g : Int} (h : UL L g) : UL ((ed_shift L l r n).getD L) g := by
  unfold ed_shift
  split
  · rename_i hc
    show UL (si L 0 l.toInt ++ si L (l.toInt + n.toInt) (r.toInt + 1) ++ si L l.toInt (l.toInt + n.toInt) ++ si L (r.toInt + 1) L.length) g
    refine UL_perm (pm_1 _ _ _ _) ?_
    rw [List.append_assoc (si L 0 l.toInt), ← si_app (L := L) (a := l.toInt) (m := l.toInt + n.toInt) (b := r.toInt + 1) (by omega) (by omega) (by omega), si_3 (by omega) (by omega) (by omega)]
    exact h
  · exact h
theorem UL_swl {L : List pl_P} {a b c d : Int} {g : Int} (h : UL L g) (h0 : 0 ≤ a ∧ a ≤ b ∧ b < c ∧ c ≤ d ∧ d < (L.length : Int)) : UL (sw_l L a b c d) g := by
  unfold sw_l
  have p1 : (si L c (d + 1) ++ si L (b + 1) c ++ si L a (b + 1)).Perm (si L a (b + 1) ++ si L (b + 1) c ++ si L c (d + 1)) := by
    refine List.Perm.trans List.perm_append_comm ?_
    rw [List.append_assoc]
    exact List.Perm.append_left _ List.perm_append_comm
  have p2 : (si L 0 a ++ si L c (d + 1) ++ si L (b + 1) c ++ si L a (b + 1) ++ si L (d + 1) L.length).Perm (si L 0 a ++ (si L a (b + 1) ++ si L (b + 1) c ++ si L c (d + 1)) ++ si L (d + 1) L.length) := by
    refine List.Perm.append_right _ ?_
    rw [List.append_assoc, List.append_assoc, ← List.append_assoc (si L c (d + 1))]
    exact List.Perm.append_left _ p1
  refine UL_perm p2 ?_
  rw [← si_app (L := L) (a := a) (m := b + 1) (b := c) (by omega) (by omega) (by omega), ← si_app (L := L) (a := a) (m := c) (b := d + 1) (by omega) (by omega) (by omega), si_3 (by omega) (by omega) (by omega)]
  exact h
theorem UL_swap {L : List pl_P} {l r f t : Int32} {g : Int} (h : UL L g) : UL ((ed_swap L l r f t).getD L) g := by
  unfold ed_swap
  split
  · rename_i hc
    show UL (if r.toInt < f.toInt then sw_l L l.toInt r.toInt f.toInt t.toInt else sw_l L f.toInt t.toInt l.toInt r.toInt) g
    split
    · exact UL_swl h (by omega)
    · exact UL_swl h (by omega)
  · exact h
theorem UL_turn {L : List pl_P} {l r : Int32} {g : Int} (h : UL L g) : UL ((ed_turn L l r).getD L) g := by
  unfold ed_turn
  split
  · rename_i hc
    show UL (si L 0 l.toInt ++ (si L l.toInt (r.toInt + 1)).reverse ++ si L (r.toInt + 1) L.length) g
    refine UL_perm (List.Perm.append_right _ (List.Perm.append_left _ (List.reverse_perm _))) ?_
    rw [si_3 (by omega) (by omega) (by omega)]
    exact h
  · exact h
theorem UL_rc {L : List pl_P} {l r : Int} {q : Int32 → Int32} {g : Int} (h : UL L g) (h0 : 0 ≤ l ∧ l ≤ r + 1 ∧ r < (L.length : Int)) : UL (rc_l L l r q) g := by
  refine UL_nm ?_ h
  unfold rc_l
  have e := congrArg (List.map Prod.snd) (si_3 (L := L) (a := l) (b := r + 1) (by omega) (by omega) (by omega))
  rw [← e, List.map_append, List.map_append, List.map_append, List.map_append, List.map_map]
  rfl
theorem UL_paint {L : List pl_P} {l r c : Int32} {g : Int} (h : UL L g) : UL ((ed_paint L l r c).getD L) g := by
  unfold ed_paint
  split
  · rename_i hc
    show UL (rc_l L l.toInt r.toInt (fun _ => c)) g
    exact UL_rc h (by omega)
  · exact h
theorem UL_mp {L : List pl_P} {q : Int32 → Int32} {g : Int} (h : UL L g) : UL (L.map (fun p => (q p.1, p.2))) g := UL_nm (by rw [List.map_map]; rfl) h
theorem UL_merge {L : List pl_P} {a b : Int32} {g : Int} (h : UL L g) : UL ((ed_merge L a b).getD L) g := by
  unfold ed_merge
  split
  · exact UL_mp (q := fun c => if c = a then b else c) h
  · exact h
theorem UL_exch {L : List pl_P} {a b : Int32} {g : Int} (h : UL L g) : UL ((ed_exch L a b).getD L) g := by
  unfold ed_exch
  split
  · exact UL_mp (q := fun c => if c = a then b else if c = b then a else c) h
  · exact h
theorem UL_in {A X C : List pl_P} {g k : Int} (h : UL (A ++ C) g) (x : UL X k) (hx : ∀ p ∈ X, g ≤ p.2.toInt) (hg : g ≤ k) : UL (A ++ X ++ C) k := by
  refine UL_perm ?_ (UL_app h x hx hg)
  rw [List.append_assoc, List.append_assoc]
  exact List.Perm.append_left _ List.perm_append_comm
theorem si_2 {L : List pl_P} {a : Int} (h0 : 0 ≤ a) (h2 : a ≤ (L.length : Int)) : si L 0 a ++ si L a L.length = L := by
  rw [← si_app (L := L) (a := 0) (m := a) (b := L.length) (by omega) h0 h2, si_all]
theorem UL_insert {L : List pl_P} {g p c : Int32} (h : UL L g.toInt) (hg : 0 ≤ g.toInt) : UL ((ed_insert L g p c).getD L) (g.toInt + edn (ed_insert L g p c) * 1) := by
  unfold ed_insert
  split
  · rename_i hc
    have h1 := nw_UL [c] g hg (by simp; omega)
    show UL (si L 0 p.toInt ++ nw_l g [c] ++ si L p.toInt L.length) (g.toInt + 1)
    exact UL_in (g := g.toInt) (by rw [si_2 (by omega) (by omega)]; exact h) h1.1 h1.2 (by omega)
  · exact UL_mono h (by show _ ≤ _ + (0 : Int) * 1; omega)
theorem UL_copy {L : List pl_P} {g l r p : Int32} (h : UL L g.toInt) (hg : 0 ≤ g.toInt) : UL ((ed_copy L g l r p).getD L) (g.toInt + edn (ed_copy L g l r p) * (r.toInt - l.toInt + 1)) := by
  unfold ed_copy
  split
  · rename_i hc
    have hk := si_len (L := L) (a := l.toInt) (b := r.toInt + 1) (by omega) (by omega) (by omega)
    have h1 := nw_UL ((si L l.toInt (r.toInt + 1)).map Prod.fst) g hg (by rw [List.length_map]; omega)
    rw [List.length_map] at h1
    show UL (si L 0 p.toInt ++ nw_l g ((si L l.toInt (r.toInt + 1)).map Prod.fst) ++ si L p.toInt L.length) (g.toInt + 1 * (r.toInt - l.toInt + 1))
    exact UL_mono (UL_in (g := g.toInt) (by rw [si_2 (by omega) (by omega)]; exact h) h1.1 h1.2 (by omega)) (by omega)
  · exact UL_mono h (by show _ ≤ _ + (0 : Int) * _; omega)
theorem UL_draw {L : List pl_P} {g s n k : Int32} (h : UL L g.toInt) (hg : 0 ≤ g.toInt) : UL ((ed_draw L g s n k).getD L) (g.toInt + edn (ed_draw L g s n k) * n.toInt) := by
  unfold ed_draw
  split
  · rename_i hc
    have h1 := nw_UL (dr_l s.toInt k.toInt n.toInt.toNat) g hg (by rw [dr_len]; omega)
    rw [dr_len] at h1
    show UL (L ++ nw_l g (dr_l s.toInt k.toInt n.toInt.toNat)) (g.toInt + 1 * n.toInt)
    exact UL_mono (UL_app h h1.1 h1.2 (by omega)) (by omega)
  · exact UL_mono h (by show _ ≤ _ + (0 : Int) * _; omega)
theorem nd_e : ∀ {A : List pl_P}, (A.map Prod.snd).Nodup → ∀ p ∈ A, ∀ q ∈ A, p.2 = q.2 → p = q
  | [], _, p, hp, _, _, _ => absurd hp List.not_mem_nil
  | x :: r, h, p, hp, q, hq, e => by
    have h1 := List.nodup_cons.mp (show (x.2 :: r.map Prod.snd).Nodup from h)
    rcases List.mem_cons.mp hp with a | a
    · rcases List.mem_cons.mp hq with b | b
      · rw [a, b]
      · exact absurd (List.mem_map.mpr ⟨q, b, by rw [← e, a]⟩) h1.1
    · rcases List.mem_cons.mp hq with b | b
      · exact absurd (List.mem_map.mpr ⟨p, a, by rw [e, b]⟩) h1.1
      · exact nd_e h1.2 p a q b e
theorem st_mem {A : List pl_P} : ∀ (c : Nat) (p : pl_P), p ∈ st_l A c → p ∈ A ∧ p.1.toInt < (c : Int)
  | 0, p, h => absurd h List.not_mem_nil
  | c + 1, p, h => by
    rcases List.mem_append.mp (show p ∈ st_l A c ++ A.filter (fun p => decide (p.1.toInt = (c : Int))) from h) with a | a
    · have := st_mem c p a
      exact ⟨this.1, by omega⟩
    · have h1 := List.mem_filter.mp a
      have h2 := of_decide_eq_true h1.2
      exact ⟨h1.1, by omega⟩
theorem st_nd {A : List pl_P} (h : (A.map Prod.snd).Nodup) : ∀ c : Nat, ((st_l A c).map Prod.snd).Nodup
  | 0 => List.nodup_nil
  | c + 1 => by
    show ((st_l A c ++ A.filter (fun p => decide (p.1.toInt = (c : Int)))).map Prod.snd).Nodup
    rw [List.map_append]
    refine List.pairwise_append.mpr ⟨st_nd h c, h.sublist (List.filter_sublist.map Prod.snd), fun x hx y hy e => ?_⟩
    obtain ⟨p, hp, e1⟩ := List.mem_map.mp hx
    obtain ⟨q, hq, e2⟩ := List.mem_map.mp hy
    have h1 := st_mem c p hp
    have h2 := List.mem_filter.mp hq
    have h3 := of_decide_eq_true h2.2
    have h4 := nd_e h p h1.1 q h2.1 (by rw [e1, e2, e])
    rw [h4] at h1
    omega
theorem UL_sort {L : List pl_P} {l r : Int32} {g : Int} (h : UL L g) : UL ((ed_sort L l r).getD L) g := by
  unfold ed_sort
  split
  · rename_i hc
    show UL (si L 0 l.toInt ++ st_l (si L l.toInt (r.toInt + 1)) 24 ++ si L (r.toInt + 1) L.length) g
    have e := si_3 (L := L) (a := l.toInt) (b := r.toInt + 1) (by omega) (by omega) (by omega)
    have u := h
    rw [← e] at u
    obtain ⟨u1, u2⟩ := u
    rw [List.map_append, List.map_append] at u1
    have v1 := List.pairwise_append.mp u1
    have v2 := List.pairwise_append.mp v1.1
    have sb : ∀ x ∈ (st_l (si L l.toInt (r.toInt + 1)) 24).map Prod.snd, x ∈ (si L l.toInt (r.toInt + 1)).map Prod.snd := fun x hx => by
      obtain ⟨p, hp, e1⟩ := List.mem_map.mp hx
      exact List.mem_map.mpr ⟨p, (st_mem 24 p hp).1, e1⟩
    refine ⟨?_, fun p hp => ?_⟩
    · rw [List.map_append, List.map_append]
      refine List.pairwise_append.mpr ⟨List.pairwise_append.mpr ⟨v2.1, st_nd v2.2.1 24, fun x hx y hy => v2.2.2 x hx y (sb y hy)⟩, v1.2.1, fun x hx y hy => ?_⟩
      rcases List.mem_append.mp hx with a | a
      · exact v1.2.2 x (List.mem_append.mpr (Or.inl a)) y hy
      · exact v1.2.2 x (List.mem_append.mpr (Or.inr (sb x a))) y hy
    · refine u2 p ?_
      rcases List.mem_append.mp hp with a | a
      · rcases List.mem_append.mp a with b | b
        · exact List.mem_append.mpr (Or.inl (List.mem_append.mpr (Or.inl b)))
        · exact List.mem_append.mpr (Or.inl (List.mem_append.mpr (Or.inr (st_mem 24 p b).1)))
      · exact List.mem_append.mpr (Or.inr a)
  · exact h
theorem UL_UQ {n : Int32} {c m : Nat → Int32} {L : List pl_P} {g : Int} (h : rp n c m L) (h0 : nm0 L) (u : UL L g) : UQ n.toInt m ∧ ∀ i : Nat, (i : Int) < n.toInt → (m i).toInt < g := by
  have hl := h.1
  have key : ∀ i j : Nat, i < j → j < L.length → ¬ m i = m j := fun i j hij hj e => by
    have h1 := List.pairwise_iff_getElem.mp u.1 i j (by rw [List.length_map]; omega) (by rw [List.length_map]; omega) hij
    rw [List.getElem_map, List.getElem_map, ← (h.2 i (by omega)).2, ← (h.2 j hj).2] at h1
    exact h1 e
  refine ⟨⟨fun i j hi hj e => ?_, fun i hi => ?_⟩, fun i hi => ?_⟩
  · by_cases a : i < j
    · exact absurd e (key i j a (by omega))
    · by_cases b : j < i
      · exact absurd e.symm (key j i b (by omega))
      · omega
  · rw [(h.2 i (by omega)).2]; exact h0 _ (List.getElem_mem _)
  · rw [(h.2 i (by omega)).2]; exact u.2 _ (List.getElem_mem _)
end
section
/-! colours by their bits: the k-th, those with more than a part -/
noncomputable def bf (s : Int32) (j : Nat) : Int32 := if bt s j = true then 1 else 0
theorem bf_1 {s : Int32} {j : Nat} : bf s j = 1 ↔ bt s j = true := by
  unfold bf
  by_cases h : bt s j = true
  · rw [if_pos h]; exact ⟨fun _ => h, fun _ => rfl⟩
  · rw [if_neg h]; exact ⟨fun e => absurd e (by decide), fun e => absurd e h⟩
theorem an_1 {s c : Int32} (h : 0 ≤ c.toInt ∧ c.toInt ≤ 31) : s &&& ((1 : Int32) <<< (c &&& 31)) = 0 ↔ bt s c.toInt.toNat = false := by
  constructor
  · intro e
    have h1 := b_and s ((1 : Int32) <<< (c &&& 31)) c.toInt.toNat
    rw [e, b_0, b_one h (by omega), decide_eq_true rfl, Bool.and_true] at h1
    exact h1.symm
  · intro e
    refine b_ext (fun i hi => ?_)
    rw [b_and, b_one h hi, b_0]
    by_cases q : i = c.toInt.toNat
    · rw [q, e]; rfl
    · rw [decide_eq_false q, Bool.and_false]
theorem by1 {s c : Int32} (h : 0 ≤ c.toInt ∧ c.toInt ≤ 31) (e : ¬ s &&& ((1 : Int32) <<< (c &&& 31)) = 0) : bf s c.toInt.toNat = 1 := by
  refine bf_1.mpr ?_
  cases q : bt s c.toInt.toNat with
  | true => rfl
  | false => exact absurd ((an_1 h).mpr q) e
end
section
section
variable {l : Launch} {g : pm_G} {A0 : pm_H} {K nn dn : Nat} {q : Nat → Nat} {w : Nat → Int32} {e : Nat → Nat → Int32} {v : Nat → Int32} {f : Nat → Nat → Int32}
set_option maxRecDepth 100000 in
set_option maxHeartbeats 2000000 in
theorem F_X7_nameAt (hI : cw_I K nn dn q w e) (hs : cw_S v f) {o0 : Nat} (ho0 : cw_ro K o0) (x1 : Int32)  : pm_Mt l g 21 1 0 0 [.ref (q o0), .int x1] (cw A0 g K nn dn q w e v f) (md_Qp (cw A0 g K nn dn q w e v f) (fun r => r = nmA (e (o0 + 2)) (w o0).toInt x1.toInt)) := by
  refine mt_X7_nameAt rfl (fun J hC => ?_)
  have ro_nn : cw_ro K nn := hI.2.1.2.1
  have ro_dn : cw_ro K dn := hI.2.1.2.2.1
  have hu1 := hI.2.1
  unfold cw_W at hu1
  have rg_x1 := pm_rng x1
  have zz0 := cw_sz hI ho0
  refine hC.1 0 0 _ _ rfl _ _ _ _ _ ?_
  refine And.intro (Exists.intro _ (cw_ro_o hI.1 ho0)) (Exists.intro _ (Exists.intro _ (Exists.intro _ (Exists.intro _ (And.intro (c_X7_has hI hs ho0 x1 ) (And.intro rfl (fun r9 A9 h9 => ?_)))))))
  rcases h9 with ⟨y2, rfl, rfl, ⟨rfl, by2⟩ | ⟨rfl, by2⟩⟩
  · skip
    have k1 : (1 : Int32).toInt = 1 := rfl
    refine And.intro (fun c9 => absurd c9 (by decide)) (fun _ => ?_)
    refine Exists.intro _ (And.intro (cw_ro_o hI.1 ho0) ?_)
    refine Exists.intro _ (Exists.intro _ (And.intro (Or.inl (cw_ro_2 hI.1 ho0)) (And.intro (by omega) ?_)))
    refine hC.1 2 18 _ _ rfl _ _ _ _ _ ?_
    exact ⟨rfl, fun e9 => absurd e9 (by decide), rfl, (e (o0 + 2) (x1).toInt.toNat), rfl, rfl, by first | (exact (nmA_y (by omega)).symm) | (exact (nmA_n (by omega)).symm)⟩
  · skip
    have k0 : (0 : Int32).toInt = 0 := rfl
    refine And.intro (fun _ => ?_) (fun c9 => absurd c9 (by decide))
    refine hC.1 1 17 _ _ rfl _ _ _ _ _ ?_
    have km1 : (-1 : Int32).toInt = -1 := rfl
    refine hC.1 2 18 _ _ rfl _ _ _ _ _ ?_
    exact ⟨rfl, fun e9 => absurd e9 (by decide), rfl, (-1 : Int32), rfl, rfl, by first | (exact (nmA_y (by omega)).symm) | (exact (nmA_n (by omega)).symm)⟩

end
end
section
section
variable {l : Launch} {g : pm_G} {A0 : pm_H} {h : Nat} {q : Nat → Nat}
set_option maxRecDepth 100000 in
set_option maxHeartbeats 2000000 in
theorem F_X11_bondOf (D : md_D h q) (v : Nat → Int32) (f : Nat → Nat → Int32) (hv : md_V v) (hf : md_F f) (x1 : Int32) (p0 : 0 ≤ x1.toInt ∧ x1.toInt < 160) : pm_Mt l g 173 1 0 0 [.ref h, .int x1] (md A0 g h q v f) (md_Qp (md A0 g h q v f) (fun r => r = bo (f 0) (f 1) x1.toInt)) := by
  refine mt_X11_bondOf rfl (fun J hC => ?_)
  have hv9 := hv
  unfold md_V at hv9
  have rg_x1 := pm_rng x1
  have lt9 := lastEq_lt (f 0) (f 0 x1.toInt.toNat) x1.toInt.toNat
  refine hC.1 0 0 _ _ rfl _ _ _ _ _ ?_
  refine And.intro (Exists.intro _ md_o) (Exists.intro _ (Exists.intro _ (Exists.intro _ (Exists.intro _ (And.intro (c_X11_ahead D v f hv hf x1 (by omega)) (And.intro rfl (fun r9 A9 h9 => ?_)))))))
  obtain ⟨y1, rfl, rfl, by1⟩ := h9
  refine And.intro (fun c2 => ?_) (fun c2 => ?_)
  · skip
    refine hC.1 1 12 _ _ rfl _ _ _ _ _ ?_
    refine Exists.intro _ (And.intro md_o ?_)
    refine And.intro (Exists.intro _ md_o) (Exists.intro _ (Exists.intro _ (Exists.intro _ (Exists.intro _ (And.intro (c_X11_ahead D v f hv hf x1 (by omega)) (And.intro rfl (fun r9 A9 h9 => ?_)))))))
    obtain ⟨y3, rfl, rfl, by3⟩ := h9
    refine Exists.intro _ (Exists.intro _ (And.intro (Or.inl (md_a_names D)) (And.intro (by omega) ?_)))
    refine hC.1 2 22 _ _ rfl _ _ _ _ _ ?_
    exact ⟨rfl, fun e9 => absurd e9 (by decide), rfl, (f 1 (y3).toInt.toNat), rfl, rfl, by first | (exact (bo_n (by omega)).symm) | (exact (bo_y (by omega) (by assumption) (by omega)).symm)⟩
  · skip
    have km1 : (-1 : Int32).toInt = -1 := rfl
    refine hC.1 2 22 _ _ rfl _ _ _ _ _ ?_
    exact ⟨rfl, fun e9 => absurd e9 (by decide), rfl, (-1 : Int32), rfl, rfl, by first | (exact (bo_n (by omega)).symm) | (exact (bo_y (by omega) (by assumption) (by omega)).symm)⟩

end
end
section
section
variable {l : Launch} {g : pm_G} {A0 : pm_H} {K nn dn : Nat} {q : Nat → Nat} {w : Nat → Int32} {e : Nat → Nat → Int32} {v : Nat → Int32} {f : Nat → Nat → Int32}
set_option maxRecDepth 100000 in
set_option maxHeartbeats 2000000 in
theorem T_X7_bondAt (hI : cw_I K nn dn q w e) (hs : cw_S v f) {o0 : Nat} (ho0 : cw_ro K o0) (x1 : Int32)  : pm_Mt l g 20 2 0 0 [.ref (q o0), .int x1] (cw A0 g K nn dn q w e v f) (md_Qp (cw A0 g K nn dn q w e v f) (fun r => (0 ≤ x1.toInt → x1.toInt < (w o0).toInt → (e (o0 + 3) x1.toInt.toNat).toInt = lastEq (e (o0 + 1)) ((e (o0 + 1)) x1.toInt.toNat) x1.toInt.toNat) → r = BA (e (o0 + 1)) (e (o0 + 2)) (w o0).toInt x1.toInt)) := by
  refine mt_X7_bondAt rfl (fun J hC => ?_)
  have ro_nn : cw_ro K nn := hI.2.1.2.1
  have ro_dn : cw_ro K dn := hI.2.1.2.2.1
  have hu1 := hI.2.1
  unfold cw_W at hu1
  have rg_x1 := pm_rng x1
  have zz0 := cw_sz hI ho0
  refine hC.1 0 0 _ _ rfl _ _ _ _ _ ?_
  refine And.intro (Exists.intro _ (cw_ro_o hI.1 ho0)) (Exists.intro _ (Exists.intro _ (Exists.intro _ (Exists.intro _ (And.intro (c_X7_has hI hs ho0 x1 ) (And.intro rfl (fun r9 A9 h9 => ?_)))))))
  rcases h9 with ⟨y2, rfl, rfl, ⟨rfl, by2⟩ | ⟨rfl, by2⟩⟩
  · skip
    have k1 : (1 : Int32).toInt = 1 := rfl
    refine And.intro (fun c9 => absurd c9 (by decide)) (fun _ => ?_)
    refine Exists.intro _ (And.intro (cw_ro_o hI.1 ho0) ?_)
    refine Exists.intro _ (Exists.intro _ (And.intro (Or.inl (cw_ro_3 hI.1 ho0)) (And.intro (by omega) ?_)))
    have w4 := cw_ahd hI ho0 (x1).toInt.toNat
    refine And.intro (Exists.intro _ (cw_ro_o hI.1 ho0)) (Exists.intro _ (Exists.intro _ (Exists.intro _ (Exists.intro _ (And.intro (F_X7_nameAt hI hs ho0 (e (o0 + 3) (x1).toInt.toNat) ) (And.intro rfl (fun r9 A9 h9 => ?_)))))))
    obtain ⟨y5, rfl, rfl, by5⟩ := h9
    refine hC.1 2 22 _ _ rfl _ _ _ _ _ ?_
    exact ⟨rfl, fun e9 => absurd e9 (by decide), rfl, y5, rfl, rfl, by intro h9; first | (exact (BA_n (by omega)).symm) | (exact (bo_l h9 (by omega) (by assumption)).trans (BA_y (by omega)).symm)⟩
  · skip
    have k0 : (0 : Int32).toInt = 0 := rfl
    refine And.intro (fun _ => ?_) (fun c9 => absurd c9 (by decide))
    refine hC.1 1 21 _ _ rfl _ _ _ _ _ ?_
    have km1 : (-1 : Int32).toInt = -1 := rfl
    refine hC.1 2 22 _ _ rfl _ _ _ _ _ ?_
    exact ⟨rfl, fun e9 => absurd e9 (by decide), rfl, (-1 : Int32), rfl, rfl, by intro h9; first | (exact (BA_n (by omega)).symm) | (exact (bo_l h9 (by omega) (by assumption)).trans (BA_y (by omega)).symm)⟩

set_option maxRecDepth 100000 in
set_option maxHeartbeats 2000000 in
theorem T_X9_append (hI : cw_I K nn dn q w e) (hs : cw_S v f) (x1 : Int32) (x2 : Int32) (x3 : Int32) (p0 : 0 ≤ x1.toInt ∧ x1.toInt ≤ 23) : pm_Mt l g 22 0 0 0 [.ref (q 1), .int x1, .int x2, .int x3] (cw A0 g K nn dn q w e v f) (cw_Qu A0 g K nn dn q (fun r w2 e2 v2 f2 => e2 15 = e 15 ∧ (r = none ∧ (((w2 0).toInt = (w 0).toInt ∧ (w2 1).toInt = (w 1).toInt ∧ (w2 3).toInt = (w 3).toInt) ∧ (((∀ i9, 40 ≤ i9 → (i9 < dn ∨ dn + 4 ≤ i9) → w2 i9 = w i9 ∧ e2 i9 = e i9) ∧ ∀ D, rp (w dn) (e (dn + 1)) (e (dn + 2)) (D) → (D.length : Int) < 160 → rp (w2 dn) (e2 (dn + 1)) (e2 (dn + 2)) (D ++ [(x1, x2)])) ∧ (∀ (n : Int) (c m : Nat → Int32), x3 = tcb n c m x2 → TB w e f dn n c m → TB w2 e2 f2 dn n c m)))))) := by
  refine mt_X9_append rfl (fun J hC => ?_)
  have ro_nn : cw_ro K nn := hI.2.1.2.1
  have ro_dn : cw_ro K dn := hI.2.1.2.2.1
  have hu1 := hI.2.1
  unfold cw_W at hu1
  have zs2 := cw_sz hI ro_nn
  have zs3 := cw_sz hI ro_dn
  have rg_x1 := pm_rng x1
  have rg_x2 := pm_rng x2
  have rg_x3 := pm_rng x3
  refine hC.1 0 0 _ _ rfl _ _ _ _ _ ?_
  refine Exists.intro _ (And.intro (cw_o1 hI.1) ?_)
  refine Exists.intro _ (And.intro (cw_ro_o hI.1 ro_dn) ?_)
  have z4 := cw_sz hI ro_dn
  refine And.intro (fun c5 => ?_) (fun c5 => ?_)
  · skip
    refine hC.1 1 22 _ _ rfl _ _ _ _ _ ?_
    exact ⟨rfl, rfl, w, e, v, f, rfl, hI, hs, rfl, rfl, by first | omega | (dsimp only; omega) | trivial, by refine ⟨?_, ?_⟩; (exact ⟨fun _ _ _ => ⟨rfl, rfl⟩, fun D hD hlen => absurd hD.1 (by omega)⟩); (exact fun n c m _ h => h)⟩
  · skip
    have k160 : (160 : Int32).toInt = 160 := rfl
    refine And.intro (fun c6 => ?_) (fun c6 => ?_)
    · skip
      refine hC.1 2 23 _ _ rfl _ _ _ _ _ ?_
      refine Exists.intro _ (And.intro (cw_o1 hI.1) ?_)
      refine Exists.intro _ (And.intro (cw_ro_o hI.1 ro_dn) ?_)
      have hb7 := ro_dn
      unfold cw_ro at hb7
      refine Exists.intro _ (Exists.intro _ (And.intro (cw_ro_1 hI.1 ro_dn) (And.intro (by omega) ?_)))
      rw [cw_sr_1 hI.1 ro_dn]
      obtain ⟨e8, ee8⟩ : ∃ z9, z9 = va_up e (dn + 1) (upd (e (dn + 1)) ((w dn)).toInt.toNat x1) := ⟨_, rfl⟩
      rw [← ee8]
      have hI8 : cw_I K nn dn q w e8 := ⟨hI.1, hI.2.1, hI.2.2.1, by rw [ee8]; exact cw_E_1 hI.2.2.2 (by omega) _ _ (by omega)⟩
      have hx8 : e8 15 = e 15 := (show e8 15 = e 15 by rw [ee8]; exact if_neg (by omega)).trans rfl
      have pe_33 := ee8
      refine Exists.intro _ (And.intro (cw_o1 hI8.1) ?_)
      refine Exists.intro _ (And.intro (cw_ro_o hI8.1 ro_dn) ?_)
      have hb9 := ro_dn
      unfold cw_ro at hb9
      refine Exists.intro _ (Exists.intro _ (And.intro (cw_ro_2 hI8.1 ro_dn) (And.intro (by omega) ?_)))
      rw [cw_sr_2 hI8.1 ro_dn]
      obtain ⟨e10, ee10⟩ : ∃ z9, z9 = va_up e8 (dn + 2) (upd (e8 (dn + 2)) ((w dn)).toInt.toNat x2) := ⟨_, rfl⟩
      rw [← ee10]
      have hI10 : cw_I K nn dn q w e10 := ⟨hI8.1, hI8.2.1, hI8.2.2.1, by rw [ee10]; exact cw_E_2 hI8.2.2.2 (by omega) _⟩
      have hx10 : e10 15 = e 15 := (show e10 15 = e8 15 by rw [ee10]; exact if_neg (by omega)).trans hx8
      have pe_44 := ee10
      refine Exists.intro _ (And.intro (cw_o1 hI10.1) ?_)
      refine Exists.intro _ (Exists.intro _ (And.intro (cw_a12 hI10.1) (And.intro (by omega) ?_)))
      rw [cw_s12 hI10.1]
      obtain ⟨f11, ef11⟩ : ∃ z9, z9 = va_up f 12 (upd (f 12) ((w dn)).toInt.toNat x3) := ⟨_, rfl⟩
      rw [← ef11]
      have hs11 : cw_S v f11 := by rw [ef11]; exact cw_S_fr hs _ _ (by decide) (by decide)
      have pf_52 := ef11
      refine Exists.intro _ (And.intro (cw_o1 hI10.1) ?_)
      have k1 : (1 : Int32).toInt = 1 := rfl
      intro m12 em_60
      try have e12 : m12.toInt = ((w dn)).toInt + (1) := by rw [em_60]; exact pm_addc _ _ (1) rfl (by omega) (by omega)
      have hb13 := ro_dn
      unfold cw_ro at hb13
      refine Exists.intro _ (And.intro (cw_ro_o hI10.1 ro_dn) (And.intro rfl ?_))
      rw [cw_p_size hI10.1 ro_dn]
      obtain ⟨w14, ew14⟩ : ∃ z9, z9 = upd w dn m12 := ⟨_, rfl⟩
      rw [← ew14]
      have ew14_0 : (w14 0).toInt = (w 0).toInt := by rw [ew14, pk_un (by omega)]
      have ew14_1 : (w14 1).toInt = (w 1).toInt := by rw [ew14, pk_un (by omega)]
      have ew14_2 : (w14 2).toInt = (w 2).toInt := by rw [ew14, pk_un (by omega)]
      have ew14_3 : (w14 3).toInt = (w 3).toInt := by rw [ew14, pk_un (by omega)]
      have pn_61 : w14 dn = m12 := by rw [ew14, pk_us]
      have pw_61 := ew14
      have hZ14 : cw_Z w14 := by rw [ew14]; exact cw_Z_up hI10.2.2.1 _ _ (by omega)
      have hI14 : cw_I K nn dn q w14 e10 := ⟨hI10.1, by unfold cw_W; omega, hZ14, hI10.2.2.2⟩
      exact ⟨rfl, rfl, w14, e10, v, f11, rfl, hI14, hs11, hx10, rfl, by first | omega | (dsimp only; omega) | trivial, by refine ⟨?_, ?_⟩; (exact ⟨fun i9 h91 h92 => ⟨by rw [pw_61, pk_un (by omega)], by rw [pe_44, va_un (by omega), pe_33, va_un (by omega)]⟩, fun D hD hlen => (by rw [pw_61, pk_us, pe_44, va_un (by omega), va_us, pe_33, va_us, va_un (by omega)]; exact rp_app hD (by omega) _ _)⟩); (exact fun n c m hb h => TB_app h (by omega) (by rw [pw_61, pk_us]; omega) (by rw [pe_44, va_us, pe_33, va_un (by omega)]) (by rw [pf_52, va_us]) hb)⟩
    · skip
      refine hC.1 1 22 _ _ rfl _ _ _ _ _ ?_
      exact ⟨rfl, rfl, w, e, v, f, rfl, hI, hs, rfl, rfl, by first | omega | (dsimp only; omega) | trivial, by refine ⟨?_, ?_⟩; (exact ⟨fun _ _ _ => ⟨rfl, rfl⟩, fun D hD hlen => absurd hD.1 (by omega)⟩); (exact fun n c m _ h => h)⟩

set_option maxRecDepth 100000 in
set_option maxHeartbeats 2000000 in
theorem T_X9_keep (hI : cw_I K nn dn q w e) (hs : cw_S v f) (x1 : Int32) (x2 : Int32)  : pm_Mt l g 18 3 0 0 [.ref (q 1), .int x1, .int x2] (cw A0 g K nn dn q w e v f) (cw_Qu A0 g K nn dn q (fun r w2 e2 v2 f2 => e2 15 = e 15 ∧ (r = none ∧ (((w2 0).toInt = (w 0).toInt ∧ (w2 1).toInt = (w 1).toInt ∧ (w2 3).toInt = (w 3).toInt) ∧ (((∀ i9, 40 ≤ i9 → (i9 < dn ∨ dn + 4 ≤ i9) → w2 i9 = w i9 ∧ e2 i9 = e i9) ∧ ∀ (L D : List pl_P) (a b : Int), rp (w nn) (e (nn + 1)) (e (nn + 2)) (L) → nn ≠ dn → x1.toInt = a → x2.toInt + 1 = b → 0 ≤ a → a ≤ b → b ≤ (L.length : Int) → (D.length : Int) + (b - a) ≤ 160 → rp (w dn) (e (dn + 1)) (e (dn + 2)) (D) → rp (w2 dn) (e2 (dn + 1)) (e2 (dn + 2)) (D ++ si L a b)) ∧ (nn ≠ dn → UQ (w nn).toInt (e (nn + 2)) → bd (w nn) (e (nn + 1)) (e (nn + 3)) → TB w e f dn (w nn).toInt (e (nn + 1)) (e (nn + 2)) → TB w2 e2 f2 dn (w nn).toInt (e (nn + 1)) (e (nn + 2)))))))) := by
  refine mt_X9_keep rfl (fun J hC => ?_)
  have ro_nn : cw_ro K nn := hI.2.1.2.1
  have ro_dn : cw_ro K dn := hI.2.1.2.2.1
  have hu1 := hI.2.1
  unfold cw_W at hu1
  have zs2 := cw_sz hI ro_nn
  have zs3 := cw_sz hI ro_dn
  have rg_x1 := pm_rng x1
  have rg_x2 := pm_rng x2
  refine hC.1 0 0 _ _ rfl _ _ _ _ _ ?_
  have lp5 : ∀ (n : Nat) (z3_2 : Int32) (w4 : Nat → Int32) (e4 : Nat → Nat → Int32) (v4 : Nat → Int32) (f4 : Nat → Nat → Int32), cw_I K nn dn q w4 e4 → e4 15 = e 15 → cw_S v4 f4 → ((∀ i9, 40 ≤ i9 → (i9 < dn ∨ dn + 4 ≤ i9) → w4 i9 = w i9 ∧ e4 i9 = e i9)) → (∀ L D, rp (w nn) (e (nn + 1)) (e (nn + 2)) (L) → nn ≠ dn → 0 ≤ x1.toInt → x1.toInt ≤ x2.toInt + 1 → x2.toInt + 1 ≤ (L.length : Int) → (D.length : Int) + (x2.toInt + 1 - x1.toInt) ≤ 160 → rp (w dn) (e (dn + 1)) (e (dn + 2)) (D) → (x1.toInt ≤ z3_2.toInt ∧ z3_2.toInt ≤ x2.toInt + 1) ∧ rp (w4 dn) (e4 (dn + 1)) (e4 (dn + 2)) (D ++ si L x1.toInt z3_2.toInt)) → (nn ≠ dn → UQ (w nn).toInt (e (nn + 2)) → bd (w nn) (e (nn + 1)) (e (nn + 3)) → TB w e f dn (w nn).toInt (e (nn + 1)) (e (nn + 2)) → TB w4 e4 f4 dn (w nn).toInt (e (nn + 1)) (e (nn + 2))) → (w4 0).toInt = (w 0).toInt → (w4 1).toInt = (w 1).toInt → (w4 3).toInt = (w 3).toInt → ((200 - z3_2.toInt).toNat : Int) < (n : Int) → J 2 [some (.ref (q 1)), some (.int x1), some (.int x2), some (.int z3_2)] [] (cw A0 g K nn dn q w4 e4 v4 f4) 0 0 := by
    intro n
    induction n with
    | zero =>
      intro z3_2 w4 e4 v4 f4 hI4 hx4 hs4 j0_2 j1_2 j2_2 j3_2 j4_2 j5_2 j6_2
      omega
    | succ n ih6 =>
      intro z3_2 w4 e4 v4 f4 hI4 hx4 hs4 j0_2 j1_2 j2_2 j3_2 j4_2 j5_2 j6_2
      have hu7 := hI4.2.1
      unfold cw_W at hu7
      have zs8 := cw_sz hI4 ro_nn
      have zs9 := cw_sz hI4 ro_dn
      refine hC.1 1 2 _ _ rfl _ _ _ _ _ ?_
      refine And.intro (fun c10 => ?_) (fun c10 => ?_)
      · skip
        refine hC.1 2 54 _ _ rfl _ _ _ _ _ ?_
        exact ⟨rfl, rfl, w4, e4, v4, f4, rfl, hI4, hs4, hx4, rfl, by first | omega | (dsimp only; omega) | trivial, by refine ⟨?_, ?_⟩; (exact ⟨j0_2, fun L D a b h1 h2 ha hb h3 h4 h5 h6 h7 => (by have hl := h1.1; obtain ⟨r1, r2⟩ := j1_2 L D h1 h2 (by omega) (by omega) (by omega) (by omega) h7; have hn1 := ro_nn; have hd1 := ro_dn; unfold cw_ro at hn1 hd1; have hw9 := congrArg Int32.toInt (j0_2 nn (by omega) (by omega)).1; rw [show a = x1.toInt by omega, show b = z3_2.toInt by omega]; exact r2)⟩); (exact j2_2)⟩
      · skip
        refine Exists.intro _ (And.intro (cw_o1 hI4.1) ?_)
        refine And.intro (Exists.intro _ (cw_ro_o hI4.1 ro_nn)) (Exists.intro _ (Exists.intro _ (Exists.intro _ (Exists.intro _ (And.intro (c_X7_has hI4 hs4 ro_nn z3_2 ) (And.intro rfl (fun r9 A9 h9 => ?_)))))))
        rcases h9 with ⟨y11, rfl, rfl, ⟨rfl, by11⟩ | ⟨rfl, by11⟩⟩
        · skip
          have k1 : (1 : Int32).toInt = 1 := rfl
          refine And.intro (fun c9 => absurd c9 (by decide)) (fun _ => ?_)
          refine Exists.intro _ (And.intro (cw_o1 hI4.1) ?_)
          refine Exists.intro _ (And.intro (cw_ro_o hI4.1 ro_nn) ?_)
          refine Exists.intro _ (Exists.intro _ (And.intro (Or.inl (cw_ro_1 hI4.1 ro_nn)) (And.intro (by omega) ?_)))
          have w13 := cw_col hI4 ro_nn (z3_2).toInt.toNat
          refine Exists.intro _ (And.intro (cw_o1 hI4.1) ?_)
          refine Exists.intro _ (And.intro (cw_ro_o hI4.1 ro_nn) ?_)
          refine Exists.intro _ (Exists.intro _ (And.intro (Or.inl (cw_ro_2 hI4.1 ro_nn)) (And.intro (by omega) ?_)))
          refine Exists.intro _ (And.intro (cw_o1 hI4.1) ?_)
          refine And.intro (Exists.intro _ (cw_ro_o hI4.1 ro_nn)) (Exists.intro _ (Exists.intro _ (Exists.intro _ (Exists.intro _ (And.intro (T_X7_bondAt hI4 hs4 ro_nn z3_2 ) (And.intro rfl (fun r9 A9 h9 => ?_)))))))
          obtain ⟨y14, rfl, rfl, by14⟩ := h9
          have yb_9 := by14
          refine And.intro (Exists.intro _ (cw_o1 hI4.1)) (Exists.intro _ (Exists.intro _ (Exists.intro _ (Exists.intro _ (And.intro (T_X9_append hI4 hs4 (e4 (nn + 1) (z3_2).toInt.toNat) (e4 (nn + 2) (z3_2).toInt.toNat) y14 (by omega)) (And.intro rfl (fun r9 A9 h9 => ?_)))))))
          rcases h9 with ⟨w17, e17, v17, f17, rfl, hI17, hs17, hy17, rfl, by16⟩
          have hx17 : e17 15 = e 15 := hy17.trans hx4
          have zs18 := cw_sz hI17 ro_nn
          have zs19 := cw_sz hI17 ro_dn
          have hb_45 := by16.2.1
          have ht_45 := by16.2.2
          have sw17_0 : (w17 0).toInt = (w4 0).toInt := by16.1.1
          have sw17_1 : (w17 1).toInt = (w4 1).toInt := by16.1.2.1
          have sw17_3 : (w17 3).toInt = (w4 3).toInt := by16.1.2.2
          clear by16
          intro m20 em_48
          try have e20 : m20.toInt = (z3_2).toInt + (1) := by rw [em_48]; exact pm_addc _ _ (1) rfl (by omega) (by omega)
          exact ih6 m20 w17 e17 v17 f17 hI17 hx17 hs17 (by exact fun i9 h91 h92 => ⟨(hb_45.1 i9 h91 h92).1.trans (j0_2 i9 h91 h92).1, (hb_45.1 i9 h91 h92).2.trans (j0_2 i9 h91 h92).2⟩) (by intro L D h1 h2 h3 h4 h5 h6 h7; have hl := h1.1; obtain ⟨r1, r2⟩ := j1_2 L D h1 h2 h3 h4 h5 h6 h7; have hk := si_len (L := L) (a := x1.toInt) (b := z3_2.toInt) h3 r1.1 (by omega); refine ⟨by omega, ?_⟩; have h8 := hb_45.2 _ r2 (by rw [List.length_append]; omega); rw [show m20.toInt = z3_2.toInt + 1 by omega, si_s h1 h3 r1.1 (by omega), ← List.append_assoc]; have hn1 := ro_nn; have hd1 := ro_dn; unfold cw_ro at hn1 hd1; rw [(j0_2 (nn + 1) (by omega) (by omega)).2, (j0_2 (nn + 2) (by omega) (by omega)).2] at h8; exact h8) (by intro h1 h2 h3 h4; have hn1 := ro_nn; have hd1 := ro_dn; unfold cw_ro at hn1 hd1; have q0 := (j0_2 nn (by omega) (by omega)).1; have q1 := (j0_2 (nn + 1) (by omega) (by omega)).2; have q2 := (j0_2 (nn + 2) (by omega) (by omega)).2; have q3 := (j0_2 (nn + 3) (by omega) (by omega)).2; have h5 := j2_2 h1 h2 h3 h4; rw [q0, q1, q2, q3] at yb_9; have q9 := congrArg Int32.toInt q0; have h6 := (yb_9 (fun a1 a2 => h3 _ (by omega))).trans (BA_y (by omega)); refine ht_45 _ _ _ ?_ h5; rw [q2]; exact tcb_y h2 (by omega) h6) (by omega) (by omega) (by omega) (by omega)
        · skip
          have k0 : (0 : Int32).toInt = 0 := rfl
          refine And.intro (fun _ => ?_) (fun c9 => absurd c9 (by decide))
          refine hC.1 2 54 _ _ rfl _ _ _ _ _ ?_
          exact ⟨rfl, rfl, w4, e4, v4, f4, rfl, hI4, hs4, hx4, rfl, by first | omega | (dsimp only; omega) | trivial, by refine ⟨?_, ?_⟩; (exact ⟨j0_2, fun L D a b h1 h2 ha hb h3 h4 h5 h6 h7 => (by have hl := h1.1; obtain ⟨r1, r2⟩ := j1_2 L D h1 h2 (by omega) (by omega) (by omega) (by omega) h7; have hn1 := ro_nn; have hd1 := ro_dn; unfold cw_ro at hn1 hd1; have hw9 := congrArg Int32.toInt (j0_2 nn (by omega) (by omega)).1; rw [show a = x1.toInt by omega, show b = z3_2.toInt by omega]; exact r2)⟩); (exact j2_2)⟩
  exact lp5 (((200 - x1.toInt).toNat : Int)).toNat.succ x1 w e v f hI rfl hs (by exact fun _ _ _ => ⟨rfl, rfl⟩) (by intro L D h1 h2 h3 h4 h5 h6 h7; refine ⟨by omega, ?_⟩; rw [si_n (L := L) (a := x1.toInt) (b := x1.toInt) (Int.le_refl _), List.append_nil]; exact h7) (by exact fun _ _ _ h => h) (by omega) (by omega) (by omega) (by omega)

set_option maxRecDepth 100000 in
set_option maxHeartbeats 2000000 in
theorem T_X9_keepAs (hI : cw_I K nn dn q w e) (hs : cw_S v f) (x1 : Int32) (x2 : Int32) (p0 : 0 ≤ x2.toInt ∧ x2.toInt ≤ 23) : pm_Mt l g 23 3 0 0 [.ref (q 1), .int x1, .int x2] (cw A0 g K nn dn q w e v f) (cw_Qu A0 g K nn dn q (fun r w2 e2 v2 f2 => e2 15 = e 15 ∧ (r = none ∧ (((w2 0).toInt = (w 0).toInt ∧ (w2 1).toInt = (w 1).toInt ∧ (w2 3).toInt = (w 3).toInt) ∧ (((∀ i9, 40 ≤ i9 → (i9 < dn ∨ dn + 4 ≤ i9) → w2 i9 = w i9 ∧ e2 i9 = e i9) ∧ ∀ L D, rp (w nn) (e (nn + 1)) (e (nn + 2)) (L) → nn ≠ dn → 0 ≤ x1.toInt → x1.toInt < (L.length : Int) → (D.length : Int) < 160 → rp (w dn) (e (dn + 1)) (e (dn + 2)) (D) → rp (w2 dn) (e2 (dn + 1)) (e2 (dn + 2)) (D ++ [(x2, e (nn + 2) x1.toInt.toNat)])) ∧ (nn ≠ dn → UQ (w nn).toInt (e (nn + 2)) → bd (w nn) (e (nn + 1)) (e (nn + 3)) → TB w e f dn (w nn).toInt (e (nn + 1)) (e (nn + 2)) → TB w2 e2 f2 dn (w nn).toInt (e (nn + 1)) (e (nn + 2)))))))) := by
  refine mt_X9_keepAs rfl (fun J hC => ?_)
  have ro_nn : cw_ro K nn := hI.2.1.2.1
  have ro_dn : cw_ro K dn := hI.2.1.2.2.1
  have hu1 := hI.2.1
  unfold cw_W at hu1
  have zs2 := cw_sz hI ro_nn
  have zs3 := cw_sz hI ro_dn
  have rg_x1 := pm_rng x1
  have rg_x2 := pm_rng x2
  refine hC.1 0 0 _ _ rfl _ _ _ _ _ ?_
  refine Exists.intro _ (And.intro (cw_o1 hI.1) ?_)
  refine And.intro (Exists.intro _ (cw_ro_o hI.1 ro_nn)) (Exists.intro _ (Exists.intro _ (Exists.intro _ (Exists.intro _ (And.intro (c_X7_has hI hs ro_nn x1 ) (And.intro rfl (fun r9 A9 h9 => ?_)))))))
  rcases h9 with ⟨y4, rfl, rfl, ⟨rfl, by4⟩ | ⟨rfl, by4⟩⟩
  · skip
    have k1 : (1 : Int32).toInt = 1 := rfl
    refine And.intro (fun c9 => absurd c9 (by decide)) (fun _ => ?_)
    refine Exists.intro _ (And.intro (cw_o1 hI.1) ?_)
    refine Exists.intro _ (And.intro (cw_ro_o hI.1 ro_nn) ?_)
    refine Exists.intro _ (Exists.intro _ (And.intro (Or.inl (cw_ro_2 hI.1 ro_nn)) (And.intro (by omega) ?_)))
    refine Exists.intro _ (And.intro (cw_o1 hI.1) ?_)
    refine And.intro (Exists.intro _ (cw_ro_o hI.1 ro_nn)) (Exists.intro _ (Exists.intro _ (Exists.intro _ (Exists.intro _ (And.intro (T_X7_bondAt hI hs ro_nn x1 ) (And.intro rfl (fun r9 A9 h9 => ?_)))))))
    obtain ⟨y6, rfl, rfl, by6⟩ := h9
    have yb_9 := by6
    refine And.intro (Exists.intro _ (cw_o1 hI.1)) (Exists.intro _ (Exists.intro _ (Exists.intro _ (Exists.intro _ (And.intro (T_X9_append hI hs x2 (e (nn + 2) (x1).toInt.toNat) y6 (by omega)) (And.intro rfl (fun r9 A9 h9 => ?_)))))))
    rcases h9 with ⟨w9, e9, v9, f9, rfl, hI9, hs9, hy9, rfl, by8⟩
    have hx9 : e9 15 = e 15 := hy9.trans rfl
    have zs10 := cw_sz hI9 ro_nn
    have zs11 := cw_sz hI9 ro_dn
    have hb_30 := by8.2.1
    have ht_30 := by8.2.2
    have sw9_0 : (w9 0).toInt = (w 0).toInt := by8.1.1
    have sw9_1 : (w9 1).toInt = (w 1).toInt := by8.1.2.1
    have sw9_3 : (w9 3).toInt = (w 3).toInt := by8.1.2.2
    clear by8
    refine hC.1 1 33 _ _ rfl _ _ _ _ _ ?_
    exact ⟨rfl, rfl, w9, e9, v9, f9, rfl, hI9, hs9, hx9, rfl, by first | omega | (dsimp only; omega) | trivial, by refine ⟨?_, ?_⟩; (first | exact ⟨hb_30.1, fun L D h1 h2 h3 h4 h5 h6 => hb_30.2 _ h6 h5⟩ | exact ⟨fun _ _ _ => ⟨rfl, rfl⟩, fun L D h1 h2 h3 h4 h5 h6 => absurd h1.1 (by omega)⟩); (first | (exact fun h1 h2 h3 h4 => ht_30 _ _ _ (tcb_y h2 (by omega) ((yb_9 (fun a1 a2 => h3 _ (by omega))).trans (BA_y (by omega)))) h4) | (exact fun _ _ _ h => h) | (exact fun h1 h2 h3 h4 => ht_30 _ _ _ (tcb_y h2 (by omega) ((yb_9 (fun a1 a2 => h3 _ (by omega))).trans (BA_y (by omega)))) h4))⟩
  · skip
    have k0 : (0 : Int32).toInt = 0 := rfl
    refine And.intro (fun _ => ?_) (fun c9 => absurd c9 (by decide))
    refine hC.1 1 33 _ _ rfl _ _ _ _ _ ?_
    exact ⟨rfl, rfl, w, e, v, f, rfl, hI, hs, rfl, rfl, by first | omega | (dsimp only; omega) | trivial, by refine ⟨?_, ?_⟩; (first | exact ⟨hb_30.1, fun L D h1 h2 h3 h4 h5 h6 => hb_30.2 _ h6 h5⟩ | exact ⟨fun _ _ _ => ⟨rfl, rfl⟩, fun L D h1 h2 h3 h4 h5 h6 => absurd h1.1 (by omega)⟩); (first | (exact fun h1 h2 h3 h4 => ht_30 _ _ _ (tcb_y h2 (by omega) ((yb_9 (fun a1 a2 => h3 _ (by omega))).trans (BA_y (by omega)))) h4) | (exact fun _ _ _ h => h) | (exact fun h1 h2 h3 h4 => ht_30 _ _ _ (tcb_y h2 (by omega) ((yb_9 (fun a1 a2 => h3 _ (by omega))).trans (BA_y (by omega)))) h4))⟩

set_option maxRecDepth 100000 in
set_option maxHeartbeats 2000000 in
theorem T_X9_keepThoseOf (hI : cw_I K nn dn q w e) (hs : cw_S v f) (x1 : Int32) (x2 : Int32) (x3 : Int32) (p0 : 0 ≤ x1.toInt ∧ x1.toInt ≤ 23) : pm_Mt l g 33 4 0 0 [.ref (q 1), .int x1, .int x2, .int x3] (cw A0 g K nn dn q w e v f) (cw_Qu A0 g K nn dn q (fun r w2 e2 v2 f2 => e2 15 = e 15 ∧ (r = none ∧ (((w2 0).toInt = (w 0).toInt ∧ (w2 1).toInt = (w 1).toInt ∧ (w2 3).toInt = (w 3).toInt) ∧ (((∀ i9, 40 ≤ i9 → (i9 < dn ∨ dn + 4 ≤ i9) → w2 i9 = w i9 ∧ e2 i9 = e i9) ∧ ∀ (L D : List pl_P) (a b : Int), rp (w nn) (e (nn + 1)) (e (nn + 2)) (L) → nn ≠ dn → x2.toInt = a → x3.toInt + 1 = b → 0 ≤ a → a ≤ b → b ≤ (L.length : Int) → (D.length : Int) + (((si L a b).filter (fun p => decide (p.1.toInt = x1.toInt))).length : Int) ≤ 160 → rp (w dn) (e (dn + 1)) (e (dn + 2)) (D) → rp (w2 dn) (e2 (dn + 1)) (e2 (dn + 2)) (D ++ (si L a b).filter (fun p => decide (p.1.toInt = x1.toInt)))) ∧ (nn ≠ dn → UQ (w nn).toInt (e (nn + 2)) → bd (w nn) (e (nn + 1)) (e (nn + 3)) → TB w e f dn (w nn).toInt (e (nn + 1)) (e (nn + 2)) → TB w2 e2 f2 dn (w nn).toInt (e (nn + 1)) (e (nn + 2)))))))) := by
  refine mt_X9_keepThoseOf rfl (fun J hC => ?_)
  have ro_nn : cw_ro K nn := hI.2.1.2.1
  have ro_dn : cw_ro K dn := hI.2.1.2.2.1
  have hu1 := hI.2.1
  unfold cw_W at hu1
  have zs2 := cw_sz hI ro_nn
  have zs3 := cw_sz hI ro_dn
  have rg_x1 := pm_rng x1
  have rg_x2 := pm_rng x2
  have rg_x3 := pm_rng x3
  refine hC.1 0 0 _ _ rfl _ _ _ _ _ ?_
  have lp5 : ∀ (n : Nat) (z4_3 : Int32) (w4 : Nat → Int32) (e4 : Nat → Nat → Int32) (v4 : Nat → Int32) (f4 : Nat → Nat → Int32), cw_I K nn dn q w4 e4 → e4 15 = e 15 → cw_S v4 f4 → ((∀ i9, 40 ≤ i9 → (i9 < dn ∨ dn + 4 ≤ i9) → w4 i9 = w i9 ∧ e4 i9 = e i9)) → (∀ L D, rp (w nn) (e (nn + 1)) (e (nn + 2)) (L) → nn ≠ dn → 0 ≤ x2.toInt → x2.toInt ≤ x3.toInt + 1 → x3.toInt + 1 ≤ (L.length : Int) → (D.length : Int) + (((si L x2.toInt (x3.toInt + 1)).filter (fun p => decide (p.1.toInt = x1.toInt))).length : Int) ≤ 160 → rp (w dn) (e (dn + 1)) (e (dn + 2)) (D) → (x2.toInt ≤ z4_3.toInt ∧ z4_3.toInt ≤ x3.toInt + 1) ∧ rp (w4 dn) (e4 (dn + 1)) (e4 (dn + 2)) (D ++ (si L x2.toInt z4_3.toInt).filter (fun p => decide (p.1.toInt = x1.toInt)))) → (nn ≠ dn → UQ (w nn).toInt (e (nn + 2)) → bd (w nn) (e (nn + 1)) (e (nn + 3)) → TB w e f dn (w nn).toInt (e (nn + 1)) (e (nn + 2)) → TB w4 e4 f4 dn (w nn).toInt (e (nn + 1)) (e (nn + 2))) → (w4 0).toInt = (w 0).toInt → (w4 1).toInt = (w 1).toInt → (w4 3).toInt = (w 3).toInt → ((200 - z4_3.toInt).toNat : Int) < (n : Int) → J 3 [some (.ref (q 1)), some (.int x1), some (.int x2), some (.int x3), some (.int z4_3)] [] (cw A0 g K nn dn q w4 e4 v4 f4) 0 0 := by
    intro n
    induction n with
    | zero =>
      intro z4_3 w4 e4 v4 f4 hI4 hx4 hs4 j0_3 j1_3 j2_3 j3_3 j4_3 j5_3 j6_3
      omega
    | succ n ih6 =>
      intro z4_3 w4 e4 v4 f4 hI4 hx4 hs4 j0_3 j1_3 j2_3 j3_3 j4_3 j5_3 j6_3
      have hu7 := hI4.2.1
      unfold cw_W at hu7
      have zs8 := cw_sz hI4 ro_nn
      have zs9 := cw_sz hI4 ro_dn
      refine hC.1 1 3 _ _ rfl _ _ _ _ _ ?_
      refine And.intro (fun c10 => ?_) (fun c10 => ?_)
      · skip
        refine hC.1 3 48 _ _ rfl _ _ _ _ _ ?_
        exact ⟨rfl, rfl, w4, e4, v4, f4, rfl, hI4, hs4, hx4, rfl, by first | omega | (dsimp only; omega) | trivial, by refine ⟨?_, ?_⟩; (exact ⟨j0_3, fun L D a b h1 h2 ha hb h3 h4 h5 h6 h7 => (by subst ha; subst hb; have hl := h1.1; obtain ⟨r1, r2⟩ := j1_3 L D h1 h2 h3 h4 h5 h6 h7; have hn1 := ro_nn; have hd1 := ro_dn; unfold cw_ro at hn1 hd1; have hw9 := congrArg Int32.toInt (j0_3 nn (by omega) (by omega)).1; rw [show x3.toInt + 1 = z4_3.toInt by omega]; exact r2)⟩); (exact j2_3)⟩
      · skip
        refine Exists.intro _ (And.intro (cw_o1 hI4.1) ?_)
        refine And.intro (Exists.intro _ (cw_ro_o hI4.1 ro_nn)) (Exists.intro _ (Exists.intro _ (Exists.intro _ (Exists.intro _ (And.intro (c_X7_has hI4 hs4 ro_nn z4_3 ) (And.intro rfl (fun r9 A9 h9 => ?_)))))))
        rcases h9 with ⟨y11, rfl, rfl, ⟨rfl, by11⟩ | ⟨rfl, by11⟩⟩
        · skip
          have k1 : (1 : Int32).toInt = 1 := rfl
          refine And.intro (fun c9 => absurd c9 (by decide)) (fun _ => ?_)
          refine Exists.intro _ (And.intro (cw_o1 hI4.1) ?_)
          refine Exists.intro _ (And.intro (cw_ro_o hI4.1 ro_nn) ?_)
          refine Exists.intro _ (Exists.intro _ (And.intro (Or.inl (cw_ro_1 hI4.1 ro_nn)) (And.intro (by omega) ?_)))
          have w13 := cw_col hI4 ro_nn (z4_3).toInt.toNat
          refine And.intro (fun c14 => ?_) (fun c14 => ?_)
          · skip
            have dc14 := pm_neI c14
            refine hC.1 2 42 _ _ rfl _ _ _ _ _ ?_
            intro m15 em_42
            try have e15 : m15.toInt = (z4_3).toInt + (1) := by rw [em_42]; exact pm_addc _ _ (1) rfl (by omega) (by omega)
            exact ih6 m15 w4 e4 v4 f4 hI4 hx4 hs4 (by first | exact fun i9 h91 h92 => ⟨(hb_39.1 i9 h91 h92).1.trans (j0_3 i9 h91 h92).1, (hb_39.1 i9 h91 h92).2.trans (j0_3 i9 h91 h92).2⟩ | exact j0_3) (by first | (intro L D h1 h2 h3 h4 h5 h6 h7; have hl := h1.1; obtain ⟨r1, r2⟩ := j1_3 L D h1 h2 h3 h4 h5 h6 h7; refine ⟨by omega, ?_⟩; have hn1 := ro_nn; have hd1 := ro_dn; unfold cw_ro at hn1 hd1; have en1 := (j0_3 (nn + 1) (by omega) (by omega)).2; have en2 := (j0_3 (nn + 2) (by omega) (by omega)).2; have hcc : (e (nn + 1) z4_3.toInt.toNat).toInt = x1.toInt := (by rw [← en1]; assumption); have hwn := (j0_3 nn (by omega) (by omega)).1; have h1b := rp_fr h1 (congrArg Int32.toInt hwn) en1 en2; have hs9 := si_s h1 h3 r1.1 (show z4_3.toInt < (L.length : Int) by omega); have hp9 := fl_len (L := L) (a := x2.toInt) (z := z4_3.toInt + 1) (b := x3.toInt + 1) (c := x1.toInt) h3 (by omega) (by omega) h5; rw [hs9, fl_y hcc, List.length_append] at hp9; have hp8 : ([(e (nn + 1) z4_3.toInt.toNat, e (nn + 2) z4_3.toInt.toNat)] : List pl_P).length = 1 := rfl; have h8 := hb_39.2 L _ h1b h2 (by omega) (by omega) (by rw [List.length_append]; omega) r2; rw [show m15.toInt = z4_3.toInt + 1 by omega, hs9, fl_y hcc, ← List.append_assoc]; rw [en2] at h8; rw [pm_eqI hcc]; exact h8) | (intro L D h1 h2 h3 h4 h5 h6 h7; have hl := h1.1; obtain ⟨r1, r2⟩ := j1_3 L D h1 h2 h3 h4 h5 h6 h7; refine ⟨by omega, ?_⟩; have hn1 := ro_nn; have hd1 := ro_dn; unfold cw_ro at hn1 hd1; have en1 := (j0_3 (nn + 1) (by omega) (by omega)).2; have hcc : ¬ (e (nn + 1) z4_3.toInt.toNat).toInt = x1.toInt := (by rw [← en1]; assumption); have hs9 := si_s h1 h3 r1.1 (show z4_3.toInt < (L.length : Int) by have := congrArg Int32.toInt (j0_3 nn (by omega) (by omega)).1; omega); rw [show m15.toInt = z4_3.toInt + 1 by omega, hs9, fl_n hcc]; exact r2)) (by first | (intro h1 h2 h3 h4; have hn1 := ro_nn; have hd1 := ro_dn; unfold cw_ro at hn1 hd1; have q0 := (j0_3 nn (by omega) (by omega)).1; have q1 := (j0_3 (nn + 1) (by omega) (by omega)).2; have q2 := (j0_3 (nn + 2) (by omega) (by omega)).2; have q3 := (j0_3 (nn + 3) (by omega) (by omega)).2; have h5 := j2_3 h1 h2 h3 h4; have h6 := ht_39 h1; rw [q0, q1, q2, q3] at h6; exact h6 h2 h3 h5) | (exact j2_3)) (by omega) (by omega) (by omega) (by omega)
          · skip
            have dc14 : ((e4 (nn + 1) (z4_3).toInt.toNat)).toInt = (x1 : Int32).toInt := congrArg Int32.toInt c14
            refine And.intro (Exists.intro _ (cw_o1 hI4.1)) (Exists.intro _ (Exists.intro _ (Exists.intro _ (Exists.intro _ (And.intro (T_X9_keepAs hI4 hs4 z4_3 x1 (by omega)) (And.intro rfl (fun r9 A9 h9 => ?_)))))))
            rcases h9 with ⟨w17, e17, v17, f17, rfl, hI17, hs17, hy17, rfl, by16⟩
            have hx17 : e17 15 = e 15 := hy17.trans hx4
            have zs18 := cw_sz hI17 ro_nn
            have zs19 := cw_sz hI17 ro_dn
            have hb_39 := by16.2.1
            have ht_39 := by16.2.2
            have sw17_0 : (w17 0).toInt = (w4 0).toInt := by16.1.1
            have sw17_1 : (w17 1).toInt = (w4 1).toInt := by16.1.2.1
            have sw17_3 : (w17 3).toInt = (w4 3).toInt := by16.1.2.2
            clear by16
            refine hC.1 2 42 _ _ rfl _ _ _ _ _ ?_
            intro m20 em_42
            try have e20 : m20.toInt = (z4_3).toInt + (1) := by rw [em_42]; exact pm_addc _ _ (1) rfl (by omega) (by omega)
            exact ih6 m20 w17 e17 v17 f17 hI17 hx17 hs17 (by first | exact fun i9 h91 h92 => ⟨(hb_39.1 i9 h91 h92).1.trans (j0_3 i9 h91 h92).1, (hb_39.1 i9 h91 h92).2.trans (j0_3 i9 h91 h92).2⟩ | exact j0_3) (by first | (intro L D h1 h2 h3 h4 h5 h6 h7; have hl := h1.1; obtain ⟨r1, r2⟩ := j1_3 L D h1 h2 h3 h4 h5 h6 h7; refine ⟨by omega, ?_⟩; have hn1 := ro_nn; have hd1 := ro_dn; unfold cw_ro at hn1 hd1; have en1 := (j0_3 (nn + 1) (by omega) (by omega)).2; have en2 := (j0_3 (nn + 2) (by omega) (by omega)).2; have hcc : (e (nn + 1) z4_3.toInt.toNat).toInt = x1.toInt := (by rw [← en1]; assumption); have hwn := (j0_3 nn (by omega) (by omega)).1; have h1b := rp_fr h1 (congrArg Int32.toInt hwn) en1 en2; have hs9 := si_s h1 h3 r1.1 (show z4_3.toInt < (L.length : Int) by omega); have hp9 := fl_len (L := L) (a := x2.toInt) (z := z4_3.toInt + 1) (b := x3.toInt + 1) (c := x1.toInt) h3 (by omega) (by omega) h5; rw [hs9, fl_y hcc, List.length_append] at hp9; have hp8 : ([(e (nn + 1) z4_3.toInt.toNat, e (nn + 2) z4_3.toInt.toNat)] : List pl_P).length = 1 := rfl; have h8 := hb_39.2 L _ h1b h2 (by omega) (by omega) (by rw [List.length_append]; omega) r2; rw [show m20.toInt = z4_3.toInt + 1 by omega, hs9, fl_y hcc, ← List.append_assoc]; rw [en2] at h8; rw [pm_eqI hcc]; exact h8) | (intro L D h1 h2 h3 h4 h5 h6 h7; have hl := h1.1; obtain ⟨r1, r2⟩ := j1_3 L D h1 h2 h3 h4 h5 h6 h7; refine ⟨by omega, ?_⟩; have hn1 := ro_nn; have hd1 := ro_dn; unfold cw_ro at hn1 hd1; have en1 := (j0_3 (nn + 1) (by omega) (by omega)).2; have hcc : ¬ (e (nn + 1) z4_3.toInt.toNat).toInt = x1.toInt := (by rw [← en1]; assumption); have hs9 := si_s h1 h3 r1.1 (show z4_3.toInt < (L.length : Int) by have := congrArg Int32.toInt (j0_3 nn (by omega) (by omega)).1; omega); rw [show m20.toInt = z4_3.toInt + 1 by omega, hs9, fl_n hcc]; exact r2)) (by first | (intro h1 h2 h3 h4; have hn1 := ro_nn; have hd1 := ro_dn; unfold cw_ro at hn1 hd1; have q0 := (j0_3 nn (by omega) (by omega)).1; have q1 := (j0_3 (nn + 1) (by omega) (by omega)).2; have q2 := (j0_3 (nn + 2) (by omega) (by omega)).2; have q3 := (j0_3 (nn + 3) (by omega) (by omega)).2; have h5 := j2_3 h1 h2 h3 h4; have h6 := ht_39 h1; rw [q0, q1, q2, q3] at h6; exact h6 h2 h3 h5) | (exact j2_3)) (by omega) (by omega) (by omega) (by omega)
        · skip
          have k0 : (0 : Int32).toInt = 0 := rfl
          refine And.intro (fun _ => ?_) (fun c9 => absurd c9 (by decide))
          refine hC.1 3 48 _ _ rfl _ _ _ _ _ ?_
          exact ⟨rfl, rfl, w4, e4, v4, f4, rfl, hI4, hs4, hx4, rfl, by first | omega | (dsimp only; omega) | trivial, by refine ⟨?_, ?_⟩; (exact ⟨j0_3, fun L D a b h1 h2 ha hb h3 h4 h5 h6 h7 => (by subst ha; subst hb; have hl := h1.1; obtain ⟨r1, r2⟩ := j1_3 L D h1 h2 h3 h4 h5 h6 h7; have hn1 := ro_nn; have hd1 := ro_dn; unfold cw_ro at hn1 hd1; have hw9 := congrArg Int32.toInt (j0_3 nn (by omega) (by omega)).1; rw [show x3.toInt + 1 = z4_3.toInt by omega]; exact r2)⟩); (exact j2_3)⟩
  exact lp5 (((200 - x2.toInt).toNat : Int)).toNat.succ x2 w e v f hI rfl hs (by exact fun _ _ _ => ⟨rfl, rfl⟩) (by intro L D h1 h2 h3 h4 h5 h6 h7; refine ⟨by omega, ?_⟩; rw [si_n (L := L) (a := x2.toInt) (b := x2.toInt) (Int.le_refl _)]; show rp _ _ _ (D ++ []); rw [List.append_nil]; exact h7) (by exact fun _ _ _ h => h) (by omega) (by omega) (by omega) (by omega)

end
end
section
section
variable {l : Launch} {g : pm_G} {A0 : pm_H} {K nn dn : Nat} {q : Nat → Nat} {w : Nat → Int32} {e : Nat → Nat → Int32} {v : Nat → Int32} {f : Nat → Nat → Int32}
set_option maxRecDepth 100000 in
set_option maxHeartbeats 2000000 in
theorem T_X9_finish (hI : cw_I K nn dn q w e) (hs : cw_S v f)  (p0 : (w 0).toInt + 2 ≤ K ∨ K = 41) (p1 : (w 0).toInt < 100000) : pm_Mt l g 24 3 0 0 [.ref (q 1)] (cw A0 g K nn dn q w e v f) (cw_Qu A0 g K dn dn q (fun r w2 e2 v2 f2 => e2 15 = e 15 ∧ (∃ x : Int32, r = some (.int x) ∧ (((w2 1).toInt = (w 1).toInt ∧ (w2 3).toInt = (w 3).toInt ∧ (w2 0).toInt = (w 0).toInt + 1) ∧ (((∀ i9, 40 ≤ i9 → (i9 < dn ∨ dn + 4 ≤ i9) → w2 i9 = w i9 ∧ e2 i9 = e i9) ∧ (∀ D, rp (w dn) (e (dn + 1)) (e (dn + 2)) (D) → rp (w2 dn) (e2 (dn + 1)) (e2 (dn + 2)) (D)) ∧ bd (w2 dn) (e2 (dn + 1)) (e2 (dn + 3))) ∧ (∀ (n : Int) (c m : Nat → Int32), UQ n m → TB w e f dn n c m → x.toInt = (tcN n c m (e2 (dn + 1)) (e2 (dn + 2)) (w2 dn).toInt.toNat : Int))))))) := by
  refine mt_X9_finish rfl (fun J hC => ?_)
  have ro_nn : cw_ro K nn := hI.2.1.2.1
  have ro_dn : cw_ro K dn := hI.2.1.2.2.1
  have hu1 := hI.2.1
  unfold cw_W at hu1
  have zs2 := cw_sz hI ro_nn
  have zs3 := cw_sz hI ro_dn
  refine hC.1 0 0 _ _ rfl _ _ _ _ _ ?_
  refine Exists.intro _ (And.intro (cw_o1 hI.1) ?_)
  have km1 : (-1 : Int32).toInt = -1 := rfl
  refine Exists.intro _ (Exists.intro _ (Exists.intro _ (Exists.intro _ (And.intro (c_fill (cw_a13 hI.1) (by decide) (-1 : Int32)) (And.intro rfl (fun r9 A9 h9 => ?_))))))
  obtain ⟨rfl, rfl⟩ := h9
  rw [cw_s13 hI.1]
  obtain ⟨f4, ef4⟩ : ∃ z9, z9 = va_up f 13 (fun j => if j < 24 then (-1 : Int32) else f 13 j) := ⟨_, rfl⟩
  rw [← ef4]
  have hs4 : cw_S v f4 := by rw [ef4]; exact cw_S_fl hs _ _ (by decide)
  have pf_5 := ef4
  have k0 : (0 : Int32).toInt = 0 := rfl
  have lp6 : ∀ (n : Nat) (z1_12 : Int32) (z2_12 : Int32) (w5 : Nat → Int32) (e5 : Nat → Nat → Int32) (v5 : Nat → Int32) (f5 : Nat → Nat → Int32), cw_I K nn dn q w5 e5 → e5 15 = e 15 → cw_S v5 f5 → (0 ≤ z2_12.toInt ∧ z2_12.toInt ≤ 160) → ((w5 0).toInt = (w 0).toInt) → (w5 = w ∧ ∀ i9, i9 ≠ dn + 3 → e5 i9 = e i9) → (∀ j : Nat, (j : Int) < z2_12.toInt → (e5 (dn + 3) j).toInt = lastEq (e (dn + 1)) (e (dn + 1) j) j) → (∀ c9 : Int32, 0 ≤ c9.toInt → c9.toInt ≤ 23 → (f5 13 c9.toInt.toNat).toInt = lastEq (e (dn + 1)) c9 z2_12.toInt.toNat) → (0 ≤ z1_12.toInt ∧ z1_12.toInt ≤ z2_12.toInt) → (f5 12 = f 12) → (∀ (n : Int) (c m : Nat → Int32), UQ n m → TB w e f dn n c m → z1_12.toInt = (tcN n c m (e (dn + 1)) (e (dn + 2)) z2_12.toInt.toNat : Int)) → (z2_12.toInt ≤ (w dn).toInt) → (w5 1).toInt = (w 1).toInt → (w5 3).toInt = (w 3).toInt → 200 - z2_12.toInt < (n : Int) → J 12 [some (.ref (q 1)), some (.int z1_12), some (.int z2_12), none] [] (cw A0 g K nn dn q w5 e5 v5 f5) 0 0 := by
    intro n
    induction n with
    | zero =>
      intro z1_12 z2_12 w5 e5 v5 f5 hI5 hx5 hs5 j0_12 j1_12 j2_12 j3_12 j4_12 j5_12 j6_12 j7_12 j8_12 j9_12 j10_12 j11_12
      omega
    | succ n ih7 =>
      intro z1_12 z2_12 w5 e5 v5 f5 hI5 hx5 hs5 j0_12 j1_12 j2_12 j3_12 j4_12 j5_12 j6_12 j7_12 j8_12 j9_12 j10_12 j11_12
      have hu8 := hI5.2.1
      unfold cw_W at hu8
      have zs9 := cw_sz hI5 ro_nn
      have zs10 := cw_sz hI5 ro_dn
      refine hC.1 1 12 _ _ rfl _ _ _ _ _ ?_
      refine Exists.intro _ (And.intro (cw_o1 hI5.1) ?_)
      refine Exists.intro _ (And.intro (cw_ro_o hI5.1 ro_dn) ?_)
      have z11 := cw_sz hI5 ro_dn
      refine And.intro (fun c12 => ?_) (fun c12 => ?_)
      · skip
        refine hC.1 3 92 _ _ rfl _ _ _ _ _ ?_
        refine Exists.intro _ (And.intro (cw_o1 hI5.1) ?_)
        have hb13 := ro_dn
        unfold cw_ro at hb13
        refine Exists.intro _ (And.intro (cw_ro_o hI5.1 ro_dn) (And.intro rfl ?_))
        rw [cw_p_touches hI5.1 ro_dn]
        obtain ⟨w14, ew14⟩ : ∃ z9, z9 = upd w5 (dn + 1) z1_12 := ⟨_, rfl⟩
        rw [← ew14]
        have ew14_0 : (w14 0).toInt = (w5 0).toInt := by rw [ew14, pk_un (by omega)]
        have ew14_1 : (w14 1).toInt = (w5 1).toInt := by rw [ew14, pk_un (by omega)]
        have ew14_2 : (w14 2).toInt = (w5 2).toInt := by rw [ew14, pk_un (by omega)]
        have ew14_3 : (w14 3).toInt = (w5 3).toInt := by rw [ew14, pk_un (by omega)]
        have pn_97 : w14 (dn + 1) = z1_12 := by rw [ew14, pk_us]
        have pw_97 := ew14
        have hZ14 : cw_Z w14 := by rw [ew14]; exact cw_Z_up hI5.2.2.1 _ _ (by omega)
        have hI14 : cw_I K nn dn q w14 e5 := ⟨hI5.1, by unfold cw_W; omega, hZ14, hI5.2.2.2⟩
        refine Exists.intro _ (And.intro (cw_o1 hI14.1) ?_)
        refine Exists.intro _ (And.intro (cw_o1 hI14.1) (And.intro rfl ?_))
        rw [cw_p_now hI14.1]
        have hI15 : cw_I K dn dn q w14 e5 := ⟨hI14.1, by have hu9 := hI14.2.1; unfold cw_W at hu9 ⊢; omega, hI14.2.2.1, hI14.2.2.2⟩
        refine Exists.intro _ (And.intro (cw_o1 hI15.1) ?_)
        have k1 : (1 : Int32).toInt = 1 := rfl
        intro m16 em_114
        try have e16 : m16.toInt = ((w14 0)).toInt + (1) := by rw [em_114]; exact pm_addc _ _ (1) rfl (by omega) (by omega)
        refine Exists.intro _ (And.intro (cw_o1 hI15.1) (And.intro rfl ?_))
        rw [cw_p_edits hI15.1]
        obtain ⟨w17, ew17⟩ : ∃ z9, z9 = upd w14 0 m16 := ⟨_, rfl⟩
        rw [← ew17]
        have ew17_0 : (w17 0).toInt = (m16).toInt := by rw [ew17]; rfl
        have ew17_1 : (w17 1).toInt = (w14 1).toInt := by rw [ew17]; rfl
        have ew17_2 : (w17 2).toInt = (w14 2).toInt := by rw [ew17]; rfl
        have ew17_3 : (w17 3).toInt = (w14 3).toInt := by rw [ew17]; rfl
        have pn_115 : w17 0 = m16 := by rw [ew17, pk_us]
        have pw_115 := ew17
        have hZ17 : cw_Z w17 := by rw [ew17]; exact cw_Z_up hI15.2.2.1 _ _ (by omega)
        have hI17 : cw_I K dn dn q w17 e5 := ⟨hI15.1, by unfold cw_W; omega, hZ17, hI15.2.2.2⟩
        refine Exists.intro _ (And.intro (cw_o1 hI17.1) ?_)
        intro m18 em_124
        try have e18 : m18.toInt = ((w17 2)).toInt + (z1_12).toInt := by rw [em_124]; exact pm_add _ _ (by omega) (by omega)
        refine Exists.intro _ (And.intro (cw_o1 hI17.1) (And.intro rfl ?_))
        rw [cw_p_touchedInAll hI17.1]
        obtain ⟨w19, ew19⟩ : ∃ z9, z9 = upd w17 2 m18 := ⟨_, rfl⟩
        rw [← ew19]
        have ew19_0 : (w19 0).toInt = (w17 0).toInt := by rw [ew19]; rfl
        have ew19_1 : (w19 1).toInt = (w17 1).toInt := by rw [ew19]; rfl
        have ew19_2 : (w19 2).toInt = (m18).toInt := by rw [ew19]; rfl
        have ew19_3 : (w19 3).toInt = (w17 3).toInt := by rw [ew19]; rfl
        have pn_125 : w19 2 = m18 := by rw [ew19, pk_us]
        have pw_125 := ew19
        have hZ19 : cw_Z w19 := by rw [ew19]; exact cw_Z_up hI17.2.2.1 _ _ (by omega)
        have hI19 : cw_I K dn dn q w19 e5 := ⟨hI17.1, by unfold cw_W; omega, hZ19, hI17.2.2.2⟩
        exact ⟨rfl, fun e9 => absurd e9 (by decide), rfl, w19, e5, v5, f5, rfl, hI19, hs5, hx5, z1_12, rfl, by first | omega | (dsimp only; omega) | trivial, by refine ⟨?_, ?_⟩; (exact ⟨fun i9 h91 h92 => ⟨by rw [pw_125, pk_un (by omega), pw_115, pk_un (by omega), pw_97, pk_un (by omega), j2_12.1], j2_12.2 i9 (by omega)⟩, fun D h1 => (by rw [pw_125, pk_un (by omega), pw_115, pk_un (by omega), pw_97, pk_un (by omega), j2_12.1, j2_12.2 (dn + 1) (by omega), j2_12.2 (dn + 2) (by omega)]; exact h1), fun j hj => (by rw [pw_125, pk_un (by omega), pw_115, pk_un (by omega), pw_97, pk_un (by omega), j2_12.1] at hj; rw [j2_12.2 (dn + 1) (by omega)]; exact j3_12 j (by rw [← j2_12.1] at hj; omega))⟩); (intro n c m h1 h2; have h7 := j7_12 n c m h1 h2; rw [j2_12.2 (dn + 1) (by omega), j2_12.2 (dn + 2) (by omega), show (w19 dn).toInt.toNat = z2_12.toInt.toNat by (rw [pw_125, pk_un (by omega), pw_115, pk_un (by omega), pw_97, pk_un (by omega)]; rw [← j2_12.1] at j8_12; omega)]; exact h7)⟩
      · skip
        refine Exists.intro _ (And.intro (cw_o1 hI5.1) ?_)
        refine Exists.intro _ (And.intro (cw_ro_o hI5.1 ro_dn) ?_)
        refine Exists.intro _ (Exists.intro _ (And.intro (Or.inl (cw_ro_1 hI5.1 ro_dn)) (And.intro (by omega) ?_)))
        have w20 := cw_col hI5 ro_dn (z2_12).toInt.toNat
        obtain ⟨k9, hk9⟩ : ∃ z9, z9 = (e5 (dn + 1) (z2_12).toInt.toNat) := ⟨_, rfl⟩
        have hk8 : k9 = e (dn + 1) z2_12.toInt.toNat := by rw [hk9, j2_12.2 (dn + 1) (by omega)]
        have hk7 := hk8 ▸ cw_col hI ro_dn z2_12.toInt.toNat
        refine Exists.intro _ (And.intro (cw_o1 hI5.1) ?_)
        refine Exists.intro _ (And.intro (cw_ro_o hI5.1 ro_dn) ?_)
        refine Exists.intro _ (And.intro (cw_o1 hI5.1) ?_)
        refine Exists.intro _ (Exists.intro _ (And.intro (Or.inl (cw_a13 hI5.1)) (And.intro (by omega) ?_)))
        have w21 := hs5.2.2 ((e5 (dn + 1) (z2_12).toInt.toNat)).toInt.toNat
        have hb22 := ro_dn
        unfold cw_ro at hb22
        refine Exists.intro _ (Exists.intro _ (And.intro (cw_ro_3 hI5.1 ro_dn) (And.intro (by omega) ?_)))
        rw [cw_sr_3 hI5.1 ro_dn]
        obtain ⟨e23, ee23⟩ : ∃ z9, z9 = va_up e5 (dn + 3) (upd (e5 (dn + 3)) (z2_12).toInt.toNat (f5 13 ((e5 (dn + 1) (z2_12).toInt.toNat)).toInt.toNat)) := ⟨_, rfl⟩
        rw [← ee23]
        have hI23 : cw_I K nn dn q w5 e23 := ⟨hI5.1, hI5.2.1, hI5.2.2.1, by rw [ee23]; exact cw_E_3 hI5.2.2.2 (by omega) _ _ (by omega)⟩
        have hx23 : e23 15 = e 15 := (show e23 15 = e5 15 by rw [ee23]; exact if_neg (by omega)).trans hx5
        have pe_47 := ee23
        refine Exists.intro _ (And.intro (cw_o1 hI23.1) ?_)
        refine Exists.intro _ (Exists.intro _ (And.intro (cw_a13 hI23.1) (And.intro (by omega) ?_)))
        rw [cw_s13 hI23.1]
        obtain ⟨f24, ef24⟩ : ∃ z9, z9 = va_up f5 13 (upd (f5 13) ((e5 (dn + 1) (z2_12).toInt.toNat)).toInt.toNat z2_12) := ⟨_, rfl⟩
        rw [← ef24]
        have hs24 : cw_S v5 f24 := by rw [ef24]; exact cw_S_f13 hs5 _ _ (by omega)
        have pf_54 := ef24
        refine Exists.intro _ (And.intro (cw_o1 hI23.1) ?_)
        refine Exists.intro _ (Exists.intro _ (And.intro (Or.inl (cw_a12 hI23.1)) (And.intro (by omega) ?_)))
        have km2 : (-2 : Int32).toInt = -2 := rfl
        refine And.intro (fun c25 => ?_) (fun c25 => ?_)
        · skip
          have dc25 : ((f24 12 (z2_12).toInt.toNat)).toInt = ((-2 : Int32) : Int32).toInt := congrArg Int32.toInt c25
          refine hC.1 2 86 _ _ rfl _ _ _ _ _ ?_
          have k1 : (1 : Int32).toInt = 1 := rfl
          intro m26 em_86
          try have e26 : m26.toInt = (z2_12).toInt + (1) := by rw [em_86]; exact pm_addc _ _ (1) rfl (by omega) (by omega)
          exact hC.2 [false, false, false, true] _ _ _ _ _ _ (ih7 z1_12 m26 w5 e23 v5 f24 hI23 hx23 hs24 (by omega) (by omega) (by exact ⟨j2_12.1, fun i9 h91 => (by rw [pe_47, va_un h91]; exact j2_12.2 i9 h91)⟩) (by intro j hj; rw [pe_47, va_us]; by_cases h8 : j = z2_12.toInt.toNat; (subst h8; rw [pk_us, ← hk9, ← hk8]; exact j4_12 k9 (by omega) (by omega)); (rw [pk_un h8]; exact j3_12 j (by omega))) (by intro c9 h1 h2; rw [pf_54, va_us, ← hk9, show m26.toInt.toNat = z2_12.toInt.toNat + 1 by omega]; by_cases h8 : c9 = k9; (subst h8; rw [pk_us, lastEq_y hk8.symm]; omega); (rw [pk_un (fun h7 => h8 (pm_eqI (by omega))), lastEq_n (fun h7 => h8 (by rw [hk8]; exact h7.symm))]; exact j4_12 c9 h1 h2)) (by omega) (by rw [pf_54, va_un (by decide)]; exact j6_12) (by intro n c m h1 h2; have h7 := j7_12 n c m h1 h2; have h8 := h2 z2_12.toInt.toNat (by rw [← j2_12.1]; omega); have h6 : ∀ z9, f 12 z9 = f24 12 z9 := (fun z9 => by rw [pf_54, va_un (by decide), j6_12]); rw [show m26.toInt.toNat = z2_12.toInt.toNat + 1 by omega]; first | (rw [tcN_b h1 h8 yb_8, h6]; split <;> rename_i h5 <;> first | omega | (exact absurd (by assumption) h5.2) | (exact absurd ⟨by assumption, by assumption⟩ h5)) | (rw [tcN_b h1 h8 rfl, h6]; split <;> rename_i h5 <;> first | omega | (exact absurd (by assumption) h5.1))) (by rw [← j2_12.1]; omega) (by omega) (by omega) (by omega))
        · skip
          have dc25 := pm_neI c25
          refine Exists.intro _ (And.intro (cw_o1 hI23.1) ?_)
          refine Exists.intro _ (Exists.intro _ (And.intro (Or.inl (cw_a12 hI23.1)) (And.intro (by omega) ?_)))
          refine Exists.intro _ (And.intro (cw_o1 hI23.1) ?_)
          refine And.intro (Exists.intro _ (cw_ro_o hI23.1 ro_dn)) (Exists.intro _ (Exists.intro _ (Exists.intro _ (Exists.intro _ (And.intro (T_X7_bondAt hI23 hs24 ro_dn z2_12 ) (And.intro rfl (fun r9 A9 h9 => ?_)))))))
          obtain ⟨y27, rfl, rfl, by27⟩ := h9
          have yb_9 : y27 = bo (e (dn + 1)) (e (dn + 2)) z2_12.toInt := (by have h9 := by27; rw [pe_47, va_un (show dn + 1 ≠ dn + 3 by omega), va_un (show dn + 2 ≠ dn + 3 by omega), va_us, j2_12.2 (dn + 1) (by omega), j2_12.2 (dn + 2) (by omega)] at h9; exact (h9 (fun _ _ => (by rw [pk_us, ← hk8]; exact j4_12 k9 (by omega) (by omega)))).trans (BA_y (by omega)))
          have yb_8 : y27 = bo (e (dn + 1)) (e (dn + 2)) ((z2_12.toInt.toNat : Nat) : Int) := (by rw [show ((z2_12.toInt.toNat : Nat) : Int) = z2_12.toInt by omega]; exact yb_9)
          refine And.intro (fun c29 => ?_) (fun c29 => ?_)
          · skip
            have dc29 : ((f24 12 (z2_12).toInt.toNat)).toInt = (y27 : Int32).toInt := congrArg Int32.toInt c29
            refine hC.1 2 86 _ _ rfl _ _ _ _ _ ?_
            have k1 : (1 : Int32).toInt = 1 := rfl
            intro m30 em_86
            try have e30 : m30.toInt = (z2_12).toInt + (1) := by rw [em_86]; exact pm_addc _ _ (1) rfl (by omega) (by omega)
            exact hC.2 [false, false, false, true] _ _ _ _ _ _ (ih7 z1_12 m30 w5 e23 v5 f24 hI23 hx23 hs24 (by omega) (by omega) (by exact ⟨j2_12.1, fun i9 h91 => (by rw [pe_47, va_un h91]; exact j2_12.2 i9 h91)⟩) (by intro j hj; rw [pe_47, va_us]; by_cases h8 : j = z2_12.toInt.toNat; (subst h8; rw [pk_us, ← hk9, ← hk8]; exact j4_12 k9 (by omega) (by omega)); (rw [pk_un h8]; exact j3_12 j (by omega))) (by intro c9 h1 h2; rw [pf_54, va_us, ← hk9, show m30.toInt.toNat = z2_12.toInt.toNat + 1 by omega]; by_cases h8 : c9 = k9; (subst h8; rw [pk_us, lastEq_y hk8.symm]; omega); (rw [pk_un (fun h7 => h8 (pm_eqI (by omega))), lastEq_n (fun h7 => h8 (by rw [hk8]; exact h7.symm))]; exact j4_12 c9 h1 h2)) (by omega) (by rw [pf_54, va_un (by decide)]; exact j6_12) (by intro n c m h1 h2; have h7 := j7_12 n c m h1 h2; have h8 := h2 z2_12.toInt.toNat (by rw [← j2_12.1]; omega); have h6 : ∀ z9, f 12 z9 = f24 12 z9 := (fun z9 => by rw [pf_54, va_un (by decide), j6_12]); rw [show m30.toInt.toNat = z2_12.toInt.toNat + 1 by omega]; first | (rw [tcN_b h1 h8 yb_8, h6]; split <;> rename_i h5 <;> first | omega | (exact absurd (by assumption) h5.2) | (exact absurd ⟨by assumption, by assumption⟩ h5)) | (rw [tcN_b h1 h8 rfl, h6]; split <;> rename_i h5 <;> first | omega | (exact absurd (by assumption) h5.1))) (by rw [← j2_12.1]; omega) (by omega) (by omega) (by omega))
          · skip
            have dc29 := pm_neI c29
            have k1 : (1 : Int32).toInt = 1 := rfl
            intro m31 em_83
            try have e31 : m31.toInt = (z1_12).toInt + (1) := by rw [em_83]; exact pm_addc _ _ (1) rfl (by omega) (by omega)
            refine hC.1 2 86 _ _ rfl _ _ _ _ _ ?_
            intro m32 em_86
            try have e32 : m32.toInt = (z2_12).toInt + (1) := by rw [em_86]; exact pm_addc _ _ (1) rfl (by omega) (by omega)
            exact hC.2 [false, false, false, true] _ _ _ _ _ _ (ih7 m31 m32 w5 e23 v5 f24 hI23 hx23 hs24 (by omega) (by omega) (by exact ⟨j2_12.1, fun i9 h91 => (by rw [pe_47, va_un h91]; exact j2_12.2 i9 h91)⟩) (by intro j hj; rw [pe_47, va_us]; by_cases h8 : j = z2_12.toInt.toNat; (subst h8; rw [pk_us, ← hk9, ← hk8]; exact j4_12 k9 (by omega) (by omega)); (rw [pk_un h8]; exact j3_12 j (by omega))) (by intro c9 h1 h2; rw [pf_54, va_us, ← hk9, show m32.toInt.toNat = z2_12.toInt.toNat + 1 by omega]; by_cases h8 : c9 = k9; (subst h8; rw [pk_us, lastEq_y hk8.symm]; omega); (rw [pk_un (fun h7 => h8 (pm_eqI (by omega))), lastEq_n (fun h7 => h8 (by rw [hk8]; exact h7.symm))]; exact j4_12 c9 h1 h2)) (by omega) (by rw [pf_54, va_un (by decide)]; exact j6_12) (by intro n c m h1 h2; have h7 := j7_12 n c m h1 h2; have h8 := h2 z2_12.toInt.toNat (by rw [← j2_12.1]; omega); have h6 : ∀ z9, f 12 z9 = f24 12 z9 := (fun z9 => by rw [pf_54, va_un (by decide), j6_12]); rw [show m32.toInt.toNat = z2_12.toInt.toNat + 1 by omega]; first | (rw [tcN_b h1 h8 yb_8, h6]; split <;> rename_i h5 <;> first | omega | (exact absurd (by assumption) h5.2) | (exact absurd ⟨by assumption, by assumption⟩ h5)) | (rw [tcN_b h1 h8 rfl, h6]; split <;> rename_i h5 <;> first | omega | (exact absurd (by assumption) h5.1))) (by rw [← j2_12.1]; omega) (by omega) (by omega) (by omega))
  exact lp6 (200 - (0 : Int32).toInt).toNat.succ (0 : Int32) (0 : Int32) w e v f4 hI rfl hs4 (by omega) (by omega) (by exact ⟨rfl, fun _ _ => rfl⟩) (by intro j hj; omega) (by intro c9 h1 h2; rw [pf_5, va_us, if_pos (by omega)]; rfl) (by omega) (by rw [pf_5, va_un (by decide)]) (by intro n c m _ _; rfl) (by omega) (by omega) (by omega) (by omega)

end
end
section
section
variable {l : Launch} {g : pm_G} {A0 : pm_H} {K nn dn : Nat} {q : Nat → Nat} {w : Nat → Int32} {e : Nat → Nat → Int32} {v : Nat → Int32} {f : Nat → Nat → Int32}
set_option maxRecDepth 100000 in
set_option maxHeartbeats 2000000 in
theorem T_X10_sort (hI : cw_I K nn dn q w e) (hs : cw_S v f) (x1 : Int32) (x2 : Int32) (p0 : (w 0).toInt < 100000) : pm_Mt l g 32 5 4 485 [.ref (q 0), .int x1, .int x2] (cw A0 g K nn dn q w e v f) (cw_Qb A0 g K nn q (fun r K2 nn2 dn2 w2 e2 => e2 15 = e 15 ∧ (∃ x : Int32, r = some (.int x) ∧ (((w2 0).toInt ≤ (w 0).toInt + 1 ∧ (w 0).toInt ≤ (w2 0).toInt) ∧ ((∀ L, rp (w nn) (e (nn + 1)) (e (nn + 2)) L → (nn : Int) = 40 + 4 * ((w 0).toInt % 41) → rp (w2 nn2) (e2 (nn2 + 1)) (e2 (nn2 + 2)) ((ed_sort L x1 x2).getD L) ∧ (w2 0).toInt = (w 0).toInt + edn (ed_sort L x1 x2) ∧ (w2 1).toInt = (w 1).toInt + edn (ed_sort L x1 x2) * (0) ∧ (nn2 : Int) = 40 + 4 * ((w2 0).toInt % 41) ∧ (bd (w nn) (e (nn + 1)) (e (nn + 3)) → bd (w2 nn2) (e2 (nn2 + 1)) (e2 (nn2 + 3)))) ∧ (((w2 0).toInt = (w 0).toInt ∧ x.toInt = -1) ∨ ((w2 0).toInt = (w 0).toInt + 1 ∧ ((nn : Int) = 40 + 4 * ((w 0).toInt % 41) → UQ (w nn).toInt (e (nn + 2)) → bd (w nn) (e (nn + 1)) (e (nn + 3)) → (∀ i : Nat, (i : Int) < (w nn).toInt → (e (nn + 2) i).toInt < (w 1).toInt) → x.toInt = (tcN (w nn).toInt (e (nn + 1)) (e (nn + 2)) (e2 (nn2 + 1)) (e2 (nn2 + 2)) (w2 nn2).toInt.toNat : Int))))))))) := by
  refine mt_X10_sort rfl (fun J hC => ?_)
  have ro_nn : cw_ro K nn := hI.2.1.2.1
  have ro_dn : cw_ro K dn := hI.2.1.2.2.1
  have hu1 := hI.2.1
  unfold cw_W at hu1
  replace hu1 := And.intro hu1.1 (And.intro (And.intro hu1.2.1.1 hu1.2.1.2.1) (And.intro (And.intro hu1.2.2.1.1 hu1.2.2.1.2.1) (And.intro hu1.2.2.2.1 (And.intro hu1.2.2.2.2.2.1 hu1.2.2.2.2.2.2))))
  have zs2 := cw_sz hI ro_nn
  have zs3 := cw_sz hI ro_dn
  have rg_x1 := pm_rng x1
  have rg_x2 := pm_rng x2
  refine hC.1 0 0 _ _ rfl _ _ _ _ _ ?_
  refine Exists.intro _ (And.intro (cw_o0 hI.1) ?_)
  refine Exists.intro _ (And.intro (cw_o1 hI.1) ?_)
  refine And.intro (Exists.intro _ (cw_ro_o hI.1 ro_nn)) (Exists.intro _ (Exists.intro _ (Exists.intro _ (Exists.intro _ (And.intro (c_X7_isSpan hI hs ro_nn x1 x2 ) (And.intro rfl (fun r9 A9 h9 => ?_)))))))
  rcases h9 with ⟨y4, rfl, rfl, ⟨rfl, by4⟩ | ⟨rfl, by4⟩⟩
  · skip
    have k1 : (1 : Int32).toInt = 1 := rfl
    refine And.intro (fun _ => ?_) (fun c9 => absurd c9 (by decide))
    refine hC.1 1 19 _ _ rfl _ _ _ _ _ ?_
    refine Exists.intro _ (And.intro (cw_o0 hI.1) ?_)
    refine And.intro (Exists.intro _ (cw_o1 hI.1)) (Exists.intro _ (Exists.intro _ (Exists.intro _ (Exists.intro _ (And.intro (F_X9_begin hI hs  (by omega)) (And.intro rfl (fun r9 A9 h9 => ?_)))))))
    obtain ⟨K7, dn7, q7, w7, e7, rfl, rfl, hI7, hX7, hk7, hw7, hy7, hdn7, hfm7, hz7⟩ := h9
    have hq7_0 : q 0 = q7 0 := (hX7.2.1 0 (by omega)).symm
    have hq7_nn : q nn = q7 nn := (hX7.2.1 nn (by omega)).symm
    rw [hq7_0, hq7_nn]
    have hw7_0 := congrArg Int32.toInt hw7.1
    have hw7_1 := congrArg Int32.toInt hw7.2.1
    have hw7_3 := congrArg Int32.toInt hw7.2.2.2
    have ro7 : cw_ro K7 dn7 := hI7.2.1.2.2.1
    have rn7 : cw_ro K7 nn := hI7.2.1.2.1
    have hx7 : e7 15 = e 15 := hy7.trans rfl
    have hu8 := hI7.2.1
    unfold cw_W at hu8
    replace hu8 := And.intro hu8.1 (And.intro (And.intro hu8.2.1.1 hu8.2.1.2.1) (And.intro (And.intro hu8.2.2.1.1 hu8.2.2.1.2.1) (And.intro hu8.2.2.2.1 (And.intro hu8.2.2.2.2.2.1 hu8.2.2.2.2.2.2))))
    have zs9 := cw_sz hI7 rn7
    have zs10 := cw_sz hI7 ro7
    have hz9 := hz7
    have hL7 : ∀ L, rp (w nn) (e (nn + 1)) (e (nn + 2)) L → (nn : Int) = 40 + 4 * ((w 0).toInt % 41) → nn ≠ dn7 ∧ rp (w7 nn) (e7 (nn + 1)) (e7 (nn + 2)) L := hL_b ro_nn ro7 hdn7 hfm7
    have hT7 : TQ w e nn w7 e7 f dn7 := TQ_b ro_nn ro7 hdn7 hfm7 hw7.2.1 hz7
    refine Exists.intro _ (And.intro (cw_o0 hI7.1) ?_)
    have k0 : (0 : Int32).toInt = 0 := rfl
    intro m11 em_33
    try have e11 : m11.toInt = (x1).toInt - (1) := by rw [em_33]; exact pm_subc _ _ (1) rfl (by omega) (by omega)
    have hp_34 := hL7
    refine And.intro (Exists.intro _ (cw_o1 hI7.1)) (Exists.intro _ (Exists.intro _ (Exists.intro _ (Exists.intro _ (And.intro (T_X9_keep hI7 hs (0 : Int32) m11 ) (And.intro rfl (fun r9 A9 h9 => ?_)))))))
    rcases h9 with ⟨w13, e13, v13, f13, rfl, hI13, hs13, hy13, rfl, by12⟩
    have hx13 : e13 15 = e 15 := hy13.trans hx7
    have zs14 := cw_sz hI13 rn7
    have zs15 := cw_sz hI13 ro7
    have hb_34 := by12.2.1
    have ht_34 := by12.2.2
    have hT13 : TQ w e nn w13 e13 f13 dn7 := TQ_k hT7 rn7 ro7 hb_34.1 (by omega) ht_34
    have hL13 : ∀ L, rp (w nn) (e (nn + 1)) (e (nn + 2)) L → (nn : Int) = 40 + 4 * ((w 0).toInt % 41) → nn ≠ dn7 ∧ rp (w13 nn) (e13 (nn + 1)) (e13 (nn + 2)) L := hL_k hL7 rn7 ro7 hb_34.1
    have sw13_0 : (w13 0).toInt = (w 0).toInt := by12.1.1.trans hw7_0
    have sw13_1 : (w13 1).toInt = (w 1).toInt := by12.1.2.1.trans hw7_1
    have sw13_3 : (w13 3).toInt = (w 3).toInt := by12.1.2.2.trans hw7_3
    clear by12
    have lp17 : ∀ (n : Nat) (z4_40 : Int32) (w16 : Nat → Int32) (e16 : Nat → Nat → Int32) (v16 : Nat → Int32) (f16 : Nat → Nat → Int32), cw_I K7 nn dn7 q7 w16 e16 → e16 15 = e 15 → (∀ L, rp (w nn) (e (nn + 1)) (e (nn + 2)) L → (nn : Int) = 40 + 4 * ((w 0).toInt % 41) → nn ≠ dn7 ∧ rp (w16 nn) (e16 (nn + 1)) (e16 (nn + 2)) L) → TQ w e nn w16 e16 f16 dn7 → cw_S v16 f16 → (0 ≤ z4_40.toInt ∧ z4_40.toInt ≤ 24) → (∀ L, rp (w nn) (e (nn + 1)) (e (nn + 2)) L → (nn : Int) = 40 + 4 * ((w 0).toInt % 41) → rp (w16 dn7) (e16 (dn7 + 1)) (e16 (dn7 + 2)) (si L 0 x1.toInt ++ st_l (si L x1.toInt (x2.toInt + 1)) z4_40.toInt.toNat)) → (w16 0).toInt = (w 0).toInt → (w16 1).toInt = (w 1).toInt → (w16 3).toInt = (w 3).toInt → 200 - z4_40.toInt < (n : Int) → J 40 [some (.ref (q7 0)), some (.int x1), some (.int x2), some (.ref (q7 nn)), some (.int z4_40)] [] (cw A0 g K7 nn dn7 q7 w16 e16 v16 f16) 4 485 := by
      intro n
      induction n with
      | zero =>
        intro z4_40 w16 e16 v16 f16 hI16 hx16 hL16 hT16 hs16 j0_40 j1_40 j2_40 j3_40 j4_40 j5_40
        clear hu8 zs9 zs10 zs14 zs15 sw13_0 sw13_1 sw13_3
        omega
      | succ n ih18 =>
        intro z4_40 w16 e16 v16 f16 hI16 hx16 hL16 hT16 hs16 j0_40 j1_40 j2_40 j3_40 j4_40 j5_40
        clear hu8 zs9 zs10 zs14 zs15 sw13_0 sw13_1 sw13_3
        have hu19 := hI16.2.1
        unfold cw_W at hu19
        replace hu19 := And.intro hu19.1 (And.intro (And.intro hu19.2.1.1 hu19.2.1.2.1) (And.intro (And.intro hu19.2.2.1.1 hu19.2.2.1.2.1) (And.intro hu19.2.2.2.1 (And.intro hu19.2.2.2.2.2.1 hu19.2.2.2.2.2.2))))
        have zs20 := cw_sz hI16 rn7
        have zs21 := cw_sz hI16 ro7
        refine hC.1 2 40 _ _ rfl _ _ _ _ _ ?_
        have k24 : (24 : Int32).toInt = 24 := rfl
        refine And.intro (fun c22 => ?_) (fun c22 => ?_)
        · skip
          refine hC.1 3 64 _ _ rfl _ _ _ _ _ ?_
          refine Exists.intro _ (And.intro (cw_o0 hI16.1) ?_)
          intro m23 em_70
          try have e23 : m23.toInt = (x2).toInt + (1) := by rw [em_70]; exact pm_addc _ _ (1) rfl (by omega) (by omega)
          refine Exists.intro _ (And.intro (cw_ro_o hI16.1 rn7) ?_)
          have z24 := cw_sz hI16 rn7
          intro m25 em_76
          try have e25 : m25.toInt = ((w16 nn)).toInt - (1) := by rw [em_76]; exact pm_subc _ _ (1) rfl (by omega) (by omega)
          have hp_77 := hL16
          refine And.intro (Exists.intro _ (cw_o1 hI16.1)) (Exists.intro _ (Exists.intro _ (Exists.intro _ (Exists.intro _ (And.intro (T_X9_keep hI16 hs16 m23 m25 ) (And.intro rfl (fun r9 A9 h9 => ?_)))))))
          rcases h9 with ⟨w27, e27, v27, f27, rfl, hI27, hs27, hy27, rfl, by26⟩
          have hx27 : e27 15 = e 15 := hy27.trans hx16
          have zs28 := cw_sz hI27 rn7
          have zs29 := cw_sz hI27 ro7
          have hb_77 := by26.2.1
          have ht_77 := by26.2.2
          have hT27 : TQ w e nn w27 e27 f27 dn7 := TQ_k hT16 rn7 ro7 hb_77.1 (by omega) ht_77
          have hL27 : ∀ L, rp (w nn) (e (nn + 1)) (e (nn + 2)) L → (nn : Int) = 40 + 4 * ((w 0).toInt % 41) → nn ≠ dn7 ∧ rp (w27 nn) (e27 (nn + 1)) (e27 (nn + 2)) L := hL_k hL16 rn7 ro7 hb_77.1
          have sw27_0 : (w27 0).toInt = (w16 0).toInt := by26.1.1
          have sw27_1 : (w27 1).toInt = (w16 1).toInt := by26.1.2.1
          have sw27_3 : (w27 3).toInt = (w16 3).toInt := by26.1.2.2
          clear by26
          refine Exists.intro _ (And.intro (cw_o0 hI27.1) ?_)
          have hp_84 := hL27
          refine And.intro (Exists.intro _ (cw_o1 hI27.1)) (Exists.intro _ (Exists.intro _ (Exists.intro _ (Exists.intro _ (And.intro (T_X9_finish hI27 hs27  (by omega) (by omega)) (And.intro rfl (fun r9 A9 h9 => ?_)))))))
          rcases h9 with ⟨w31, e31, v31, f31, rfl, hI31, hs31, hy31, y30, rfl, by30⟩
          have hx31 : e31 15 = e 15 := hy31.trans hx27
          have hu32 := hI31.2.1.2.2.2.1
          have hu33 := hI31.2.1.2.2.2.2.1
          clear zs28 zs29
          have zs34 := cw_sz hI31 ro7
          have zs35 := cw_sz hI31 ro7
          have hb_84 := by30.2.1
          have ht_84 := by30.2.2
          have ha_9 := fun h1 h2 h3 h4 => by30.2.2 _ _ _ h2 (hT27 h1 h2 h3 h4).2.2.2.2.2.2
          have sw31_1 : (w31 1).toInt = (w16 1).toInt := by30.1.1.trans sw27_1
          have sw31_3 : (w31 3).toInt = (w16 3).toInt := by30.1.2.1.trans sw27_3
          have sp31 := by30.1.2.2
          clear by30 sw27_1 sw27_3
          exact ⟨rfl, fun e9 => absurd e9 (by decide), rfl, K7, dn7, dn7, q7, w31, e31, v31, f31, rfl, hI31, hs31, hX7, hx31, y30, rfl, by first | omega | (dsimp only; omega) | trivial, by refine ⟨?_, ?_⟩; (intro L hL hN; have hl := hL.1; rw [ed_sort, if_pos (by omega)]; have t2 := j1_40 L hL hN; rw [show z4_40.toInt.toNat = 24 by omega] at t2; have h6 := st_len (si L x1.toInt (x2.toInt + 1)) 24; have s1 := si_len (L := L) (a := 0) (b := x1.toInt) (by omega) (by omega) (by omega); have s2 := si_len (L := L) (a := x1.toInt) (b := x2.toInt + 1) (by omega) (by omega) (by omega); have q3 := hp_77 L hL hN; have z3 := q3.2.1; have t3 := hb_77.2 L (_) (x2.toInt + 1) (L.length) q3.2 q3.1 (by omega) (by omega) (by omega) (by omega) (by omega) (by first | omega | (simp only [List.length_append, List.length_nil, List.length_cons, List.length_map, List.length_reverse, nw_len, dr_len]; omega)) t2; have k3 := si_len (L := L) (a := x2.toInt + 1) (b := L.length) (by omega) (by omega) (by omega); exact ⟨hb_84.2.1 _ t3, by show _ = _ + (1 : Int); omega, by show _ = _ + (1 : Int) * _; omega, by omega, fun _ => hb_84.2.2⟩); (first | (exact hq_9) | (exact Or.inr ⟨by omega, ha_9⟩) | (exact Or.inl ⟨rfl, rfl⟩))⟩
        · skip
          refine Exists.intro _ (And.intro (cw_o0 hI16.1) ?_)
          have hp_55 := hL16
          refine And.intro (Exists.intro _ (cw_o1 hI16.1)) (Exists.intro _ (Exists.intro _ (Exists.intro _ (Exists.intro _ (And.intro (T_X9_keepThoseOf hI16 hs16 z4_40 x1 x2 (by omega)) (And.intro rfl (fun r9 A9 h9 => ?_)))))))
          rcases h9 with ⟨w37, e37, v37, f37, rfl, hI37, hs37, hy37, rfl, by36⟩
          have hx37 : e37 15 = e 15 := hy37.trans hx16
          have zs38 := cw_sz hI37 rn7
          have zs39 := cw_sz hI37 ro7
          have hb_55 := by36.2.1
          have ht_55 := by36.2.2
          have hT37 : TQ w e nn w37 e37 f37 dn7 := TQ_k hT16 rn7 ro7 hb_55.1 (by omega) ht_55
          have hL37 : ∀ L, rp (w nn) (e (nn + 1)) (e (nn + 2)) L → (nn : Int) = 40 + 4 * ((w 0).toInt % 41) → nn ≠ dn7 ∧ rp (w37 nn) (e37 (nn + 1)) (e37 (nn + 2)) L := hL_k hL16 rn7 ro7 hb_55.1
          have sw37_0 : (w37 0).toInt = (w16 0).toInt := by36.1.1
          have sw37_1 : (w37 1).toInt = (w16 1).toInt := by36.1.2.1
          have sw37_3 : (w37 3).toInt = (w16 3).toInt := by36.1.2.2
          clear by36
          intro m40 em_58
          try have e40 : m40.toInt = (z4_40).toInt + (1) := by rw [em_58]; exact pm_addc _ _ (1) rfl (by omega) (by omega)
          exact ih18 m40 w37 e37 v37 f37 hI37 hx37 hL37 hT37 hs37 (by omega) (by intro L hL hN; have hl := hL.1; have q2 := hp_55 L hL hN; have z2 := q2.2.1; have s2 := si_len (L := L) (a := 0) (b := x1.toInt) (by omega) (by omega) (by omega); have s3 := si_len (L := L) (a := x1.toInt) (b := x2.toInt + 1) (by omega) (by omega) (by omega); have h6 := st_len (si L x1.toInt (x2.toInt + 1)) (z4_40.toInt.toNat + 1); have h7 : st_l (si L x1.toInt (x2.toInt + 1)) (z4_40.toInt.toNat + 1) = st_l (si L x1.toInt (x2.toInt + 1)) z4_40.toInt.toNat ++ (si L x1.toInt (x2.toInt + 1)).filter (fun p => decide (p.1.toInt = z4_40.toInt)) := (by show _ ++ List.filter (fun p : pl_P => decide (p.1.toInt = ((z4_40.toInt.toNat : Nat) : Int))) _ = _; rw [show ((z4_40.toInt.toNat : Nat) : Int) = z4_40.toInt by omega]); rw [h7, List.length_append] at h6; have t2 := hb_55.2 L _ x1.toInt (x2.toInt + 1) q2.2 q2.1 rfl rfl (by omega) (by omega) (by omega) (by first | omega | (simp only [List.length_append, List.length_nil, List.length_cons, List.length_map, List.length_reverse, nw_len, dr_len]; omega)) (j1_40 L hL hN); rw [show m40.toInt.toNat = z4_40.toInt.toNat + 1 by omega, h7, ← List.append_assoc]; exact t2) (by omega) (by omega) (by omega) (by omega)
    exact lp17 (200 - (0 : Int32).toInt).toNat.succ (0 : Int32) w13 e13 v13 f13 hI13 hx13 hL13 hT13 hs13 (by omega) (by intro L hL hN; have hl := hL.1; have q1 := hp_34 L hL hN; have z1 := q1.2.1; have t1 := hb_34.2 L ([]) (0) (x1.toInt) q1.2 q1.1 (by omega) (by omega) (by omega) (by omega) (by omega) (by first | omega | (simp only [List.length_append, List.length_nil, List.length_cons, List.length_map, List.length_reverse, nw_len, dr_len]; omega)) (rp_0 hz9); have k1 := si_len (L := L) (a := 0) (b := x1.toInt) (by omega) (by omega) (by omega); rw [List.nil_append] at t1; show rp _ _ _ (_ ++ []); rw [List.append_nil]; exact t1) (by omega) (by omega) (by omega) (by omega)
  · skip
    have k0 : (0 : Int32).toInt = 0 := rfl
    refine And.intro (fun c9 => absurd c9 (by decide)) (fun _ => ?_)
    have km1 : (-1 : Int32).toInt = -1 := rfl
    exact ⟨rfl, fun e9 => absurd e9 (by decide), rfl, K, nn, dn, q, w, e, v, f, rfl, hI, hs, cw_X_r, rfl, (-1 : Int32), rfl, by first | omega | (dsimp only; omega) | trivial, by refine ⟨?_, ?_⟩; (intro L hL hN; have hl := hL.1; rw [ed_sort, if_neg (by omega)]; exact ⟨hL, by show _ = _ + (0 : Int); omega, by show _ = _ + (0 : Int) * _; omega, hN, fun h8 => h8⟩); (first | (exact hq_9) | (exact Or.inr ⟨by omega, ha_9⟩) | (exact Or.inl ⟨rfl, rfl⟩))⟩

end
end
section
section
variable {l : Launch} {g : pm_G} {A0 : pm_H} {h : Nat} {q : Nat → Nat}
set_option maxRecDepth 100000 in
set_option maxHeartbeats 2000000 in
theorem T_X11_begins (D : md_D h q) (v : Nat → Int32) (f : Nat → Nat → Int32) (hv : md_V v) (hf : md_F f)  : pm_Mt l g 172 2 0 0 [.ref h] (md A0 g h q v f) (md_Qv A0 g h q f (fun v2 f2 => f2 0 = f 0 ∧ f2 1 = f 1 ∧ ((v2 0).toInt = (v 0).toInt ∧ (v2 3).toInt = (v 3).toInt ∧ (v2 4).toInt = (v 4).toInt ∧ (v2 6).toInt = (v 6).toInt ∧ (v2 2).toInt = 0) ∧ (OB v2 f2 (v 0).toInt (f 0) (f 1)))) := by
  refine mt_X11_begins rfl (fun J hC => ?_)
  have hv9 := hv
  unfold md_V at hv9
  refine hC.1 0 0 _ _ rfl _ _ _ _ _ ?_
  refine Exists.intro _ (And.intro md_o ?_)
  refine Exists.intro _ (And.intro md_o (And.intro rfl ?_))
  rw [md_p_oldMany D]
  obtain ⟨v1, ev1⟩ : ∃ z9, z9 = upd v 1 (v 0) := ⟨_, rfl⟩
  rw [← ev1]
  have ev1_0 : (v1 0).toInt = (v 0).toInt := by rw [ev1]; rfl
  have ev1_1 : (v1 1).toInt = ((v 0)).toInt := by rw [ev1]; rfl
  have ev1_2 : (v1 2).toInt = (v 2).toInt := by rw [ev1]; rfl
  have ev1_3 : (v1 3).toInt = (v 3).toInt := by rw [ev1]; rfl
  have ev1_4 : (v1 4).toInt = (v 4).toInt := by rw [ev1]; rfl
  have ev1_5 : (v1 5).toInt = (v 5).toInt := by rw [ev1]; rfl
  have ev1_6 : (v1 6).toInt = (v 6).toInt := by rw [ev1]; rfl
  have ev1_7 : (v1 7).toInt = (v 7).toInt := by rw [ev1]; rfl
  have pn_5 : v1 1 = (v 0) := by rw [ev1]; rfl
  have k0 : (0 : Int32).toInt = 0 := rfl
  have lp3 : ∀ (n : Nat) (z1_10 : Int32) (v2 : Nat → Int32) (f2 : Nat → Nat → Int32), md_V v2 → md_F f2 → f2 2 = f 2 → f2 0 = f 0 → f2 1 = f 1 → (0 ≤ z1_10.toInt ∧ z1_10.toInt ≤ (v 0).toInt) → ((v2 1).toInt = (v 0).toInt) → (∀ k : Nat, (k : Int) < z1_10.toInt → f2 3 k = f 1 k ∧ f2 4 k = bo (f 0) (f 1) k) → (v2 0).toInt = (v 0).toInt → (v2 3).toInt = (v 3).toInt → (v2 4).toInt = (v 4).toInt → (v2 6).toInt = (v 6).toInt → 200 - z1_10.toInt < (n : Int) → J 10 [some (.ref h), some (.int z1_10)] [] (md A0 g h q v2 f2) 0 0 := by
    intro n
    induction n with
    | zero =>
      intro z1_10 v2 f2 hv2 hf2 hw2 hr2_0 hr2_1 j0_10 j1_10 j2_10 j3_10 j4_10 j5_10 j6_10 j7_10
      clear ev1_0 ev1_1 ev1_2 ev1_3 ev1_4 ev1_5 ev1_6 ev1_7
      omega
    | succ n ih4 =>
      intro z1_10 v2 f2 hv2 hf2 hw2 hr2_0 hr2_1 j0_10 j1_10 j2_10 j3_10 j4_10 j5_10 j6_10 j7_10
      clear ev1_0 ev1_1 ev1_2 ev1_3 ev1_4 ev1_5 ev1_6 ev1_7
      have lr0 := hr2_0
      have lr1 := hr2_1
      refine hC.1 1 10 _ _ rfl _ _ _ _ _ ?_
      have hu5_1 := hv2.2.1
      have hu5_2 := hv2.2.2.1
      refine Exists.intro _ (And.intro md_o ?_)
      refine And.intro (fun c6 => ?_) (fun c6 => ?_)
      · skip
        refine hC.1 2 47 _ _ rfl _ _ _ _ _ ?_
        refine Exists.intro _ (And.intro md_o (And.intro rfl ?_))
        rw [md_p_nextMany D]
        obtain ⟨v7, ev7⟩ : ∃ z9, z9 = upd v2 2 (0 : Int32) := ⟨_, rfl⟩
        rw [← ev7]
        have ev7_0 : (v7 0).toInt = (v2 0).toInt := by rw [ev7]; rfl
        have ev7_1 : (v7 1).toInt = (v2 1).toInt := by rw [ev7]; rfl
        have ev7_2 : (v7 2).toInt = ((0 : Int32)).toInt := by rw [ev7]; rfl
        have ev7_3 : (v7 3).toInt = (v2 3).toInt := by rw [ev7]; rfl
        have ev7_4 : (v7 4).toInt = (v2 4).toInt := by rw [ev7]; rfl
        have ev7_5 : (v7 5).toInt = (v2 5).toInt := by rw [ev7]; rfl
        have ev7_6 : (v7 6).toInt = (v2 6).toInt := by rw [ev7]; rfl
        have ev7_7 : (v7 7).toInt = (v2 7).toInt := by rw [ev7]; rfl
        have pn_49 : v7 2 = (0 : Int32) := by rw [ev7]; rfl
        have hv8 : md_V v7 := by unfold md_V; omega
        exact ⟨rfl, rfl, v7, f2, rfl, rfl, hv8, hf2, hw2, hr2_0, hr2_1, by first | omega | (dsimp only; omega) | trivial, by exact ⟨by omega, fun k hk => j2_10 k (by omega)⟩⟩
      · skip
        refine Exists.intro _ (And.intro md_o ?_)
        refine Exists.intro _ (And.intro md_o ?_)
        refine Exists.intro _ (Exists.intro _ (And.intro (Or.inl (md_a_names D)) (And.intro (by omega) ?_)))
        refine Exists.intro _ (Exists.intro _ (And.intro (md_a_oldNames D) (And.intro (by omega) ?_)))
        rw [md_s_oldNames D]
        obtain ⟨f9, ef9⟩ : ∃ z9, z9 = va_up f2 3 (upd (f2 3) (z1_10).toInt.toNat (f2 1 (z1_10).toInt.toNat)) := ⟨_, rfl⟩
        rw [← ef9]
        have pf_29 : f9 3 = upd (f2 3) (z1_10).toInt.toNat (f2 1 (z1_10).toInt.toNat) := by rw [ef9]; exact if_pos rfl
        have pg_29 : ∀ i9, i9 ≠ 3 → f9 i9 = f2 i9 := fun i9 h9 => by rw [ef9]; exact if_neg h9
        have hf9 : md_F f9 := by rw [ef9]; exact md_F_st hf2 3 _ _ (md_rng _ _ (by decide))
        have hw9 : f9 2 = f 2 := (show f9 2 = f2 2 by rw [ef9]; rfl).trans hw2
        have hr9_0 : f9 0 = f 0 := (show f9 0 = f2 0 by rw [ef9]; rfl).trans hr2_0
        have hr9_1 : f9 1 = f 1 := (show f9 1 = f2 1 by rw [ef9]; rfl).trans hr2_1
        refine Exists.intro _ (And.intro md_o ?_)
        refine And.intro (Exists.intro _ md_o) (Exists.intro _ (Exists.intro _ (Exists.intro _ (Exists.intro _ (And.intro (F_X11_bondOf D v2 f9 hv2 hf9 z1_10 (by omega)) (And.intro rfl (fun r9 A9 h9 => ?_)))))))
        obtain ⟨y10, rfl, rfl, by10⟩ := h9
        have hy9 := by10
        rw [pg_29 0 (by decide), pg_29 1 (by decide), lr0, lr1] at hy9
        refine Exists.intro _ (Exists.intro _ (And.intro (md_a_oldBonds D) (And.intro (by omega) ?_)))
        rw [md_s_oldBonds D]
        obtain ⟨f11, ef11⟩ : ∃ z9, z9 = va_up f9 4 (upd (f9 4) (z1_10).toInt.toNat y10) := ⟨_, rfl⟩
        rw [← ef11]
        have pf_40 : f11 4 = upd (f9 4) (z1_10).toInt.toNat y10 := by rw [ef11]; exact if_pos rfl
        have pg_40 : ∀ i9, i9 ≠ 4 → f11 i9 = f9 i9 := fun i9 h9 => by rw [ef11]; exact if_neg h9
        have hf11 : md_F f11 := by rw [ef11]; exact md_F_st hf9 4 _ _ (md_rng _ _ (by decide))
        have hw11 : f11 2 = f 2 := (show f11 2 = f9 2 by rw [ef11]; rfl).trans hw9
        have hr11_0 : f11 0 = f 0 := (show f11 0 = f9 0 by rw [ef11]; rfl).trans hr9_0
        have hr11_1 : f11 1 = f 1 := (show f11 1 = f9 1 by rw [ef11]; rfl).trans hr9_1
        have k1 : (1 : Int32).toInt = 1 := rfl
        intro m12 em_41
        try have e12 : m12.toInt = (z1_10).toInt + (1) := by rw [em_41]; exact pm_addc _ _ (1) rfl (by omega) (by omega)
        exact ih4 m12 v2 f11 hv2 hf11 hw11 hr11_0 hr11_1 (by omega) (by omega) (by intro k hk; rw [pg_40 3 (by decide), pf_29, pf_40, pg_29 4 (by decide)]; by_cases h8 : k = z1_10.toInt.toNat; (subst h8; rw [pk_us, pk_us, lr1, hy9, show ((z1_10.toInt.toNat : Nat) : Int) = z1_10.toInt by omega]; exact ⟨rfl, rfl⟩); (rw [pk_un h8, pk_un h8]; exact j2_10 k (by omega))) (by omega) (by omega) (by omega) (by omega) (by omega)
  have hv13 : md_V v1 := by unfold md_V; omega
  exact lp3 (200 - (0 : Int32).toInt).toNat.succ (0 : Int32) v1 f hv13 hf rfl rfl rfl (by omega) (by omega) (by intro k hk; omega) (by omega) (by omega) (by omega) (by omega) (by omega)

set_option maxRecDepth 100000 in
set_option maxHeartbeats 2000000 in
theorem T_X11_lays (D : md_D h q) (v : Nat → Int32) (f : Nat → Nat → Int32) (hv : md_V v) (hf : md_F f) (x1 : Int32) (x2 : Int32) (p0 : (v 2).toInt < 160) (p1 : 0 ≤ x1.toInt ∧ x1.toInt ≤ 23) : pm_Mt l g 175 0 0 0 [.ref h, .int x1, .int x2] (md A0 g h q v f) (md_Qv A0 g h q f (fun v2 f2 => f2 0 = f 0 ∧ f2 1 = f 1 ∧ f2 3 = f 3 ∧ f2 4 = f 4 ∧ ((v2 0).toInt = (v 0).toInt ∧ (v2 1).toInt = (v 1).toInt ∧ (v2 3).toInt = (v 3).toInt ∧ (v2 4).toInt = (v 4).toInt ∧ (v2 6).toInt = (v 6).toInt ∧ (v2 2).toInt = (v 2).toInt + 1) ∧ (∀ N, rp (v 2) (f 5) (f 6) (N) → rp (v2 2) (f2 5) (f2 6) (N ++ [(x1, x2)])))) := by
  refine mt_X11_lays rfl (fun J hC => ?_)
  have hv9 := hv
  unfold md_V at hv9
  have rg_x1 := pm_rng x1
  have rg_x2 := pm_rng x2
  refine hC.1 0 0 _ _ rfl _ _ _ _ _ ?_
  refine Exists.intro _ (And.intro md_o ?_)
  refine Exists.intro _ (And.intro md_o ?_)
  refine Exists.intro _ (Exists.intro _ (And.intro (md_a_nextColours D) (And.intro (by omega) ?_)))
  rw [md_s_nextColours D]
  obtain ⟨f1, ef1⟩ : ∃ z9, z9 = va_up f 5 (upd (f 5) ((v 2)).toInt.toNat x1) := ⟨_, rfl⟩
  rw [← ef1]
  have pf_9 : f1 5 = upd (f 5) ((v 2)).toInt.toNat x1 := by rw [ef1]; exact if_pos rfl
  have pg_9 : ∀ i9, i9 ≠ 5 → f1 i9 = f i9 := fun i9 h9 => by rw [ef1]; exact if_neg h9
  have hf1 : md_F f1 := by rw [ef1]; exact md_F_st hf 5 _ _ (by show (0 : Int) ≤ _ ∧ _ ≤ (23 : Int); omega)
  have hw1 : f1 2 = f 2 := (show f1 2 = f 2 by rw [ef1]; rfl).trans rfl
  have hr1_0 : f1 0 = f 0 := (show f1 0 = f 0 by rw [ef1]; rfl).trans rfl
  have hr1_1 : f1 1 = f 1 := (show f1 1 = f 1 by rw [ef1]; rfl).trans rfl
  have hr1_3 : f1 3 = f 3 := (show f1 3 = f 3 by rw [ef1]; rfl).trans rfl
  have hr1_4 : f1 4 = f 4 := (show f1 4 = f 4 by rw [ef1]; rfl).trans rfl
  refine Exists.intro _ (And.intro md_o ?_)
  refine Exists.intro _ (And.intro md_o ?_)
  refine Exists.intro _ (Exists.intro _ (And.intro (md_a_nextNames D) (And.intro (by omega) ?_)))
  rw [md_s_nextNames D]
  obtain ⟨f2, ef2⟩ : ∃ z9, z9 = va_up f1 6 (upd (f1 6) ((v 2)).toInt.toNat x2) := ⟨_, rfl⟩
  rw [← ef2]
  have pf_19 : f2 6 = upd (f1 6) ((v 2)).toInt.toNat x2 := by rw [ef2]; exact if_pos rfl
  have pg_19 : ∀ i9, i9 ≠ 6 → f2 i9 = f1 i9 := fun i9 h9 => by rw [ef2]; exact if_neg h9
  have hf2 : md_F f2 := by rw [ef2]; exact md_F_st hf1 6 _ _ (md_rng _ _ (by decide))
  have hw2 : f2 2 = f 2 := (show f2 2 = f1 2 by rw [ef2]; rfl).trans hw1
  have hr2_0 : f2 0 = f 0 := (show f2 0 = f1 0 by rw [ef2]; rfl).trans hr1_0
  have hr2_1 : f2 1 = f 1 := (show f2 1 = f1 1 by rw [ef2]; rfl).trans hr1_1
  have hr2_3 : f2 3 = f 3 := (show f2 3 = f1 3 by rw [ef2]; rfl).trans hr1_3
  have hr2_4 : f2 4 = f 4 := (show f2 4 = f1 4 by rw [ef2]; rfl).trans hr1_4
  refine Exists.intro _ (And.intro md_o ?_)
  have k1 : (1 : Int32).toInt = 1 := rfl
  intro m3 em_26
  try have e3 : m3.toInt = ((v 2)).toInt + (1) := by rw [em_26]; exact pm_addc _ _ (1) rfl (by omega) (by omega)
  refine Exists.intro _ (And.intro md_o (And.intro rfl ?_))
  rw [md_p_nextMany D]
  obtain ⟨v4, ev4⟩ : ∃ z9, z9 = upd v 2 m3 := ⟨_, rfl⟩
  rw [← ev4]
  have ev4_0 : (v4 0).toInt = (v 0).toInt := by rw [ev4]; rfl
  have ev4_1 : (v4 1).toInt = (v 1).toInt := by rw [ev4]; rfl
  have ev4_2 : (v4 2).toInt = (m3).toInt := by rw [ev4]; rfl
  have ev4_3 : (v4 3).toInt = (v 3).toInt := by rw [ev4]; rfl
  have ev4_4 : (v4 4).toInt = (v 4).toInt := by rw [ev4]; rfl
  have ev4_5 : (v4 5).toInt = (v 5).toInt := by rw [ev4]; rfl
  have ev4_6 : (v4 6).toInt = (v 6).toInt := by rw [ev4]; rfl
  have ev4_7 : (v4 7).toInt = (v 7).toInt := by rw [ev4]; rfl
  have pn_27 : v4 2 = m3 := by rw [ev4]; rfl
  have hv5 : md_V v4 := by unfold md_V; omega
  exact ⟨rfl, rfl, v4, f2, rfl, rfl, hv5, hf2, hw2, hr2_0, hr2_1, hr2_3, hr2_4, by first | omega | (dsimp only; omega) | trivial, by intro N hN; rw [pg_19 5 (by decide), pf_9, pf_19, pg_9 6 (by decide)]; exact rp_app hN (by omega) _ _⟩

set_option maxRecDepth 100000 in
set_option maxHeartbeats 2000000 in
theorem T_X11_laysFrom (D : md_D h q) (v : Nat → Int32) (f : Nat → Nat → Int32) (hv : md_V v) (hf : md_F f) (x1 : Int32) (x2 : Int32) (p0 : 0 ≤ x1.toInt ∧ x1.toInt ≤ 161) (p1 : x2.toInt ≤ 160) (p2 : (v 2).toInt + (x2.toInt - x1.toInt) ≤ 160) (p3 : x1.toInt ≤ x2.toInt) : pm_Mt l g 185 1 0 0 [.ref h, .int x1, .int x2] (md A0 g h q v f) (md_Qv A0 g h q f (fun v2 f2 => f2 0 = f 0 ∧ f2 1 = f 1 ∧ f2 3 = f 3 ∧ f2 4 = f 4 ∧ ((v2 0).toInt = (v 0).toInt ∧ (v2 1).toInt = (v 1).toInt ∧ (v2 3).toInt = (v 3).toInt ∧ (v2 4).toInt = (v 4).toInt ∧ (v2 6).toInt = (v 6).toInt ∧ (v2 2).toInt = (v 2).toInt + (x2.toInt - x1.toInt)) ∧ (∀ (L N : List pl_P) (a b : Int), rp (v 0) (f 0) (f 1) L → x1.toInt = a → x2.toInt = b → b ≤ (L.length : Int) → a ≤ b → rp (v 2) (f 5) (f 6) (N) → rp (v2 2) (f2 5) (f2 6) (N ++ si L a b)))) := by
  refine mt_X11_laysFrom rfl (fun J hC => ?_)
  have hv9 := hv
  unfold md_V at hv9
  have rg_x1 := pm_rng x1
  have rg_x2 := pm_rng x2
  refine hC.1 0 0 _ _ rfl _ _ _ _ _ ?_
  have lp2 : ∀ (n : Nat) (z3_2 : Int32) (v1 : Nat → Int32) (f1 : Nat → Nat → Int32), md_V v1 → md_F f1 → f1 2 = f 2 → f1 0 = f 0 → f1 1 = f 1 → f1 3 = f 3 → f1 4 = f 4 → (x1.toInt ≤ z3_2.toInt ∧ z3_2.toInt ≤ x2.toInt) → ((v1 2).toInt - z3_2.toInt = (v 2).toInt - x1.toInt) → (∀ L N, rp (v 0) (f 0) (f 1) L → x2.toInt ≤ (L.length : Int) → rp (v 2) (f 5) (f 6) (N) → rp (v1 2) (f1 5) (f1 6) (N ++ si L x1.toInt z3_2.toInt)) → (v1 0).toInt = (v 0).toInt → (v1 1).toInt = (v 1).toInt → (v1 3).toInt = (v 3).toInt → (v1 4).toInt = (v 4).toInt → (v1 6).toInt = (v 6).toInt → 200 - z3_2.toInt < (n : Int) → J 2 [some (.ref h), some (.int x1), some (.int x2), some (.int z3_2)] [] (md A0 g h q v1 f1) 0 0 := by
    intro n
    induction n with
    | zero =>
      intro z3_2 v1 f1 hv1 hf1 hw1 hr1_0 hr1_1 hr1_3 hr1_4 j0_2 j1_2 j2_2 j3_2 j4_2 j5_2 j6_2 j7_2 j8_2
      omega
    | succ n ih3 =>
      intro z3_2 v1 f1 hv1 hf1 hw1 hr1_0 hr1_1 hr1_3 hr1_4 j0_2 j1_2 j2_2 j3_2 j4_2 j5_2 j6_2 j7_2 j8_2
      have lr0 := hr1_0
      have lr1 := hr1_1
      refine hC.1 1 2 _ _ rfl _ _ _ _ _ ?_
      have hu4_2 := hv1.2.2.1
      refine And.intro (fun c5 => ?_) (fun c5 => ?_)
      · skip
        refine hC.1 2 29 _ _ rfl _ _ _ _ _ ?_
        exact ⟨rfl, rfl, v1, f1, rfl, rfl, hv1, hf1, hw1, hr1_0, hr1_1, hr1_3, hr1_4, by first | omega | (dsimp only; omega) | trivial, by intro L N a b h1 ha hb h2 h3 h4; subst ha; subst hb; have h5 := j2_2 L N h1 h2 h4; rw [show z3_2.toInt = x2.toInt by omega] at h5; exact h5⟩
      · skip
        refine Exists.intro _ (And.intro md_o ?_)
        refine Exists.intro _ (Exists.intro _ (And.intro (Or.inl (md_a_colours D)) (And.intro (by omega) ?_)))
        have w6 : (0 : Int) ≤ (f1 0 (z3_2).toInt.toNat).toInt ∧ (f1 0 (z3_2).toInt.toNat).toInt ≤ (23 : Int) := hf1 0 _
        refine Exists.intro _ (And.intro md_o ?_)
        refine Exists.intro _ (Exists.intro _ (And.intro (Or.inl (md_a_names D)) (And.intro (by omega) ?_)))
        refine And.intro (Exists.intro _ md_o) (Exists.intro _ (Exists.intro _ (Exists.intro _ (Exists.intro _ (And.intro (T_X11_lays D v1 f1 hv1 hf1 (f1 0 (z3_2).toInt.toNat) (f1 1 (z3_2).toInt.toNat) (by omega) (by omega)) (And.intro rfl (fun r9 A9 h9 => ?_)))))))
        obtain ⟨v8, f8, rfl, rfl, hv8, hf8, hx8, hg8_0, hg8_1, hg8_3, hg8_4, by7⟩ := h9
        have hw8 : f8 2 = f 2 := hx8.trans hw1
        have hr8_0 : f8 0 = f 0 := hg8_0.trans hr1_0
        have hr8_1 : f8 1 = f 1 := hg8_1.trans hr1_1
        have hr8_3 : f8 3 = f 3 := hg8_3.trans hr1_3
        have hr8_4 : f8 4 = f 4 := hg8_4.trans hr1_4
        have hu9_2 := hv8.2.2.1
        have hb9 := by7.2
        have k1 : (1 : Int32).toInt = 1 := rfl
        intro m10 em_23
        try have e10 : m10.toInt = (z3_2).toInt + (1) := by rw [em_23]; exact pm_addc _ _ (1) rfl (by omega) (by omega)
        exact ih3 m10 v8 f8 hv8 hf8 hw8 hr8_0 hr8_1 hr8_3 hr8_4 (by omega) (by omega) (by intro L N h1 h2 h3; rw [show m10.toInt = z3_2.toInt + 1 by omega, si_s h1 (by omega) (by omega) (by omega), ← List.append_assoc]; have h4 := hb9 _ (j2_2 L N h1 h2 h3); rw [lr0, lr1] at h4; exact h4) (by omega) (by omega) (by omega) (by omega) (by omega) (by omega)
  exact lp2 (200 - x1.toInt).toNat.succ x1 v f hv hf rfl rfl rfl rfl rfl (by omega) (by omega) (by intro L N h1 h2 h3; rw [si_n (Int.le_refl _), List.append_nil]; exact h3) (by omega) (by omega) (by omega) (by omega) (by omega) (by omega)

set_option maxRecDepth 100000 in
set_option maxHeartbeats 2000000 in
theorem T_X11_isTouched (D : md_D h q) (v : Nat → Int32) (f : Nat → Nat → Int32) (hv : md_V v) (hf : md_F f) (x1 : Int32) (p0 : 0 ≤ x1.toInt ∧ x1.toInt < (v 0).toInt) : pm_Mt l g 177 2 0 0 [.ref h, .int x1] (md A0 g h q v f) (md_Qp (md A0 g h q v f) (fun r => (r = 1 ∧ (∀ (n : Int) (c m : Nat → Int32), OB v f n c m → (0 ≤ nextEq m (f 1 x1.toInt.toNat) 0 n.toNat ∧ ¬ bo c m (nextEq m (f 1 x1.toInt.toNat) 0 n.toNat) = bo (f 0) (f 1) x1.toInt))) ∨ (r = 0 ∧ (∀ (n : Int) (c m : Nat → Int32), OB v f n c m → ¬ (0 ≤ nextEq m (f 1 x1.toInt.toNat) 0 n.toNat ∧ ¬ bo c m (nextEq m (f 1 x1.toInt.toNat) 0 n.toNat) = bo (f 0) (f 1) x1.toInt))))) := by
  refine mt_X11_isTouched rfl (fun J hC => ?_)
  have hv9 := hv
  unfold md_V at hv9
  have rg_x1 := pm_rng x1
  refine hC.1 0 0 _ _ rfl _ _ _ _ _ ?_
  have k0 : (0 : Int32).toInt = 0 := rfl
  have lp1 : ∀ (n : Nat) (z2_2 : Int32), (0 ≤ z2_2.toInt ∧ z2_2.toInt ≤ (v 1).toInt) → (∀ k : Nat, (k : Int) < z2_2.toInt → ¬ f 3 k = f 1 x1.toInt.toNat) → 200 - z2_2.toInt < (n : Int) → J 2 [some (.ref h), some (.int x1), some (.int z2_2)] [] (md A0 g h q v f) 0 0 := by
    intro n
    induction n with
    | zero =>
      intro z2_2 j0_2 j1_2 j2_2
      omega
    | succ n ih2 =>
      intro z2_2 j0_2 j1_2 j2_2
      refine hC.1 1 2 _ _ rfl _ _ _ _ _ ?_
      refine Exists.intro _ (And.intro md_o ?_)
      refine And.intro (fun c3 => ?_) (fun c3 => ?_)
      · skip
        refine hC.1 5 51 _ _ rfl _ _ _ _ _ ?_
        exact ⟨rfl, fun _ => (by decide), rfl, (0 : Int32), rfl, rfl, Or.inr ⟨rfl, by intro n c m hO; have h5 := hO.1; have h2 : nextEq m (f 1 x1.toInt.toNat) 0 n.toNat = -1 := nextEq_m n.toNat 0 (fun i _ hi => (by rw [← (hO.2 i (by omega)).1]; exact j1_2 i (by omega))); rw [h2]; exact fun h9 => absurd h9.1 (by decide)⟩⟩
      · skip
        refine Exists.intro _ (And.intro md_o ?_)
        refine Exists.intro _ (Exists.intro _ (And.intro (Or.inl (md_a_oldNames D)) (And.intro (by omega) ?_)))
        refine Exists.intro _ (And.intro md_o ?_)
        refine Exists.intro _ (Exists.intro _ (And.intro (Or.inl (md_a_names D)) (And.intro (by omega) ?_)))
        refine And.intro (fun c4 => ?_) (fun c4 => ?_)
        · skip
          have dc4 := pm_neI c4
          refine hC.1 4 45 _ _ rfl _ _ _ _ _ ?_
          have k1 : (1 : Int32).toInt = 1 := rfl
          intro m5 em_45
          try have e5 : m5.toInt = (z2_2).toInt + (1) := by rw [em_45]; exact pm_addc _ _ (1) rfl (by omega) (by omega)
          exact ih2 m5 (by omega) (by intro k hk; by_cases h8 : k = z2_2.toInt.toNat; (subst h8; assumption); (exact j1_2 k (by omega))) (by omega)
        · skip
          have dc4 : ((f 3 (z2_2).toInt.toNat)).toInt = ((f 1 (x1).toInt.toNat) : Int32).toInt := congrArg Int32.toInt c4
          refine Exists.intro _ (And.intro md_o ?_)
          refine Exists.intro _ (Exists.intro _ (And.intro (Or.inl (md_a_oldBonds D)) (And.intro (by omega) ?_)))
          refine And.intro (Exists.intro _ md_o) (Exists.intro _ (Exists.intro _ (Exists.intro _ (Exists.intro _ (And.intro (F_X11_bondOf D v f hv hf x1 (by omega)) (And.intro rfl (fun r9 A9 h9 => ?_)))))))
          obtain ⟨y6, rfl, rfl, by6⟩ := h9
          have hy9 := by6
          refine And.intro (fun c7 => ?_) (fun c7 => ?_)
          · skip
            have dc7 : ((f 4 (z2_2).toInt.toNat)).toInt = (y6 : Int32).toInt := congrArg Int32.toInt c7
            refine hC.1 2 43 _ _ rfl _ _ _ _ _ ?_
            refine hC.1 3 44 _ _ rfl _ _ _ _ _ ?_
            exact ⟨rfl, fun _ => (by decide), rfl, (0 : Int32), rfl, rfl, Or.inr ⟨rfl, by first | (intro n c m hO; have h5 := hO.1; have h1 := (hO.2 z2_2.toInt.toNat (by omega)); have h2 : nextEq m (f 1 x1.toInt.toNat) 0 n.toNat = (z2_2.toInt.toNat : Int) := nextEq_0 n.toNat 0 z2_2.toInt.toNat (by omega) (by omega) (by rw [← h1.1]; assumption) (fun i _ hi => (by rw [← (hO.2 i (by omega)).1]; exact j1_2 i (by omega))); rw [h2]; exact ⟨by omega, by rw [← h1.2, ← hy9]; assumption⟩) | (intro n c m hO; have h5 := hO.1; have h1 := (hO.2 z2_2.toInt.toNat (by omega)); have h2 : nextEq m (f 1 x1.toInt.toNat) 0 n.toNat = (z2_2.toInt.toNat : Int) := nextEq_0 n.toNat 0 z2_2.toInt.toNat (by omega) (by omega) (by rw [← h1.1]; assumption) (fun i _ hi => (by rw [← (hO.2 i (by omega)).1]; exact j1_2 i (by omega))); rw [h2]; exact fun h9 => h9.2 (by rw [← h1.2, ← hy9]; assumption))⟩⟩
          · skip
            have dc7 := pm_neI c7
            have k1 : (1 : Int32).toInt = 1 := rfl
            refine hC.1 3 44 _ _ rfl _ _ _ _ _ ?_
            exact ⟨rfl, fun _ => (by decide), rfl, (1 : Int32), rfl, rfl, Or.inl ⟨rfl, by first | (intro n c m hO; have h5 := hO.1; have h1 := (hO.2 z2_2.toInt.toNat (by omega)); have h2 : nextEq m (f 1 x1.toInt.toNat) 0 n.toNat = (z2_2.toInt.toNat : Int) := nextEq_0 n.toNat 0 z2_2.toInt.toNat (by omega) (by omega) (by rw [← h1.1]; assumption) (fun i _ hi => (by rw [← (hO.2 i (by omega)).1]; exact j1_2 i (by omega))); rw [h2]; exact ⟨by omega, by rw [← h1.2, ← hy9]; assumption⟩) | (intro n c m hO; have h5 := hO.1; have h1 := (hO.2 z2_2.toInt.toNat (by omega)); have h2 : nextEq m (f 1 x1.toInt.toNat) 0 n.toNat = (z2_2.toInt.toNat : Int) := nextEq_0 n.toNat 0 z2_2.toInt.toNat (by omega) (by omega) (by rw [← h1.1]; assumption) (fun i _ hi => (by rw [← (hO.2 i (by omega)).1]; exact j1_2 i (by omega))); rw [h2]; exact fun h9 => h9.2 (by rw [← h1.2, ← hy9]; assumption))⟩⟩
  exact lp1 (200 - (0 : Int32).toInt).toNat.succ (0 : Int32) (by omega) (by intro k hk; omega) (by omega)

set_option maxRecDepth 100000 in
set_option maxHeartbeats 2000000 in
theorem T_X11_keepsRow (D : md_D h q) (v : Nat → Int32) (f : Nat → Nat → Int32) (hv : md_V v) (hf : md_F f) (x1 : Int32)  : pm_Mt l g 178 0 0 0 [.ref h, .int x1] (md A0 g h q v f) (md_Qv A0 g h q f (fun v2 f2 => f2 0 = f 0 ∧ f2 1 = f 1 ∧ (v2 0).toInt = (v 0).toInt ∧ (v2 1).toInt = (v 1).toInt ∧ (v2 2).toInt = (v 2).toInt ∧ (v2 3).toInt = (v 3).toInt ∧ (v2 4).toInt = (v 4).toInt ∧ (v2 6).toInt = (v 6).toInt)) := by
  refine mt_X11_keepsRow rfl (fun J hC => ?_)
  have hv9 := hv
  unfold md_V at hv9
  have rg_x1 := pm_rng x1
  refine hC.1 0 0 _ _ rfl _ _ _ _ _ ?_
  refine Exists.intro _ (And.intro md_o ?_)
  have k40 : (40 : Int32).toInt = 40 := rfl
  refine And.intro (by decide) ?_
  intro m1 em_6
  try have e1 := pm_rem (v 4) (40 : Int32) (by omega) (by omega)
  try rw [← em_6] at e1
  refine Exists.intro _ (And.intro md_o ?_)
  refine Exists.intro _ (And.intro md_o ?_)
  refine Exists.intro _ (Exists.intro _ (And.intro (md_a_wasMany D) (And.intro (by omega) ?_)))
  rw [md_s_wasMany D]
  obtain ⟨f2, ef2⟩ : ∃ z9, z9 = va_up f 14 (upd (f 14) (m1).toInt.toNat (v 0)) := ⟨_, rfl⟩
  rw [← ef2]
  have hf2 : md_F f2 := by rw [ef2]; exact md_F_st hf 14 _ _ (by show (0 : Int) ≤ _ ∧ _ ≤ (160 : Int); omega)
  have hw2 : f2 2 = f 2 := (show f2 2 = f 2 by rw [ef2]; rfl).trans rfl
  have hr2_0 : f2 0 = f 0 := (show f2 0 = f 0 by rw [ef2]; rfl).trans rfl
  have hr2_1 : f2 1 = f 1 := (show f2 1 = f 1 by rw [ef2]; rfl).trans rfl
  refine Exists.intro _ (And.intro md_o ?_)
  refine Exists.intro _ (Exists.intro _ (And.intro (md_a_wasTouched D) (And.intro (by omega) ?_)))
  rw [md_s_wasTouched D]
  obtain ⟨f3, ef3⟩ : ∃ z9, z9 = va_up f2 15 (upd (f2 15) (m1).toInt.toNat x1) := ⟨_, rfl⟩
  rw [← ef3]
  have hf3 : md_F f3 := by rw [ef3]; exact md_F_st hf2 15 _ _ (md_rng _ _ (by decide))
  have hw3 : f3 2 = f 2 := (show f3 2 = f2 2 by rw [ef3]; rfl).trans hw2
  have hr3_0 : f3 0 = f 0 := (show f3 0 = f2 0 by rw [ef3]; rfl).trans hr2_0
  have hr3_1 : f3 1 = f 1 := (show f3 1 = f2 1 by rw [ef3]; rfl).trans hr2_1
  have k0 : (0 : Int32).toInt = 0 := rfl
  have lp5 : ∀ (n : Nat) (z3_27 : Int32) (v4 : Nat → Int32) (f4 : Nat → Nat → Int32), md_V v4 → md_F f4 → f4 2 = f 2 → f4 0 = f 0 → f4 1 = f 1 → (0 ≤ z3_27.toInt ∧ z3_27.toInt ≤ (v 0).toInt) → (v4 0).toInt = (v 0).toInt → (v4 1).toInt = (v 1).toInt → (v4 2).toInt = (v 2).toInt → (v4 3).toInt = (v 3).toInt → (v4 4).toInt = (v 4).toInt → (v4 6).toInt = (v 6).toInt → 200 - z3_27.toInt < (n : Int) → J 27 [some (.ref h), some (.int x1), some (.int m1), some (.int z3_27)] [] (md A0 g h q v4 f4) 0 0 := by
    intro n
    induction n with
    | zero =>
      intro z3_27 v4 f4 hv4 hf4 hw4 hr4_0 hr4_1 j0_27 j1_27 j2_27 j3_27 j4_27 j5_27 j6_27 j7_27
      omega
    | succ n ih6 =>
      intro z3_27 v4 f4 hv4 hf4 hw4 hr4_0 hr4_1 j0_27 j1_27 j2_27 j3_27 j4_27 j5_27 j6_27 j7_27
      refine hC.1 1 27 _ _ rfl _ _ _ _ _ ?_
      refine Exists.intro _ (And.intro md_o ?_)
      refine And.intro (fun c8 => ?_) (fun c8 => ?_)
      · skip
        refine hC.1 2 77 _ _ rfl _ _ _ _ _ ?_
        exact ⟨rfl, rfl, v4, f4, rfl, rfl, hv4, hf4, hw4, hr4_0, hr4_1, by first | omega | (dsimp only; omega) | trivial⟩
      · skip
        refine Exists.intro _ (And.intro md_o ?_)
        have k160 : (160 : Int32).toInt = 160 := rfl
        intro m9 em_43
        try have e9 : m9.toInt = (160) * (m1).toInt := by rw [em_43]; exact pm_mulk _ _ (160) rfl (by omega) (by omega)
        intro m10 em_45
        try have e10 : m10.toInt = (m9).toInt + (z3_27).toInt := by rw [em_45]; exact pm_add _ _ (by omega) (by omega)
        refine Exists.intro _ (And.intro md_o ?_)
        refine Exists.intro _ (Exists.intro _ (And.intro (Or.inl (md_a_colours D)) (And.intro (by omega) ?_)))
        have w11 : (0 : Int) ≤ (f4 0 (z3_27).toInt.toNat).toInt ∧ (f4 0 (z3_27).toInt.toNat).toInt ≤ (23 : Int) := hf4 0 _
        refine Exists.intro _ (Exists.intro _ (And.intro (md_a_wasColours D) (And.intro (by omega) ?_)))
        rw [md_s_wasColours D]
        obtain ⟨f12, ef12⟩ : ∃ z9, z9 = va_up f4 12 (upd (f4 12) (m10).toInt.toNat (f4 0 (z3_27).toInt.toNat)) := ⟨_, rfl⟩
        rw [← ef12]
        have hf12 : md_F f12 := by rw [ef12]; exact md_F_st hf4 12 _ _ (by show (0 : Int) ≤ _ ∧ _ ≤ (23 : Int); omega)
        have hw12 : f12 2 = f 2 := (show f12 2 = f4 2 by rw [ef12]; rfl).trans hw4
        have hr12_0 : f12 0 = f 0 := (show f12 0 = f4 0 by rw [ef12]; rfl).trans hr4_0
        have hr12_1 : f12 1 = f 1 := (show f12 1 = f4 1 by rw [ef12]; rfl).trans hr4_1
        refine Exists.intro _ (And.intro md_o ?_)
        intro m13 em_61
        try have e13 : m13.toInt = (160) * (m1).toInt := by rw [em_61]; exact pm_mulk _ _ (160) rfl (by omega) (by omega)
        intro m14 em_63
        try have e14 : m14.toInt = (m13).toInt + (z3_27).toInt := by rw [em_63]; exact pm_add _ _ (by omega) (by omega)
        refine Exists.intro _ (And.intro md_o ?_)
        refine Exists.intro _ (Exists.intro _ (And.intro (Or.inl (md_a_names D)) (And.intro (by omega) ?_)))
        refine Exists.intro _ (Exists.intro _ (And.intro (md_a_wasNames D) (And.intro (by omega) ?_)))
        rw [md_s_wasNames D]
        obtain ⟨f15, ef15⟩ : ∃ z9, z9 = va_up f12 13 (upd (f12 13) (m14).toInt.toNat (f12 1 (z3_27).toInt.toNat)) := ⟨_, rfl⟩
        rw [← ef15]
        have hf15 : md_F f15 := by rw [ef15]; exact md_F_st hf12 13 _ _ (md_rng _ _ (by decide))
        have hw15 : f15 2 = f 2 := (show f15 2 = f12 2 by rw [ef15]; rfl).trans hw12
        have hr15_0 : f15 0 = f 0 := (show f15 0 = f12 0 by rw [ef15]; rfl).trans hr12_0
        have hr15_1 : f15 1 = f 1 := (show f15 1 = f12 1 by rw [ef15]; rfl).trans hr12_1
        have k1 : (1 : Int32).toInt = 1 := rfl
        intro m16 em_71
        try have e16 : m16.toInt = (z3_27).toInt + (1) := by rw [em_71]; exact pm_addc _ _ (1) rfl (by omega) (by omega)
        exact ih6 m16 v4 f15 hv4 hf15 hw15 hr15_0 hr15_1 (by omega) (by omega) (by omega) (by omega) (by omega) (by omega) (by omega) (by omega)
  exact lp5 (200 - (0 : Int32).toInt).toNat.succ (0 : Int32) v f3 hv hf3 hw3 hr3_0 hr3_1 (by omega) (by omega) (by omega) (by omega) (by omega) (by omega) (by omega) (by omega)

end
end
section
section
variable {l : Launch} {g : pm_G} {A0 : pm_H} {h : Nat} {q : Nat → Nat}
set_option maxRecDepth 100000 in
set_option maxHeartbeats 2000000 in
theorem T_X11_ends (D : md_D h q) (v : Nat → Int32) (f : Nat → Nat → Int32) (hv : md_V v) (hf : md_F f) (p0 : (v 4).toInt < 100000) : pm_Mt l g 176 3 0 0 [.ref h] (md A0 g h q v f) (md_Qw A0 g h q f (fun r v2 f2 => ((v2 1).toInt = (v 1).toInt ∧ (v2 2).toInt = (v 2).toInt ∧ (v2 3).toInt = (v 3).toInt ∧ (v2 6).toInt = (v 6).toInt ∧ (v2 4).toInt = (v 4).toInt + 1 ∧ (v2 0).toInt = (v 2).toInt) ∧ ((∀ N, rp (v 2) (f 5) (f 6) (N) → rp (v2 0) (f2 0) (f2 1) N) ∧ (∀ (n : Int) (c m : Nat → Int32), OB v f n c m → r.toInt = (tcN n c m (f2 0) (f2 1) (v2 0).toInt.toNat : Int))))) := by
  refine mt_X11_ends rfl (fun J hC => ?_)
  have hv9 := hv
  unfold md_V at hv9
  refine hC.1 0 0 _ _ rfl _ _ _ _ _ ?_
  refine Exists.intro _ (And.intro md_o ?_)
  refine Exists.intro _ (And.intro md_o (And.intro rfl ?_))
  rw [md_p_many D]
  obtain ⟨v1, ev1⟩ : ∃ z9, z9 = upd v 0 (v 2) := ⟨_, rfl⟩
  rw [← ev1]
  have ev1_0 : (v1 0).toInt = ((v 2)).toInt := by rw [ev1]; rfl
  have ev1_1 : (v1 1).toInt = (v 1).toInt := by rw [ev1]; rfl
  have ev1_2 : (v1 2).toInt = (v 2).toInt := by rw [ev1]; rfl
  have ev1_3 : (v1 3).toInt = (v 3).toInt := by rw [ev1]; rfl
  have ev1_4 : (v1 4).toInt = (v 4).toInt := by rw [ev1]; rfl
  have ev1_5 : (v1 5).toInt = (v 5).toInt := by rw [ev1]; rfl
  have ev1_6 : (v1 6).toInt = (v 6).toInt := by rw [ev1]; rfl
  have ev1_7 : (v1 7).toInt = (v 7).toInt := by rw [ev1]; rfl
  have pn_5 : v1 0 = (v 2) := by rw [ev1]; rfl
  have k0 : (0 : Int32).toInt = 0 := rfl
  have lp3 : ∀ (n : Nat) (z1_10 : Int32) (v2 : Nat → Int32) (f2 : Nat → Nat → Int32), md_V v2 → md_F f2 → f2 2 = f 2 → f2 3 = f 3 → f2 4 = f 4 → f2 5 = f 5 → f2 6 = f 6 → (0 ≤ z1_10.toInt ∧ z1_10.toInt ≤ (v 2).toInt) → ((v2 0).toInt = (v 2).toInt ∧ (v2 4).toInt = (v 4).toInt) → (∀ j : Nat, (j : Int) < z1_10.toInt → f2 0 j = f 5 j ∧ f2 1 j = f 6 j) → (v2 1).toInt = (v 1).toInt → (v2 2).toInt = (v 2).toInt → (v2 3).toInt = (v 3).toInt → (v2 6).toInt = (v 6).toInt → 200 - z1_10.toInt < (n : Int) → J 10 [some (.ref h), some (.int z1_10), none] [] (md A0 g h q v2 f2) 0 0 := by
    intro n
    induction n with
    | zero =>
      intro z1_10 v2 f2 hv2 hf2 hw2 hr2_3 hr2_4 hr2_5 hr2_6 j0_10 j1_10 j2_10 j3_10 j4_10 j5_10 j6_10 j7_10
      clear ev1_0 ev1_1 ev1_2 ev1_3 ev1_4 ev1_5 ev1_6 ev1_7
      omega
    | succ n ih4 =>
      intro z1_10 v2 f2 hv2 hf2 hw2 hr2_3 hr2_4 hr2_5 hr2_6 j0_10 j1_10 j2_10 j3_10 j4_10 j5_10 j6_10 j7_10
      clear ev1_0 ev1_1 ev1_2 ev1_3 ev1_4 ev1_5 ev1_6 ev1_7
      have lr5 := hr2_5
      have lr6 := hr2_6
      refine hC.1 1 10 _ _ rfl _ _ _ _ _ ?_
      have hu5_0 := hv2.1
      have hu5_4 := hv2.2.2.2.2.1
      refine Exists.intro _ (And.intro md_o ?_)
      refine And.intro (fun c6 => ?_) (fun c6 => ?_)
      · skip
        refine hC.1 2 48 _ _ rfl _ _ _ _ _ ?_
        have lp7 : ∀ (n : Nat) (z1_52 : Int32) (z2_52 : Int32), (0 ≤ z2_52.toInt ∧ z2_52.toInt ≤ (v 2).toInt) → (0 ≤ z1_52.toInt ∧ z1_52.toInt ≤ z2_52.toInt) → (∀ (n : Int) (c m : Nat → Int32), OB v f n c m → z1_52.toInt = (tcN n c m (f2 0) (f2 1) z2_52.toInt.toNat : Int)) → 200 - z2_52.toInt < (n : Int) → J 52 [some (.ref h), some (.int z1_52), some (.int z2_52)] [] (md A0 g h q v2 f2) 0 0 := by
          intro n
          induction n with
          | zero =>
            intro z1_52 z2_52 j0_52 j1_52 j2_52 j3_52
            omega
          | succ n ih8 =>
            intro z1_52 z2_52 j0_52 j1_52 j2_52 j3_52
            have lr3 := hr2_3
            have lr4 := hr2_4
            refine hC.1 3 52 _ _ rfl _ _ _ _ _ ?_
            refine Exists.intro _ (And.intro md_o ?_)
            refine And.intro (fun c9 => ?_) (fun c9 => ?_)
            · skip
              refine hC.1 6 82 _ _ rfl _ _ _ _ _ ?_
              refine Exists.intro _ (And.intro md_o ?_)
              have k1 : (1 : Int32).toInt = 1 := rfl
              intro m10 em_88
              try have e10 : m10.toInt = ((v2 4)).toInt + (1) := by rw [em_88]; exact pm_addc _ _ (1) rfl (by omega) (by omega)
              refine Exists.intro _ (And.intro md_o (And.intro rfl ?_))
              rw [md_p_edits D]
              obtain ⟨v11, ev11⟩ : ∃ z9, z9 = upd v2 4 m10 := ⟨_, rfl⟩
              rw [← ev11]
              have ev11_0 : (v11 0).toInt = (v2 0).toInt := by rw [ev11]; rfl
              have ev11_1 : (v11 1).toInt = (v2 1).toInt := by rw [ev11]; rfl
              have ev11_2 : (v11 2).toInt = (v2 2).toInt := by rw [ev11]; rfl
              have ev11_3 : (v11 3).toInt = (v2 3).toInt := by rw [ev11]; rfl
              have ev11_4 : (v11 4).toInt = (m10).toInt := by rw [ev11]; rfl
              have ev11_5 : (v11 5).toInt = (v2 5).toInt := by rw [ev11]; rfl
              have ev11_6 : (v11 6).toInt = (v2 6).toInt := by rw [ev11]; rfl
              have ev11_7 : (v11 7).toInt = (v2 7).toInt := by rw [ev11]; rfl
              have pn_89 : v11 4 = m10 := by rw [ev11]; rfl
              refine Exists.intro _ (And.intro md_o ?_)
              intro m12 em_98
              refine Exists.intro _ (And.intro md_o (And.intro rfl ?_))
              rw [md_p_touchedAll D]
              obtain ⟨v13, ev13⟩ : ∃ z9, z9 = upd v11 5 m12 := ⟨_, rfl⟩
              rw [← ev13]
              have ev13_0 : (v13 0).toInt = (v11 0).toInt := by rw [ev13]; rfl
              have ev13_1 : (v13 1).toInt = (v11 1).toInt := by rw [ev13]; rfl
              have ev13_2 : (v13 2).toInt = (v11 2).toInt := by rw [ev13]; rfl
              have ev13_3 : (v13 3).toInt = (v11 3).toInt := by rw [ev13]; rfl
              have ev13_4 : (v13 4).toInt = (v11 4).toInt := by rw [ev13]; rfl
              have ev13_5 : (v13 5).toInt = (m12).toInt := by rw [ev13]; rfl
              have ev13_6 : (v13 6).toInt = (v11 6).toInt := by rw [ev13]; rfl
              have ev13_7 : (v13 7).toInt = (v11 7).toInt := by rw [ev13]; rfl
              have pn_99 : v13 5 = m12 := by rw [ev13]; rfl
              have hv14 : md_V v13 := by unfold md_V; omega
              refine And.intro (Exists.intro _ md_o) (Exists.intro _ (Exists.intro _ (Exists.intro _ (Exists.intro _ (And.intro (T_X11_keepsRow D v13 f2 hv14 hf2 z1_52 ) (And.intro rfl (fun r9 A9 h9 => ?_)))))))
              obtain ⟨v16, f16, rfl, rfl, hv16, hf16, hx16, hg16_0, hg16_1, by15⟩ := h9
              have hw16 : f16 2 = f 2 := hx16.trans hw2
              have pr_104_0 := hg16_0
              have pr_104_1 := hg16_1
              exact ⟨rfl, fun e9 => absurd e9 (by decide), rfl, z1_52, v16, f16, rfl, rfl, hv16, hf16, hw16, by first | omega | (dsimp only; omega) | trivial, by refine ⟨?_, ?_⟩; (intro N hN; refine rp_cp hN (by omega) (fun j hj => ?_); rw [pr_104_0, pr_104_1]; exact j2_10 j (by omega)); (intro n c m hO; have h7 := j2_52 n c m hO; rw [pr_104_0, pr_104_1, show (v16 0).toInt.toNat = z2_52.toInt.toNat by omega]; exact h7)⟩
            · skip
              refine And.intro (Exists.intro _ md_o) (Exists.intro _ (Exists.intro _ (Exists.intro _ (Exists.intro _ (And.intro (T_X11_isTouched D v2 f2 hv2 hf2 z2_52 (by omega)) (And.intro rfl (fun r9 A9 h9 => ?_)))))))
              rcases h9 with ⟨y18, rfl, rfl, ⟨rfl, by18⟩ | ⟨rfl, by18⟩⟩
              · skip
                have k1 : (1 : Int32).toInt = 1 := rfl
                have ht9 := by18
                refine And.intro (fun c9 => absurd c9 (by decide)) (fun _ => ?_)
                refine hC.1 5 74 _ _ rfl _ _ _ _ _ ?_
                intro m19 em_74
                try have e19 : m19.toInt = (z1_52).toInt + (1) := by rw [em_74]; exact pm_addc _ _ (1) rfl (by omega) (by omega)
                intro m20 em_76
                try have e20 : m20.toInt = (z2_52).toInt + (1) := by rw [em_76]; exact pm_addc _ _ (1) rfl (by omega) (by omega)
                exact ih8 m19 m20 (by omega) (by omega) (by intro n c m hO; have hO2 := OB_fr (v2 := v2) (f2 := f2) hO (by omega) lr3 lr4; have h7 := j2_52 n c m hO; rw [show m20.toInt.toNat = z2_52.toInt.toNat + 1 by omega]; first | (rw [tcN_y (by rw [show ((z2_52.toInt.toNat : Nat) : Int) = z2_52.toInt by omega]; exact ht9 n c m hO2)]; omega) | (rw [tcN_n (by rw [show ((z2_52.toInt.toNat : Nat) : Int) = z2_52.toInt by omega]; exact ht9 n c m hO2)]; omega)) (by omega)
              · skip
                have ht9 := by18
                refine And.intro (fun _ => ?_) (fun c9 => absurd c9 (by decide))
                refine hC.1 4 73 _ _ rfl _ _ _ _ _ ?_
                refine hC.1 5 74 _ _ rfl _ _ _ _ _ ?_
                intro m21 em_74
                try have e21 : m21.toInt = (z1_52).toInt + (0) := by rw [em_74]; exact pm_addc _ _ (0) rfl (by omega) (by omega)
                have k1 : (1 : Int32).toInt = 1 := rfl
                intro m22 em_76
                try have e22 : m22.toInt = (z2_52).toInt + (1) := by rw [em_76]; exact pm_addc _ _ (1) rfl (by omega) (by omega)
                exact ih8 m21 m22 (by omega) (by omega) (by intro n c m hO; have hO2 := OB_fr (v2 := v2) (f2 := f2) hO (by omega) lr3 lr4; have h7 := j2_52 n c m hO; rw [show m22.toInt.toNat = z2_52.toInt.toNat + 1 by omega]; first | (rw [tcN_y (by rw [show ((z2_52.toInt.toNat : Nat) : Int) = z2_52.toInt by omega]; exact ht9 n c m hO2)]; omega) | (rw [tcN_n (by rw [show ((z2_52.toInt.toNat : Nat) : Int) = z2_52.toInt by omega]; exact ht9 n c m hO2)]; omega)) (by omega)
        exact lp7 (200 - (0 : Int32).toInt).toNat.succ (0 : Int32) (0 : Int32) (by omega) (by omega) (by intro n c m hO; rfl) (by omega)
      · skip
        refine Exists.intro _ (And.intro md_o ?_)
        refine Exists.intro _ (And.intro md_o ?_)
        refine Exists.intro _ (Exists.intro _ (And.intro (Or.inl (md_a_nextColours D)) (And.intro (by omega) ?_)))
        have w23 : (0 : Int) ≤ (f2 5 (z1_10).toInt.toNat).toInt ∧ (f2 5 (z1_10).toInt.toNat).toInt ≤ (23 : Int) := hf2 5 _
        refine Exists.intro _ (Exists.intro _ (And.intro (md_a_colours D) (And.intro (by omega) ?_)))
        rw [md_s_colours D]
        obtain ⟨f24, ef24⟩ : ∃ z9, z9 = va_up f2 0 (upd (f2 0) (z1_10).toInt.toNat (f2 5 (z1_10).toInt.toNat)) := ⟨_, rfl⟩
        rw [← ef24]
        have pf_29 : f24 0 = upd (f2 0) (z1_10).toInt.toNat (f2 5 (z1_10).toInt.toNat) := by rw [ef24]; exact if_pos rfl
        have pg_29 : ∀ i9, i9 ≠ 0 → f24 i9 = f2 i9 := fun i9 h9 => by rw [ef24]; exact if_neg h9
        have hf24 : md_F f24 := by rw [ef24]; exact md_F_st hf2 0 _ _ (by show (0 : Int) ≤ _ ∧ _ ≤ (23 : Int); omega)
        have hw24 : f24 2 = f 2 := (show f24 2 = f2 2 by rw [ef24]; rfl).trans hw2
        have hr24_3 : f24 3 = f 3 := (show f24 3 = f2 3 by rw [ef24]; rfl).trans hr2_3
        have hr24_4 : f24 4 = f 4 := (show f24 4 = f2 4 by rw [ef24]; rfl).trans hr2_4
        have hr24_5 : f24 5 = f 5 := (show f24 5 = f2 5 by rw [ef24]; rfl).trans hr2_5
        have hr24_6 : f24 6 = f 6 := (show f24 6 = f2 6 by rw [ef24]; rfl).trans hr2_6
        refine Exists.intro _ (And.intro md_o ?_)
        refine Exists.intro _ (And.intro md_o ?_)
        refine Exists.intro _ (Exists.intro _ (And.intro (Or.inl (md_a_nextNames D)) (And.intro (by omega) ?_)))
        refine Exists.intro _ (Exists.intro _ (And.intro (md_a_names D) (And.intro (by omega) ?_)))
        rw [md_s_names D]
        obtain ⟨f25, ef25⟩ : ∃ z9, z9 = va_up f24 1 (upd (f24 1) (z1_10).toInt.toNat (f24 6 (z1_10).toInt.toNat)) := ⟨_, rfl⟩
        rw [← ef25]
        have pf_41 : f25 1 = upd (f24 1) (z1_10).toInt.toNat (f24 6 (z1_10).toInt.toNat) := by rw [ef25]; exact if_pos rfl
        have pg_41 : ∀ i9, i9 ≠ 1 → f25 i9 = f24 i9 := fun i9 h9 => by rw [ef25]; exact if_neg h9
        have hf25 : md_F f25 := by rw [ef25]; exact md_F_st hf24 1 _ _ (md_rng _ _ (by decide))
        have hw25 : f25 2 = f 2 := (show f25 2 = f24 2 by rw [ef25]; rfl).trans hw24
        have hr25_3 : f25 3 = f 3 := (show f25 3 = f24 3 by rw [ef25]; rfl).trans hr24_3
        have hr25_4 : f25 4 = f 4 := (show f25 4 = f24 4 by rw [ef25]; rfl).trans hr24_4
        have hr25_5 : f25 5 = f 5 := (show f25 5 = f24 5 by rw [ef25]; rfl).trans hr24_5
        have hr25_6 : f25 6 = f 6 := (show f25 6 = f24 6 by rw [ef25]; rfl).trans hr24_6
        have k1 : (1 : Int32).toInt = 1 := rfl
        intro m26 em_42
        try have e26 : m26.toInt = (z1_10).toInt + (1) := by rw [em_42]; exact pm_addc _ _ (1) rfl (by omega) (by omega)
        exact ih4 m26 v2 f25 hv2 hf25 hw25 hr25_3 hr25_4 hr25_5 hr25_6 (by omega) (by omega) (by intro j hj; rw [pg_41 0 (by decide), pf_29, pf_41, pg_29 1 (by decide), pg_29 6 (by decide), lr5, lr6]; by_cases hjz : j = z1_10.toInt.toNat; (subst hjz; exact ⟨pk_us, pk_us⟩); (rw [pk_un hjz, pk_un hjz]; exact j2_10 j (by omega))) (by omega) (by omega) (by omega) (by omega) (by omega)
  have hv27 : md_V v1 := by unfold md_V; omega
  exact lp3 (200 - (0 : Int32).toInt).toNat.succ (0 : Int32) v1 f hv27 hf rfl rfl rfl rfl rfl (by omega) (by omega) (by intro j hj; omega) (by omega) (by omega) (by omega) (by omega) (by omega)

end
end
section
section
variable {l : Launch} {g : pm_G} {A0 : pm_H} {h : Nat} {q : Nat → Nat}
set_option maxRecDepth 100000 in
set_option maxHeartbeats 2000000 in
theorem T_X11_sort (D : md_D h q) (v : Nat → Int32) (f : Nat → Nat → Int32) (hv : md_V v) (hf : md_F f) (x1 : Int32) (x2 : Int32) (p0 : (v 4).toInt < 100000) : pm_Mt l g 190 4 0 0 [.ref h, .int x1, .int x2] (md A0 g h q v f) (md_Qw A0 g h q f (fun r v2 f2 => ((v2 6).toInt = (v 6).toInt ∧ (v2 4).toInt ≤ (v 4).toInt + 1 ∧ (v 4).toInt ≤ (v2 4).toInt) ∧ ((∀ L, rp (v 0) (f 0) (f 1) L → rp (v2 0) (f2 0) (f2 1) ((ed_sort L x1 x2).getD L) ∧ (v2 4).toInt = (v 4).toInt + edn (ed_sort L x1 x2) ∧ (v2 3).toInt = (v 3).toInt + edn (ed_sort L x1 x2) * (0)) ∧ (((v2 4).toInt = (v 4).toInt ∧ r.toInt = -1) ∨ ((v2 4).toInt = (v 4).toInt + 1 ∧ r.toInt = (tcN (v 0).toInt (f 0) (f 1) (f2 0) (f2 1) (v2 0).toInt.toNat : Int)))))) := by
  refine mt_X11_sort rfl (fun J hC => ?_)
  have hv9 := hv
  unfold md_V at hv9
  have rg_x1 := pm_rng x1
  have rg_x2 := pm_rng x2
  refine hC.1 0 0 _ _ rfl _ _ _ _ _ ?_
  refine And.intro (Exists.intro _ md_o) (Exists.intro _ (Exists.intro _ (Exists.intro _ (Exists.intro _ (And.intro (c_X11_isSpan D v f hv hf x1 x2 ) (And.intro rfl (fun r9 A9 h9 => ?_)))))))
  rcases h9 with ⟨y1, rfl, rfl, ⟨rfl, by1⟩ | ⟨rfl, by1⟩⟩
  · skip
    have k1 : (1 : Int32).toInt = 1 := rfl
    refine And.intro (fun _ => ?_) (fun c9 => absurd c9 (by decide))
    refine hC.1 1 11 _ _ rfl _ _ _ _ _ ?_
    refine And.intro (Exists.intro _ md_o) (Exists.intro _ (Exists.intro _ (Exists.intro _ (Exists.intro _ (And.intro (T_X11_begins D v f hv hf  ) (And.intro rfl (fun r9 A9 h9 => ?_)))))))
    obtain ⟨v3, f3, rfl, rfl, hv3, hf3, hx3, hg3_0, hg3_1, by2⟩ := h9
    have hw3 : f3 2 = f 2 := hx3.trans rfl
    have hr3_0 : f3 0 = f 0 := hg3_0.trans rfl
    have hr3_1 : f3 1 = f 1 := hg3_1.trans rfl
    have hu4_1 := hv3.2.1
    have hu4_2 := hv3.2.2.1
    have hb_12 := by2.2
    have sq3_0 : (v3 0).toInt = (v 0).toInt := by2.1.1
    have sq3_3 : (v3 3).toInt = (v 3).toInt := by2.1.2.1
    have sq3_4 : (v3 4).toInt = (v 4).toInt := by2.1.2.2.1
    have sq3_6 : (v3 6).toInt = (v 6).toInt := by2.1.2.2.2.1
    have sp3 := by2.1.2.2.2.2
    have ob3 : OB v3 f3 (v 0).toInt (f 0) (f 1) := by2.2
    clear by2
    have k0 : (0 : Int32).toInt = 0 := rfl
    have hp_18 : ∀ L, rp (v 0) (f 0) (f 1) L → rp (v3 0) (f3 0) (f3 1) L := fun L h => rp_fr h (by omega) hr3_0 hr3_1
    refine And.intro (Exists.intro _ md_o) (Exists.intro _ (Exists.intro _ (Exists.intro _ (Exists.intro _ (And.intro (T_X11_laysFrom D v3 f3 hv3 hf3 (0 : Int32) x1 (by omega) (by omega) (by omega) (by omega)) (And.intro rfl (fun r9 A9 h9 => ?_)))))))
    obtain ⟨v6, f6, rfl, rfl, hv6, hf6, hx6, hg6_0, hg6_1, hg6_3, hg6_4, by5⟩ := h9
    have hw6 : f6 2 = f 2 := hx6.trans hw3
    have hr6_0 : f6 0 = f 0 := hg6_0.trans hr3_0
    have hr6_1 : f6 1 = f 1 := hg6_1.trans hr3_1
    have hu7_2 := hv6.2.2.1
    have hb_18 := by5.2
    have sq6_0 : (v6 0).toInt = (v 0).toInt := by5.1.1.trans sq3_0
    have sq6_1 : (v6 1).toInt = (v3 1).toInt := by5.1.2.1
    have sq6_3 : (v6 3).toInt = (v 3).toInt := by5.1.2.2.1.trans sq3_3
    have sq6_4 : (v6 4).toInt = (v 4).toInt := by5.1.2.2.2.1.trans sq3_4
    have sq6_6 : (v6 6).toInt = (v 6).toInt := by5.1.2.2.2.2.1.trans sq3_6
    have sp6 := by5.1.2.2.2.2.2
    have ob6 : OB v6 f6 (v 0).toInt (f 0) (f 1) := OB_fr ob3 (by omega) hg6_3 hg6_4
    clear by5
    have lp9 : ∀ (n : Nat) (z3_23 : Int32) (v8 : Nat → Int32) (f8 : Nat → Nat → Int32), md_V v8 → md_F f8 → f8 2 = f 2 → f8 0 = f 0 → f8 1 = f 1 → OB v8 f8 (v 0).toInt (f 0) (f 1) → (0 ≤ z3_23.toInt ∧ z3_23.toInt ≤ 24) → ((v8 0).toInt = (v 0).toInt ∧ (v8 4).toInt = (v 4).toInt ∧ (v8 3).toInt = (v 3).toInt) → ((v8 2).toInt = x1.toInt + ctLt (f 0) z3_23.toInt x1.toInt.toNat (x2.toInt - x1.toInt + 1).toNat) → (∀ L, rp (v 0) (f 0) (f 1) L → rp (v8 2) (f8 5) (f8 6) (si L 0 x1.toInt ++ st_l (si L x1.toInt (x2.toInt + 1)) z3_23.toInt.toNat)) → (v8 6).toInt = (v 6).toInt → 200 - z3_23.toInt < (n : Int) → J 23 [some (.ref h), some (.int x1), some (.int x2), some (.int z3_23), none] [] (md A0 g h q v8 f8) 0 0 := by
      intro n
      induction n with
      | zero =>
        intro z3_23 v8 f8 hv8 hf8 hw8 hr8_0 hr8_1 ob8 j0_23 j1_23 j2_23 j3_23 j4_23 j5_23
        clear hu4_1 hu4_2 sq3_0 sq3_3 sq3_4 sq3_6 sp3 hu7_2 sq6_0 sq6_1 sq6_3 sq6_4 sq6_6 sp6
        omega
      | succ n ih10 =>
        intro z3_23 v8 f8 hv8 hf8 hw8 hr8_0 hr8_1 ob8 j0_23 j1_23 j2_23 j3_23 j4_23 j5_23
        clear hu4_1 hu4_2 sq3_0 sq3_3 sq3_4 sq3_6 sp3 hu7_2 sq6_0 sq6_1 sq6_3 sq6_4 sq6_6 sp6
        have cl9 := ctLt_le (f 0) z3_23.toInt x1.toInt.toNat (x2.toInt - x1.toInt + 1).toNat
        refine hC.1 2 23 _ _ rfl _ _ _ _ _ ?_
        have hu11_0 := hv8.1
        have hu11_1 := hv8.2.1
        have hu11_2 := hv8.2.2.1
        have hu11_3 := hv8.2.2.2.1
        have hu11_4 := hv8.2.2.2.2.1
        have k24 : (24 : Int32).toInt = 24 := rfl
        refine And.intro (fun c12 => ?_) (fun c12 => ?_)
        · skip
          refine hC.1 6 73 _ _ rfl _ _ _ _ _ ?_
          intro m13 em_76
          try have e13 : m13.toInt = (x2).toInt + (1) := by rw [em_76]; exact pm_addc _ _ (1) rfl (by omega) (by omega)
          refine Exists.intro _ (And.intro md_o ?_)
          have hp_81 : ∀ L, rp (v 0) (f 0) (f 1) L → rp (v8 0) (f8 0) (f8 1) L := fun L h => rp_fr h (by omega) hr8_0 hr8_1
          refine And.intro (Exists.intro _ md_o) (Exists.intro _ (Exists.intro _ (Exists.intro _ (Exists.intro _ (And.intro (T_X11_laysFrom D v8 f8 hv8 hf8 m13 (v8 0) (by omega) (by omega) (by omega) (by omega)) (And.intro rfl (fun r9 A9 h9 => ?_)))))))
          obtain ⟨v15, f15, rfl, rfl, hv15, hf15, hx15, hg15_0, hg15_1, hg15_3, hg15_4, by14⟩ := h9
          have hw15 : f15 2 = f 2 := hx15.trans hw8
          have hr15_0 : f15 0 = f 0 := hg15_0.trans hr8_0
          have hr15_1 : f15 1 = f 1 := hg15_1.trans hr8_1
          have hu16_2 := hv15.2.2.1
          have hb_81 := by14.2
          have sq15_0 : (v15 0).toInt = (v8 0).toInt := by14.1.1
          have sq15_1 : (v15 1).toInt = (v8 1).toInt := by14.1.2.1
          have sq15_3 : (v15 3).toInt = (v8 3).toInt := by14.1.2.2.1
          have sq15_4 : (v15 4).toInt = (v8 4).toInt := by14.1.2.2.2.1
          have sq15_6 : (v15 6).toInt = (v8 6).toInt := by14.1.2.2.2.2.1
          have sp15 := by14.1.2.2.2.2.2
          have ob15 : OB v15 f15 (v 0).toInt (f 0) (f 1) := OB_fr ob8 (by omega) hg15_3 hg15_4
          clear by14
          refine And.intro (Exists.intro _ md_o) (Exists.intro _ (Exists.intro _ (Exists.intro _ (Exists.intro _ (And.intro (T_X11_ends D v15 f15 hv15 hf15  (by omega)) (And.intro rfl (fun r9 A9 h9 => ?_)))))))
          obtain ⟨y17, v18, f18, rfl, rfl, hv18, hf18, hx18, by17⟩ := h9
          have hw18 : f18 2 = f 2 := hx18.trans hw15
          have hu19_0 := hv18.1
          have hu19_4 := hv18.2.2.2.2.1
          have hb_85 := by17.2.1
          have sq18_1 : (v18 1).toInt = (v8 1).toInt := by17.1.1.trans sq15_1
          have sq18_2 : (v18 2).toInt = (v15 2).toInt := by17.1.2.1
          have sq18_3 : (v18 3).toInt = (v8 3).toInt := by17.1.2.2.1.trans sq15_3
          have sq18_6 : (v18 6).toInt = (v8 6).toInt := by17.1.2.2.2.1.trans sq15_6
          have sp18 := by17.1.2.2.2.2
          have ha_9 := by17.2.2 _ _ _ ob15
          clear by17
          exact ⟨rfl, fun e9 => absurd e9 (by decide), rfl, y17, v18, f18, rfl, rfl, hv18, hf18, hw18, by first | omega | (dsimp only; omega) | trivial, by refine ⟨?_, ?_⟩; (intro L hL; have hl := hL.1; rw [ed_sort, if_pos (by omega)]; have t2 := j3_23 L hL; rw [show z3_23.toInt.toNat = 24 by omega] at t2; have t3 := hb_81 L _ (x2.toInt + 1) L.length (hp_81 L hL) (by omega) (by omega) (by omega) (by omega) t2; exact ⟨hb_85 _ t3, by show _ = _ + (1 : Int); omega, by show _ = _ + (1 : Int) * _; omega⟩); (first | (exact hq_9) | (exact Or.inr ⟨by omega, ha_9⟩) | (exact Or.inl ⟨rfl, rfl⟩))⟩
        · skip
          have lp21 : ∀ (n : Nat) (z4_32 : Int32) (v20 : Nat → Int32) (f20 : Nat → Nat → Int32), md_V v20 → md_F f20 → f20 2 = f 2 → f20 0 = f 0 → f20 1 = f 1 → OB v20 f20 (v 0).toInt (f 0) (f 1) → (x1.toInt ≤ z4_32.toInt ∧ z4_32.toInt ≤ x2.toInt + 1) → ((v20 0).toInt = (v 0).toInt ∧ (v20 4).toInt = (v 4).toInt ∧ (v20 3).toInt = (v 3).toInt) → ((v20 2).toInt = x1.toInt + soN (f 0) z3_23.toInt x1.toInt.toNat (z4_32.toInt - x1.toInt).toNat (x2.toInt - x1.toInt + 1).toNat) → (∀ L, rp (v 0) (f 0) (f 1) L → rp (v20 2) (f20 5) (f20 6) (si L 0 x1.toInt ++ (st_l (si L x1.toInt (x2.toInt + 1)) z3_23.toInt.toNat ++ (si L x1.toInt z4_32.toInt).filter (fun p => decide (p.1.toInt = z3_23.toInt))))) → (v20 6).toInt = (v 6).toInt → 200 - z4_32.toInt < (n : Int) → J 32 [some (.ref h), some (.int x1), some (.int x2), some (.int z3_23), some (.int z4_32)] [] (md A0 g h q v20 f20) 0 0 := by
            intro n
            induction n with
            | zero =>
              intro z4_32 v20 f20 hv20 hf20 hw20 hr20_0 hr20_1 ob20 j0_32 j1_32 j2_32 j3_32 j4_32 j5_32
              clear hu11_0 hu11_1 hu11_2 hu11_3 hu11_4
              omega
            | succ n ih22 =>
              intro z4_32 v20 f20 hv20 hf20 hw20 hr20_0 hr20_1 ob20 j0_32 j1_32 j2_32 j3_32 j4_32 j5_32
              clear hu11_0 hu11_1 hu11_2 hu11_3 hu11_4
              have lr0 := hr20_0
              have lr1 := hr20_1
              refine hC.1 3 32 _ _ rfl _ _ _ _ _ ?_
              have hu23_0 := hv20.1
              have hu23_1 := hv20.2.1
              have hu23_2 := hv20.2.2.1
              have hu23_3 := hv20.2.2.2.1
              have hu23_4 := hv20.2.2.2.2.1
              refine And.intro (fun c24 => ?_) (fun c24 => ?_)
              · skip
                refine hC.1 5 67 _ _ rfl _ _ _ _ _ ?_
                intro m25 em_67
                try have e25 : m25.toInt = (z3_23).toInt + (1) := by rw [em_67]; exact pm_addc _ _ (1) rfl (by omega) (by omega)
                exact hC.2 [false, false, false, false, true] _ _ _ _ _ _ (ih10 m25 v20 f20 hv20 hf20 hw20 hr20_0 hr20_1 ob20 (by omega) (by omega) (by rw [j2_32, show (z4_32.toInt - x1.toInt).toNat = (x2.toInt - x1.toInt + 1).toNat by omega, so_e, show m25.toInt = z3_23.toInt + 1 by omega]) (by intro L hL; have hl := hL.1; have t9 := j3_32 L hL; rw [show z4_32.toInt = x2.toInt + 1 by omega] at t9; rw [show m25.toInt.toNat = z3_23.toInt.toNat + 1 by omega]; show rp _ _ _ (_ ++ (st_l _ _ ++ List.filter (fun p => decide (p.1.toInt = ((z3_23.toInt.toNat : Nat) : Int))) _)); rw [show ((z3_23.toInt.toNat : Nat) : Int) = z3_23.toInt by omega]; exact t9) (by omega) (by omega))
              · skip
                refine Exists.intro _ (And.intro md_o ?_)
                refine Exists.intro _ (Exists.intro _ (And.intro (Or.inl (md_a_colours D)) (And.intro (by omega) ?_)))
                have w26 : (0 : Int) ≤ (f20 0 (z4_32).toInt.toNat).toInt ∧ (f20 0 (z4_32).toInt.toNat).toInt ≤ (23 : Int) := hf20 0 _
                refine And.intro (fun c27 => ?_) (fun c27 => ?_)
                · skip
                  have dc27 := pm_neI c27
                  refine hC.1 4 61 _ _ rfl _ _ _ _ _ ?_
                  intro m28 em_61
                  try have e28 : m28.toInt = (z4_32).toInt + (1) := by rw [em_61]; exact pm_addc _ _ (1) rfl (by omega) (by omega)
                  exact ih22 m28 v20 f20 hv20 hf20 hw20 hr20_0 hr20_1 ob20 (by omega) (by omega) (by first | (rw [show (m28.toInt - x1.toInt).toNat = (z4_32.toInt - x1.toInt).toNat + 1 by omega, so9.2]; omega) | (rw [show (m28.toInt - x1.toInt).toNat = (z4_32.toInt - x1.toInt).toNat + 1 by omega, so_n (by rw [show x1.toInt.toNat + (z4_32.toInt - x1.toInt).toNat = z4_32.toInt.toNat by omega, ← hr20_0]; assumption)]; exact j2_32)) (by first | (intro L hL; have hl := hL.1; rw [show m28.toInt = z4_32.toInt + 1 by omega, si_s hL (a := x1.toInt) (z := z4_32.toInt) (by omega) (by omega) (by omega), fl_y (by rw [hc49]), ← List.append_assoc, ← List.append_assoc]; have h4 := hb9 _ (j3_32 L hL); rw [lr1, ← List.append_assoc] at h4; rw [hc49]; exact h4) | (intro L hL; have hl := hL.1; rw [show m28.toInt = z4_32.toInt + 1 by omega, si_s hL (a := x1.toInt) (z := z4_32.toInt) (by omega) (by omega) (by omega), fl_n (by rw [← lr0]; assumption)]; exact j3_32 L hL)) (by omega) (by omega)
                · skip
                  have dc27 : ((f20 0 (z4_32).toInt.toNat)).toInt = (z3_23 : Int32).toInt := congrArg Int32.toInt c27
                  have so9 := so_lt (c := f 0) (x := z3_23.toInt) (l := x1.toInt.toNat) (k := (z4_32.toInt - x1.toInt).toNat) (n := (x2.toInt - x1.toInt + 1).toNat) (by omega) (by rw [show x1.toInt.toNat + (z4_32.toInt - x1.toInt).toNat = z4_32.toInt.toNat by omega, ← hr20_0]; assumption)
                  have hc49 : f 0 z4_32.toInt.toNat = z3_23 := by rw [← hr20_0]; assumption
                  refine Exists.intro _ (And.intro md_o ?_)
                  refine Exists.intro _ (Exists.intro _ (And.intro (Or.inl (md_a_names D)) (And.intro (by omega) ?_)))
                  refine And.intro (Exists.intro _ md_o) (Exists.intro _ (Exists.intro _ (Exists.intro _ (Exists.intro _ (And.intro (T_X11_lays D v20 f20 hv20 hf20 z3_23 (f20 1 (z4_32).toInt.toNat) (by omega) (by omega)) (And.intro rfl (fun r9 A9 h9 => ?_)))))))
                  obtain ⟨v30, f30, rfl, rfl, hv30, hf30, hx30, hg30_0, hg30_1, hg30_3, hg30_4, by29⟩ := h9
                  have hw30 : f30 2 = f 2 := hx30.trans hw20
                  have hr30_0 : f30 0 = f 0 := hg30_0.trans hr20_0
                  have hr30_1 : f30 1 = f 1 := hg30_1.trans hr20_1
                  have hu31_2 := hv30.2.2.1
                  have hb_58 := by29.2
                  have sq30_0 : (v30 0).toInt = (v20 0).toInt := by29.1.1
                  have sq30_1 : (v30 1).toInt = (v20 1).toInt := by29.1.2.1
                  have sq30_3 : (v30 3).toInt = (v20 3).toInt := by29.1.2.2.1
                  have sq30_4 : (v30 4).toInt = (v20 4).toInt := by29.1.2.2.2.1
                  have sq30_6 : (v30 6).toInt = (v20 6).toInt := by29.1.2.2.2.2.1
                  have sp30 := by29.1.2.2.2.2.2
                  have ob30 : OB v30 f30 (v 0).toInt (f 0) (f 1) := OB_fr ob20 (by omega) hg30_3 hg30_4
                  have hb9 := by29.2
                  clear by29
                  refine hC.1 4 61 _ _ rfl _ _ _ _ _ ?_
                  intro m32 em_61
                  try have e32 : m32.toInt = (z4_32).toInt + (1) := by rw [em_61]; exact pm_addc _ _ (1) rfl (by omega) (by omega)
                  exact ih22 m32 v30 f30 hv30 hf30 hw30 hr30_0 hr30_1 ob30 (by omega) (by omega) (by first | (rw [show (m32.toInt - x1.toInt).toNat = (z4_32.toInt - x1.toInt).toNat + 1 by omega, so9.2]; omega) | (rw [show (m32.toInt - x1.toInt).toNat = (z4_32.toInt - x1.toInt).toNat + 1 by omega, so_n (by rw [show x1.toInt.toNat + (z4_32.toInt - x1.toInt).toNat = z4_32.toInt.toNat by omega, ← hr30_0]; assumption)]; exact j2_32)) (by first | (intro L hL; have hl := hL.1; rw [show m32.toInt = z4_32.toInt + 1 by omega, si_s hL (a := x1.toInt) (z := z4_32.toInt) (by omega) (by omega) (by omega), fl_y (by rw [hc49]), ← List.append_assoc, ← List.append_assoc]; have h4 := hb9 _ (j3_32 L hL); rw [lr1, ← List.append_assoc] at h4; rw [hc49]; exact h4) | (intro L hL; have hl := hL.1; rw [show m32.toInt = z4_32.toInt + 1 by omega, si_s hL (a := x1.toInt) (z := z4_32.toInt) (by omega) (by omega) (by omega), fl_n (by rw [← lr0]; assumption)]; exact j3_32 L hL)) (by omega) (by omega)
          exact lp21 (200 - x1.toInt).toNat.succ x1 v8 f8 hv8 hf8 hw8 hr8_0 hr8_1 ob8 (by omega) (by omega) (by rw [j2_23, show (x1.toInt - x1.toInt).toNat = 0 by omega, so_0]) (by intro L hL; have hl := hL.1; rw [si_n (L := L) (a := x1.toInt) (b := x1.toInt) (Int.le_refl _)]; show rp _ _ _ (_ ++ (_ ++ [])); rw [List.append_nil]; exact j3_23 L hL) (by omega) (by omega)
    exact lp9 (200 - (0 : Int32).toInt).toNat.succ (0 : Int32) v6 f6 hv6 hf6 hw6 hr6_0 hr6_1 ob6 (by omega) (by omega) (by have h9 : ctLt (f 0) (0 : Int32).toInt x1.toInt.toNat (x2.toInt - x1.toInt + 1).toNat = 0 := ctLt_0 _ _ (fun j => (hf 0 j).1) _; rw [h9]; omega) (by intro L hL; have hl := hL.1; have t1 := hb_18 L [] 0 x1.toInt (hp_18 L hL) rfl rfl (by omega) (by omega) (rp_0 (by omega)); rw [List.nil_append] at t1; show rp _ _ _ (si L 0 x1.toInt ++ []); rw [List.append_nil]; exact t1) (by omega) (by omega)
  · skip
    have k0 : (0 : Int32).toInt = 0 := rfl
    refine And.intro (fun c9 => absurd c9 (by decide)) (fun _ => ?_)
    have km1 : (-1 : Int32).toInt = -1 := rfl
    exact ⟨rfl, fun e9 => absurd e9 (by decide), rfl, (-1 : Int32), v, f, rfl, rfl, hv, hf, rfl, by first | omega | (dsimp only; omega) | trivial, by refine ⟨?_, ?_⟩; (intro L hL; have hl := hL.1; rw [ed_sort, if_neg (by omega)]; exact ⟨hL, by show _ = _ + (0 : Int); omega, by show _ = _ + (0 : Int) * _; omega⟩); (first | (exact hq_9) | (exact Or.inr ⟨by omega, ha_9⟩) | (exact Or.inl ⟨rfl, rfl⟩))⟩

end
end
section
/-! bitCount: byte by byte -/
noncomputable def by4 (n a b c d : Nat) : Prop := n = a + 256 * b + 65536 * c + 16777216 * d ∧ a < 256 ∧ b < 256 ∧ c < 256 ∧ d < 256
end
section
/-! the shelf: which colour goes, what is on it, how many misses -/
noncomputable def b1 (x : Int32) : Int32 := (1 : Int32) <<< (x &&& 31)
end
section
/-! changed: how many names are otherwise now than behind an edit -/
noncomputable def qn (k : Nat → Int32) (n : Int) (x : Int32) : Int := nextEq k x 0 n.toNat
end
section
/-! report: the k-th by its bond, those without ahead of all -/
noncomputable def la (c : Nat → Int32) (i : Nat) : Int := lastEq c (c i) i
noncomputable def kR (c : Nat → Int32) (i : Nat) : Int := if la c i < 0 then (i : Int) - 160 else la c i
end
section
/-! the questions: an answer by its row, all of them, one more -/
noncomputable def cro (i : Int) : Nat := (40 + 4 * (i % 41)).toNat
noncomputable def cC (e : Nat → Nat → Int32) (i : Int) : Nat → Int32 := e (cro i + 1)
noncomputable def cM (e : Nat → Nat → Int32) (i : Int) : Nat → Int32 := e (cro i + 2)
end
section
/-! the law's world with the two rows held together -/
noncomputable def LX (g : pm_G) (xo h E : Nat) (A : pm_H) : Prop := ∃ (A00 : pm_H) (K nn dn : Nat) (q : Nat → Nat) (w : Nat → Int32) (e : Nat → Nat → Int32) (v : Nat → Int32) (f : Nat → Nat → Int32) (mq : Nat → Nat) (mv : Nat → Int32) (mf : Nat → Nat → Int32) (M : List pl_P), A = cw (md A00 g h mq mv mf) g K nn dn q w e v f ∧ q 0 = xo ∧ cw_I K nn dn q w e ∧ cw_S v f ∧ md_D h mq ∧ md_V mv ∧ md_F mf ∧ (∀ i, i < 40 + 4 * K → q i ≠ h ∧ ∀ j, j < 20 → q i ≠ mq j) ∧ (∀ j, j < 24 → e 15 j = mf 2 j) ∧ (w 0).toInt ≤ E ∧ (mv 4).toInt ≤ E ∧ rp (w nn) (e (nn + 1)) (e (nn + 2)) M ∧ rp (mv 0) (mf 0) (mf 1) M ∧ w 1 = mv 3 ∧ (w 0).toInt = (mv 4).toInt ∧ (nn : Int) = 40 + 4 * ((w 0).toInt % 41) ∧ nm0 M ∧ bd (w nn) (e (nn + 1)) (e (nn + 3)) ∧ UL M (w 1).toInt
theorem LX_mono {g : pm_G} {xo h E E' : Nat} {A : pm_H} (hE : E ≤ E') (hA : LX g xo h E A) : LX g xo h E' A := by
  obtain ⟨A00, K, nn, dn, q, w, e, v, f, mq, mv, mf, M, rfl, rfl, hI, hS, D, hv, hf, dj, hw, hE1, hE2, r⟩ := hA
  exact ⟨A00, K, nn, dn, q, w, e, v, f, mq, mv, mf, M, rfl, rfl, hI, hS, D, hv, hf, dj, hw, by omega, by omega, r⟩
theorem lx_n {n n2 : Int32} {c m c2 m2 : Nat → Int32} {M : List pl_P} (h1 : rp n c m M) (h2 : rp n2 c2 m2 M) : n.toInt = n2.toInt := h1.1.trans h2.1.symm
theorem lx_c {n n2 : Int32} {c m c2 m2 : Nat → Int32} {M : List pl_P} (h1 : rp n c m M) (h2 : rp n2 c2 m2 M) : ∀ j : Nat, (j : Int) < n.toInt → c j = c2 j := fun j hj => by
  have hl := h1.1
  rw [(h1.2 j (by omega)).1, (h2.2 j (by omega)).1]
theorem lx_m {n n2 : Int32} {c m c2 m2 : Nat → Int32} {M : List pl_P} (h1 : rp n c m M) (h2 : rp n2 c2 m2 M) : ∀ j : Nat, (j : Int) < n.toInt → m j = m2 j := fun j hj => by
  have hl := h1.1
  rw [(h1.2 j (by omega)).2, (h2.2 j (by omega)).2]
noncomputable def wq (x1 x2 : Int32) (c : Nat → Int32) : Nat → Int32 := if 0 ≤ x1.toInt ∧ x1.toInt ≤ 23 ∧ 0 ≤ x2.toInt ∧ x2.toInt ≤ 999 then upd c x1.toInt.toNat x2 else c
theorem lx_wc {A0 : pm_H} {g : pm_G} {K nn dn : Nat} {q : Nat → Nat} {w : Nat → Int32} {e : Nat → Nat → Int32} {v : Nat → Int32} {f : Nat → Nat → Int32} (hI : cw_I K nn dn q w e) {x1 x2 : Int32} {r : Option Value} {A9 : pm_H} (h : ((0 ≤ x1.toInt ∧ x1.toInt ≤ 23 ∧ 0 ≤ x2.toInt ∧ x2.toInt ≤ 999) ∧ r = some (.int (e 15 x1.toInt.toNat)) ∧ A9 = cw A0 g K nn dn q w (va_up e 15 (upd (e 15) x1.toInt.toNat x2)) v f) ∨ (¬ (0 ≤ x1.toInt ∧ x1.toInt ≤ 23 ∧ 0 ≤ x2.toInt ∧ x2.toInt ≤ 999) ∧ r = some (.int (-1)) ∧ A9 = cw A0 g K nn dn q w e v f)) : ∃ (e2 : Nat → Nat → Int32) (y : Int32), r = some (.int y) ∧ A9 = cw A0 g K nn dn q w e2 v f ∧ cw_I K nn dn q w e2 ∧ (∀ i, 40 ≤ i → e2 i = e i) ∧ e2 15 = wq x1 x2 (e 15) := by
  rcases h with ⟨hr, h1, h2⟩ | ⟨hr, h1, h2⟩
  · exact ⟨_, _, h1, h2, ⟨hI.1, hI.2.1, hI.2.2.1, cw_E_up hI.2.2.2 _ _ (fun h9 _ => absurd h9 (by decide)) (fun h9 _ => absurd h9 (by decide))⟩, fun i hi => va_un (by omega), by rw [va_us, wq, if_pos hr]⟩
  · exact ⟨e, _, h1, h2, hI, fun _ _ => rfl, by rw [wq, if_neg hr]⟩
theorem lx_wm {B : pm_H} {g : pm_G} {h : Nat} {mq : Nat → Nat} {mv : Nat → Int32} {mf : Nat → Nat → Int32} (_ : md_D h mq) (hf : md_F mf) {x1 x2 : Int32} {r : Option Value} {A9 : pm_H} (h9 : ((0 ≤ x1.toInt ∧ x1.toInt ≤ 23 ∧ 0 ≤ x2.toInt ∧ x2.toInt ≤ 999) ∧ r = some (.int (mf 2 x1.toInt.toNat)) ∧ A9 = md B g h mq mv (va_up mf 2 (upd (mf 2) x1.toInt.toNat x2))) ∨ (¬ (0 ≤ x1.toInt ∧ x1.toInt ≤ 23 ∧ 0 ≤ x2.toInt ∧ x2.toInt ≤ 999) ∧ r = some (.int (-1)) ∧ A9 = md B g h mq mv mf)) : ∃ (mf2 : Nat → Nat → Int32) (y : Int32), r = some (.int y) ∧ A9 = md B g h mq mv mf2 ∧ md_F mf2 ∧ (mf2 0 = mf 0 ∧ mf2 1 = mf 1) ∧ mf2 2 = wq x1 x2 (mf 2) := by
  rcases h9 with ⟨hr, h1, h2⟩ | ⟨hr, h1, h2⟩
  · exact ⟨_, _, h1, h2, md_F_st hf 2 _ _ (md_rng _ _ (by decide)), ⟨va_un (by decide), va_un (by decide)⟩, by rw [va_us, wq, if_pos hr]⟩
  · exact ⟨mf, _, h1, h2, hf, ⟨rfl, rfl⟩, by rw [wq, if_neg hr]⟩
theorem lx_ww {e e2 mf mf2 : Nat → Nat → Int32} {x1 x2 : Int32} (hw : ∀ j, j < 24 → e 15 j = mf 2 j) (hc : e2 15 = wq x1 x2 (e 15)) (hm : mf2 2 = wq x1 x2 (mf 2)) : ∀ j, j < 24 → e2 15 j = mf2 2 j := fun j hj => by
  rw [hc, hm]
  unfold wq
  split
  · by_cases e1 : j = x1.toInt.toNat
    · rw [e1, pk_us, pk_us]
    · rw [pk_un e1, pk_un e1]; exact hw j hj
  · exact hw j hj
end
section
/-! what an edit answers, told by the lists -/
theorem lx_ans {n n2 k k2 : Int32} {c m c2 m2 d p d2 p2 : Nat → Int32} {M N : List pl_P} (h1 : rp n c m M) (h2 : rp n2 d p M) (h3 : rp k c2 m2 N) (h4 : rp k2 d2 p2 N) : tcN n.toInt c m c2 m2 k.toInt.toNat = tcN n2.toInt d p d2 p2 k2.toInt.toNat := by
  rw [tcN_eq (d := d) (k := p) (d2 := d2) (k2 := p2) (lx_c h1 h2) (lx_m h1 h2) k.toInt.toNat (fun j hj => lx_c h3 h4 j (by omega)) (fun j hj => lx_m h3 h4 j (by omega)), lx_n h1 h2, lx_n h3 h4]
end
section
section
variable {l : Launch} {g : pm_G} {b L : Nat} {xs : Nat → Int32} {J : pm_J} {xo h : Nat}
set_option maxRecDepth 100000 in
set_option maxHeartbeats 2000000 in
theorem lx_b2 (hC : pm_Cl l g (lw_ro b L xs) 7 600000 7302250 lw_Rt bk_L_law J) {i : Int32} (hi : 0 ≤ i.toInt ∧ i.toInt + 6 ≤ L) (hL : L ≤ 3072) {E : Nat} (hE : E < 1000) {A : pm_H} {c s : Nat} (hA : LX g xo h E A) (hc : c + 4 ≤ 600000) (hs0 : s + 485 ≤ 7302250) (cont : ∀ (A' : pm_H) (c' s' : Nat), LX g xo h (E + 1) A' → c' ≤ c + 4 → s' ≤ s + 485 → J 2563 [some (.ref b), some (.ref xo), some (.ref h), some (.int i)] [] A' c' s') : J 308 [some (.ref b), some (.ref xo), some (.ref h), some (.int i)] [] A c s := by
  obtain ⟨A00, K, nn, dn, q, w, e, v, f, mq, mv, mf, M, rfl, rfl, hI, hS, D, hv, hf, dj, hw, hE1, hE2, hR1, hR2, hg, he0, hN, hM, hB, hU⟩ := hA
  have hu9 := hI.2.1
  unfold cw_W at hu9
  have hro : lw_ro b L xs b = some (L, xs) := if_pos rfl
  refine hC.1 2 308 _ _ rfl _ _ _ _ _ ?_
  refine pq_aload_n1 (pq_aload_n0 (pq_iload_n3 (pq_iconst (pq_iadd ?_))))
  intro m1 em1
  have e1 : m1.toInt = i.toInt + 1 := lx_ad1 hi hL em1
  refine pq_iaload ?_
  refine Exists.intro _ (Exists.intro _ (And.intro (Or.inr hro) (And.intro (lx_bn1 hi e1) ?_)))
  obtain ⟨a1, ha1⟩ : ∃ z9, z9 = xs m1.toInt.toNat := ⟨_, rfl⟩
  have m_a1 := em1
  rw [← ha1]
  refine pq_aload_n0 (pq_iload_n3 (pq_iconst (pq_iadd ?_)))
  intro m2 em2
  have e2 : m2.toInt = i.toInt + 2 := lx_ad2 hi hL em2
  refine pq_iaload ?_
  refine Exists.intro _ (Exists.intro _ (And.intro (Or.inr hro) (And.intro (lx_bn2 hi e2) ?_)))
  obtain ⟨a2, ha2⟩ : ∃ z9, z9 = xs m2.toInt.toNat := ⟨_, rfl⟩
  have m_a2 := em2
  rw [← ha2]
  refine pq_iv2_10 ?_
  refine And.intro (Exists.intro _ (cw_o0 hI.1)) (Exists.intro _ (Exists.intro _ (Exists.intro _ (Exists.intro _ (And.intro (H_X10_put hI hS a1 a2 (by omega)) (And.intro (lw_bnd rfl (lx_c1 hc (by decide)) (lx_c1 hs0 (by decide)) rfl) (fun r9 A9 h9 => ?_)))))))
  obtain ⟨K319, nn319, dn319, q319, w319, e319, v319, f319, rfl, hI319, hS319, hX319, hy319, y319, rfl, by319⟩ := h9
  have dj319 := lw_dj D dj hX319
  have fc9 := by319.2 M hR1 hN
  refine pq_id1 (pq_pop (pq_aload_n2 (pq_aload_n0 (pq_iload_n3 (pq_iconst (pq_iadd ?_))))))
  intro m3 em3
  have e3 : m3.toInt = i.toInt + 1 := lx_ad1 hi hL em3
  refine pq_iaload ?_
  refine Exists.intro _ (Exists.intro _ (And.intro (Or.inr hro) (And.intro (lx_bn1 hi e3) ?_)))
  have ha1_3 : a1 = xs m3.toInt.toNat := by rw [ha1, em3, ← m_a1]
  rw [← ha1_3]
  refine pq_aload_n0 (pq_iload_n3 (pq_iconst (pq_iadd ?_)))
  intro m4 em4
  have e4 : m4.toInt = i.toInt + 2 := lx_ad2 hi hL em4
  refine pq_iaload ?_
  refine Exists.intro _ (Exists.intro _ (And.intro (Or.inr hro) (And.intro (lx_bn2 hi e4) ?_)))
  have ha2_4 : a2 = xs m4.toInt.toNat := by rw [ha2, em4, ← m_a2]
  rw [← ha2_4]
  refine pq_iv2_11 ?_
  rw [cw_md D dj319]
  refine And.intro (Exists.intro _ (md_o)) (Exists.intro _ (Exists.intro _ (Exists.intro _ (Exists.intro _ (And.intro (F_X11_put D mv mf hv hf a1 a2 (by omega)) (And.intro (lw_bnd rfl (lx_c2 hc (by decide)) (lx_c2 hs0 (by decide)) rfl) (fun r9 A9 h9 => ?_)))))))
  obtain ⟨y334, mv334, mf334, rfl, rfl, hv334, hf334, hx334, by334⟩ := h9
  have fm9 := by334.2 M hR2
  refine pq_id1 (pq_pop (pq_goto ?_))
  exact cont _ _ _ ⟨A00, K319, nn319, dn319, q319, w319, e319, v319, f319, mq, mv334, mf334, _, (cw_md D dj319).symm, (hX319.2.1 0 (by omega)), hI319, hS319, D, hv334, hf334, dj319, fun j hj => by rw [hy319, hx334]; exact hw j hj, by omega, by omega, fc9.1, fm9.1, (pm_eqI (by rw [fc9.2.2.1, fm9.2.2, hg])), (by rw [fc9.2.1, fm9.2.1, he0]), fc9.2.2.2.1, (nm_paint hM), (fc9.2.2.2.2 hB), (by rw [show (w319 1).toInt = (w 1).toInt by (have q9 := fc9.2.2.1; omega)]; exact UL_paint hU)⟩ (by omega) (by omega)

set_option maxRecDepth 100000 in
set_option maxHeartbeats 2000000 in
theorem lx_b3 (hC : pm_Cl l g (lw_ro b L xs) 7 600000 7302250 lw_Rt bk_L_law J) {i : Int32} (hi : 0 ≤ i.toInt ∧ i.toInt + 6 ≤ L) (hL : L ≤ 3072) {E : Nat} (hE : E < 1000) {A : pm_H} {c s : Nat} (hA : LX g xo h E A) (hc : c + 4 ≤ 600000) (hs0 : s + 485 ≤ 7302250) (cont : ∀ (A' : pm_H) (c' s' : Nat), LX g xo h (E + 1) A' → c' ≤ c + 4 → s' ≤ s + 485 → J 2563 [some (.ref b), some (.ref xo), some (.ref h), some (.int i)] [] A' c' s') : J 341 [some (.ref b), some (.ref xo), some (.ref h), some (.int i)] [] A c s := by
  obtain ⟨A00, K, nn, dn, q, w, e, v, f, mq, mv, mf, M, rfl, rfl, hI, hS, D, hv, hf, dj, hw, hE1, hE2, hR1, hR2, hg, he0, hN, hM, hB, hU⟩ := hA
  have hu9 := hI.2.1
  unfold cw_W at hu9
  have hro : lw_ro b L xs b = some (L, xs) := if_pos rfl
  refine hC.1 3 341 _ _ rfl _ _ _ _ _ ?_
  refine pq_aload_n1 (pq_aload_n0 (pq_iload_n3 (pq_iconst (pq_iadd ?_))))
  intro m1 em1
  have e1 : m1.toInt = i.toInt + 1 := lx_ad1 hi hL em1
  refine pq_iaload ?_
  refine Exists.intro _ (Exists.intro _ (And.intro (Or.inr hro) (And.intro (lx_bn1 hi e1) ?_)))
  obtain ⟨a1, ha1⟩ : ∃ z9, z9 = xs m1.toInt.toNat := ⟨_, rfl⟩
  have m_a1 := em1
  rw [← ha1]
  refine pq_aload_n0 (pq_iload_n3 (pq_iconst (pq_iadd ?_)))
  intro m2 em2
  have e2 : m2.toInt = i.toInt + 2 := lx_ad2 hi hL em2
  refine pq_iaload ?_
  refine Exists.intro _ (Exists.intro _ (And.intro (Or.inr hro) (And.intro (lx_bn2 hi e2) ?_)))
  obtain ⟨a2, ha2⟩ : ∃ z9, z9 = xs m2.toInt.toNat := ⟨_, rfl⟩
  have m_a2 := em2
  rw [← ha2]
  refine pq_iv2_10 ?_
  refine And.intro (Exists.intro _ (cw_o0 hI.1)) (Exists.intro _ (Exists.intro _ (Exists.intro _ (Exists.intro _ (And.intro (H_X10_insert hI hS a1 a2 (by omega)) (And.intro (lw_bnd rfl (lx_c1 hc (by decide)) (lx_c1 hs0 (by decide)) rfl) (fun r9 A9 h9 => ?_)))))))
  obtain ⟨K352, nn352, dn352, q352, w352, e352, v352, f352, rfl, hI352, hS352, hX352, hy352, y352, rfl, by352⟩ := h9
  have dj352 := lw_dj D dj hX352
  have fc9 := by352.2 M hR1 hN
  refine pq_id1 (pq_pop (pq_aload_n2 (pq_aload_n0 (pq_iload_n3 (pq_iconst (pq_iadd ?_))))))
  intro m3 em3
  have e3 : m3.toInt = i.toInt + 1 := lx_ad1 hi hL em3
  refine pq_iaload ?_
  refine Exists.intro _ (Exists.intro _ (And.intro (Or.inr hro) (And.intro (lx_bn1 hi e3) ?_)))
  have ha1_3 : a1 = xs m3.toInt.toNat := by rw [ha1, em3, ← m_a1]
  rw [← ha1_3]
  refine pq_aload_n0 (pq_iload_n3 (pq_iconst (pq_iadd ?_)))
  intro m4 em4
  have e4 : m4.toInt = i.toInt + 2 := lx_ad2 hi hL em4
  refine pq_iaload ?_
  refine Exists.intro _ (Exists.intro _ (And.intro (Or.inr hro) (And.intro (lx_bn2 hi e4) ?_)))
  have ha2_4 : a2 = xs m4.toInt.toNat := by rw [ha2, em4, ← m_a2]
  rw [← ha2_4]
  refine pq_iv2_11 ?_
  rw [cw_md D dj352]
  refine And.intro (Exists.intro _ (md_o)) (Exists.intro _ (Exists.intro _ (Exists.intro _ (Exists.intro _ (And.intro (F_X11_insert D mv mf hv hf a1 a2 (by omega)) (And.intro (lw_bnd rfl (lx_c2 hc (by decide)) (lx_c2 hs0 (by decide)) rfl) (fun r9 A9 h9 => ?_)))))))
  obtain ⟨y367, mv367, mf367, rfl, rfl, hv367, hf367, hx367, by367⟩ := h9
  have fm9 := by367.2 M hR2
  rw [← hg] at fm9
  refine pq_id1 (pq_pop (pq_goto ?_))
  exact cont _ _ _ ⟨A00, K352, nn352, dn352, q352, w352, e352, v352, f352, mq, mv367, mf367, _, (cw_md D dj352).symm, (hX352.2.1 0 (by omega)), hI352, hS352, D, hv367, hf367, dj352, fun j hj => by rw [hy352, hx367]; exact hw j hj, by omega, by omega, fc9.1, fm9.1, (pm_eqI (by rw [fc9.2.2.1, fm9.2.2, hg])), (by rw [fc9.2.1, fm9.2.1, he0]), fc9.2.2.2.1, (nm_insert hM (by omega)), (fc9.2.2.2.2 hB), (by rw [fc9.2.2.1]; exact UL_insert hU (by omega))⟩ (by omega) (by omega)

set_option maxRecDepth 100000 in
set_option maxHeartbeats 2000000 in
theorem lx_b4 (hC : pm_Cl l g (lw_ro b L xs) 7 600000 7302250 lw_Rt bk_L_law J) {i : Int32} (hi : 0 ≤ i.toInt ∧ i.toInt + 6 ≤ L) (hL : L ≤ 3072) {E : Nat} (hE : E < 1000) {A : pm_H} {c s : Nat} (hA : LX g xo h E A) (hc : c + 4 ≤ 600000) (hs0 : s + 485 ≤ 7302250) (cont : ∀ (A' : pm_H) (c' s' : Nat), LX g xo h (E + 1) A' → c' ≤ c + 4 → s' ≤ s + 485 → J 2563 [some (.ref b), some (.ref xo), some (.ref h), some (.int i)] [] A' c' s') : J 374 [some (.ref b), some (.ref xo), some (.ref h), some (.int i)] [] A c s := by
  obtain ⟨A00, K, nn, dn, q, w, e, v, f, mq, mv, mf, M, rfl, rfl, hI, hS, D, hv, hf, dj, hw, hE1, hE2, hR1, hR2, hg, he0, hN, hM, hB, hU⟩ := hA
  have hu9 := hI.2.1
  unfold cw_W at hu9
  have hro : lw_ro b L xs b = some (L, xs) := if_pos rfl
  refine hC.1 4 374 _ _ rfl _ _ _ _ _ ?_
  refine pq_aload_n1 (pq_aload_n0 (pq_iload_n3 (pq_iconst (pq_iadd ?_))))
  intro m1 em1
  have e1 : m1.toInt = i.toInt + 1 := lx_ad1 hi hL em1
  refine pq_iaload ?_
  refine Exists.intro _ (Exists.intro _ (And.intro (Or.inr hro) (And.intro (lx_bn1 hi e1) ?_)))
  obtain ⟨a1, ha1⟩ : ∃ z9, z9 = xs m1.toInt.toNat := ⟨_, rfl⟩
  have m_a1 := em1
  rw [← ha1]
  refine pq_aload_n0 (pq_iload_n3 (pq_iconst (pq_iadd ?_)))
  intro m2 em2
  have e2 : m2.toInt = i.toInt + 2 := lx_ad2 hi hL em2
  refine pq_iaload ?_
  refine Exists.intro _ (Exists.intro _ (And.intro (Or.inr hro) (And.intro (lx_bn2 hi e2) ?_)))
  obtain ⟨a2, ha2⟩ : ∃ z9, z9 = xs m2.toInt.toNat := ⟨_, rfl⟩
  have m_a2 := em2
  rw [← ha2]
  refine pq_iv2_10 ?_
  refine And.intro (Exists.intro _ (cw_o0 hI.1)) (Exists.intro _ (Exists.intro _ (Exists.intro _ (Exists.intro _ (And.intro (H_X10_cut hI hS a1 a2 (by omega)) (And.intro (lw_bnd rfl (lx_c1 hc (by decide)) (lx_c1 hs0 (by decide)) rfl) (fun r9 A9 h9 => ?_)))))))
  obtain ⟨K385, nn385, dn385, q385, w385, e385, v385, f385, rfl, hI385, hS385, hX385, hy385, y385, rfl, by385⟩ := h9
  have dj385 := lw_dj D dj hX385
  have fc9 := by385.2 M hR1 hN
  refine pq_id1 (pq_pop (pq_aload_n2 (pq_aload_n0 (pq_iload_n3 (pq_iconst (pq_iadd ?_))))))
  intro m3 em3
  have e3 : m3.toInt = i.toInt + 1 := lx_ad1 hi hL em3
  refine pq_iaload ?_
  refine Exists.intro _ (Exists.intro _ (And.intro (Or.inr hro) (And.intro (lx_bn1 hi e3) ?_)))
  have ha1_3 : a1 = xs m3.toInt.toNat := by rw [ha1, em3, ← m_a1]
  rw [← ha1_3]
  refine pq_aload_n0 (pq_iload_n3 (pq_iconst (pq_iadd ?_)))
  intro m4 em4
  have e4 : m4.toInt = i.toInt + 2 := lx_ad2 hi hL em4
  refine pq_iaload ?_
  refine Exists.intro _ (Exists.intro _ (And.intro (Or.inr hro) (And.intro (lx_bn2 hi e4) ?_)))
  have ha2_4 : a2 = xs m4.toInt.toNat := by rw [ha2, em4, ← m_a2]
  rw [← ha2_4]
  refine pq_iv2_11 ?_
  rw [cw_md D dj385]
  refine And.intro (Exists.intro _ (md_o)) (Exists.intro _ (Exists.intro _ (Exists.intro _ (Exists.intro _ (And.intro (F_X11_cut D mv mf hv hf a1 a2 (by omega)) (And.intro (lw_bnd rfl (lx_c2 hc (by decide)) (lx_c2 hs0 (by decide)) rfl) (fun r9 A9 h9 => ?_)))))))
  obtain ⟨y400, mv400, mf400, rfl, rfl, hv400, hf400, hx400, by400⟩ := h9
  have fm9 := by400.2 M hR2
  refine pq_id1 (pq_pop (pq_goto ?_))
  exact cont _ _ _ ⟨A00, K385, nn385, dn385, q385, w385, e385, v385, f385, mq, mv400, mf400, _, (cw_md D dj385).symm, (hX385.2.1 0 (by omega)), hI385, hS385, D, hv400, hf400, dj385, fun j hj => by rw [hy385, hx400]; exact hw j hj, by omega, by omega, fc9.1, fm9.1, (pm_eqI (by rw [fc9.2.2.1, fm9.2.2, hg])), (by rw [fc9.2.1, fm9.2.1, he0]), fc9.2.2.2.1, (nm_cut hM), (fc9.2.2.2.2 hB), (by rw [show (w385 1).toInt = (w 1).toInt by (have q9 := fc9.2.2.1; omega)]; exact UL_cut hU)⟩ (by omega) (by omega)

set_option maxRecDepth 100000 in
set_option maxHeartbeats 2000000 in
theorem lx_b5 (hC : pm_Cl l g (lw_ro b L xs) 7 600000 7302250 lw_Rt bk_L_law J) {i : Int32} (hi : 0 ≤ i.toInt ∧ i.toInt + 6 ≤ L) (hL : L ≤ 3072) {E : Nat} (hE : E < 1000) {A : pm_H} {c s : Nat} (hA : LX g xo h E A) (hc : c + 4 ≤ 600000) (hs0 : s + 485 ≤ 7302250) (cont : ∀ (A' : pm_H) (c' s' : Nat), LX g xo h (E + 1) A' → c' ≤ c + 4 → s' ≤ s + 485 → J 2563 [some (.ref b), some (.ref xo), some (.ref h), some (.int i)] [] A' c' s') : J 407 [some (.ref b), some (.ref xo), some (.ref h), some (.int i)] [] A c s := by
  obtain ⟨A00, K, nn, dn, q, w, e, v, f, mq, mv, mf, M, rfl, rfl, hI, hS, D, hv, hf, dj, hw, hE1, hE2, hR1, hR2, hg, he0, hN, hM, hB, hU⟩ := hA
  have hu9 := hI.2.1
  unfold cw_W at hu9
  have hro : lw_ro b L xs b = some (L, xs) := if_pos rfl
  refine hC.1 5 407 _ _ rfl _ _ _ _ _ ?_
  refine pq_aload_n1 (pq_aload_n0 (pq_iload_n3 (pq_iconst (pq_iadd ?_))))
  intro m1 em1
  have e1 : m1.toInt = i.toInt + 1 := lx_ad1 hi hL em1
  refine pq_iaload ?_
  refine Exists.intro _ (Exists.intro _ (And.intro (Or.inr hro) (And.intro (lx_bn1 hi e1) ?_)))
  obtain ⟨a1, ha1⟩ : ∃ z9, z9 = xs m1.toInt.toNat := ⟨_, rfl⟩
  have m_a1 := em1
  rw [← ha1]
  refine pq_aload_n0 (pq_iload_n3 (pq_iconst (pq_iadd ?_)))
  intro m2 em2
  have e2 : m2.toInt = i.toInt + 2 := lx_ad2 hi hL em2
  refine pq_iaload ?_
  refine Exists.intro _ (Exists.intro _ (And.intro (Or.inr hro) (And.intro (lx_bn2 hi e2) ?_)))
  obtain ⟨a2, ha2⟩ : ∃ z9, z9 = xs m2.toInt.toNat := ⟨_, rfl⟩
  have m_a2 := em2
  rw [← ha2]
  refine pq_aload_n0 (pq_iload_n3 (pq_iconst (pq_iadd ?_)))
  intro m3 em3
  have e3 : m3.toInt = i.toInt + 3 := lx_ad3 hi hL em3
  refine pq_iaload ?_
  refine Exists.intro _ (Exists.intro _ (And.intro (Or.inr hro) (And.intro (lx_bn3 hi e3) ?_)))
  obtain ⟨a3, ha3⟩ : ∃ z9, z9 = xs m3.toInt.toNat := ⟨_, rfl⟩
  have m_a3 := em3
  rw [← ha3]
  refine pq_iv3_10 ?_
  refine And.intro (Exists.intro _ (cw_o0 hI.1)) (Exists.intro _ (Exists.intro _ (Exists.intro _ (Exists.intro _ (And.intro (H_X10_paint hI hS a1 a2 a3 (by omega)) (And.intro (lw_bnd rfl (lx_c1 hc (by decide)) (lx_c1 hs0 (by decide)) rfl) (fun r9 A9 h9 => ?_)))))))
  obtain ⟨K423, nn423, dn423, q423, w423, e423, v423, f423, rfl, hI423, hS423, hX423, hy423, y423, rfl, by423⟩ := h9
  have dj423 := lw_dj D dj hX423
  have fc9 := by423.2 M hR1 hN
  refine pq_id1 (pq_pop (pq_aload_n2 (pq_aload_n0 (pq_iload_n3 (pq_iconst (pq_iadd ?_))))))
  intro m4 em4
  have e4 : m4.toInt = i.toInt + 1 := lx_ad1 hi hL em4
  refine pq_iaload ?_
  refine Exists.intro _ (Exists.intro _ (And.intro (Or.inr hro) (And.intro (lx_bn1 hi e4) ?_)))
  have ha1_4 : a1 = xs m4.toInt.toNat := by rw [ha1, em4, ← m_a1]
  rw [← ha1_4]
  refine pq_aload_n0 (pq_iload_n3 (pq_iconst (pq_iadd ?_)))
  intro m5 em5
  have e5 : m5.toInt = i.toInt + 2 := lx_ad2 hi hL em5
  refine pq_iaload ?_
  refine Exists.intro _ (Exists.intro _ (And.intro (Or.inr hro) (And.intro (lx_bn2 hi e5) ?_)))
  have ha2_5 : a2 = xs m5.toInt.toNat := by rw [ha2, em5, ← m_a2]
  rw [← ha2_5]
  refine pq_aload_n0 (pq_iload_n3 (pq_iconst (pq_iadd ?_)))
  intro m6 em6
  have e6 : m6.toInt = i.toInt + 3 := lx_ad3 hi hL em6
  refine pq_iaload ?_
  refine Exists.intro _ (Exists.intro _ (And.intro (Or.inr hro) (And.intro (lx_bn3 hi e6) ?_)))
  have ha3_6 : a3 = xs m6.toInt.toNat := by rw [ha3, em6, ← m_a3]
  rw [← ha3_6]
  refine pq_iv3_11 ?_
  rw [cw_md D dj423]
  refine And.intro (Exists.intro _ (md_o)) (Exists.intro _ (Exists.intro _ (Exists.intro _ (Exists.intro _ (And.intro (F_X11_paint D mv mf hv hf a1 a2 a3 (by omega)) (And.intro (lw_bnd rfl (lx_c2 hc (by decide)) (lx_c2 hs0 (by decide)) rfl) (fun r9 A9 h9 => ?_)))))))
  obtain ⟨y443, mv443, mf443, rfl, rfl, hv443, hf443, hx443, by443⟩ := h9
  have fm9 := by443.2 M hR2
  refine pq_id1 (pq_pop (pq_goto ?_))
  exact cont _ _ _ ⟨A00, K423, nn423, dn423, q423, w423, e423, v423, f423, mq, mv443, mf443, _, (cw_md D dj423).symm, (hX423.2.1 0 (by omega)), hI423, hS423, D, hv443, hf443, dj423, fun j hj => by rw [hy423, hx443]; exact hw j hj, by omega, by omega, fc9.1, fm9.1, (pm_eqI (by rw [fc9.2.2.1, fm9.2.2, hg])), (by rw [fc9.2.1, fm9.2.1, he0]), fc9.2.2.2.1, (nm_paint hM), (fc9.2.2.2.2 hB), (by rw [show (w423 1).toInt = (w 1).toInt by (have q9 := fc9.2.2.1; omega)]; exact UL_paint hU)⟩ (by omega) (by omega)

set_option maxRecDepth 100000 in
set_option maxHeartbeats 2000000 in
theorem lx_b6 (hC : pm_Cl l g (lw_ro b L xs) 7 600000 7302250 lw_Rt bk_L_law J) {i : Int32} (hi : 0 ≤ i.toInt ∧ i.toInt + 6 ≤ L) (hL : L ≤ 3072) {E : Nat} (hE : E < 1000) {A : pm_H} {c s : Nat} (hA : LX g xo h E A) (hc : c + 4 ≤ 600000) (hs0 : s + 485 ≤ 7302250) (cont : ∀ (A' : pm_H) (c' s' : Nat), LX g xo h (E + 1) A' → c' ≤ c + 4 → s' ≤ s + 485 → J 2563 [some (.ref b), some (.ref xo), some (.ref h), some (.int i)] [] A' c' s') : J 450 [some (.ref b), some (.ref xo), some (.ref h), some (.int i)] [] A c s := by
  obtain ⟨A00, K, nn, dn, q, w, e, v, f, mq, mv, mf, M, rfl, rfl, hI, hS, D, hv, hf, dj, hw, hE1, hE2, hR1, hR2, hg, he0, hN, hM, hB, hU⟩ := hA
  have hu9 := hI.2.1
  unfold cw_W at hu9
  have hro : lw_ro b L xs b = some (L, xs) := if_pos rfl
  refine hC.1 6 450 _ _ rfl _ _ _ _ _ ?_
  refine pq_aload_n1 (pq_aload_n0 (pq_iload_n3 (pq_iconst (pq_iadd ?_))))
  intro m1 em1
  have e1 : m1.toInt = i.toInt + 1 := lx_ad1 hi hL em1
  refine pq_iaload ?_
  refine Exists.intro _ (Exists.intro _ (And.intro (Or.inr hro) (And.intro (lx_bn1 hi e1) ?_)))
  obtain ⟨a1, ha1⟩ : ∃ z9, z9 = xs m1.toInt.toNat := ⟨_, rfl⟩
  have m_a1 := em1
  rw [← ha1]
  refine pq_aload_n0 (pq_iload_n3 (pq_iconst (pq_iadd ?_)))
  intro m2 em2
  have e2 : m2.toInt = i.toInt + 2 := lx_ad2 hi hL em2
  refine pq_iaload ?_
  refine Exists.intro _ (Exists.intro _ (And.intro (Or.inr hro) (And.intro (lx_bn2 hi e2) ?_)))
  obtain ⟨a2, ha2⟩ : ∃ z9, z9 = xs m2.toInt.toNat := ⟨_, rfl⟩
  have m_a2 := em2
  rw [← ha2]
  refine pq_iv2_10 ?_
  refine And.intro (Exists.intro _ (cw_o0 hI.1)) (Exists.intro _ (Exists.intro _ (Exists.intro _ (Exists.intro _ (And.intro (H_X10_turn hI hS a1 a2 (by omega)) (And.intro (lw_bnd rfl (lx_c1 hc (by decide)) (lx_c1 hs0 (by decide)) rfl) (fun r9 A9 h9 => ?_)))))))
  obtain ⟨K461, nn461, dn461, q461, w461, e461, v461, f461, rfl, hI461, hS461, hX461, hy461, y461, rfl, by461⟩ := h9
  have dj461 := lw_dj D dj hX461
  have fc9 := by461.2 M hR1 hN
  refine pq_id1 (pq_pop (pq_aload_n2 (pq_aload_n0 (pq_iload_n3 (pq_iconst (pq_iadd ?_))))))
  intro m3 em3
  have e3 : m3.toInt = i.toInt + 1 := lx_ad1 hi hL em3
  refine pq_iaload ?_
  refine Exists.intro _ (Exists.intro _ (And.intro (Or.inr hro) (And.intro (lx_bn1 hi e3) ?_)))
  have ha1_3 : a1 = xs m3.toInt.toNat := by rw [ha1, em3, ← m_a1]
  rw [← ha1_3]
  refine pq_aload_n0 (pq_iload_n3 (pq_iconst (pq_iadd ?_)))
  intro m4 em4
  have e4 : m4.toInt = i.toInt + 2 := lx_ad2 hi hL em4
  refine pq_iaload ?_
  refine Exists.intro _ (Exists.intro _ (And.intro (Or.inr hro) (And.intro (lx_bn2 hi e4) ?_)))
  have ha2_4 : a2 = xs m4.toInt.toNat := by rw [ha2, em4, ← m_a2]
  rw [← ha2_4]
  refine pq_iv2_11 ?_
  rw [cw_md D dj461]
  refine And.intro (Exists.intro _ (md_o)) (Exists.intro _ (Exists.intro _ (Exists.intro _ (Exists.intro _ (And.intro (F_X11_turn D mv mf hv hf a1 a2 (by omega)) (And.intro (lw_bnd rfl (lx_c2 hc (by decide)) (lx_c2 hs0 (by decide)) rfl) (fun r9 A9 h9 => ?_)))))))
  obtain ⟨y476, mv476, mf476, rfl, rfl, hv476, hf476, hx476, by476⟩ := h9
  have fm9 := by476.2 M hR2
  refine pq_id1 (pq_pop (pq_goto ?_))
  exact cont _ _ _ ⟨A00, K461, nn461, dn461, q461, w461, e461, v461, f461, mq, mv476, mf476, _, (cw_md D dj461).symm, (hX461.2.1 0 (by omega)), hI461, hS461, D, hv476, hf476, dj461, fun j hj => by rw [hy461, hx476]; exact hw j hj, by omega, by omega, fc9.1, fm9.1, (pm_eqI (by rw [fc9.2.2.1, fm9.2.2, hg])), (by rw [fc9.2.1, fm9.2.1, he0]), fc9.2.2.2.1, (nm_turn hM), (fc9.2.2.2.2 hB), (by rw [show (w461 1).toInt = (w 1).toInt by (have q9 := fc9.2.2.1; omega)]; exact UL_turn hU)⟩ (by omega) (by omega)

set_option maxRecDepth 100000 in
set_option maxHeartbeats 2000000 in
theorem lx_b7 (hC : pm_Cl l g (lw_ro b L xs) 7 600000 7302250 lw_Rt bk_L_law J) {i : Int32} (hi : 0 ≤ i.toInt ∧ i.toInt + 6 ≤ L) (hL : L ≤ 3072) {E : Nat} (hE : E < 1000) {A : pm_H} {c s : Nat} (hA : LX g xo h E A) (hc : c + 4 ≤ 600000) (hs0 : s + 485 ≤ 7302250) (cont : ∀ (A' : pm_H) (c' s' : Nat), LX g xo h (E + 1) A' → c' ≤ c + 4 → s' ≤ s + 485 → J 2563 [some (.ref b), some (.ref xo), some (.ref h), some (.int i)] [] A' c' s') : J 483 [some (.ref b), some (.ref xo), some (.ref h), some (.int i)] [] A c s := by
  obtain ⟨A00, K, nn, dn, q, w, e, v, f, mq, mv, mf, M, rfl, rfl, hI, hS, D, hv, hf, dj, hw, hE1, hE2, hR1, hR2, hg, he0, hN, hM, hB, hU⟩ := hA
  have hu9 := hI.2.1
  unfold cw_W at hu9
  have hro : lw_ro b L xs b = some (L, xs) := if_pos rfl
  refine hC.1 7 483 _ _ rfl _ _ _ _ _ ?_
  refine pq_aload_n1 (pq_aload_n0 (pq_iload_n3 (pq_iconst (pq_iadd ?_))))
  intro m1 em1
  have e1 : m1.toInt = i.toInt + 1 := lx_ad1 hi hL em1
  refine pq_iaload ?_
  refine Exists.intro _ (Exists.intro _ (And.intro (Or.inr hro) (And.intro (lx_bn1 hi e1) ?_)))
  obtain ⟨a1, ha1⟩ : ∃ z9, z9 = xs m1.toInt.toNat := ⟨_, rfl⟩
  have m_a1 := em1
  rw [← ha1]
  refine pq_aload_n0 (pq_iload_n3 (pq_iconst (pq_iadd ?_)))
  intro m2 em2
  have e2 : m2.toInt = i.toInt + 2 := lx_ad2 hi hL em2
  refine pq_iaload ?_
  refine Exists.intro _ (Exists.intro _ (And.intro (Or.inr hro) (And.intro (lx_bn2 hi e2) ?_)))
  obtain ⟨a2, ha2⟩ : ∃ z9, z9 = xs m2.toInt.toNat := ⟨_, rfl⟩
  have m_a2 := em2
  rw [← ha2]
  refine pq_aload_n0 (pq_iload_n3 (pq_iconst (pq_iadd ?_)))
  intro m3 em3
  have e3 : m3.toInt = i.toInt + 3 := lx_ad3 hi hL em3
  refine pq_iaload ?_
  refine Exists.intro _ (Exists.intro _ (And.intro (Or.inr hro) (And.intro (lx_bn3 hi e3) ?_)))
  obtain ⟨a3, ha3⟩ : ∃ z9, z9 = xs m3.toInt.toNat := ⟨_, rfl⟩
  have m_a3 := em3
  rw [← ha3]
  refine pq_iv3_10 ?_
  refine And.intro (Exists.intro _ (cw_o0 hI.1)) (Exists.intro _ (Exists.intro _ (Exists.intro _ (Exists.intro _ (And.intro (H_X10_shift hI hS a1 a2 a3 (by omega)) (And.intro (lw_bnd rfl (lx_c1 hc (by decide)) (lx_c1 hs0 (by decide)) rfl) (fun r9 A9 h9 => ?_)))))))
  obtain ⟨K499, nn499, dn499, q499, w499, e499, v499, f499, rfl, hI499, hS499, hX499, hy499, y499, rfl, by499⟩ := h9
  have dj499 := lw_dj D dj hX499
  have fc9 := by499.2 M hR1 hN
  refine pq_id1 (pq_pop (pq_aload_n2 (pq_aload_n0 (pq_iload_n3 (pq_iconst (pq_iadd ?_))))))
  intro m4 em4
  have e4 : m4.toInt = i.toInt + 1 := lx_ad1 hi hL em4
  refine pq_iaload ?_
  refine Exists.intro _ (Exists.intro _ (And.intro (Or.inr hro) (And.intro (lx_bn1 hi e4) ?_)))
  have ha1_4 : a1 = xs m4.toInt.toNat := by rw [ha1, em4, ← m_a1]
  rw [← ha1_4]
  refine pq_aload_n0 (pq_iload_n3 (pq_iconst (pq_iadd ?_)))
  intro m5 em5
  have e5 : m5.toInt = i.toInt + 2 := lx_ad2 hi hL em5
  refine pq_iaload ?_
  refine Exists.intro _ (Exists.intro _ (And.intro (Or.inr hro) (And.intro (lx_bn2 hi e5) ?_)))
  have ha2_5 : a2 = xs m5.toInt.toNat := by rw [ha2, em5, ← m_a2]
  rw [← ha2_5]
  refine pq_aload_n0 (pq_iload_n3 (pq_iconst (pq_iadd ?_)))
  intro m6 em6
  have e6 : m6.toInt = i.toInt + 3 := lx_ad3 hi hL em6
  refine pq_iaload ?_
  refine Exists.intro _ (Exists.intro _ (And.intro (Or.inr hro) (And.intro (lx_bn3 hi e6) ?_)))
  have ha3_6 : a3 = xs m6.toInt.toNat := by rw [ha3, em6, ← m_a3]
  rw [← ha3_6]
  refine pq_iv3_11 ?_
  rw [cw_md D dj499]
  refine And.intro (Exists.intro _ (md_o)) (Exists.intro _ (Exists.intro _ (Exists.intro _ (Exists.intro _ (And.intro (F_X11_shift D mv mf hv hf a1 a2 a3 (by omega)) (And.intro (lw_bnd rfl (lx_c2 hc (by decide)) (lx_c2 hs0 (by decide)) rfl) (fun r9 A9 h9 => ?_)))))))
  obtain ⟨y519, mv519, mf519, rfl, rfl, hv519, hf519, hx519, by519⟩ := h9
  have fm9 := by519.2 M hR2
  refine pq_id1 (pq_pop (pq_goto ?_))
  exact cont _ _ _ ⟨A00, K499, nn499, dn499, q499, w499, e499, v499, f499, mq, mv519, mf519, _, (cw_md D dj499).symm, (hX499.2.1 0 (by omega)), hI499, hS499, D, hv519, hf519, dj499, fun j hj => by rw [hy499, hx519]; exact hw j hj, by omega, by omega, fc9.1, fm9.1, (pm_eqI (by rw [fc9.2.2.1, fm9.2.2, hg])), (by rw [fc9.2.1, fm9.2.1, he0]), fc9.2.2.2.1, (nm_shift hM), (fc9.2.2.2.2 hB), (by rw [show (w499 1).toInt = (w 1).toInt by (have q9 := fc9.2.2.1; omega)]; exact UL_shift hU)⟩ (by omega) (by omega)

set_option maxRecDepth 100000 in
set_option maxHeartbeats 2000000 in
theorem lx_b8 (hC : pm_Cl l g (lw_ro b L xs) 7 600000 7302250 lw_Rt bk_L_law J) {i : Int32} (hi : 0 ≤ i.toInt ∧ i.toInt + 6 ≤ L) (hL : L ≤ 3072) {E : Nat} (hE : E < 1000) {A : pm_H} {c s : Nat} (hA : LX g xo h E A) (hc : c + 4 ≤ 600000) (hs0 : s + 485 ≤ 7302250) (cont : ∀ (A' : pm_H) (c' s' : Nat), LX g xo h (E + 1) A' → c' ≤ c + 4 → s' ≤ s + 485 → J 2563 [some (.ref b), some (.ref xo), some (.ref h), some (.int i)] [] A' c' s') : J 526 [some (.ref b), some (.ref xo), some (.ref h), some (.int i)] [] A c s := by
  obtain ⟨A00, K, nn, dn, q, w, e, v, f, mq, mv, mf, M, rfl, rfl, hI, hS, D, hv, hf, dj, hw, hE1, hE2, hR1, hR2, hg, he0, hN, hM, hB, hU⟩ := hA
  have hu9 := hI.2.1
  unfold cw_W at hu9
  have hro : lw_ro b L xs b = some (L, xs) := if_pos rfl
  refine hC.1 8 526 _ _ rfl _ _ _ _ _ ?_
  refine pq_aload_n1 (pq_aload_n0 (pq_iload_n3 (pq_iconst (pq_iadd ?_))))
  intro m1 em1
  have e1 : m1.toInt = i.toInt + 1 := lx_ad1 hi hL em1
  refine pq_iaload ?_
  refine Exists.intro _ (Exists.intro _ (And.intro (Or.inr hro) (And.intro (lx_bn1 hi e1) ?_)))
  obtain ⟨a1, ha1⟩ : ∃ z9, z9 = xs m1.toInt.toNat := ⟨_, rfl⟩
  have m_a1 := em1
  rw [← ha1]
  refine pq_aload_n0 (pq_iload_n3 (pq_iconst (pq_iadd ?_)))
  intro m2 em2
  have e2 : m2.toInt = i.toInt + 2 := lx_ad2 hi hL em2
  refine pq_iaload ?_
  refine Exists.intro _ (Exists.intro _ (And.intro (Or.inr hro) (And.intro (lx_bn2 hi e2) ?_)))
  obtain ⟨a2, ha2⟩ : ∃ z9, z9 = xs m2.toInt.toNat := ⟨_, rfl⟩
  have m_a2 := em2
  rw [← ha2]
  refine pq_iv2_10 ?_
  refine And.intro (Exists.intro _ (cw_o0 hI.1)) (Exists.intro _ (Exists.intro _ (Exists.intro _ (Exists.intro _ (And.intro (T_X10_sort hI hS a1 a2 (by omega)) (And.intro (lw_bnd rfl (lx_c1 hc (by decide)) (lx_c1 hs0 (by decide)) rfl) (fun r9 A9 h9 => ?_)))))))
  obtain ⟨K537, nn537, dn537, q537, w537, e537, v537, f537, rfl, hI537, hS537, hX537, hy537, y537, rfl, by537⟩ := h9
  have dj537 := lw_dj D dj hX537
  have fc9 := by537.2.1 M hR1 hN
  refine pq_id1 (pq_aload_n2 (pq_aload_n0 (pq_iload_n3 (pq_iconst (pq_iadd ?_)))))
  intro m3 em3
  have e3 : m3.toInt = i.toInt + 1 := lx_ad1 hi hL em3
  refine pq_iaload ?_
  refine Exists.intro _ (Exists.intro _ (And.intro (Or.inr hro) (And.intro (lx_bn1 hi e3) ?_)))
  have ha1_3 : a1 = xs m3.toInt.toNat := by rw [ha1, em3, ← m_a1]
  rw [← ha1_3]
  refine pq_aload_n0 (pq_iload_n3 (pq_iconst (pq_iadd ?_)))
  intro m4 em4
  have e4 : m4.toInt = i.toInt + 2 := lx_ad2 hi hL em4
  refine pq_iaload ?_
  refine Exists.intro _ (Exists.intro _ (And.intro (Or.inr hro) (And.intro (lx_bn2 hi e4) ?_)))
  have ha2_4 : a2 = xs m4.toInt.toNat := by rw [ha2, em4, ← m_a2]
  rw [← ha2_4]
  refine pq_iv2_11 ?_
  rw [cw_md D dj537]
  refine And.intro (Exists.intro _ (md_o)) (Exists.intro _ (Exists.intro _ (Exists.intro _ (Exists.intro _ (And.intro (T_X11_sort D mv mf hv hf a1 a2 (by omega)) (And.intro (lw_bnd rfl (lx_c2 hc (by decide)) (lx_c2 hs0 (by decide)) rfl) (fun r9 A9 h9 => ?_)))))))
  obtain ⟨y551, mv551, mf551, rfl, rfl, hv551, hf551, hx551, by551⟩ := h9
  have fm9 := by551.2.1 M hR2
  refine pq_id1 (pq_icmp_eq ?_)
  have heq : y537 = y551 := pm_eqI (by have u9 := UL_UQ hR1 hM hU; have q1 := fc9.2.1; have q2 := fm9.2.1; rcases by537.2.2 with ⟨a1, a2⟩ | ⟨a1, a2⟩ <;> rcases by551.2.2 with ⟨c1, c2⟩ | ⟨c1, c2⟩; (omega); (omega); (omega); (rw [a2 hN u9.1 hB u9.2, c2, lx_ans hR1 hR2 fc9.1 fm9.1]))
  refine And.intro (fun _ => ?_) (fun c9 => absurd heq c9)
  exact cont _ _ _ ⟨A00, K537, nn537, dn537, q537, w537, e537, v537, f537, mq, mv551, mf551, _, (cw_md D dj537).symm, (hX537.2.1 0 (by omega)), hI537, hS537, D, hv551, hf551, dj537, fun j hj => by rw [hy537, hx551]; exact hw j hj, by omega, by omega, fc9.1, fm9.1, (pm_eqI (by rw [fc9.2.2.1, fm9.2.2, hg])), (by rw [fc9.2.1, fm9.2.1, he0]), fc9.2.2.2.1, (nm_sort hM), (fc9.2.2.2.2 hB), (by rw [show (w537 1).toInt = (w 1).toInt by (have q9 := fc9.2.2.1; omega)]; exact UL_sort hU)⟩ (by omega) (by omega)

set_option maxRecDepth 100000 in
set_option maxHeartbeats 2000000 in
theorem lx_b9 (hC : pm_Cl l g (lw_ro b L xs) 7 600000 7302250 lw_Rt bk_L_law J) {i : Int32} (hi : 0 ≤ i.toInt ∧ i.toInt + 6 ≤ L) (hL : L ≤ 3072) {E : Nat} (hE : E < 1000) {A : pm_H} {c s : Nat} (hA : LX g xo h E A) (hc : c + 4 ≤ 600000) (hs0 : s + 485 ≤ 7302250) (cont : ∀ (A' : pm_H) (c' s' : Nat), LX g xo h (E + 1) A' → c' ≤ c + 4 → s' ≤ s + 485 → J 2563 [some (.ref b), some (.ref xo), some (.ref h), some (.int i)] [] A' c' s') : J 559 [some (.ref b), some (.ref xo), some (.ref h), some (.int i)] [] A c s := by
  obtain ⟨A00, K, nn, dn, q, w, e, v, f, mq, mv, mf, M, rfl, rfl, hI, hS, D, hv, hf, dj, hw, hE1, hE2, hR1, hR2, hg, he0, hN, hM, hB, hU⟩ := hA
  have hu9 := hI.2.1
  unfold cw_W at hu9
  have hro : lw_ro b L xs b = some (L, xs) := if_pos rfl
  refine hC.1 9 559 _ _ rfl _ _ _ _ _ ?_
  refine pq_aload_n1 (pq_aload_n0 (pq_iload_n3 (pq_iconst (pq_iadd ?_))))
  intro m1 em1
  have e1 : m1.toInt = i.toInt + 1 := lx_ad1 hi hL em1
  refine pq_iaload ?_
  refine Exists.intro _ (Exists.intro _ (And.intro (Or.inr hro) (And.intro (lx_bn1 hi e1) ?_)))
  obtain ⟨a1, ha1⟩ : ∃ z9, z9 = xs m1.toInt.toNat := ⟨_, rfl⟩
  have m_a1 := em1
  rw [← ha1]
  refine pq_aload_n0 (pq_iload_n3 (pq_iconst (pq_iadd ?_)))
  intro m2 em2
  have e2 : m2.toInt = i.toInt + 2 := lx_ad2 hi hL em2
  refine pq_iaload ?_
  refine Exists.intro _ (Exists.intro _ (And.intro (Or.inr hro) (And.intro (lx_bn2 hi e2) ?_)))
  obtain ⟨a2, ha2⟩ : ∃ z9, z9 = xs m2.toInt.toNat := ⟨_, rfl⟩
  have m_a2 := em2
  rw [← ha2]
  refine pq_aload_n0 (pq_iload_n3 (pq_iconst (pq_iadd ?_)))
  intro m3 em3
  have e3 : m3.toInt = i.toInt + 3 := lx_ad3 hi hL em3
  refine pq_iaload ?_
  refine Exists.intro _ (Exists.intro _ (And.intro (Or.inr hro) (And.intro (lx_bn3 hi e3) ?_)))
  obtain ⟨a3, ha3⟩ : ∃ z9, z9 = xs m3.toInt.toNat := ⟨_, rfl⟩
  have m_a3 := em3
  rw [← ha3]
  refine pq_aload_n0 (pq_iload_n3 (pq_iconst (pq_iadd ?_)))
  intro m4 em4
  have e4 : m4.toInt = i.toInt + 4 := lx_ad4 hi hL em4
  refine pq_iaload ?_
  refine Exists.intro _ (Exists.intro _ (And.intro (Or.inr hro) (And.intro (lx_bn4 hi e4) ?_)))
  obtain ⟨a4, ha4⟩ : ∃ z9, z9 = xs m4.toInt.toNat := ⟨_, rfl⟩
  have m_a4 := em4
  rw [← ha4]
  refine pq_iv4_10 ?_
  refine And.intro (Exists.intro _ (cw_o0 hI.1)) (Exists.intro _ (Exists.intro _ (Exists.intro _ (Exists.intro _ (And.intro (H_X10_swap hI hS a1 a2 a3 a4 (by omega)) (And.intro (lw_bnd rfl (lx_c1 hc (by decide)) (lx_c1 hs0 (by decide)) rfl) (fun r9 A9 h9 => ?_)))))))
  obtain ⟨K580, nn580, dn580, q580, w580, e580, v580, f580, rfl, hI580, hS580, hX580, hy580, y580, rfl, by580⟩ := h9
  have dj580 := lw_dj D dj hX580
  have fc9 := by580.2 M hR1 hN
  refine pq_id1 (pq_pop (pq_aload_n2 (pq_aload_n0 (pq_iload_n3 (pq_iconst (pq_iadd ?_))))))
  intro m5 em5
  have e5 : m5.toInt = i.toInt + 1 := lx_ad1 hi hL em5
  refine pq_iaload ?_
  refine Exists.intro _ (Exists.intro _ (And.intro (Or.inr hro) (And.intro (lx_bn1 hi e5) ?_)))
  have ha1_5 : a1 = xs m5.toInt.toNat := by rw [ha1, em5, ← m_a1]
  rw [← ha1_5]
  refine pq_aload_n0 (pq_iload_n3 (pq_iconst (pq_iadd ?_)))
  intro m6 em6
  have e6 : m6.toInt = i.toInt + 2 := lx_ad2 hi hL em6
  refine pq_iaload ?_
  refine Exists.intro _ (Exists.intro _ (And.intro (Or.inr hro) (And.intro (lx_bn2 hi e6) ?_)))
  have ha2_6 : a2 = xs m6.toInt.toNat := by rw [ha2, em6, ← m_a2]
  rw [← ha2_6]
  refine pq_aload_n0 (pq_iload_n3 (pq_iconst (pq_iadd ?_)))
  intro m7 em7
  have e7 : m7.toInt = i.toInt + 3 := lx_ad3 hi hL em7
  refine pq_iaload ?_
  refine Exists.intro _ (Exists.intro _ (And.intro (Or.inr hro) (And.intro (lx_bn3 hi e7) ?_)))
  have ha3_7 : a3 = xs m7.toInt.toNat := by rw [ha3, em7, ← m_a3]
  rw [← ha3_7]
  refine pq_aload_n0 (pq_iload_n3 (pq_iconst (pq_iadd ?_)))
  intro m8 em8
  have e8 : m8.toInt = i.toInt + 4 := lx_ad4 hi hL em8
  refine pq_iaload ?_
  refine Exists.intro _ (Exists.intro _ (And.intro (Or.inr hro) (And.intro (lx_bn4 hi e8) ?_)))
  have ha4_8 : a4 = xs m8.toInt.toNat := by rw [ha4, em8, ← m_a4]
  rw [← ha4_8]
  refine pq_iv4_11 ?_
  rw [cw_md D dj580]
  refine And.intro (Exists.intro _ (md_o)) (Exists.intro _ (Exists.intro _ (Exists.intro _ (Exists.intro _ (And.intro (F_X11_swap D mv mf hv hf a1 a2 a3 a4 (by omega)) (And.intro (lw_bnd rfl (lx_c2 hc (by decide)) (lx_c2 hs0 (by decide)) rfl) (fun r9 A9 h9 => ?_)))))))
  obtain ⟨y605, mv605, mf605, rfl, rfl, hv605, hf605, hx605, by605⟩ := h9
  have fm9 := by605.2 M hR2
  refine pq_id1 (pq_pop (pq_goto ?_))
  exact cont _ _ _ ⟨A00, K580, nn580, dn580, q580, w580, e580, v580, f580, mq, mv605, mf605, _, (cw_md D dj580).symm, (hX580.2.1 0 (by omega)), hI580, hS580, D, hv605, hf605, dj580, fun j hj => by rw [hy580, hx605]; exact hw j hj, by omega, by omega, fc9.1, fm9.1, (pm_eqI (by rw [fc9.2.2.1, fm9.2.2, hg])), (by rw [fc9.2.1, fm9.2.1, he0]), fc9.2.2.2.1, (nm_swap hM), (fc9.2.2.2.2 hB), (by rw [show (w580 1).toInt = (w 1).toInt by (have q9 := fc9.2.2.1; omega)]; exact UL_swap hU)⟩ (by omega) (by omega)

set_option maxRecDepth 100000 in
set_option maxHeartbeats 2000000 in
theorem lx_b10 (hC : pm_Cl l g (lw_ro b L xs) 7 600000 7302250 lw_Rt bk_L_law J) {i : Int32} (hi : 0 ≤ i.toInt ∧ i.toInt + 6 ≤ L) (hL : L ≤ 3072) {E : Nat} (hE : E < 1000) {A : pm_H} {c s : Nat} (hA : LX g xo h E A) (hc : c + 4 ≤ 600000) (hs0 : s + 485 ≤ 7302250) (cont : ∀ (A' : pm_H) (c' s' : Nat), LX g xo h (E + 1) A' → c' ≤ c + 4 → s' ≤ s + 485 → J 2563 [some (.ref b), some (.ref xo), some (.ref h), some (.int i)] [] A' c' s') : J 612 [some (.ref b), some (.ref xo), some (.ref h), some (.int i)] [] A c s := by
  obtain ⟨A00, K, nn, dn, q, w, e, v, f, mq, mv, mf, M, rfl, rfl, hI, hS, D, hv, hf, dj, hw, hE1, hE2, hR1, hR2, hg, he0, hN, hM, hB, hU⟩ := hA
  have hu9 := hI.2.1
  unfold cw_W at hu9
  have hro : lw_ro b L xs b = some (L, xs) := if_pos rfl
  refine hC.1 10 612 _ _ rfl _ _ _ _ _ ?_
  refine pq_aload_n1 (pq_aload_n0 (pq_iload_n3 (pq_iconst (pq_iadd ?_))))
  intro m1 em1
  have e1 : m1.toInt = i.toInt + 1 := lx_ad1 hi hL em1
  refine pq_iaload ?_
  refine Exists.intro _ (Exists.intro _ (And.intro (Or.inr hro) (And.intro (lx_bn1 hi e1) ?_)))
  obtain ⟨a1, ha1⟩ : ∃ z9, z9 = xs m1.toInt.toNat := ⟨_, rfl⟩
  have m_a1 := em1
  rw [← ha1]
  refine pq_aload_n0 (pq_iload_n3 (pq_iconst (pq_iadd ?_)))
  intro m2 em2
  have e2 : m2.toInt = i.toInt + 2 := lx_ad2 hi hL em2
  refine pq_iaload ?_
  refine Exists.intro _ (Exists.intro _ (And.intro (Or.inr hro) (And.intro (lx_bn2 hi e2) ?_)))
  obtain ⟨a2, ha2⟩ : ∃ z9, z9 = xs m2.toInt.toNat := ⟨_, rfl⟩
  have m_a2 := em2
  rw [← ha2]
  refine pq_aload_n0 (pq_iload_n3 (pq_iconst (pq_iadd ?_)))
  intro m3 em3
  have e3 : m3.toInt = i.toInt + 3 := lx_ad3 hi hL em3
  refine pq_iaload ?_
  refine Exists.intro _ (Exists.intro _ (And.intro (Or.inr hro) (And.intro (lx_bn3 hi e3) ?_)))
  obtain ⟨a3, ha3⟩ : ∃ z9, z9 = xs m3.toInt.toNat := ⟨_, rfl⟩
  have m_a3 := em3
  rw [← ha3]
  refine pq_iv3_10 ?_
  refine And.intro (Exists.intro _ (cw_o0 hI.1)) (Exists.intro _ (Exists.intro _ (Exists.intro _ (Exists.intro _ (And.intro (H_X10_copy hI hS a1 a2 a3 (by omega)) (And.intro (lw_bnd rfl (lx_c1 hc (by decide)) (lx_c1 hs0 (by decide)) rfl) (fun r9 A9 h9 => ?_)))))))
  obtain ⟨K628, nn628, dn628, q628, w628, e628, v628, f628, rfl, hI628, hS628, hX628, hy628, y628, rfl, by628⟩ := h9
  have dj628 := lw_dj D dj hX628
  have fc9 := by628.2 M hR1 hN
  refine pq_id1 (pq_pop (pq_aload_n2 (pq_aload_n0 (pq_iload_n3 (pq_iconst (pq_iadd ?_))))))
  intro m4 em4
  have e4 : m4.toInt = i.toInt + 1 := lx_ad1 hi hL em4
  refine pq_iaload ?_
  refine Exists.intro _ (Exists.intro _ (And.intro (Or.inr hro) (And.intro (lx_bn1 hi e4) ?_)))
  have ha1_4 : a1 = xs m4.toInt.toNat := by rw [ha1, em4, ← m_a1]
  rw [← ha1_4]
  refine pq_aload_n0 (pq_iload_n3 (pq_iconst (pq_iadd ?_)))
  intro m5 em5
  have e5 : m5.toInt = i.toInt + 2 := lx_ad2 hi hL em5
  refine pq_iaload ?_
  refine Exists.intro _ (Exists.intro _ (And.intro (Or.inr hro) (And.intro (lx_bn2 hi e5) ?_)))
  have ha2_5 : a2 = xs m5.toInt.toNat := by rw [ha2, em5, ← m_a2]
  rw [← ha2_5]
  refine pq_aload_n0 (pq_iload_n3 (pq_iconst (pq_iadd ?_)))
  intro m6 em6
  have e6 : m6.toInt = i.toInt + 3 := lx_ad3 hi hL em6
  refine pq_iaload ?_
  refine Exists.intro _ (Exists.intro _ (And.intro (Or.inr hro) (And.intro (lx_bn3 hi e6) ?_)))
  have ha3_6 : a3 = xs m6.toInt.toNat := by rw [ha3, em6, ← m_a3]
  rw [← ha3_6]
  refine pq_iv3_11 ?_
  rw [cw_md D dj628]
  refine And.intro (Exists.intro _ (md_o)) (Exists.intro _ (Exists.intro _ (Exists.intro _ (Exists.intro _ (And.intro (F_X11_copy D mv mf hv hf a1 a2 a3 (by omega)) (And.intro (lw_bnd rfl (lx_c2 hc (by decide)) (lx_c2 hs0 (by decide)) rfl) (fun r9 A9 h9 => ?_)))))))
  obtain ⟨y648, mv648, mf648, rfl, rfl, hv648, hf648, hx648, by648⟩ := h9
  have fm9 := by648.2 M hR2
  rw [← hg] at fm9
  refine pq_id1 (pq_pop (pq_goto ?_))
  exact cont _ _ _ ⟨A00, K628, nn628, dn628, q628, w628, e628, v628, f628, mq, mv648, mf648, _, (cw_md D dj628).symm, (hX628.2.1 0 (by omega)), hI628, hS628, D, hv648, hf648, dj628, fun j hj => by rw [hy628, hx648]; exact hw j hj, by omega, by omega, fc9.1, fm9.1, (pm_eqI (by rw [fc9.2.2.1, fm9.2.2, hg])), (by rw [fc9.2.1, fm9.2.1, he0]), fc9.2.2.2.1, (nm_copy hM (by omega)), (fc9.2.2.2.2 hB), (by rw [fc9.2.2.1]; exact UL_copy hU (by omega))⟩ (by omega) (by omega)

set_option maxRecDepth 100000 in
set_option maxHeartbeats 2000000 in
theorem lx_b11 (hC : pm_Cl l g (lw_ro b L xs) 7 600000 7302250 lw_Rt bk_L_law J) {i : Int32} (hi : 0 ≤ i.toInt ∧ i.toInt + 6 ≤ L) (hL : L ≤ 3072) {E : Nat} (hE : E < 1000) {A : pm_H} {c s : Nat} (hA : LX g xo h E A) (hc : c + 4 ≤ 600000) (hs0 : s + 485 ≤ 7302250) (cont : ∀ (A' : pm_H) (c' s' : Nat), LX g xo h (E + 1) A' → c' ≤ c + 4 → s' ≤ s + 485 → J 2563 [some (.ref b), some (.ref xo), some (.ref h), some (.int i)] [] A' c' s') : J 655 [some (.ref b), some (.ref xo), some (.ref h), some (.int i)] [] A c s := by
  obtain ⟨A00, K, nn, dn, q, w, e, v, f, mq, mv, mf, M, rfl, rfl, hI, hS, D, hv, hf, dj, hw, hE1, hE2, hR1, hR2, hg, he0, hN, hM, hB, hU⟩ := hA
  have hu9 := hI.2.1
  unfold cw_W at hu9
  have hro : lw_ro b L xs b = some (L, xs) := if_pos rfl
  refine hC.1 11 655 _ _ rfl _ _ _ _ _ ?_
  refine pq_aload_n1 (pq_aload_n0 (pq_iload_n3 (pq_iconst (pq_iadd ?_))))
  intro m1 em1
  have e1 : m1.toInt = i.toInt + 1 := lx_ad1 hi hL em1
  refine pq_iaload ?_
  refine Exists.intro _ (Exists.intro _ (And.intro (Or.inr hro) (And.intro (lx_bn1 hi e1) ?_)))
  obtain ⟨a1, ha1⟩ : ∃ z9, z9 = xs m1.toInt.toNat := ⟨_, rfl⟩
  have m_a1 := em1
  rw [← ha1]
  refine pq_aload_n0 (pq_iload_n3 (pq_iconst (pq_iadd ?_)))
  intro m2 em2
  have e2 : m2.toInt = i.toInt + 2 := lx_ad2 hi hL em2
  refine pq_iaload ?_
  refine Exists.intro _ (Exists.intro _ (And.intro (Or.inr hro) (And.intro (lx_bn2 hi e2) ?_)))
  obtain ⟨a2, ha2⟩ : ∃ z9, z9 = xs m2.toInt.toNat := ⟨_, rfl⟩
  have m_a2 := em2
  rw [← ha2]
  refine pq_iv2_10 ?_
  refine And.intro (Exists.intro _ (cw_o0 hI.1)) (Exists.intro _ (Exists.intro _ (Exists.intro _ (Exists.intro _ (And.intro (H_X10_merge hI hS a1 a2 (by omega)) (And.intro (lw_bnd rfl (lx_c1 hc (by decide)) (lx_c1 hs0 (by decide)) rfl) (fun r9 A9 h9 => ?_)))))))
  obtain ⟨K666, nn666, dn666, q666, w666, e666, v666, f666, rfl, hI666, hS666, hX666, hy666, y666, rfl, by666⟩ := h9
  have dj666 := lw_dj D dj hX666
  have fc9 := by666.2 M hR1 hN
  refine pq_id1 (pq_pop (pq_aload_n2 (pq_aload_n0 (pq_iload_n3 (pq_iconst (pq_iadd ?_))))))
  intro m3 em3
  have e3 : m3.toInt = i.toInt + 1 := lx_ad1 hi hL em3
  refine pq_iaload ?_
  refine Exists.intro _ (Exists.intro _ (And.intro (Or.inr hro) (And.intro (lx_bn1 hi e3) ?_)))
  have ha1_3 : a1 = xs m3.toInt.toNat := by rw [ha1, em3, ← m_a1]
  rw [← ha1_3]
  refine pq_aload_n0 (pq_iload_n3 (pq_iconst (pq_iadd ?_)))
  intro m4 em4
  have e4 : m4.toInt = i.toInt + 2 := lx_ad2 hi hL em4
  refine pq_iaload ?_
  refine Exists.intro _ (Exists.intro _ (And.intro (Or.inr hro) (And.intro (lx_bn2 hi e4) ?_)))
  have ha2_4 : a2 = xs m4.toInt.toNat := by rw [ha2, em4, ← m_a2]
  rw [← ha2_4]
  refine pq_iv2_11 ?_
  rw [cw_md D dj666]
  refine And.intro (Exists.intro _ (md_o)) (Exists.intro _ (Exists.intro _ (Exists.intro _ (Exists.intro _ (And.intro (F_X11_merge D mv mf hv hf a1 a2 (by omega)) (And.intro (lw_bnd rfl (lx_c2 hc (by decide)) (lx_c2 hs0 (by decide)) rfl) (fun r9 A9 h9 => ?_)))))))
  obtain ⟨y681, mv681, mf681, rfl, rfl, hv681, hf681, hx681, by681⟩ := h9
  have fm9 := by681.2 M hR2
  refine pq_id1 (pq_pop (pq_goto ?_))
  exact cont _ _ _ ⟨A00, K666, nn666, dn666, q666, w666, e666, v666, f666, mq, mv681, mf681, _, (cw_md D dj666).symm, (hX666.2.1 0 (by omega)), hI666, hS666, D, hv681, hf681, dj666, fun j hj => by rw [hy666, hx681]; exact hw j hj, by omega, by omega, fc9.1, fm9.1, (pm_eqI (by rw [fc9.2.2.1, fm9.2.2, hg])), (by rw [fc9.2.1, fm9.2.1, he0]), fc9.2.2.2.1, (nm_merge hM), (fc9.2.2.2.2 hB), (by rw [show (w666 1).toInt = (w 1).toInt by (have q9 := fc9.2.2.1; omega)]; exact UL_merge hU)⟩ (by omega) (by omega)

set_option maxRecDepth 100000 in
set_option maxHeartbeats 2000000 in
theorem lx_b12 (hC : pm_Cl l g (lw_ro b L xs) 7 600000 7302250 lw_Rt bk_L_law J) {i : Int32} (hi : 0 ≤ i.toInt ∧ i.toInt + 6 ≤ L) (hL : L ≤ 3072) {E : Nat} (hE : E < 1000) {A : pm_H} {c s : Nat} (hA : LX g xo h E A) (hc : c + 4 ≤ 600000) (hs0 : s + 485 ≤ 7302250) (cont : ∀ (A' : pm_H) (c' s' : Nat), LX g xo h (E + 1) A' → c' ≤ c + 4 → s' ≤ s + 485 → J 2563 [some (.ref b), some (.ref xo), some (.ref h), some (.int i)] [] A' c' s') : J 688 [some (.ref b), some (.ref xo), some (.ref h), some (.int i)] [] A c s := by
  obtain ⟨A00, K, nn, dn, q, w, e, v, f, mq, mv, mf, M, rfl, rfl, hI, hS, D, hv, hf, dj, hw, hE1, hE2, hR1, hR2, hg, he0, hN, hM, hB, hU⟩ := hA
  have hu9 := hI.2.1
  unfold cw_W at hu9
  have hro : lw_ro b L xs b = some (L, xs) := if_pos rfl
  refine hC.1 12 688 _ _ rfl _ _ _ _ _ ?_
  refine pq_aload_n1 (pq_aload_n0 (pq_iload_n3 (pq_iconst (pq_iadd ?_))))
  intro m1 em1
  have e1 : m1.toInt = i.toInt + 1 := lx_ad1 hi hL em1
  refine pq_iaload ?_
  refine Exists.intro _ (Exists.intro _ (And.intro (Or.inr hro) (And.intro (lx_bn1 hi e1) ?_)))
  obtain ⟨a1, ha1⟩ : ∃ z9, z9 = xs m1.toInt.toNat := ⟨_, rfl⟩
  have m_a1 := em1
  rw [← ha1]
  refine pq_aload_n0 (pq_iload_n3 (pq_iconst (pq_iadd ?_)))
  intro m2 em2
  have e2 : m2.toInt = i.toInt + 2 := lx_ad2 hi hL em2
  refine pq_iaload ?_
  refine Exists.intro _ (Exists.intro _ (And.intro (Or.inr hro) (And.intro (lx_bn2 hi e2) ?_)))
  obtain ⟨a2, ha2⟩ : ∃ z9, z9 = xs m2.toInt.toNat := ⟨_, rfl⟩
  have m_a2 := em2
  rw [← ha2]
  refine pq_iv2_10 ?_
  refine And.intro (Exists.intro _ (cw_o0 hI.1)) (Exists.intro _ (Exists.intro _ (Exists.intro _ (Exists.intro _ (And.intro (H_X10_exchange hI hS a1 a2 (by omega)) (And.intro (lw_bnd rfl (lx_c1 hc (by decide)) (lx_c1 hs0 (by decide)) rfl) (fun r9 A9 h9 => ?_)))))))
  obtain ⟨K699, nn699, dn699, q699, w699, e699, v699, f699, rfl, hI699, hS699, hX699, hy699, y699, rfl, by699⟩ := h9
  have dj699 := lw_dj D dj hX699
  have fc9 := by699.2 M hR1 hN
  refine pq_id1 (pq_pop (pq_aload_n2 (pq_aload_n0 (pq_iload_n3 (pq_iconst (pq_iadd ?_))))))
  intro m3 em3
  have e3 : m3.toInt = i.toInt + 1 := lx_ad1 hi hL em3
  refine pq_iaload ?_
  refine Exists.intro _ (Exists.intro _ (And.intro (Or.inr hro) (And.intro (lx_bn1 hi e3) ?_)))
  have ha1_3 : a1 = xs m3.toInt.toNat := by rw [ha1, em3, ← m_a1]
  rw [← ha1_3]
  refine pq_aload_n0 (pq_iload_n3 (pq_iconst (pq_iadd ?_)))
  intro m4 em4
  have e4 : m4.toInt = i.toInt + 2 := lx_ad2 hi hL em4
  refine pq_iaload ?_
  refine Exists.intro _ (Exists.intro _ (And.intro (Or.inr hro) (And.intro (lx_bn2 hi e4) ?_)))
  have ha2_4 : a2 = xs m4.toInt.toNat := by rw [ha2, em4, ← m_a2]
  rw [← ha2_4]
  refine pq_iv2_11 ?_
  rw [cw_md D dj699]
  refine And.intro (Exists.intro _ (md_o)) (Exists.intro _ (Exists.intro _ (Exists.intro _ (Exists.intro _ (And.intro (F_X11_exchange D mv mf hv hf a1 a2 (by omega)) (And.intro (lw_bnd rfl (lx_c2 hc (by decide)) (lx_c2 hs0 (by decide)) rfl) (fun r9 A9 h9 => ?_)))))))
  obtain ⟨y714, mv714, mf714, rfl, rfl, hv714, hf714, hx714, by714⟩ := h9
  have fm9 := by714.2 M hR2
  refine pq_id1 (pq_pop (pq_goto ?_))
  exact cont _ _ _ ⟨A00, K699, nn699, dn699, q699, w699, e699, v699, f699, mq, mv714, mf714, _, (cw_md D dj699).symm, (hX699.2.1 0 (by omega)), hI699, hS699, D, hv714, hf714, dj699, fun j hj => by rw [hy699, hx714]; exact hw j hj, by omega, by omega, fc9.1, fm9.1, (pm_eqI (by rw [fc9.2.2.1, fm9.2.2, hg])), (by rw [fc9.2.1, fm9.2.1, he0]), fc9.2.2.2.1, (nm_exch hM), (fc9.2.2.2.2 hB), (by rw [show (w699 1).toInt = (w 1).toInt by (have q9 := fc9.2.2.1; omega)]; exact UL_exch hU)⟩ (by omega) (by omega)

set_option maxRecDepth 100000 in
set_option maxHeartbeats 2000000 in
theorem lx_b13 (hC : pm_Cl l g (lw_ro b L xs) 7 600000 7302250 lw_Rt bk_L_law J) {i : Int32} (hi : 0 ≤ i.toInt ∧ i.toInt + 6 ≤ L) (hL : L ≤ 3072) {E : Nat} (hE : E < 1000) {A : pm_H} {c s : Nat} (hA : LX g xo h E A) (hc : c + 4 ≤ 600000) (hs0 : s + 485 ≤ 7302250) (cont : ∀ (A' : pm_H) (c' s' : Nat), LX g xo h (E + 1) A' → c' ≤ c + 4 → s' ≤ s + 485 → J 2563 [some (.ref b), some (.ref xo), some (.ref h), some (.int i)] [] A' c' s') : J 721 [some (.ref b), some (.ref xo), some (.ref h), some (.int i)] [] A c s := by
  obtain ⟨A00, K, nn, dn, q, w, e, v, f, mq, mv, mf, M, rfl, rfl, hI, hS, D, hv, hf, dj, hw, hE1, hE2, hR1, hR2, hg, he0, hN, hM, hB, hU⟩ := hA
  have hu9 := hI.2.1
  unfold cw_W at hu9
  have hro : lw_ro b L xs b = some (L, xs) := if_pos rfl
  refine hC.1 13 721 _ _ rfl _ _ _ _ _ ?_
  refine pq_aload_n1 (pq_aload_n0 (pq_iload_n3 (pq_iconst (pq_iadd ?_))))
  intro m1 em1
  have e1 : m1.toInt = i.toInt + 1 := lx_ad1 hi hL em1
  refine pq_iaload ?_
  refine Exists.intro _ (Exists.intro _ (And.intro (Or.inr hro) (And.intro (lx_bn1 hi e1) ?_)))
  obtain ⟨a1, ha1⟩ : ∃ z9, z9 = xs m1.toInt.toNat := ⟨_, rfl⟩
  have m_a1 := em1
  rw [← ha1]
  refine pq_aload_n0 (pq_iload_n3 (pq_iconst (pq_iadd ?_)))
  intro m2 em2
  have e2 : m2.toInt = i.toInt + 2 := lx_ad2 hi hL em2
  refine pq_iaload ?_
  refine Exists.intro _ (Exists.intro _ (And.intro (Or.inr hro) (And.intro (lx_bn2 hi e2) ?_)))
  obtain ⟨a2, ha2⟩ : ∃ z9, z9 = xs m2.toInt.toNat := ⟨_, rfl⟩
  have m_a2 := em2
  rw [← ha2]
  refine pq_aload_n0 (pq_iload_n3 (pq_iconst (pq_iadd ?_)))
  intro m3 em3
  have e3 : m3.toInt = i.toInt + 3 := lx_ad3 hi hL em3
  refine pq_iaload ?_
  refine Exists.intro _ (Exists.intro _ (And.intro (Or.inr hro) (And.intro (lx_bn3 hi e3) ?_)))
  obtain ⟨a3, ha3⟩ : ∃ z9, z9 = xs m3.toInt.toNat := ⟨_, rfl⟩
  have m_a3 := em3
  rw [← ha3]
  refine pq_iv3_10 ?_
  refine And.intro (Exists.intro _ (cw_o0 hI.1)) (Exists.intro _ (Exists.intro _ (Exists.intro _ (Exists.intro _ (And.intro (H_X10_draw hI hS a1 a2 a3 (by omega)) (And.intro (lw_bnd rfl (lx_c1 hc (by decide)) (lx_c1 hs0 (by decide)) rfl) (fun r9 A9 h9 => ?_)))))))
  obtain ⟨K737, nn737, dn737, q737, w737, e737, v737, f737, rfl, hI737, hS737, hX737, hy737, y737, rfl, by737⟩ := h9
  have dj737 := lw_dj D dj hX737
  have fc9 := by737.2 M hR1 hN
  refine pq_id1 (pq_pop (pq_aload_n2 (pq_aload_n0 (pq_iload_n3 (pq_iconst (pq_iadd ?_))))))
  intro m4 em4
  have e4 : m4.toInt = i.toInt + 1 := lx_ad1 hi hL em4
  refine pq_iaload ?_
  refine Exists.intro _ (Exists.intro _ (And.intro (Or.inr hro) (And.intro (lx_bn1 hi e4) ?_)))
  have ha1_4 : a1 = xs m4.toInt.toNat := by rw [ha1, em4, ← m_a1]
  rw [← ha1_4]
  refine pq_aload_n0 (pq_iload_n3 (pq_iconst (pq_iadd ?_)))
  intro m5 em5
  have e5 : m5.toInt = i.toInt + 2 := lx_ad2 hi hL em5
  refine pq_iaload ?_
  refine Exists.intro _ (Exists.intro _ (And.intro (Or.inr hro) (And.intro (lx_bn2 hi e5) ?_)))
  have ha2_5 : a2 = xs m5.toInt.toNat := by rw [ha2, em5, ← m_a2]
  rw [← ha2_5]
  refine pq_aload_n0 (pq_iload_n3 (pq_iconst (pq_iadd ?_)))
  intro m6 em6
  have e6 : m6.toInt = i.toInt + 3 := lx_ad3 hi hL em6
  refine pq_iaload ?_
  refine Exists.intro _ (Exists.intro _ (And.intro (Or.inr hro) (And.intro (lx_bn3 hi e6) ?_)))
  have ha3_6 : a3 = xs m6.toInt.toNat := by rw [ha3, em6, ← m_a3]
  rw [← ha3_6]
  refine pq_iv3_11 ?_
  rw [cw_md D dj737]
  refine And.intro (Exists.intro _ (md_o)) (Exists.intro _ (Exists.intro _ (Exists.intro _ (Exists.intro _ (And.intro (F_X11_draw D mv mf hv hf a1 a2 a3 (by omega)) (And.intro (lw_bnd rfl (lx_c2 hc (by decide)) (lx_c2 hs0 (by decide)) rfl) (fun r9 A9 h9 => ?_)))))))
  obtain ⟨y757, mv757, mf757, rfl, rfl, hv757, hf757, hx757, by757⟩ := h9
  have fm9 := by757.2 M hR2
  rw [← hg] at fm9
  refine pq_id1 (pq_pop (pq_goto ?_))
  exact cont _ _ _ ⟨A00, K737, nn737, dn737, q737, w737, e737, v737, f737, mq, mv757, mf757, _, (cw_md D dj737).symm, (hX737.2.1 0 (by omega)), hI737, hS737, D, hv757, hf757, dj737, fun j hj => by rw [hy737, hx757]; exact hw j hj, by omega, by omega, fc9.1, fm9.1, (pm_eqI (by rw [fc9.2.2.1, fm9.2.2, hg])), (by rw [fc9.2.1, fm9.2.1, he0]), fc9.2.2.2.1, (nm_draw hM (by omega)), (fc9.2.2.2.2 hB), (by rw [fc9.2.2.1]; exact UL_draw hU (by omega))⟩ (by omega) (by omega)

set_option maxRecDepth 100000 in
set_option maxHeartbeats 2000000 in
theorem lx_b14 (hC : pm_Cl l g (lw_ro b L xs) 7 600000 7302250 lw_Rt bk_L_law J) {i : Int32} (hi : 0 ≤ i.toInt ∧ i.toInt + 6 ≤ L) (hL : L ≤ 3072) {E : Nat} (hE : E < 1000) {A : pm_H} {c s : Nat} (hA : LX g xo h E A) (hc : c + 4 ≤ 600000) (hs0 : s + 485 ≤ 7302250) (cont : ∀ (A' : pm_H) (c' s' : Nat), LX g xo h (E + 1) A' → c' ≤ c + 4 → s' ≤ s + 485 → J 2563 [some (.ref b), some (.ref xo), some (.ref h), some (.int i)] [] A' c' s') : J 764 [some (.ref b), some (.ref xo), some (.ref h), some (.int i)] [] A c s := by
  obtain ⟨A00, K, nn, dn, q, w, e, v, f, mq, mv, mf, M, rfl, rfl, hI, hS, D, hv, hf, dj, hw, hE1, hE2, hR1, hR2, hg, he0, hN, hM, hB, hU⟩ := hA
  have hu9 := hI.2.1
  unfold cw_W at hu9
  have hro : lw_ro b L xs b = some (L, xs) := if_pos rfl
  refine hC.1 14 764 _ _ rfl _ _ _ _ _ ?_
  refine pq_aload_n1 (pq_aload_n0 (pq_iload_n3 (pq_iconst (pq_iadd ?_))))
  intro m1 em1
  have e1 : m1.toInt = i.toInt + 1 := lx_ad1 hi hL em1
  refine pq_iaload ?_
  refine Exists.intro _ (Exists.intro _ (And.intro (Or.inr hro) (And.intro (lx_bn1 hi e1) ?_)))
  obtain ⟨a1, ha1⟩ : ∃ z9, z9 = xs m1.toInt.toNat := ⟨_, rfl⟩
  have m_a1 := em1
  rw [← ha1]
  refine pq_aload_n0 (pq_iload_n3 (pq_iconst (pq_iadd ?_)))
  intro m2 em2
  have e2 : m2.toInt = i.toInt + 2 := lx_ad2 hi hL em2
  refine pq_iaload ?_
  refine Exists.intro _ (Exists.intro _ (And.intro (Or.inr hro) (And.intro (lx_bn2 hi e2) ?_)))
  obtain ⟨a2, ha2⟩ : ∃ z9, z9 = xs m2.toInt.toNat := ⟨_, rfl⟩
  have m_a2 := em2
  rw [← ha2]
  refine pq_iv2_10 ?_
  refine And.intro (Exists.intro _ (cw_o0 hI.1)) (Exists.intro _ (Exists.intro _ (Exists.intro _ (Exists.intro _ (And.intro (c_X10_weigh hI hS a1 a2 ) (And.intro (lw_bnd rfl (lx_c1 hc (by decide)) (lx_c1 hs0 (by decide)) rfl) (fun r9 A9 h9 => ?_)))))))
  obtain ⟨e775, y775, rfl, rfl, hI775, h40_775, hc775⟩ := lx_wc hI h9
  refine pq_id1 (pq_pop (pq_aload_n2 (pq_aload_n0 (pq_iload_n3 (pq_iconst (pq_iadd ?_))))))
  intro m3 em3
  have e3 : m3.toInt = i.toInt + 1 := lx_ad1 hi hL em3
  refine pq_iaload ?_
  refine Exists.intro _ (Exists.intro _ (And.intro (Or.inr hro) (And.intro (lx_bn1 hi e3) ?_)))
  have ha1_3 : a1 = xs m3.toInt.toNat := by rw [ha1, em3, ← m_a1]
  rw [← ha1_3]
  refine pq_aload_n0 (pq_iload_n3 (pq_iconst (pq_iadd ?_)))
  intro m4 em4
  have e4 : m4.toInt = i.toInt + 2 := lx_ad2 hi hL em4
  refine pq_iaload ?_
  refine Exists.intro _ (Exists.intro _ (And.intro (Or.inr hro) (And.intro (lx_bn2 hi e4) ?_)))
  have ha2_4 : a2 = xs m4.toInt.toNat := by rw [ha2, em4, ← m_a2]
  rw [← ha2_4]
  refine pq_iv2_11 ?_
  rw [cw_md D dj]
  refine And.intro (Exists.intro _ (md_o)) (Exists.intro _ (Exists.intro _ (Exists.intro _ (Exists.intro _ (And.intro (c_X11_weigh D mv mf hv hf a1 a2 ) (And.intro (lw_bnd rfl (lx_c2 hc (by decide)) (lx_c2 hs0 (by decide)) rfl) (fun r9 A9 h9 => ?_)))))))
  obtain ⟨mf790, y790, rfl, rfl, hf790, h01_790, hm790⟩ := lx_wm D hf h9
  refine pq_id1 (pq_pop (pq_goto ?_))
  clear hu9
  exact cont _ _ _ ⟨A00, K, nn, dn, q, w, e775, v, f, mq, mv, mf790, M, (cw_md D dj).symm, rfl, hI775, hS, D, hv, hf790, dj, lx_ww hw hc775 hm790, by omega, by omega, (rp_fr hR1 rfl (h40_775 (nn + 1) (by omega)) (h40_775 (nn + 2) (by omega))), (rp_fr hR2 rfl h01_790.1 h01_790.2), hg, (by omega), hN, hM, (bd_fr hB rfl (h40_775 (nn + 1) (by omega)) (h40_775 (nn + 3) (by omega))), hU⟩ (by omega) (by omega)
end
end
section
section
variable {l : Launch} {g : pm_G} {b L : Nat} {xs : Nat → Int32} {J : pm_J} {xo h : Nat}
set_option maxRecDepth 100000 in
set_option maxHeartbeats 2000000 in
theorem lx_b15 (hC : pm_Cl l g (lw_ro b L xs) 7 600000 7302250 lw_Rt bk_L_law J) {i : Int32} (hi : 0 ≤ i.toInt ∧ i.toInt + 6 ≤ L) (hL : L ≤ 3072) {E : Nat} (hE : E < 1000) {A : pm_H} {c s : Nat} (hA : LX g xo h E A) (hc : c + 4 ≤ 600000) (hs0 : s + 485 ≤ 7302250) (cont : ∀ (A' : pm_H) (c' s' : Nat), LX g xo h (E + 1) A' → c' ≤ c + 4 → s' ≤ s + 485 → J 2563 [some (.ref b), some (.ref xo), some (.ref h), some (.int i)] [] A' c' s') : J 797 [some (.ref b), some (.ref xo), some (.ref h), some (.int i)] [] A c s := by
  obtain ⟨A00, K, nn, dn, q, w, e, v, f, mq, mv, mf, M, rfl, rfl, hI, hS, D, hv, hf, dj, hw, hE1, hE2, hR1, hR2, hg, he0, hN, hM, hB, hU⟩ := hA
  have hu9 := hI.2.1
  unfold cw_W at hu9
  have hro : lw_ro b L xs b = some (L, xs) := if_pos rfl
  refine hC.1 15 797 _ _ rfl _ _ _ _ _ ?_
  refine pq_aload_n1 (pq_aload_n0 (pq_iload_n3 (pq_iconst (pq_iadd ?_))))
  intro m1 em1
  have e1 : m1.toInt = i.toInt + 1 := lx_ad1 hi hL em1
  refine pq_iaload ?_
  refine Exists.intro _ (Exists.intro _ (And.intro (Or.inr hro) (And.intro (lx_bn1 hi e1) ?_)))
  obtain ⟨a1, ha1⟩ : ∃ z9, z9 = xs m1.toInt.toNat := ⟨_, rfl⟩
  have m_a1 := em1
  rw [← ha1]
  refine pq_aload_n0 (pq_iload_n3 (pq_iconst (pq_iadd ?_)))
  intro m2 em2
  have e2 : m2.toInt = i.toInt + 2 := lx_ad2 hi hL em2
  refine pq_iaload ?_
  refine Exists.intro _ (Exists.intro _ (And.intro (Or.inr hro) (And.intro (lx_bn2 hi e2) ?_)))
  obtain ⟨a2, ha2⟩ : ∃ z9, z9 = xs m2.toInt.toNat := ⟨_, rfl⟩
  have m_a2 := em2
  rw [← ha2]
  refine pq_iv2_10 ?_
  refine And.intro (Exists.intro _ (cw_o0 hI.1)) (Exists.intro _ (Exists.intro _ (Exists.intro _ (Exists.intro _ (And.intro (c_X10_at hI hS a1 a2 ) (And.intro (lw_bnd rfl (lx_c1 hc (by decide)) (lx_c1 hs0 (by decide)) rfl) (fun r9 A9 h9 => ?_)))))))
  obtain ⟨y808, rfl, rfl, by808⟩ := h9
  refine pq_id1 (pq_pop (pq_aload_n2 (pq_aload_n0 (pq_iload_n3 (pq_iconst (pq_iadd ?_))))))
  intro m3 em3
  have e3 : m3.toInt = i.toInt + 1 := lx_ad1 hi hL em3
  refine pq_iaload ?_
  refine Exists.intro _ (Exists.intro _ (And.intro (Or.inr hro) (And.intro (lx_bn1 hi e3) ?_)))
  have ha1_3 : a1 = xs m3.toInt.toNat := by rw [ha1, em3, ← m_a1]
  rw [← ha1_3]
  refine pq_aload_n0 (pq_iload_n3 (pq_iconst (pq_iadd ?_)))
  intro m4 em4
  have e4 : m4.toInt = i.toInt + 2 := lx_ad2 hi hL em4
  refine pq_iaload ?_
  refine Exists.intro _ (Exists.intro _ (And.intro (Or.inr hro) (And.intro (lx_bn2 hi e4) ?_)))
  have ha2_4 : a2 = xs m4.toInt.toNat := by rw [ha2, em4, ← m_a2]
  rw [← ha2_4]
  refine pq_iv2_11 ?_
  rw [cw_md D dj]
  refine And.intro (Exists.intro _ (md_o)) (Exists.intro _ (Exists.intro _ (Exists.intro _ (Exists.intro _ (And.intro (c_X11_at D mv mf hv hf a1 a2 ) (And.intro (lw_bnd rfl (lx_c2 hc (by decide)) (lx_c2 hs0 (by decide)) rfl) (fun r9 A9 h9 => ?_)))))))
  obtain ⟨y823, rfl, rfl, by823⟩ := h9
  refine pq_id1 (pq_pop (pq_goto ?_))
  clear hu9
  exact cont _ _ _ ⟨A00, K, nn, dn, q, w, e, v, f, mq, mv, mf, M, (cw_md D dj).symm, rfl, hI, hS, D, hv, hf, dj, fun j hj => by exact hw j hj, by omega, by omega, hR1, hR2, hg, (by omega), hN, hM, hB, hU⟩ (by omega) (by omega)

set_option maxRecDepth 100000 in
set_option maxHeartbeats 2000000 in
theorem lx_b16 (hC : pm_Cl l g (lw_ro b L xs) 7 600000 7302250 lw_Rt bk_L_law J) {i : Int32} (hi : 0 ≤ i.toInt ∧ i.toInt + 6 ≤ L) (hL : L ≤ 3072) {E : Nat} (hE : E < 1000) {A : pm_H} {c s : Nat} (hA : LX g xo h E A) (hc : c + 4 ≤ 600000) (hs0 : s + 485 ≤ 7302250) (cont : ∀ (A' : pm_H) (c' s' : Nat), LX g xo h (E + 1) A' → c' ≤ c + 4 → s' ≤ s + 485 → J 2563 [some (.ref b), some (.ref xo), some (.ref h), some (.int i)] [] A' c' s') : J 830 [some (.ref b), some (.ref xo), some (.ref h), some (.int i)] [] A c s := by
  obtain ⟨A00, K, nn, dn, q, w, e, v, f, mq, mv, mf, M, rfl, rfl, hI, hS, D, hv, hf, dj, hw, hE1, hE2, hR1, hR2, hg, he0, hN, hM, hB, hU⟩ := hA
  have hu9 := hI.2.1
  unfold cw_W at hu9
  have hro : lw_ro b L xs b = some (L, xs) := if_pos rfl
  refine hC.1 16 830 _ _ rfl _ _ _ _ _ ?_
  refine pq_aload_n1 (pq_aload_n0 (pq_iload_n3 (pq_iconst (pq_iadd ?_))))
  intro m1 em1
  have e1 : m1.toInt = i.toInt + 1 := lx_ad1 hi hL em1
  refine pq_iaload ?_
  refine Exists.intro _ (Exists.intro _ (And.intro (Or.inr hro) (And.intro (lx_bn1 hi e1) ?_)))
  obtain ⟨a1, ha1⟩ : ∃ z9, z9 = xs m1.toInt.toNat := ⟨_, rfl⟩
  have m_a1 := em1
  rw [← ha1]
  refine pq_iv1_10 ?_
  refine And.intro (Exists.intro _ (cw_o0 hI.1)) (Exists.intro _ (Exists.intro _ (Exists.intro _ (Exists.intro _ (And.intro (F_X10_place hI hS a1 ) (And.intro (lw_bnd rfl (lx_c1 hc (by decide)) (lx_c1 hs0 (by decide)) rfl) (fun r9 A9 h9 => ?_)))))))
  obtain ⟨y836, rfl, rfl, by836⟩ := h9
  refine pq_id1 (pq_pop (pq_aload_n2 (pq_aload_n0 (pq_iload_n3 (pq_iconst (pq_iadd ?_))))))
  intro m2 em2
  have e2 : m2.toInt = i.toInt + 1 := lx_ad1 hi hL em2
  refine pq_iaload ?_
  refine Exists.intro _ (Exists.intro _ (And.intro (Or.inr hro) (And.intro (lx_bn1 hi e2) ?_)))
  have ha1_2 : a1 = xs m2.toInt.toNat := by rw [ha1, em2, ← m_a1]
  rw [← ha1_2]
  refine pq_iv1_11 ?_
  rw [cw_md D dj]
  refine And.intro (Exists.intro _ (md_o)) (Exists.intro _ (Exists.intro _ (Exists.intro _ (Exists.intro _ (And.intro (F_X11_place D mv mf hv hf a1 ) (And.intro (lw_bnd rfl (lx_c2 hc (by decide)) (lx_c2 hs0 (by decide)) rfl) (fun r9 A9 h9 => ?_)))))))
  obtain ⟨y846, rfl, rfl, by846⟩ := h9
  refine pq_id1 (pq_pop (pq_goto ?_))
  clear hu9
  exact cont _ _ _ ⟨A00, K, nn, dn, q, w, e, v, f, mq, mv, mf, M, (cw_md D dj).symm, rfl, hI, hS, D, hv, hf, dj, fun j hj => by exact hw j hj, by omega, by omega, hR1, hR2, hg, (by omega), hN, hM, hB, hU⟩ (by omega) (by omega)

set_option maxRecDepth 100000 in
set_option maxHeartbeats 2000000 in
theorem lx_b17 (hC : pm_Cl l g (lw_ro b L xs) 7 600000 7302250 lw_Rt bk_L_law J) {i : Int32} (hi : 0 ≤ i.toInt ∧ i.toInt + 6 ≤ L) (hL : L ≤ 3072) {E : Nat} (hE : E < 1000) {A : pm_H} {c s : Nat} (hA : LX g xo h E A) (hc : c + 4 ≤ 600000) (hs0 : s + 485 ≤ 7302250) (cont : ∀ (A' : pm_H) (c' s' : Nat), LX g xo h (E + 1) A' → c' ≤ c + 4 → s' ≤ s + 485 → J 2563 [some (.ref b), some (.ref xo), some (.ref h), some (.int i)] [] A' c' s') : J 853 [some (.ref b), some (.ref xo), some (.ref h), some (.int i)] [] A c s := by
  obtain ⟨A00, K, nn, dn, q, w, e, v, f, mq, mv, mf, M, rfl, rfl, hI, hS, D, hv, hf, dj, hw, hE1, hE2, hR1, hR2, hg, he0, hN, hM, hB, hU⟩ := hA
  have hu9 := hI.2.1
  unfold cw_W at hu9
  have hro : lw_ro b L xs b = some (L, xs) := if_pos rfl
  refine hC.1 17 853 _ _ rfl _ _ _ _ _ ?_
  refine pq_aload_n1 (pq_aload_n0 (pq_iload_n3 (pq_iconst (pq_iadd ?_))))
  intro m1 em1
  have e1 : m1.toInt = i.toInt + 1 := lx_ad1 hi hL em1
  refine pq_iaload ?_
  refine Exists.intro _ (Exists.intro _ (And.intro (Or.inr hro) (And.intro (lx_bn1 hi e1) ?_)))
  obtain ⟨a1, ha1⟩ : ∃ z9, z9 = xs m1.toInt.toNat := ⟨_, rfl⟩
  have m_a1 := em1
  rw [← ha1]
  refine pq_aload_n0 (pq_iload_n3 (pq_iconst (pq_iadd ?_)))
  intro m2 em2
  have e2 : m2.toInt = i.toInt + 2 := lx_ad2 hi hL em2
  refine pq_iaload ?_
  refine Exists.intro _ (Exists.intro _ (And.intro (Or.inr hro) (And.intro (lx_bn2 hi e2) ?_)))
  obtain ⟨a2, ha2⟩ : ∃ z9, z9 = xs m2.toInt.toNat := ⟨_, rfl⟩
  have m_a2 := em2
  rw [← ha2]
  refine pq_iv2_10 ?_
  refine And.intro (Exists.intro _ (cw_o0 hI.1)) (Exists.intro _ (Exists.intro _ (Exists.intro _ (Exists.intro _ (And.intro (c_X10_colour hI hS a1 a2 ) (And.intro (lw_bnd rfl (lx_c1 hc (by decide)) (lx_c1 hs0 (by decide)) rfl) (fun r9 A9 h9 => ?_)))))))
  obtain ⟨y864, rfl, rfl, by864⟩ := h9
  refine pq_id1 (pq_pop (pq_aload_n2 (pq_aload_n0 (pq_iload_n3 (pq_iconst (pq_iadd ?_))))))
  intro m3 em3
  have e3 : m3.toInt = i.toInt + 1 := lx_ad1 hi hL em3
  refine pq_iaload ?_
  refine Exists.intro _ (Exists.intro _ (And.intro (Or.inr hro) (And.intro (lx_bn1 hi e3) ?_)))
  have ha1_3 : a1 = xs m3.toInt.toNat := by rw [ha1, em3, ← m_a1]
  rw [← ha1_3]
  refine pq_aload_n0 (pq_iload_n3 (pq_iconst (pq_iadd ?_)))
  intro m4 em4
  have e4 : m4.toInt = i.toInt + 2 := lx_ad2 hi hL em4
  refine pq_iaload ?_
  refine Exists.intro _ (Exists.intro _ (And.intro (Or.inr hro) (And.intro (lx_bn2 hi e4) ?_)))
  have ha2_4 : a2 = xs m4.toInt.toNat := by rw [ha2, em4, ← m_a2]
  rw [← ha2_4]
  refine pq_iv2_11 ?_
  rw [cw_md D dj]
  refine And.intro (Exists.intro _ (md_o)) (Exists.intro _ (Exists.intro _ (Exists.intro _ (Exists.intro _ (And.intro (c_X11_colour D mv mf hv hf a1 a2 ) (And.intro (lw_bnd rfl (lx_c2 hc (by decide)) (lx_c2 hs0 (by decide)) rfl) (fun r9 A9 h9 => ?_)))))))
  obtain ⟨y879, rfl, rfl, by879⟩ := h9
  refine pq_id1 (pq_pop (pq_goto ?_))
  clear hu9
  exact cont _ _ _ ⟨A00, K, nn, dn, q, w, e, v, f, mq, mv, mf, M, (cw_md D dj).symm, rfl, hI, hS, D, hv, hf, dj, fun j hj => by exact hw j hj, by omega, by omega, hR1, hR2, hg, (by omega), hN, hM, hB, hU⟩ (by omega) (by omega)

set_option maxRecDepth 100000 in
set_option maxHeartbeats 2000000 in
theorem lx_b18 (hC : pm_Cl l g (lw_ro b L xs) 7 600000 7302250 lw_Rt bk_L_law J) {i : Int32} (hi : 0 ≤ i.toInt ∧ i.toInt + 6 ≤ L) (hL : L ≤ 3072) {E : Nat} (hE : E < 1000) {A : pm_H} {c s : Nat} (hA : LX g xo h E A) (hc : c + 4 ≤ 600000) (hs0 : s + 485 ≤ 7302250) (cont : ∀ (A' : pm_H) (c' s' : Nat), LX g xo h (E + 1) A' → c' ≤ c + 4 → s' ≤ s + 485 → J 2563 [some (.ref b), some (.ref xo), some (.ref h), some (.int i)] [] A' c' s') : J 886 [some (.ref b), some (.ref xo), some (.ref h), some (.int i)] [] A c s := by
  obtain ⟨A00, K, nn, dn, q, w, e, v, f, mq, mv, mf, M, rfl, rfl, hI, hS, D, hv, hf, dj, hw, hE1, hE2, hR1, hR2, hg, he0, hN, hM, hB, hU⟩ := hA
  have hu9 := hI.2.1
  unfold cw_W at hu9
  have hro : lw_ro b L xs b = some (L, xs) := if_pos rfl
  refine hC.1 18 886 _ _ rfl _ _ _ _ _ ?_
  refine pq_aload_n1 (pq_aload_n0 (pq_iload_n3 (pq_iconst (pq_iadd ?_))))
  intro m1 em1
  have e1 : m1.toInt = i.toInt + 1 := lx_ad1 hi hL em1
  refine pq_iaload ?_
  refine Exists.intro _ (Exists.intro _ (And.intro (Or.inr hro) (And.intro (lx_bn1 hi e1) ?_)))
  obtain ⟨a1, ha1⟩ : ∃ z9, z9 = xs m1.toInt.toNat := ⟨_, rfl⟩
  have m_a1 := em1
  rw [← ha1]
  refine pq_aload_n0 (pq_iload_n3 (pq_iconst (pq_iadd ?_)))
  intro m2 em2
  have e2 : m2.toInt = i.toInt + 2 := lx_ad2 hi hL em2
  refine pq_iaload ?_
  refine Exists.intro _ (Exists.intro _ (And.intro (Or.inr hro) (And.intro (lx_bn2 hi e2) ?_)))
  obtain ⟨a2, ha2⟩ : ∃ z9, z9 = xs m2.toInt.toNat := ⟨_, rfl⟩
  have m_a2 := em2
  rw [← ha2]
  refine pq_iv2_10 ?_
  refine And.intro (Exists.intro _ (cw_o0 hI.1)) (Exists.intro _ (Exists.intro _ (Exists.intro _ (Exists.intro _ (And.intro (F_X10_nth hI hS a1 a2 ) (And.intro (lw_bnd rfl (lx_c1 hc (by decide)) (lx_c1 hs0 (by decide)) rfl) (fun r9 A9 h9 => ?_)))))))
  obtain ⟨y897, rfl, rfl, by897⟩ := h9
  refine pq_id1 (pq_pop (pq_aload_n2 (pq_aload_n0 (pq_iload_n3 (pq_iconst (pq_iadd ?_))))))
  intro m3 em3
  have e3 : m3.toInt = i.toInt + 1 := lx_ad1 hi hL em3
  refine pq_iaload ?_
  refine Exists.intro _ (Exists.intro _ (And.intro (Or.inr hro) (And.intro (lx_bn1 hi e3) ?_)))
  have ha1_3 : a1 = xs m3.toInt.toNat := by rw [ha1, em3, ← m_a1]
  rw [← ha1_3]
  refine pq_aload_n0 (pq_iload_n3 (pq_iconst (pq_iadd ?_)))
  intro m4 em4
  have e4 : m4.toInt = i.toInt + 2 := lx_ad2 hi hL em4
  refine pq_iaload ?_
  refine Exists.intro _ (Exists.intro _ (And.intro (Or.inr hro) (And.intro (lx_bn2 hi e4) ?_)))
  have ha2_4 : a2 = xs m4.toInt.toNat := by rw [ha2, em4, ← m_a2]
  rw [← ha2_4]
  refine pq_iv2_11 ?_
  rw [cw_md D dj]
  refine And.intro (Exists.intro _ (md_o)) (Exists.intro _ (Exists.intro _ (Exists.intro _ (Exists.intro _ (And.intro (F_X11_nth D mv mf hv hf a1 a2 ) (And.intro (lw_bnd rfl (lx_c2 hc (by decide)) (lx_c2 hs0 (by decide)) rfl) (fun r9 A9 h9 => ?_)))))))
  obtain ⟨y912, rfl, rfl, by912⟩ := h9
  refine pq_id1 (pq_pop (pq_goto ?_))
  clear hu9
  exact cont _ _ _ ⟨A00, K, nn, dn, q, w, e, v, f, mq, mv, mf, M, (cw_md D dj).symm, rfl, hI, hS, D, hv, hf, dj, fun j hj => by exact hw j hj, by omega, by omega, hR1, hR2, hg, (by omega), hN, hM, hB, hU⟩ (by omega) (by omega)

set_option maxRecDepth 100000 in
set_option maxHeartbeats 2000000 in
theorem lx_b19 (hC : pm_Cl l g (lw_ro b L xs) 7 600000 7302250 lw_Rt bk_L_law J) {i : Int32} (hi : 0 ≤ i.toInt ∧ i.toInt + 6 ≤ L) (hL : L ≤ 3072) {E : Nat} (hE : E < 1000) {A : pm_H} {c s : Nat} (hA : LX g xo h E A) (hc : c + 4 ≤ 600000) (hs0 : s + 485 ≤ 7302250) (cont : ∀ (A' : pm_H) (c' s' : Nat), LX g xo h (E + 1) A' → c' ≤ c + 4 → s' ≤ s + 485 → J 2563 [some (.ref b), some (.ref xo), some (.ref h), some (.int i)] [] A' c' s') : J 919 [some (.ref b), some (.ref xo), some (.ref h), some (.int i)] [] A c s := by
  obtain ⟨A00, K, nn, dn, q, w, e, v, f, mq, mv, mf, M, rfl, rfl, hI, hS, D, hv, hf, dj, hw, hE1, hE2, hR1, hR2, hg, he0, hN, hM, hB, hU⟩ := hA
  have hu9 := hI.2.1
  unfold cw_W at hu9
  have hro : lw_ro b L xs b = some (L, xs) := if_pos rfl
  refine hC.1 19 919 _ _ rfl _ _ _ _ _ ?_
  refine pq_aload_n1 (pq_aload_n0 (pq_iload_n3 (pq_iconst (pq_iadd ?_))))
  intro m1 em1
  have e1 : m1.toInt = i.toInt + 1 := lx_ad1 hi hL em1
  refine pq_iaload ?_
  refine Exists.intro _ (Exists.intro _ (And.intro (Or.inr hro) (And.intro (lx_bn1 hi e1) ?_)))
  obtain ⟨a1, ha1⟩ : ∃ z9, z9 = xs m1.toInt.toNat := ⟨_, rfl⟩
  have m_a1 := em1
  rw [← ha1]
  refine pq_iv1_10 ?_
  refine And.intro (Exists.intro _ (cw_o0 hI.1)) (Exists.intro _ (Exists.intro _ (Exists.intro _ (Exists.intro _ (And.intro (c_X10_about hI hS a1 ) (And.intro (lw_bnd rfl (lx_c1 hc (by decide)) (lx_c1 hs0 (by decide)) rfl) (fun r9 A9 h9 => ?_)))))))
  obtain ⟨v925, f925, rfl, hS925, y925, rfl, by925⟩ := h9
  refine pq_id1 (pq_pop (pq_aload_n2 (pq_aload_n0 (pq_iload_n3 (pq_iconst (pq_iadd ?_))))))
  intro m2 em2
  have e2 : m2.toInt = i.toInt + 1 := lx_ad1 hi hL em2
  refine pq_iaload ?_
  refine Exists.intro _ (Exists.intro _ (And.intro (Or.inr hro) (And.intro (lx_bn1 hi e2) ?_)))
  have ha1_2 : a1 = xs m2.toInt.toNat := by rw [ha1, em2, ← m_a1]
  rw [← ha1_2]
  refine pq_iv1_11 ?_
  rw [cw_md D dj]
  refine And.intro (Exists.intro _ (md_o)) (Exists.intro _ (Exists.intro _ (Exists.intro _ (Exists.intro _ (And.intro (c_X11_about D mv mf hv hf a1 ) (And.intro (lw_bnd rfl (lx_c2 hc (by decide)) (lx_c2 hs0 (by decide)) rfl) (fun r9 A9 h9 => ?_)))))))
  obtain ⟨y935, rfl, rfl, by935⟩ := h9
  refine pq_id1 (pq_pop (pq_goto ?_))
  clear hu9
  exact cont _ _ _ ⟨A00, K, nn, dn, q, w, e, v925, f925, mq, mv, mf, M, (cw_md D dj).symm, rfl, hI, hS925, D, hv, hf, dj, fun j hj => by exact hw j hj, by omega, by omega, hR1, hR2, hg, (by omega), hN, hM, hB, hU⟩ (by omega) (by omega)

set_option maxRecDepth 100000 in
set_option maxHeartbeats 2000000 in
theorem lx_b20 (hC : pm_Cl l g (lw_ro b L xs) 7 600000 7302250 lw_Rt bk_L_law J) {i : Int32} (hi : 0 ≤ i.toInt ∧ i.toInt + 6 ≤ L) (hL : L ≤ 3072) {E : Nat} (hE : E < 1000) {A : pm_H} {c s : Nat} (hA : LX g xo h E A) (hc : c + 4 ≤ 600000) (hs0 : s + 485 ≤ 7302250) (cont : ∀ (A' : pm_H) (c' s' : Nat), LX g xo h (E + 1) A' → c' ≤ c + 4 → s' ≤ s + 485 → J 2563 [some (.ref b), some (.ref xo), some (.ref h), some (.int i)] [] A' c' s') : J 942 [some (.ref b), some (.ref xo), some (.ref h), some (.int i)] [] A c s := by
  obtain ⟨A00, K, nn, dn, q, w, e, v, f, mq, mv, mf, M, rfl, rfl, hI, hS, D, hv, hf, dj, hw, hE1, hE2, hR1, hR2, hg, he0, hN, hM, hB, hU⟩ := hA
  have hu9 := hI.2.1
  unfold cw_W at hu9
  have hro : lw_ro b L xs b = some (L, xs) := if_pos rfl
  refine hC.1 20 942 _ _ rfl _ _ _ _ _ ?_
  refine pq_aload_n1 (pq_aload_n0 (pq_iload_n3 (pq_iconst (pq_iadd ?_))))
  intro m1 em1
  have e1 : m1.toInt = i.toInt + 1 := lx_ad1 hi hL em1
  refine pq_iaload ?_
  refine Exists.intro _ (Exists.intro _ (And.intro (Or.inr hro) (And.intro (lx_bn1 hi e1) ?_)))
  obtain ⟨a1, ha1⟩ : ∃ z9, z9 = xs m1.toInt.toNat := ⟨_, rfl⟩
  have m_a1 := em1
  rw [← ha1]
  refine pq_aload_n0 (pq_iload_n3 (pq_iconst (pq_iadd ?_)))
  intro m2 em2
  have e2 : m2.toInt = i.toInt + 2 := lx_ad2 hi hL em2
  refine pq_iaload ?_
  refine Exists.intro _ (Exists.intro _ (And.intro (Or.inr hro) (And.intro (lx_bn2 hi e2) ?_)))
  obtain ⟨a2, ha2⟩ : ∃ z9, z9 = xs m2.toInt.toNat := ⟨_, rfl⟩
  have m_a2 := em2
  rw [← ha2]
  refine pq_iv2_10 ?_
  refine And.intro (Exists.intro _ (cw_o0 hI.1)) (Exists.intro _ (Exists.intro _ (Exists.intro _ (Exists.intro _ (And.intro (c_X10_count hI hS a1 a2 ) (And.intro (lw_bnd rfl (lx_c1 hc (by decide)) (lx_c1 hs0 (by decide)) rfl) (fun r9 A9 h9 => ?_)))))))
  obtain ⟨v953, f953, rfl, hS953, y953, rfl, by953⟩ := h9
  refine pq_id1 (pq_pop (pq_aload_n2 (pq_aload_n0 (pq_iload_n3 (pq_iconst (pq_iadd ?_))))))
  intro m3 em3
  have e3 : m3.toInt = i.toInt + 1 := lx_ad1 hi hL em3
  refine pq_iaload ?_
  refine Exists.intro _ (Exists.intro _ (And.intro (Or.inr hro) (And.intro (lx_bn1 hi e3) ?_)))
  have ha1_3 : a1 = xs m3.toInt.toNat := by rw [ha1, em3, ← m_a1]
  rw [← ha1_3]
  refine pq_aload_n0 (pq_iload_n3 (pq_iconst (pq_iadd ?_)))
  intro m4 em4
  have e4 : m4.toInt = i.toInt + 2 := lx_ad2 hi hL em4
  refine pq_iaload ?_
  refine Exists.intro _ (Exists.intro _ (And.intro (Or.inr hro) (And.intro (lx_bn2 hi e4) ?_)))
  have ha2_4 : a2 = xs m4.toInt.toNat := by rw [ha2, em4, ← m_a2]
  rw [← ha2_4]
  refine pq_iv2_11 ?_
  rw [cw_md D dj]
  refine And.intro (Exists.intro _ (md_o)) (Exists.intro _ (Exists.intro _ (Exists.intro _ (Exists.intro _ (And.intro (c_X11_count D mv mf hv hf a1 a2 ) (And.intro (lw_bnd rfl (lx_c2 hc (by decide)) (lx_c2 hs0 (by decide)) rfl) (fun r9 A9 h9 => ?_)))))))
  obtain ⟨y968, rfl, rfl, by968⟩ := h9
  refine pq_id1 (pq_pop (pq_goto ?_))
  clear hu9
  exact cont _ _ _ ⟨A00, K, nn, dn, q, w, e, v953, f953, mq, mv, mf, M, (cw_md D dj).symm, rfl, hI, hS953, D, hv, hf, dj, fun j hj => by exact hw j hj, by omega, by omega, hR1, hR2, hg, (by omega), hN, hM, hB, hU⟩ (by omega) (by omega)

set_option maxRecDepth 100000 in
set_option maxHeartbeats 2000000 in
theorem lx_b21 (hC : pm_Cl l g (lw_ro b L xs) 7 600000 7302250 lw_Rt bk_L_law J) {i : Int32} (hi : 0 ≤ i.toInt ∧ i.toInt + 6 ≤ L) (hL : L ≤ 3072) {E : Nat} (hE : E < 1000) {A : pm_H} {c s : Nat} (hA : LX g xo h E A) (hc : c + 4 ≤ 600000) (hs0 : s + 485 ≤ 7302250) (cont : ∀ (A' : pm_H) (c' s' : Nat), LX g xo h (E + 1) A' → c' ≤ c + 4 → s' ≤ s + 485 → J 2563 [some (.ref b), some (.ref xo), some (.ref h), some (.int i)] [] A' c' s') : J 975 [some (.ref b), some (.ref xo), some (.ref h), some (.int i)] [] A c s := by
  obtain ⟨A00, K, nn, dn, q, w, e, v, f, mq, mv, mf, M, rfl, rfl, hI, hS, D, hv, hf, dj, hw, hE1, hE2, hR1, hR2, hg, he0, hN, hM, hB, hU⟩ := hA
  have hu9 := hI.2.1
  unfold cw_W at hu9
  have hro : lw_ro b L xs b = some (L, xs) := if_pos rfl
  refine hC.1 21 975 _ _ rfl _ _ _ _ _ ?_
  refine pq_aload_n1 (pq_aload_n0 (pq_iload_n3 (pq_iconst (pq_iadd ?_))))
  intro m1 em1
  have e1 : m1.toInt = i.toInt + 1 := lx_ad1 hi hL em1
  refine pq_iaload ?_
  refine Exists.intro _ (Exists.intro _ (And.intro (Or.inr hro) (And.intro (lx_bn1 hi e1) ?_)))
  obtain ⟨a1, ha1⟩ : ∃ z9, z9 = xs m1.toInt.toNat := ⟨_, rfl⟩
  have m_a1 := em1
  rw [← ha1]
  refine pq_aload_n0 (pq_iload_n3 (pq_iconst (pq_iadd ?_)))
  intro m2 em2
  have e2 : m2.toInt = i.toInt + 2 := lx_ad2 hi hL em2
  refine pq_iaload ?_
  refine Exists.intro _ (Exists.intro _ (And.intro (Or.inr hro) (And.intro (lx_bn2 hi e2) ?_)))
  obtain ⟨a2, ha2⟩ : ∃ z9, z9 = xs m2.toInt.toNat := ⟨_, rfl⟩
  have m_a2 := em2
  rw [← ha2]
  refine pq_iv2_10 ?_
  refine And.intro (Exists.intro _ (cw_o0 hI.1)) (Exists.intro _ (Exists.intro _ (Exists.intro _ (Exists.intro _ (And.intro (c_X10_weight hI hS a1 a2 ) (And.intro (lw_bnd rfl (lx_c1 hc (by decide)) (lx_c1 hs0 (by decide)) rfl) (fun r9 A9 h9 => ?_)))))))
  obtain ⟨v986, f986, rfl, hS986, y986, rfl, by986⟩ := h9
  refine pq_id1 (pq_pop (pq_aload_n2 (pq_aload_n0 (pq_iload_n3 (pq_iconst (pq_iadd ?_))))))
  intro m3 em3
  have e3 : m3.toInt = i.toInt + 1 := lx_ad1 hi hL em3
  refine pq_iaload ?_
  refine Exists.intro _ (Exists.intro _ (And.intro (Or.inr hro) (And.intro (lx_bn1 hi e3) ?_)))
  have ha1_3 : a1 = xs m3.toInt.toNat := by rw [ha1, em3, ← m_a1]
  rw [← ha1_3]
  refine pq_aload_n0 (pq_iload_n3 (pq_iconst (pq_iadd ?_)))
  intro m4 em4
  have e4 : m4.toInt = i.toInt + 2 := lx_ad2 hi hL em4
  refine pq_iaload ?_
  refine Exists.intro _ (Exists.intro _ (And.intro (Or.inr hro) (And.intro (lx_bn2 hi e4) ?_)))
  have ha2_4 : a2 = xs m4.toInt.toNat := by rw [ha2, em4, ← m_a2]
  rw [← ha2_4]
  refine pq_iv2_11 ?_
  rw [cw_md D dj]
  refine And.intro (Exists.intro _ (md_o)) (Exists.intro _ (Exists.intro _ (Exists.intro _ (Exists.intro _ (And.intro (c_X11_weight D mv mf hv hf a1 a2 ) (And.intro (lw_bnd rfl (lx_c2 hc (by decide)) (lx_c2 hs0 (by decide)) rfl) (fun r9 A9 h9 => ?_)))))))
  obtain ⟨y1001, rfl, rfl, by1001⟩ := h9
  refine pq_id1 (pq_pop (pq_goto ?_))
  clear hu9
  exact cont _ _ _ ⟨A00, K, nn, dn, q, w, e, v986, f986, mq, mv, mf, M, (cw_md D dj).symm, rfl, hI, hS986, D, hv, hf, dj, fun j hj => by exact hw j hj, by omega, by omega, hR1, hR2, hg, (by omega), hN, hM, hB, hU⟩ (by omega) (by omega)

set_option maxRecDepth 100000 in
set_option maxHeartbeats 2000000 in
theorem lx_b22 (hC : pm_Cl l g (lw_ro b L xs) 7 600000 7302250 lw_Rt bk_L_law J) {i : Int32} (hi : 0 ≤ i.toInt ∧ i.toInt + 6 ≤ L) (hL : L ≤ 3072) {E : Nat} (hE : E < 1000) {A : pm_H} {c s : Nat} (hA : LX g xo h E A) (hc : c + 4 ≤ 600000) (hs0 : s + 485 ≤ 7302250) (cont : ∀ (A' : pm_H) (c' s' : Nat), LX g xo h (E + 1) A' → c' ≤ c + 4 → s' ≤ s + 485 → J 2563 [some (.ref b), some (.ref xo), some (.ref h), some (.int i)] [] A' c' s') : J 1008 [some (.ref b), some (.ref xo), some (.ref h), some (.int i)] [] A c s := by
  obtain ⟨A00, K, nn, dn, q, w, e, v, f, mq, mv, mf, M, rfl, rfl, hI, hS, D, hv, hf, dj, hw, hE1, hE2, hR1, hR2, hg, he0, hN, hM, hB, hU⟩ := hA
  have hu9 := hI.2.1
  unfold cw_W at hu9
  have hro : lw_ro b L xs b = some (L, xs) := if_pos rfl
  refine hC.1 22 1008 _ _ rfl _ _ _ _ _ ?_
  refine pq_aload_n1 (pq_aload_n0 (pq_iload_n3 (pq_iconst (pq_iadd ?_))))
  intro m1 em1
  have e1 : m1.toInt = i.toInt + 1 := lx_ad1 hi hL em1
  refine pq_iaload ?_
  refine Exists.intro _ (Exists.intro _ (And.intro (Or.inr hro) (And.intro (lx_bn1 hi e1) ?_)))
  obtain ⟨a1, ha1⟩ : ∃ z9, z9 = xs m1.toInt.toNat := ⟨_, rfl⟩
  have m_a1 := em1
  rw [← ha1]
  refine pq_aload_n0 (pq_iload_n3 (pq_iconst (pq_iadd ?_)))
  intro m2 em2
  have e2 : m2.toInt = i.toInt + 2 := lx_ad2 hi hL em2
  refine pq_iaload ?_
  refine Exists.intro _ (Exists.intro _ (And.intro (Or.inr hro) (And.intro (lx_bn2 hi e2) ?_)))
  obtain ⟨a2, ha2⟩ : ∃ z9, z9 = xs m2.toInt.toNat := ⟨_, rfl⟩
  have m_a2 := em2
  rw [← ha2]
  refine pq_iv2_10 ?_
  refine And.intro (Exists.intro _ (cw_o0 hI.1)) (Exists.intro _ (Exists.intro _ (Exists.intro _ (Exists.intro _ (And.intro (c_X10_set hI hS a1 a2 ) (And.intro (lw_bnd rfl (lx_c1 hc (by decide)) (lx_c1 hs0 (by decide)) rfl) (fun r9 A9 h9 => ?_)))))))
  obtain ⟨v1019, f1019, rfl, hS1019, y1019, rfl, by1019⟩ := h9
  refine pq_id1 (pq_pop (pq_aload_n2 (pq_aload_n0 (pq_iload_n3 (pq_iconst (pq_iadd ?_))))))
  intro m3 em3
  have e3 : m3.toInt = i.toInt + 1 := lx_ad1 hi hL em3
  refine pq_iaload ?_
  refine Exists.intro _ (Exists.intro _ (And.intro (Or.inr hro) (And.intro (lx_bn1 hi e3) ?_)))
  have ha1_3 : a1 = xs m3.toInt.toNat := by rw [ha1, em3, ← m_a1]
  rw [← ha1_3]
  refine pq_aload_n0 (pq_iload_n3 (pq_iconst (pq_iadd ?_)))
  intro m4 em4
  have e4 : m4.toInt = i.toInt + 2 := lx_ad2 hi hL em4
  refine pq_iaload ?_
  refine Exists.intro _ (Exists.intro _ (And.intro (Or.inr hro) (And.intro (lx_bn2 hi e4) ?_)))
  have ha2_4 : a2 = xs m4.toInt.toNat := by rw [ha2, em4, ← m_a2]
  rw [← ha2_4]
  refine pq_iv2_11 ?_
  rw [cw_md D dj]
  refine And.intro (Exists.intro _ (md_o)) (Exists.intro _ (Exists.intro _ (Exists.intro _ (Exists.intro _ (And.intro (c_X11_set D mv mf hv hf a1 a2 ) (And.intro (lw_bnd rfl (lx_c2 hc (by decide)) (lx_c2 hs0 (by decide)) rfl) (fun r9 A9 h9 => ?_)))))))
  obtain ⟨y1034, rfl, rfl, by1034⟩ := h9
  refine pq_id1 (pq_pop (pq_goto ?_))
  clear hu9
  exact cont _ _ _ ⟨A00, K, nn, dn, q, w, e, v1019, f1019, mq, mv, mf, M, (cw_md D dj).symm, rfl, hI, hS1019, D, hv, hf, dj, fun j hj => by exact hw j hj, by omega, by omega, hR1, hR2, hg, (by omega), hN, hM, hB, hU⟩ (by omega) (by omega)

set_option maxRecDepth 100000 in
set_option maxHeartbeats 2000000 in
theorem lx_b23 (hC : pm_Cl l g (lw_ro b L xs) 7 600000 7302250 lw_Rt bk_L_law J) {i : Int32} (hi : 0 ≤ i.toInt ∧ i.toInt + 6 ≤ L) (hL : L ≤ 3072) {E : Nat} (hE : E < 1000) {A : pm_H} {c s : Nat} (hA : LX g xo h E A) (hc : c + 4 ≤ 600000) (hs0 : s + 485 ≤ 7302250) (cont : ∀ (A' : pm_H) (c' s' : Nat), LX g xo h (E + 1) A' → c' ≤ c + 4 → s' ≤ s + 485 → J 2563 [some (.ref b), some (.ref xo), some (.ref h), some (.int i)] [] A' c' s') : J 1041 [some (.ref b), some (.ref xo), some (.ref h), some (.int i)] [] A c s := by
  obtain ⟨A00, K, nn, dn, q, w, e, v, f, mq, mv, mf, M, rfl, rfl, hI, hS, D, hv, hf, dj, hw, hE1, hE2, hR1, hR2, hg, he0, hN, hM, hB, hU⟩ := hA
  have hu9 := hI.2.1
  unfold cw_W at hu9
  have hro : lw_ro b L xs b = some (L, xs) := if_pos rfl
  refine hC.1 23 1041 _ _ rfl _ _ _ _ _ ?_
  refine pq_aload_n1 (pq_aload_n0 (pq_iload_n3 (pq_iconst (pq_iadd ?_))))
  intro m1 em1
  have e1 : m1.toInt = i.toInt + 1 := lx_ad1 hi hL em1
  refine pq_iaload ?_
  refine Exists.intro _ (Exists.intro _ (And.intro (Or.inr hro) (And.intro (lx_bn1 hi e1) ?_)))
  obtain ⟨a1, ha1⟩ : ∃ z9, z9 = xs m1.toInt.toNat := ⟨_, rfl⟩
  have m_a1 := em1
  rw [← ha1]
  refine pq_aload_n0 (pq_iload_n3 (pq_iconst (pq_iadd ?_)))
  intro m2 em2
  have e2 : m2.toInt = i.toInt + 2 := lx_ad2 hi hL em2
  refine pq_iaload ?_
  refine Exists.intro _ (Exists.intro _ (And.intro (Or.inr hro) (And.intro (lx_bn2 hi e2) ?_)))
  obtain ⟨a2, ha2⟩ : ∃ z9, z9 = xs m2.toInt.toNat := ⟨_, rfl⟩
  have m_a2 := em2
  rw [← ha2]
  refine pq_aload_n0 (pq_iload_n3 (pq_iconst (pq_iadd ?_)))
  intro m3 em3
  have e3 : m3.toInt = i.toInt + 3 := lx_ad3 hi hL em3
  refine pq_iaload ?_
  refine Exists.intro _ (Exists.intro _ (And.intro (Or.inr hro) (And.intro (lx_bn3 hi e3) ?_)))
  obtain ⟨a3, ha3⟩ : ∃ z9, z9 = xs m3.toInt.toNat := ⟨_, rfl⟩
  have m_a3 := em3
  rw [← ha3]
  refine pq_iv3_10 ?_
  refine And.intro (Exists.intro _ (cw_o0 hI.1)) (Exists.intro _ (Exists.intro _ (Exists.intro _ (Exists.intro _ (And.intro (c_X10_times hI hS a1 a2 a3 ) (And.intro (lw_bnd rfl (lx_c1 hc (by decide)) (lx_c1 hs0 (by decide)) rfl) (fun r9 A9 h9 => ?_)))))))
  obtain ⟨v1057, f1057, rfl, hS1057, y1057, rfl, by1057⟩ := h9
  refine pq_id1 (pq_pop (pq_aload_n2 (pq_aload_n0 (pq_iload_n3 (pq_iconst (pq_iadd ?_))))))
  intro m4 em4
  have e4 : m4.toInt = i.toInt + 1 := lx_ad1 hi hL em4
  refine pq_iaload ?_
  refine Exists.intro _ (Exists.intro _ (And.intro (Or.inr hro) (And.intro (lx_bn1 hi e4) ?_)))
  have ha1_4 : a1 = xs m4.toInt.toNat := by rw [ha1, em4, ← m_a1]
  rw [← ha1_4]
  refine pq_aload_n0 (pq_iload_n3 (pq_iconst (pq_iadd ?_)))
  intro m5 em5
  have e5 : m5.toInt = i.toInt + 2 := lx_ad2 hi hL em5
  refine pq_iaload ?_
  refine Exists.intro _ (Exists.intro _ (And.intro (Or.inr hro) (And.intro (lx_bn2 hi e5) ?_)))
  have ha2_5 : a2 = xs m5.toInt.toNat := by rw [ha2, em5, ← m_a2]
  rw [← ha2_5]
  refine pq_aload_n0 (pq_iload_n3 (pq_iconst (pq_iadd ?_)))
  intro m6 em6
  have e6 : m6.toInt = i.toInt + 3 := lx_ad3 hi hL em6
  refine pq_iaload ?_
  refine Exists.intro _ (Exists.intro _ (And.intro (Or.inr hro) (And.intro (lx_bn3 hi e6) ?_)))
  have ha3_6 : a3 = xs m6.toInt.toNat := by rw [ha3, em6, ← m_a3]
  rw [← ha3_6]
  refine pq_iv3_11 ?_
  rw [cw_md D dj]
  refine And.intro (Exists.intro _ (md_o)) (Exists.intro _ (Exists.intro _ (Exists.intro _ (Exists.intro _ (And.intro (c_X11_times D mv mf hv hf a1 a2 a3 ) (And.intro (lw_bnd rfl (lx_c2 hc (by decide)) (lx_c2 hs0 (by decide)) rfl) (fun r9 A9 h9 => ?_)))))))
  obtain ⟨y1077, rfl, rfl, by1077⟩ := h9
  refine pq_id1 (pq_pop (pq_goto ?_))
  clear hu9
  exact cont _ _ _ ⟨A00, K, nn, dn, q, w, e, v1057, f1057, mq, mv, mf, M, (cw_md D dj).symm, rfl, hI, hS1057, D, hv, hf, dj, fun j hj => by exact hw j hj, by omega, by omega, hR1, hR2, hg, (by omega), hN, hM, hB, hU⟩ (by omega) (by omega)

set_option maxRecDepth 100000 in
set_option maxHeartbeats 2000000 in
theorem lx_b24 (hC : pm_Cl l g (lw_ro b L xs) 7 600000 7302250 lw_Rt bk_L_law J) {i : Int32} (hi : 0 ≤ i.toInt ∧ i.toInt + 6 ≤ L) (hL : L ≤ 3072) {E : Nat} (hE : E < 1000) {A : pm_H} {c s : Nat} (hA : LX g xo h E A) (hc : c + 4 ≤ 600000) (hs0 : s + 485 ≤ 7302250) (cont : ∀ (A' : pm_H) (c' s' : Nat), LX g xo h (E + 1) A' → c' ≤ c + 4 → s' ≤ s + 485 → J 2563 [some (.ref b), some (.ref xo), some (.ref h), some (.int i)] [] A' c' s') : J 1084 [some (.ref b), some (.ref xo), some (.ref h), some (.int i)] [] A c s := by
  obtain ⟨A00, K, nn, dn, q, w, e, v, f, mq, mv, mf, M, rfl, rfl, hI, hS, D, hv, hf, dj, hw, hE1, hE2, hR1, hR2, hg, he0, hN, hM, hB, hU⟩ := hA
  have hu9 := hI.2.1
  unfold cw_W at hu9
  have hro : lw_ro b L xs b = some (L, xs) := if_pos rfl
  refine hC.1 24 1084 _ _ rfl _ _ _ _ _ ?_
  refine pq_aload_n1 (pq_aload_n0 (pq_iload_n3 (pq_iconst (pq_iadd ?_))))
  intro m1 em1
  have e1 : m1.toInt = i.toInt + 1 := lx_ad1 hi hL em1
  refine pq_iaload ?_
  refine Exists.intro _ (Exists.intro _ (And.intro (Or.inr hro) (And.intro (lx_bn1 hi e1) ?_)))
  obtain ⟨a1, ha1⟩ : ∃ z9, z9 = xs m1.toInt.toNat := ⟨_, rfl⟩
  have m_a1 := em1
  rw [← ha1]
  refine pq_aload_n0 (pq_iload_n3 (pq_iconst (pq_iadd ?_)))
  intro m2 em2
  have e2 : m2.toInt = i.toInt + 2 := lx_ad2 hi hL em2
  refine pq_iaload ?_
  refine Exists.intro _ (Exists.intro _ (And.intro (Or.inr hro) (And.intro (lx_bn2 hi e2) ?_)))
  obtain ⟨a2, ha2⟩ : ∃ z9, z9 = xs m2.toInt.toNat := ⟨_, rfl⟩
  have m_a2 := em2
  rw [← ha2]
  refine pq_aload_n0 (pq_iload_n3 (pq_iconst (pq_iadd ?_)))
  intro m3 em3
  have e3 : m3.toInt = i.toInt + 3 := lx_ad3 hi hL em3
  refine pq_iaload ?_
  refine Exists.intro _ (Exists.intro _ (And.intro (Or.inr hro) (And.intro (lx_bn3 hi e3) ?_)))
  obtain ⟨a3, ha3⟩ : ∃ z9, z9 = xs m3.toInt.toNat := ⟨_, rfl⟩
  have m_a3 := em3
  rw [← ha3]
  refine pq_iv3_10 ?_
  refine And.intro (Exists.intro _ (cw_o0 hI.1)) (Exists.intro _ (Exists.intro _ (Exists.intro _ (Exists.intro _ (And.intro (c_X10_often hI hS a1 a2 a3 ) (And.intro (lw_bnd rfl (lx_c1 hc (by decide)) (lx_c1 hs0 (by decide)) rfl) (fun r9 A9 h9 => ?_)))))))
  obtain ⟨v1100, f1100, rfl, hS1100, y1100, rfl, by1100⟩ := h9
  refine pq_id1 (pq_pop (pq_aload_n2 (pq_aload_n0 (pq_iload_n3 (pq_iconst (pq_iadd ?_))))))
  intro m4 em4
  have e4 : m4.toInt = i.toInt + 1 := lx_ad1 hi hL em4
  refine pq_iaload ?_
  refine Exists.intro _ (Exists.intro _ (And.intro (Or.inr hro) (And.intro (lx_bn1 hi e4) ?_)))
  have ha1_4 : a1 = xs m4.toInt.toNat := by rw [ha1, em4, ← m_a1]
  rw [← ha1_4]
  refine pq_aload_n0 (pq_iload_n3 (pq_iconst (pq_iadd ?_)))
  intro m5 em5
  have e5 : m5.toInt = i.toInt + 2 := lx_ad2 hi hL em5
  refine pq_iaload ?_
  refine Exists.intro _ (Exists.intro _ (And.intro (Or.inr hro) (And.intro (lx_bn2 hi e5) ?_)))
  have ha2_5 : a2 = xs m5.toInt.toNat := by rw [ha2, em5, ← m_a2]
  rw [← ha2_5]
  refine pq_aload_n0 (pq_iload_n3 (pq_iconst (pq_iadd ?_)))
  intro m6 em6
  have e6 : m6.toInt = i.toInt + 3 := lx_ad3 hi hL em6
  refine pq_iaload ?_
  refine Exists.intro _ (Exists.intro _ (And.intro (Or.inr hro) (And.intro (lx_bn3 hi e6) ?_)))
  have ha3_6 : a3 = xs m6.toInt.toNat := by rw [ha3, em6, ← m_a3]
  rw [← ha3_6]
  refine pq_iv3_11 ?_
  rw [cw_md D dj]
  refine And.intro (Exists.intro _ (md_o)) (Exists.intro _ (Exists.intro _ (Exists.intro _ (Exists.intro _ (And.intro (c_X11_often D mv mf hv hf a1 a2 a3 ) (And.intro (lw_bnd rfl (lx_c2 hc (by decide)) (lx_c2 hs0 (by decide)) rfl) (fun r9 A9 h9 => ?_)))))))
  obtain ⟨y1120, rfl, rfl, by1120⟩ := h9
  refine pq_id1 (pq_pop (pq_goto ?_))
  clear hu9
  exact cont _ _ _ ⟨A00, K, nn, dn, q, w, e, v1100, f1100, mq, mv, mf, M, (cw_md D dj).symm, rfl, hI, hS1100, D, hv, hf, dj, fun j hj => by exact hw j hj, by omega, by omega, hR1, hR2, hg, (by omega), hN, hM, hB, hU⟩ (by omega) (by omega)

set_option maxRecDepth 100000 in
set_option maxHeartbeats 2000000 in
theorem lx_b25 (hC : pm_Cl l g (lw_ro b L xs) 7 600000 7302250 lw_Rt bk_L_law J) {i : Int32} (hi : 0 ≤ i.toInt ∧ i.toInt + 6 ≤ L) (hL : L ≤ 3072) {E : Nat} (hE : E < 1000) {A : pm_H} {c s : Nat} (hA : LX g xo h E A) (hc : c + 4 ≤ 600000) (hs0 : s + 485 ≤ 7302250) (cont : ∀ (A' : pm_H) (c' s' : Nat), LX g xo h (E + 1) A' → c' ≤ c + 4 → s' ≤ s + 485 → J 2563 [some (.ref b), some (.ref xo), some (.ref h), some (.int i)] [] A' c' s') : J 1127 [some (.ref b), some (.ref xo), some (.ref h), some (.int i)] [] A c s := by
  obtain ⟨A00, K, nn, dn, q, w, e, v, f, mq, mv, mf, M, rfl, rfl, hI, hS, D, hv, hf, dj, hw, hE1, hE2, hR1, hR2, hg, he0, hN, hM, hB, hU⟩ := hA
  have hu9 := hI.2.1
  unfold cw_W at hu9
  have hro : lw_ro b L xs b = some (L, xs) := if_pos rfl
  refine hC.1 25 1127 _ _ rfl _ _ _ _ _ ?_
  refine pq_aload_n1 (pq_aload_n0 (pq_iload_n3 (pq_iconst (pq_iadd ?_))))
  intro m1 em1
  have e1 : m1.toInt = i.toInt + 1 := lx_ad1 hi hL em1
  refine pq_iaload ?_
  refine Exists.intro _ (Exists.intro _ (And.intro (Or.inr hro) (And.intro (lx_bn1 hi e1) ?_)))
  obtain ⟨a1, ha1⟩ : ∃ z9, z9 = xs m1.toInt.toNat := ⟨_, rfl⟩
  have m_a1 := em1
  rw [← ha1]
  refine pq_aload_n0 (pq_iload_n3 (pq_iconst (pq_iadd ?_)))
  intro m2 em2
  have e2 : m2.toInt = i.toInt + 2 := lx_ad2 hi hL em2
  refine pq_iaload ?_
  refine Exists.intro _ (Exists.intro _ (And.intro (Or.inr hro) (And.intro (lx_bn2 hi e2) ?_)))
  obtain ⟨a2, ha2⟩ : ∃ z9, z9 = xs m2.toInt.toNat := ⟨_, rfl⟩
  have m_a2 := em2
  rw [← ha2]
  refine pq_aload_n0 (pq_iload_n3 (pq_iconst (pq_iadd ?_)))
  intro m3 em3
  have e3 : m3.toInt = i.toInt + 3 := lx_ad3 hi hL em3
  refine pq_iaload ?_
  refine Exists.intro _ (Exists.intro _ (And.intro (Or.inr hro) (And.intro (lx_bn3 hi e3) ?_)))
  obtain ⟨a3, ha3⟩ : ∃ z9, z9 = xs m3.toInt.toNat := ⟨_, rfl⟩
  have m_a3 := em3
  rw [← ha3]
  refine pq_aload_n0 (pq_iload_n3 (pq_iconst (pq_iadd ?_)))
  intro m4 em4
  have e4 : m4.toInt = i.toInt + 4 := lx_ad4 hi hL em4
  refine pq_iaload ?_
  refine Exists.intro _ (Exists.intro _ (And.intro (Or.inr hro) (And.intro (lx_bn4 hi e4) ?_)))
  obtain ⟨a4, ha4⟩ : ∃ z9, z9 = xs m4.toInt.toNat := ⟨_, rfl⟩
  have m_a4 := em4
  rw [← ha4]
  refine pq_iv4_10 ?_
  refine And.intro (Exists.intro _ (cw_o0 hI.1)) (Exists.intro _ (Exists.intro _ (Exists.intro _ (Exists.intro _ (And.intro (c_X10_report hI hS a1 a2 a3 a4 ) (And.intro (lw_bnd rfl (lx_c1 hc (by decide)) (lx_c1 hs0 (by decide)) rfl) (fun r9 A9 h9 => ?_)))))))
  obtain ⟨v1148, f1148, rfl, hS1148, y1148, rfl, by1148⟩ := h9
  refine pq_id1 (pq_pop (pq_aload_n2 (pq_aload_n0 (pq_iload_n3 (pq_iconst (pq_iadd ?_))))))
  intro m5 em5
  have e5 : m5.toInt = i.toInt + 1 := lx_ad1 hi hL em5
  refine pq_iaload ?_
  refine Exists.intro _ (Exists.intro _ (And.intro (Or.inr hro) (And.intro (lx_bn1 hi e5) ?_)))
  have ha1_5 : a1 = xs m5.toInt.toNat := by rw [ha1, em5, ← m_a1]
  rw [← ha1_5]
  refine pq_aload_n0 (pq_iload_n3 (pq_iconst (pq_iadd ?_)))
  intro m6 em6
  have e6 : m6.toInt = i.toInt + 2 := lx_ad2 hi hL em6
  refine pq_iaload ?_
  refine Exists.intro _ (Exists.intro _ (And.intro (Or.inr hro) (And.intro (lx_bn2 hi e6) ?_)))
  have ha2_6 : a2 = xs m6.toInt.toNat := by rw [ha2, em6, ← m_a2]
  rw [← ha2_6]
  refine pq_aload_n0 (pq_iload_n3 (pq_iconst (pq_iadd ?_)))
  intro m7 em7
  have e7 : m7.toInt = i.toInt + 3 := lx_ad3 hi hL em7
  refine pq_iaload ?_
  refine Exists.intro _ (Exists.intro _ (And.intro (Or.inr hro) (And.intro (lx_bn3 hi e7) ?_)))
  have ha3_7 : a3 = xs m7.toInt.toNat := by rw [ha3, em7, ← m_a3]
  rw [← ha3_7]
  refine pq_aload_n0 (pq_iload_n3 (pq_iconst (pq_iadd ?_)))
  intro m8 em8
  have e8 : m8.toInt = i.toInt + 4 := lx_ad4 hi hL em8
  refine pq_iaload ?_
  refine Exists.intro _ (Exists.intro _ (And.intro (Or.inr hro) (And.intro (lx_bn4 hi e8) ?_)))
  have ha4_8 : a4 = xs m8.toInt.toNat := by rw [ha4, em8, ← m_a4]
  rw [← ha4_8]
  refine pq_iv4_11 ?_
  rw [cw_md D dj]
  refine And.intro (Exists.intro _ (md_o)) (Exists.intro _ (Exists.intro _ (Exists.intro _ (Exists.intro _ (And.intro (c_X11_report D mv mf hv hf a1 a2 a3 a4 ) (And.intro (lw_bnd rfl (lx_c2 hc (by decide)) (lx_c2 hs0 (by decide)) rfl) (fun r9 A9 h9 => ?_)))))))
  obtain ⟨y1173, rfl, rfl, by1173⟩ := h9
  refine pq_id1 (pq_pop (pq_goto ?_))
  clear hu9
  exact cont _ _ _ ⟨A00, K, nn, dn, q, w, e, v1148, f1148, mq, mv, mf, M, (cw_md D dj).symm, rfl, hI, hS1148, D, hv, hf, dj, fun j hj => by exact hw j hj, by omega, by omega, hR1, hR2, hg, (by omega), hN, hM, hB, hU⟩ (by omega) (by omega)

set_option maxRecDepth 100000 in
set_option maxHeartbeats 2000000 in
theorem lx_b26 (hC : pm_Cl l g (lw_ro b L xs) 7 600000 7302250 lw_Rt bk_L_law J) {i : Int32} (hi : 0 ≤ i.toInt ∧ i.toInt + 6 ≤ L) (hL : L ≤ 3072) {E : Nat} (hE : E < 1000) {A : pm_H} {c s : Nat} (hA : LX g xo h E A) (hc : c + 4 ≤ 600000) (hs0 : s + 485 ≤ 7302250) (cont : ∀ (A' : pm_H) (c' s' : Nat), LX g xo h (E + 1) A' → c' ≤ c + 4 → s' ≤ s + 485 → J 2563 [some (.ref b), some (.ref xo), some (.ref h), some (.int i)] [] A' c' s') : J 1180 [some (.ref b), some (.ref xo), some (.ref h), some (.int i)] [] A c s := by
  obtain ⟨A00, K, nn, dn, q, w, e, v, f, mq, mv, mf, M, rfl, rfl, hI, hS, D, hv, hf, dj, hw, hE1, hE2, hR1, hR2, hg, he0, hN, hM, hB, hU⟩ := hA
  have hu9 := hI.2.1
  unfold cw_W at hu9
  have hro : lw_ro b L xs b = some (L, xs) := if_pos rfl
  refine hC.1 26 1180 _ _ rfl _ _ _ _ _ ?_
  refine pq_aload_n1 (pq_aload_n0 (pq_iload_n3 (pq_iconst (pq_iadd ?_))))
  intro m1 em1
  have e1 : m1.toInt = i.toInt + 1 := lx_ad1 hi hL em1
  refine pq_iaload ?_
  refine Exists.intro _ (Exists.intro _ (And.intro (Or.inr hro) (And.intro (lx_bn1 hi e1) ?_)))
  obtain ⟨a1, ha1⟩ : ∃ z9, z9 = xs m1.toInt.toNat := ⟨_, rfl⟩
  have m_a1 := em1
  rw [← ha1]
  refine pq_aload_n0 (pq_iload_n3 (pq_iconst (pq_iadd ?_)))
  intro m2 em2
  have e2 : m2.toInt = i.toInt + 2 := lx_ad2 hi hL em2
  refine pq_iaload ?_
  refine Exists.intro _ (Exists.intro _ (And.intro (Or.inr hro) (And.intro (lx_bn2 hi e2) ?_)))
  obtain ⟨a2, ha2⟩ : ∃ z9, z9 = xs m2.toInt.toNat := ⟨_, rfl⟩
  have m_a2 := em2
  rw [← ha2]
  refine pq_aload_n0 (pq_iload_n3 (pq_iconst (pq_iadd ?_)))
  intro m3 em3
  have e3 : m3.toInt = i.toInt + 3 := lx_ad3 hi hL em3
  refine pq_iaload ?_
  refine Exists.intro _ (Exists.intro _ (And.intro (Or.inr hro) (And.intro (lx_bn3 hi e3) ?_)))
  obtain ⟨a3, ha3⟩ : ∃ z9, z9 = xs m3.toInt.toNat := ⟨_, rfl⟩
  have m_a3 := em3
  rw [← ha3]
  refine pq_aload_n0 (pq_iload_n3 (pq_iconst (pq_iadd ?_)))
  intro m4 em4
  have e4 : m4.toInt = i.toInt + 4 := lx_ad4 hi hL em4
  refine pq_iaload ?_
  refine Exists.intro _ (Exists.intro _ (And.intro (Or.inr hro) (And.intro (lx_bn4 hi e4) ?_)))
  obtain ⟨a4, ha4⟩ : ∃ z9, z9 = xs m4.toInt.toNat := ⟨_, rfl⟩
  have m_a4 := em4
  rw [← ha4]
  refine pq_iv4_10 ?_
  refine And.intro (Exists.intro _ (cw_o0 hI.1)) (Exists.intro _ (Exists.intro _ (Exists.intro _ (Exists.intro _ (And.intro (c_X10_kth hI hS a1 a2 a3 a4 ) (And.intro (lw_bnd rfl (lx_c1 hc (by decide)) (lx_c1 hs0 (by decide)) rfl) (fun r9 A9 h9 => ?_)))))))
  obtain ⟨v1201, f1201, rfl, hS1201, y1201, rfl, by1201⟩ := h9
  refine pq_id1 (pq_pop (pq_aload_n2 (pq_aload_n0 (pq_iload_n3 (pq_iconst (pq_iadd ?_))))))
  intro m5 em5
  have e5 : m5.toInt = i.toInt + 1 := lx_ad1 hi hL em5
  refine pq_iaload ?_
  refine Exists.intro _ (Exists.intro _ (And.intro (Or.inr hro) (And.intro (lx_bn1 hi e5) ?_)))
  have ha1_5 : a1 = xs m5.toInt.toNat := by rw [ha1, em5, ← m_a1]
  rw [← ha1_5]
  refine pq_aload_n0 (pq_iload_n3 (pq_iconst (pq_iadd ?_)))
  intro m6 em6
  have e6 : m6.toInt = i.toInt + 2 := lx_ad2 hi hL em6
  refine pq_iaload ?_
  refine Exists.intro _ (Exists.intro _ (And.intro (Or.inr hro) (And.intro (lx_bn2 hi e6) ?_)))
  have ha2_6 : a2 = xs m6.toInt.toNat := by rw [ha2, em6, ← m_a2]
  rw [← ha2_6]
  refine pq_aload_n0 (pq_iload_n3 (pq_iconst (pq_iadd ?_)))
  intro m7 em7
  have e7 : m7.toInt = i.toInt + 3 := lx_ad3 hi hL em7
  refine pq_iaload ?_
  refine Exists.intro _ (Exists.intro _ (And.intro (Or.inr hro) (And.intro (lx_bn3 hi e7) ?_)))
  have ha3_7 : a3 = xs m7.toInt.toNat := by rw [ha3, em7, ← m_a3]
  rw [← ha3_7]
  refine pq_aload_n0 (pq_iload_n3 (pq_iconst (pq_iadd ?_)))
  intro m8 em8
  have e8 : m8.toInt = i.toInt + 4 := lx_ad4 hi hL em8
  refine pq_iaload ?_
  refine Exists.intro _ (Exists.intro _ (And.intro (Or.inr hro) (And.intro (lx_bn4 hi e8) ?_)))
  have ha4_8 : a4 = xs m8.toInt.toNat := by rw [ha4, em8, ← m_a4]
  rw [← ha4_8]
  refine pq_iv4_11 ?_
  rw [cw_md D dj]
  refine And.intro (Exists.intro _ (md_o)) (Exists.intro _ (Exists.intro _ (Exists.intro _ (Exists.intro _ (And.intro (F_X11_kth D mv mf hv hf a1 a2 a3 a4 ) (And.intro (lw_bnd rfl (lx_c2 hc (by decide)) (lx_c2 hs0 (by decide)) rfl) (fun r9 A9 h9 => ?_)))))))
  obtain ⟨y1226, mv1226, mf1226, rfl, rfl, hv1226, hf1226, hx1226, hg1226_0, hg1226_1, by1226⟩ := h9
  refine pq_id1 (pq_pop (pq_goto ?_))
  exact cont _ _ _ ⟨A00, K, nn, dn, q, w, e, v1201, f1201, mq, mv1226, mf1226, M, (cw_md D dj).symm, rfl, hI, hS1201, D, hv1226, hf1226, dj, fun j hj => by rw [hx1226]; exact hw j hj, by omega, by omega, hR1, (rp_fr hR2 (by omega) hg1226_0 hg1226_1), (pm_eqI (by have q9 := congrArg Int32.toInt hg; omega)), (by omega), hN, hM, hB, hU⟩ (by omega) (by omega)

set_option maxRecDepth 100000 in
set_option maxHeartbeats 2000000 in
theorem lx_b27 (hC : pm_Cl l g (lw_ro b L xs) 7 600000 7302250 lw_Rt bk_L_law J) {i : Int32} (hi : 0 ≤ i.toInt ∧ i.toInt + 6 ≤ L) (hL : L ≤ 3072) {E : Nat} (hE : E < 1000) {A : pm_H} {c s : Nat} (hA : LX g xo h E A) (hc : c + 4 ≤ 600000) (hs0 : s + 485 ≤ 7302250) (cont : ∀ (A' : pm_H) (c' s' : Nat), LX g xo h (E + 1) A' → c' ≤ c + 4 → s' ≤ s + 485 → J 2563 [some (.ref b), some (.ref xo), some (.ref h), some (.int i)] [] A' c' s') : J 1233 [some (.ref b), some (.ref xo), some (.ref h), some (.int i)] [] A c s := by
  obtain ⟨A00, K, nn, dn, q, w, e, v, f, mq, mv, mf, M, rfl, rfl, hI, hS, D, hv, hf, dj, hw, hE1, hE2, hR1, hR2, hg, he0, hN, hM, hB, hU⟩ := hA
  have hu9 := hI.2.1
  unfold cw_W at hu9
  have hro : lw_ro b L xs b = some (L, xs) := if_pos rfl
  refine hC.1 27 1233 _ _ rfl _ _ _ _ _ ?_
  refine pq_aload_n1 (pq_aload_n0 (pq_iload_n3 (pq_iconst (pq_iadd ?_))))
  intro m1 em1
  have e1 : m1.toInt = i.toInt + 1 := lx_ad1 hi hL em1
  refine pq_iaload ?_
  refine Exists.intro _ (Exists.intro _ (And.intro (Or.inr hro) (And.intro (lx_bn1 hi e1) ?_)))
  obtain ⟨a1, ha1⟩ : ∃ z9, z9 = xs m1.toInt.toNat := ⟨_, rfl⟩
  have m_a1 := em1
  rw [← ha1]
  refine pq_aload_n0 (pq_iload_n3 (pq_iconst (pq_iadd ?_)))
  intro m2 em2
  have e2 : m2.toInt = i.toInt + 2 := lx_ad2 hi hL em2
  refine pq_iaload ?_
  refine Exists.intro _ (Exists.intro _ (And.intro (Or.inr hro) (And.intro (lx_bn2 hi e2) ?_)))
  obtain ⟨a2, ha2⟩ : ∃ z9, z9 = xs m2.toInt.toNat := ⟨_, rfl⟩
  have m_a2 := em2
  rw [← ha2]
  refine pq_aload_n0 (pq_iload_n3 (pq_iconst (pq_iadd ?_)))
  intro m3 em3
  have e3 : m3.toInt = i.toInt + 3 := lx_ad3 hi hL em3
  refine pq_iaload ?_
  refine Exists.intro _ (Exists.intro _ (And.intro (Or.inr hro) (And.intro (lx_bn3 hi e3) ?_)))
  obtain ⟨a3, ha3⟩ : ∃ z9, z9 = xs m3.toInt.toNat := ⟨_, rfl⟩
  have m_a3 := em3
  rw [← ha3]
  refine pq_iv3_10 ?_
  refine And.intro (Exists.intro _ (cw_o0 hI.1)) (Exists.intro _ (Exists.intro _ (Exists.intro _ (Exists.intro _ (And.intro (c_X10_absent hI hS a1 a2 a3 ) (And.intro (lw_bnd rfl (lx_c1 hc (by decide)) (lx_c1 hs0 (by decide)) rfl) (fun r9 A9 h9 => ?_)))))))
  obtain ⟨v1249, f1249, rfl, hS1249, y1249, rfl, by1249⟩ := h9
  refine pq_id1 (pq_pop (pq_aload_n2 (pq_aload_n0 (pq_iload_n3 (pq_iconst (pq_iadd ?_))))))
  intro m4 em4
  have e4 : m4.toInt = i.toInt + 1 := lx_ad1 hi hL em4
  refine pq_iaload ?_
  refine Exists.intro _ (Exists.intro _ (And.intro (Or.inr hro) (And.intro (lx_bn1 hi e4) ?_)))
  have ha1_4 : a1 = xs m4.toInt.toNat := by rw [ha1, em4, ← m_a1]
  rw [← ha1_4]
  refine pq_aload_n0 (pq_iload_n3 (pq_iconst (pq_iadd ?_)))
  intro m5 em5
  have e5 : m5.toInt = i.toInt + 2 := lx_ad2 hi hL em5
  refine pq_iaload ?_
  refine Exists.intro _ (Exists.intro _ (And.intro (Or.inr hro) (And.intro (lx_bn2 hi e5) ?_)))
  have ha2_5 : a2 = xs m5.toInt.toNat := by rw [ha2, em5, ← m_a2]
  rw [← ha2_5]
  refine pq_aload_n0 (pq_iload_n3 (pq_iconst (pq_iadd ?_)))
  intro m6 em6
  have e6 : m6.toInt = i.toInt + 3 := lx_ad3 hi hL em6
  refine pq_iaload ?_
  refine Exists.intro _ (Exists.intro _ (And.intro (Or.inr hro) (And.intro (lx_bn3 hi e6) ?_)))
  have ha3_6 : a3 = xs m6.toInt.toNat := by rw [ha3, em6, ← m_a3]
  rw [← ha3_6]
  refine pq_iv3_11 ?_
  rw [cw_md D dj]
  refine And.intro (Exists.intro _ (md_o)) (Exists.intro _ (Exists.intro _ (Exists.intro _ (Exists.intro _ (And.intro (c_X11_absent D mv mf hv hf a1 a2 a3 ) (And.intro (lw_bnd rfl (lx_c2 hc (by decide)) (lx_c2 hs0 (by decide)) rfl) (fun r9 A9 h9 => ?_)))))))
  obtain ⟨y1269, rfl, rfl, by1269⟩ := h9
  refine pq_id1 (pq_pop (pq_goto ?_))
  clear hu9
  exact cont _ _ _ ⟨A00, K, nn, dn, q, w, e, v1249, f1249, mq, mv, mf, M, (cw_md D dj).symm, rfl, hI, hS1249, D, hv, hf, dj, fun j hj => by exact hw j hj, by omega, by omega, hR1, hR2, hg, (by omega), hN, hM, hB, hU⟩ (by omega) (by omega)
end
end
