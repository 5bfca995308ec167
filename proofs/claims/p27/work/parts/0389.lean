
def nm0 (L : List pl_P) : Prop := ∀ p ∈ L, 0 ≤ p.2.toInt
theorem nm_si {L : List pl_P} (h : nm0 L) (a b : Int) : nm0 (si L a b) := fun p hp => h p (List.mem_of_mem_drop (List.mem_of_mem_take hp))
theorem nm_app {A B : List pl_P} (hA : nm0 A) (hB : nm0 B) : nm0 (A ++ B) := fun p hp => (List.mem_append.mp hp).elim (hA p) (hB p)
theorem nm_rev {A : List pl_P} (h : nm0 A) : nm0 A.reverse := fun p hp => h p (List.mem_reverse.mp hp)
theorem nm_flt {A : List pl_P} (h : nm0 A) (g : pl_P → Bool) : nm0 (A.filter g) := fun p hp => h p (List.mem_filter.mp hp).1
theorem nm_map {A : List pl_P} (h : nm0 A) (g : Int32 → Int32) : nm0 (A.map (fun p => (g p.1, p.2))) := fun p hp => by
  obtain ⟨q, hq, rfl⟩ := List.mem_map.mp hp
  exact h q hq
theorem nm_st {A : List pl_P} (h : nm0 A) : ∀ c, nm0 (st_l A c)
  | 0 => fun _ hp => absurd hp List.not_mem_nil
  | c + 1 => nm_app (nm_st h c) (nm_flt h _)
theorem nm_nw : ∀ (cs : List Int32) (g : Int32), 0 ≤ g.toInt → g.toInt + (cs.length : Int) < 2147483647 → nm0 (nw_l g cs)
  | [], _, _, _ => fun _ hp => absurd hp List.not_mem_nil
  | c :: r, g, h0, hb => by
    have h1 : ((c :: r).length : Int) = (r.length : Int) + 1 := by simp
    have h2 : (g + 1).toInt = g.toInt + 1 := pm_addc g 1 1 rfl (by omega) (by omega)
    intro p hp
    rcases List.mem_cons.mp hp with h | h
    · rw [h]; exact h0
    · exact nm_nw r (g + 1) (by omega) (by omega) p h
theorem nm_cut {L : List pl_P} {l r : Int32} (h : nm0 L) : nm0 ((ed_cut L l r).getD L) := by
  unfold ed_cut
  split
  · exact nm_app (nm_si h _ _) (nm_si h _ _)
  · exact h
theorem nm_insert {L : List pl_P} {g p c : Int32} (h : nm0 L) (hg : 0 ≤ g.toInt) : nm0 ((ed_insert L g p c).getD L) := by
  unfold ed_insert
  split
  · exact nm_app (nm_app (nm_si h _ _) (fun q hq => by rw [List.mem_singleton.mp hq]; exact hg)) (nm_si h _ _)
  · exact h
theorem nm_shift {L : List pl_P} {l r n : Int32} (h : nm0 L) : nm0 ((ed_shift L l r n).getD L) := by
  unfold ed_shift
  split
  · exact nm_app (nm_app (nm_app (nm_si h _ _) (nm_si h _ _)) (nm_si h _ _)) (nm_si h _ _)
  · exact h
theorem nm_swap {L : List pl_P} {l r f t : Int32} (h : nm0 L) : nm0 ((ed_swap L l r f t).getD L) := by
  have k : ∀ a b c d : Int, nm0 (sw_l L a b c d) := fun a b c d => nm_app (nm_app (nm_app (nm_app (nm_si h _ _) (nm_si h _ _)) (nm_si h _ _)) (nm_si h _ _)) (nm_si h _ _)
  unfold ed_swap
  split
  · show nm0 (if _ then _ else _)
    split
    · exact k _ _ _ _
    · exact k _ _ _ _
  · exact h
theorem nm_turn {L : List pl_P} {l r : Int32} (h : nm0 L) : nm0 ((ed_turn L l r).getD L) := by
  unfold ed_turn
  split
  · exact nm_app (nm_app (nm_si h _ _) (nm_rev (nm_si h _ _))) (nm_si h _ _)
  · exact h
theorem nm_copy {L : List pl_P} {g l r p : Int32} (h : nm0 L) (hg : 0 ≤ g.toInt) : nm0 ((ed_copy L g l r p).getD L) := by
  unfold ed_copy
  split
  · rename_i hc
    exact nm_app (nm_app (nm_si h _ _) (nm_nw _ _ hg (by rw [List.length_map, si_len (by omega) (by omega) (by omega)]; omega))) (nm_si h _ _)
  · exact h
theorem nm_draw {L : List pl_P} {g s n k : Int32} (h : nm0 L) (hg : 0 ≤ g.toInt) : nm0 ((ed_draw L g s n k).getD L) := by
  unfold ed_draw
  split
  · rename_i hc
    exact nm_app h (nm_nw _ _ hg (by rw [dr_len]; omega))
  · exact h
theorem nm_sort {L : List pl_P} {l r : Int32} (h : nm0 L) : nm0 ((ed_sort L l r).getD L) := by
  unfold ed_sort
  split
  · exact nm_app (nm_app (nm_si h _ _) (nm_st (nm_si h _ _) _)) (nm_si h _ _)
  · exact h
theorem nm_paint {L : List pl_P} {l r c : Int32} (h : nm0 L) : nm0 ((ed_paint L l r c).getD L) := by
  unfold ed_paint
  split
  · have k : nm0 (rc_l L l.toInt r.toInt (fun _ => c)) := by
      unfold rc_l
      exact nm_app (nm_app (nm_si h _ _) (nm_map (nm_si h _ _) (fun _ => c))) (nm_si h _ _)
    exact k
  · exact h
theorem nm_merge {L : List pl_P} {a b : Int32} (h : nm0 L) : nm0 ((ed_merge L a b).getD L) := by
  unfold ed_merge
  split
  · exact nm_map h (fun c => if c = a then b else c)
  · exact h
theorem nm_exch {L : List pl_P} {a b : Int32} (h : nm0 L) : nm0 ((ed_exch L a b).getD L) := by
  unfold ed_exch
  split
  · exact nm_map h (fun c => if c = a then b else if c = b then a else c)
  · exact h

