
theorem md_out {A0 : pm_H} {g : pm_G} {h : Nat} {q : Nat → Nat} {v : Nat → Int32} {f : Nat → Nat → Int32} {x : Nat} (hx : x ≠ h) (hq : ∀ i, i < 20 → x ≠ q i) : md A0 g h q v f x = A0 x := by
  unfold md
  rw [if_neg hx]
  cases hf : (List.range 20).find? (fun j => decide (x = q j)) with
  | none => rfl
  | some j =>
    have h3 : x = q j := by simpa using List.find?_some hf
    have h4 := List.mem_range.mp (List.mem_of_find?_eq_some hf)
    exact absurd h3 (hq j h4)
theorem cw_md {A00 : pm_H} {g : pm_G} {h : Nat} {mq : Nat → Nat} {mv : Nat → Int32} {mf : Nat → Nat → Int32} {K nn dn : Nat} {q : Nat → Nat} {w : Nat → Int32} {e : Nat → Nat → Int32} {v : Nat → Int32} {f : Nat → Nat → Int32} (D : md_D h mq) (dj : ∀ i, i < 40 + 4 * K → q i ≠ h ∧ ∀ j, j < 20 → q i ≠ mq j) : cw (md A00 g h mq mv mf) g K nn dn q w e v f = md (cw A00 g K nn dn q w e v f) g h mq mv mf := by
  refine md_char ?_ (fun i hi => ?_) (fun x hx hq => ?_)
  · exact (gw_out (fun i hi => (dj i hi).1.symm)).trans md_o
  · exact (gw_out (fun j hj => ((dj j hj).2 i hi).symm)).trans (md_a D hi)
  · unfold cw gw
    cases hf : (List.range (40 + 4 * K)).find? (fun j => decide (x = q j)) with
    | none => exact md_out hx hq
    | some j => rfl
theorem lw_dj {A00 : pm_H} {g : pm_G} {h : Nat} {mq : Nat → Nat} {mv : Nat → Int32} {mf : Nat → Nat → Int32} {K K2 : Nat} {q q2 : Nat → Nat} (D : md_D h mq) (dj : ∀ i, i < 40 + 4 * K → q i ≠ h ∧ ∀ j, j < 20 → q i ≠ mq j) (hX : cw_X (md A00 g h mq mv mf) K q K2 q2) : ∀ i, i < 40 + 4 * K2 → q2 i ≠ h ∧ ∀ j, j < 20 → q2 i ≠ mq j := by
  intro i hi
  by_cases hk : i < 40 + 4 * K
  · rw [hX.2.1 i hk]
    exact dj i hk
  · have h1 := hX.2.2 i (by omega) hi
    refine ⟨fun e1 => ?_, fun j hj e1 => ?_⟩
    · rw [e1, md_o] at h1; cases h1
    · rw [e1, md_a D hj] at h1; cases h1
def lw_ro (b L : Nat) (xs : Nat → Int32) : Nat → Option (Nat × (Nat → Int32)) := fun a => if a = b then some (L, xs) else none
def lw_Rt : Option Value → pm_H → Nat → Nat → Prop := fun v _ c s => c ≤ 600000 ∧ s ≤ 7302250 ∧ v = some (.int 1)
theorem lw_bnd {d' d c mc' mc s ms' ms : Nat} {rest : List Value} (h1 : Nat.blt d' d = true) (h2 : c + mc' ≤ mc) (h3 : s + ms' ≤ ms) (h4 : pm_rm rest = true) : (Nat.blt d' d && (Nat.ble (c + mc') mc && (Nat.ble (s + ms') ms && pm_rm rest))) = true := by
  rw [h1, h4, Nat.ble_eq_true_of_le h2, Nat.ble_eq_true_of_le h3]
  rfl

