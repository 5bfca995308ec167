section
variable {p : Program} {l : Launch} {e : Env} {R : Room} {s : State} {m : MethodId} {args : Array Value} {below : List Frame} {meth : Method} {c : Code} {H : Heap} {locs : List Loc} {cells slots : Nat} {Q : State → Prop}
variable {cc : ByteArray} {pc : Nat} {ls : Array Slot} {rest : List Value} {a : Nat} {g : pm_G} {A : pm_H} {own : Nat} {fr : Nat → Prop}
theorem pm_w_get (hx : p.tables.exec = Jvm.exec) (hb : c.code = cc) (hown : s.vm.findClass (pm_nm own) = some m.cls) (hts : ∀ w ∈ pm_W, w.before args s = true) (hK : pm_K g s) (hH : pm_hold g A H) {idx ci k : Nat} {fs : List Value} {v : Value} (hm : (own, idx, ci, k) ∈ pm_fl) (ha : A a = some (pm_ob ci fs)) (hv : pm_at fs k = some v) (hdg : decode cc pc = .ok (.getfield idx, 3))
    (kk : W p l e R s m args below meth c H locs cells slots Q (F0 m (pc + 3) ls (v :: rest))) : W p l e R s m args below meth c H locs cells slots Q (F0 m pc ls (.ref a :: rest)) := by
  obtain ⟨h1, h2, h3⟩ := pm_fl_ok _ hm
  exact va_get (D := g.1) (cl := vwCl) (C := (pm_cT ci).1) (T := (pm_cT ci).2.1) (N := (pm_cT ci).2.2) hx hb hts (pm_u_ok ci h2) hown hK.1 (pm_P1 (hH a _ ha)) 0 rfl (pm_cl_at h2) k h3 (hts _ h1) (fun _ h => h) (by rw [← pm_at_get]; exact hv) hdg kk
theorem pm_fit {ci k : Nat} {z : Nat} {v : Value} (hz : (match pm_tys ci k with
    | .int => decide (z = 0)
    | .object _ => decide (z = 1)
    | .array _ => decide (z = 1)
    | _ => false) = true) (hv : pm_vk z v = true) : narrow (pm_tys ci k) v = v ∧ fits (pm_tys ci k) v = true := by
  cases ht : pm_tys ci k <;> rw [ht] at hz <;> simp at hz <;> subst hz <;> cases v <;> simp [pm_vk] at hv <;> exact ⟨rfl, rfl⟩
end
