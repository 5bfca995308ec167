
set_option maxHeartbeats 4000000 in
theorem pm_Mt_of {l : Launch} {g : pm_G} {n d mc ms : Nat} {as : List Value} {A : pm_H} {Q : Option Value → pm_H → Prop} {y : MethodName} {cc : ByteArray} {mx na kd : Nat} {rt : Option FieldType} {isI : Bool} (own : Nat) (b : pm_B) (he : pm_me n = (y, cc, mx, rt, na, kd)) (hp : plainFor y = true) (hcl : pm_nm own = y.cls) (hI : isI = true → y.name = "<init>") (hok : pm_oks own isI mx rt cc b = true) (hca : pm_cat mx as = true)
    (body : ∀ J : pm_J, pm_Cl l g (fun _ => none) d mc ms (pm_Rq mc ms Q) b J → J 0 (pm_l0 mx as) [] A 0 0) : pm_Mt l g n d mc ms as A Q := by
  intro sz
  have hws : pm_ws n = .code y cc mx rt :: pm_W := by unfold pm_ws; rw [he]
  have hme : (pm_me n).1 = y := by rw [he]
  rw [hws, hme]
  simp only [pm_cat, Bool.and_eq_true, List.all_eq_true] at hca
  have hca1 : ∀ v ∈ as, v.category = 1 := fun v hv => Nat.eq_of_beq_eq_true (hca.1 v hv)
  have hca2 : as.length ≤ mx := Nat.le_of_ble_eq_true hca.2
  refine MetFree.of_bodySF (code := cc) (maxLocals := mx) (ret := rt) hp ?_ ?_
  · intro args s m h hn
    obtain ⟨meth, c, h1, h2, h3, h4, h5, h6, -, -⟩ := Cond.code_spec hn (atoms_spec (ws := .code y cc mx rt :: pm_W) h _ List.mem_cons_self)
    exact ⟨meth, c, h1, h2, h3, h4, h5, h6⟩
  · intro p e s m args below meth c s₁ B hml hP _
    obtain ⟨rfl, hsz, hH, hK⟩ := hP
    subst hsz
    have hh0 : s₁.heap = s.heap := by rw [B.state]; rfl
    have hts0 := atoms_spec (ws := .code y cc mx rt :: pm_W) B.pre
    have hts : ∀ w ∈ pm_W, w.before as.toArray s = true := fun w hw => hts0 w (List.mem_cons_of_mem _ hw)
    have hown : s.vm.findClass (pm_nm own) = some m.cls := by rw [hcl]; exact findClass_of_methodNamed B.named
    have hin : isI = true → meth.name = "<init>" := fun h => ((name_of_methodNamed B.named B.method).1).trans (hI h)
    have hr := B.returns
    have hlocks := B.notSynchronized
    have C : pm_Cx p l e ({ frames := d, cells := mc, slots := ms, locals := 40 * d }) s m as.toArray below meth c (MQ below (pm_Qc g A s.heap.size Q) as.toArray s mc ms (pm_fr A s.heap.size)) g own mx isI rt cc (fun _ => none) d mc ms (pm_Rq mc ms Q) (pm_fr A s.heap.size) := by
      refine ⟨B.exec, B.bytes, hml, hown, hts, hK, fun q h => Or.inr h, fun b n f h => (by cases h), hin, ⟨Nat.le_refl _, Nat.le_refl _, Nat.le_refl _, Nat.le_refl _⟩, ?_⟩
      intro v A' cells slots H locs ls pc ins hR hH' hd' hS' hdg hk
      obtain ⟨hcs, hQ⟩ := hR
      simp only [Bool.and_eq_true] at hcs
      refine W.widen (Nat.le_of_ble_eq_true hcs.1) (Nat.le_of_ble_eq_true hcs.2) ?_
      have hq : ∀ t : State, t.heap = H → pm_Qc g A s.heap.size Q as.toArray s (.returned v) t := fun t ht => ⟨v, A', rfl, hQ, by rw [ht]; exact hH', hd', by rw [ht]; exact hS'.1, fun q h1 h2 => by rw [ht]; exact hS'.2.1 q h1 h2⟩
      rcases hk with ⟨rfl, x, rfl, hrt | ⟨hrt, hx01⟩⟩ | ⟨rfl, hrt, x, rfl⟩ | ⟨rfl, ⟨nm, hrt⟩, w, rfl, hw⟩ | ⟨rfl, hrt, rfl⟩
      · subst hrt
        exact W.iret B.exec B.bytes hr (fun t ht _ => hq t ht) hS'.2.2 hdg
      · subst hrt
        exact W.zret B.exec B.bytes hr (by rcases hx01 with rfl | rfl <;> rfl) (fun t ht _ => hq t ht) hS'.2.2 hdg
      · subst hrt
        exact W.lret B.exec B.bytes hr (fun t ht _ => hq t ht) hS'.2.2 hdg
      · subst hrt
        exact W.aret B.exec B.bytes hr (Or.inl ⟨nm, rfl⟩) hw (fun t ht _ => hq t ht) hS'.2.2 hdg
      · subst hrt
        exact W.vret B.exec B.bytes hr (fun t ht _ => hq t ht) hS'.2.2 hdg
    have K := body _ ⟨fun k pc ops fin hk L st A' c' s' h => pm_sound C fin ops pc L st A' c' s' (by
      simp only [pm_oks, List.all_eq_true] at hok
      exact hok _ (List.mem_of_getElem? hk)) h, fun bs pc L st A' c' s' h H locs ls a1 a2 a3 a4 => h H locs ls a1 a2 a3 (pm_lv_mask bs a4)⟩
    have hl := lv_entry as (n := mx) (by rw [pm_sl_len as hca1]; exact hca2)
    have K2 := K s.heap [] _ hH (fun q h => Or.inl h) va_S.rf (pm_lv_l0 hca1 hl)
    rw [← lg_entry_eq] at K2
    obtain ⟨t, a1, o, b1, b2, b3⟩ := K2 s₁ hh0 (Stand.of_body B)
    exact ⟨t, o, a1, b1, b2, b3.1, b3.2⟩

