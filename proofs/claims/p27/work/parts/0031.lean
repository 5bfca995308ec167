
set_option maxHeartbeats 4000000 in
set_option maxRecDepth 100000 in
theorem pm_sound {p : Program} {l : Launch} {e : Env} {R : Room} {s : State} {m : MethodId} {args : Array Value} {below : List Frame} {meth : Method} {c : Code} {Q : State → Prop} {g : pm_G} {own nL : Nat} {isI : Bool} {ret : Option FieldType} {cc : ByteArray} {ro : Nat → Option (Nat × (Nat → Int32))} {d mc ms : Nat} {Ret : Option Value → pm_H → Nat → Nat → Prop} {fr : Nat → Prop} (C : pm_Cx p l e R s m args below meth c Q g own nL isI ret cc ro d mc ms Ret fr) (fin : Nat) :
    ∀ (ops : List pm_Op) (pc : Nat) (L : pm_L) (st : List Value) (A : pm_H) (cells slots : Nat), pm_ok own nL isI ret cc fin pc ops = true → pm_wp l g ro d mc ms Ret (pm_Sem p l e R s m args below meth c Q g nL fr) fin ops L st A cells slots → pm_Sem p l e R s m args below meth c Q g nL fr pc L st A cells slots := by
  obtain ⟨hx, hb, hml, hown, hts, hK, hA, hro, hin, ⟨r1, r2, r3, r4⟩, hret⟩ := C
  intro ops
  induction ops with
  | nil =>
    intro pc L st A cells slots hok h
    have h1 : pc = fin := by simpa [pm_ok] using hok
    subst h1
    exact h
  | cons op r ih =>
    obtain ⟨ins, len, i, k, z⟩ := op
    intro pc L st A cells slots hok hw H locs ls hH hd hS hL
    simp only [pm_ok, Bool.and_eq_true, Bool.or_eq_true, decide_eq_true_eq] at hok
    obtain ⟨hdg, hln, hrs, htl⟩ := hok
    cases ins with
    | iconst n =>
      cases pm_len (n := 1) hln rfl rfl
      simp only [pm_rs, decide_eq_true_eq] at hrs
      exact lv_iconst hx hb hdg hrs (ih _ _ _ _ _ _ (pm_tlx htl rfl) hw H locs ls hH hd hS hL)
    | bipush n =>
      cases pm_len (n := 2) hln rfl rfl
      simp only [pm_rs, decide_eq_true_eq] at hrs
      exact lv_bipush hx hb hdg hrs (ih _ _ _ _ _ _ (pm_tlx htl rfl) hw H locs ls hH hd hS hL)
    | sipush n =>
      cases pm_len (n := 3) hln rfl rfl
      simp only [pm_rs, decide_eq_true_eq] at hrs
      exact lv_sipush hx hb hdg hrs (ih _ _ _ _ _ _ (pm_tlx htl rfl) hw H locs ls hH hd hS hL)
    | ldc n =>
      cases pm_len (n := 2) hln rfl rfl
      simp only [pm_rs, decide_eq_true_eq] at hrs
      exact lv_ldc hx hb hown (hts _ (pm_kl_ok _ hrs)) hdg (ih _ _ _ _ _ _ (pm_tlx htl rfl) hw H locs ls hH hd hS hL)
    | ldc_w n =>
      cases pm_len (n := 3) hln rfl rfl
      simp only [pm_rs, decide_eq_true_eq] at hrs
      exact lv_ldcw hx hb hown (hts _ (pm_kl_ok _ hrs)) hdg (ih _ _ _ _ _ _ (pm_tlx htl rfl) hw H locs ls hH hd hS hL)
    | aconst_null =>
      cases pm_len (n := 1) hln rfl rfl
      exact lv_null hx hb hdg (ih _ _ _ _ _ _ (pm_tlx htl rfl) hw H locs ls hH hd hS hL)
    | lconst n =>
      cases pm_len (n := 1) hln rfl rfl
      exact lv_lconst hx hb hdg rfl (ih _ _ _ _ _ _ (pm_tlx htl rfl) hw H locs ls hH hd hS hL)
    | iload n =>
      cases pm_len (n := 2) hln rfl rfl
      simp only [pm_rs, decide_eq_true_eq] at hrs
      obtain ⟨x, hg, h⟩ := pm_li_v hw
      subst hrs
      exact lv_iload hx hb hdg (pm_lv_at hL hg) (ih _ _ _ _ _ _ (pm_tlx htl rfl) h H locs ls hH hd hS hL)
    | iload_n n =>
      cases pm_len (n := 1) hln rfl rfl
      simp only [pm_rs, decide_eq_true_eq] at hrs
      obtain ⟨x, hg, h⟩ := pm_li_v hw
      exact lv_iload_n hx hb hdg hrs (pm_lv_at hL hg) (ih _ _ _ _ _ _ (pm_tlx htl rfl) h H locs ls hH hd hS hL)
    | lload_n n =>
      cases pm_len (n := 1) hln rfl rfl
      simp only [pm_rs, decide_eq_true_eq] at hrs
      obtain ⟨x, hg, h⟩ := pm_ll_v hw
      exact lv_lload_n hx hb hdg hrs (pm_lv_at hL hg) (ih _ _ _ _ _ _ (pm_tlx htl rfl) h H locs ls hH hd hS hL)
    | aload n =>
      cases pm_len (n := 2) hln rfl rfl
      simp only [pm_rs, decide_eq_true_eq] at hrs
      subst hrs
      rcases pm_lr_v hw with ⟨x, hg, h⟩ | ⟨hg, h⟩
      · exact lv_aload hx hb hdg (pm_lv_at hL hg) (ih _ _ _ _ _ _ (pm_tlx htl rfl) h H locs ls hH hd hS hL)
      · exact lv_aloadN hx hb hdg (pm_lv_at hL hg) (ih _ _ _ _ _ _ (pm_tlx htl rfl) h H locs ls hH hd hS hL)
    | aload_n n =>
      cases pm_len (n := 1) hln rfl rfl
      simp only [pm_rs, decide_eq_true_eq] at hrs
      rcases pm_lr_v hw with ⟨x, hg, h⟩ | ⟨hg, h⟩
      · exact lv_aload_n hx hb hdg hrs (pm_lv_at hL hg) (ih _ _ _ _ _ _ (pm_tlx htl rfl) h H locs ls hH hd hS hL)
      · exact lv_aload_nN hx hb hdg hrs (pm_lv_at hL hg) (ih _ _ _ _ _ _ (pm_tlx htl rfl) h H locs ls hH hd hS hL)
    | istore n =>
      cases pm_len (n := 2) hln rfl rfl
      simp only [pm_rs, decide_eq_true_eq] at hrs
      obtain ⟨rfl, h1⟩ := hrs
      obtain ⟨x, st, rfl, h⟩ := pm_si_v hw
      exact lv_istore hx hb hdg hL h1 rfl (fun ls' hl => ih _ _ _ _ _ _ (pm_tlx htl rfl) h H locs ls' hH hd hS (pm_lv_st hl))
    | istore_n n =>
      cases pm_len (n := 1) hln rfl rfl
      simp only [pm_rs, decide_eq_true_eq] at hrs
      obtain ⟨h0, h1⟩ := hrs
      obtain ⟨x, st, rfl, h⟩ := pm_si_v hw
      exact lv_istore_n hx hb hdg h0 hL h1 rfl (fun ls' hl => ih _ _ _ _ _ _ (pm_tlx htl rfl) h H locs ls' hH hd hS (pm_lv_st hl))
    | lstore_n n =>
      cases pm_len (n := 1) hln rfl rfl
      simp only [pm_rs, decide_eq_true_eq] at hrs
      obtain ⟨h0, h1⟩ := hrs
      obtain ⟨x, st, rfl, h⟩ := pm_sl_v hw
      exact lv_lstore_n hx hb hdg h0 hL h1 rfl (fun ls' hl => ih _ _ _ _ _ _ (pm_tlx htl rfl) h H locs ls' hH hd hS (pm_lv_st2 hl))
    | astore n =>
      cases pm_len (n := 2) hln rfl rfl
      simp only [pm_rs, decide_eq_true_eq] at hrs
      obtain ⟨rfl, h1⟩ := hrs
      rcases pm_srn_v hw with ⟨x, st, rfl, h⟩ | ⟨st, rfl, h⟩
      · exact lv_astore hx hb hdg hL h1 rfl (fun ls' hl => ih _ _ _ _ _ _ (pm_tlx htl rfl) h H locs ls' hH hd hS (pm_lv_st hl))
      · exact lv_astoreN hx hb hdg hL h1 rfl (fun ls' hl => ih _ _ _ _ _ _ (pm_tlx htl rfl) h H locs ls' hH hd hS (pm_lv_st hl))
    | astore_n n =>
      cases pm_len (n := 1) hln rfl rfl
      simp only [pm_rs, decide_eq_true_eq] at hrs
      obtain ⟨h0, h1⟩ := hrs
      rcases pm_srn_v hw with ⟨x, st, rfl, h⟩ | ⟨st, rfl, h⟩
      · exact lv_astore_n hx hb hdg h0 hL h1 rfl (fun ls' hl => ih _ _ _ _ _ _ (pm_tlx htl rfl) h H locs ls' hH hd hS (pm_lv_st hl))
      · exact lv_astore_nN hx hb hdg h0 hL h1 rfl (fun ls' hl => ih _ _ _ _ _ _ (pm_tlx htl rfl) h H locs ls' hH hd hS (pm_lv_st hl))
    | iinc j n =>
      cases pm_len (n := 3) hln rfl rfl
      simp only [pm_rs, decide_eq_true_eq] at hrs
      obtain ⟨rfl, h1, h2⟩ := hrs
      obtain ⟨x, hg, h⟩ := pm_li_v hw
      obtain ⟨k9, hk9⟩ := pm_lv_k hg
      exact lv_iinc hx hb hdg hL hk9 (by rw [h2]) h1 rfl (fun ls' hl => ih _ _ _ _ _ _ (pm_tlx htl rfl) (h _ rfl) H locs ls' hH hd hS (pm_lv_st hl))
    | iaload =>
      cases pm_len (n := 1) hln rfl rfl
      obtain ⟨x, a, st, rfl, n, f, hr, hi, h⟩ := pm_sir_v hw
      rcases hr with hr | hr
      · exact pm_w_iald hx hb hK hH hr hi hdg (ih _ _ _ _ _ _ (pm_tlx htl rfl) h H locs ls hH hd hS hL)
      · obtain ⟨h1, h2, h3⟩ := hro _ _ _ hr
        exact va_sld hx hb h3 h1 h2 hS (pm_in_of hi) hdg (ih _ _ _ _ _ _ (pm_tlx htl rfl) h H locs ls hH hd hS hL)
    | iastore =>
      cases pm_len (n := 1) hln rfl rfl
      obtain ⟨v, x, a, st, rfl, n, f, hr, hi, h⟩ := pm_siir_v hw
      have hfa := hd a (by rw [hr]; exact fun q => by cases q)
      exact pm_w_iast hx hb hK hH hr hi hdg (fun H1 j hH1 hz oq => ih _ _ _ _ _ _ (pm_tlx htl rfl) h H1 _ ls hH1 (pm_dom_up hd hfa) (pm_S_put hS hz oq hfa) hL)
    | aaload =>
      cases pm_len (n := 1) hln rfl rfl
      obtain ⟨x, a, st, rfl, n, f, hr, hi, h⟩ := pm_sir_v hw
      exact pm_w_aald hx hb hK hH hr hi hdg (ih _ _ _ _ _ _ (pm_tlx htl rfl) h H locs ls hH hd hS hL)
    | aastore =>
      cases pm_len (n := 1) hln rfl rfl
      obtain ⟨v, x, a, st, rfl, n, f, fs, hr, hv, hi, h⟩ := pm_srir_v hw
      have hfa := hd a (by rw [hr]; exact fun q => by cases q)
      exact pm_w_aast hx hb hK hH hr hv hi hdg (fun H1 j hH1 hz oq => ih _ _ _ _ _ _ (pm_tlx htl rfl) h H1 _ ls hH1 (pm_dom_up hd hfa) (pm_S_put hS hz oq hfa) hL)
    | arraylength =>
      cases pm_len (n := 1) hln rfl rfl
      obtain ⟨a, st, rfl, n, f, hr, h⟩ := pm_sr_v hw
      rcases hr with hr | hr
      · exact pm_w_alen hx hb hK hH hr hdg (ih _ _ _ _ _ _ (pm_tlx htl rfl) h H locs ls hH hd hS hL)
      · obtain ⟨h1, h2, h3⟩ := hro _ _ _ hr
        exact va_slen hx hb h3 h1 h2 hS hdg (ih _ _ _ _ _ _ (pm_tlx htl rfl) h H locs ls hH hd hS hL)
    | pop =>
      cases pm_len (n := 1) hln rfl rfl
      obtain ⟨x, st, rfl, h⟩ := pm_si_v hw
      exact lv_pop hx hb hdg rfl (ih _ _ _ _ _ _ (pm_tlx htl rfl) h H locs ls hH hd hS hL)
    | pop2 =>
      cases pm_len (n := 1) hln rfl rfl
      obtain ⟨x, st, rfl, h⟩ := pm_sl_v hw
      exact lv_pop2_2 hx hb hdg rfl (ih _ _ _ _ _ _ (pm_tlx htl rfl) h H locs ls hH hd hS hL)
    | dup =>
      cases pm_len (n := 1) hln rfl rfl
      rcases pm_sd_v hw with ⟨x, st, rfl, h⟩ | ⟨x, st, rfl, h⟩
      · exact lv_dup hx hb hdg rfl (ih _ _ _ _ _ _ (pm_tlx htl rfl) h H locs ls hH hd hS hL)
      · exact lv_dup hx hb hdg rfl (ih _ _ _ _ _ _ (pm_tlx htl rfl) h H locs ls hH hd hS hL)
    | dup2 =>
      cases pm_len (n := 1) hln rfl rfl
      obtain ⟨x, a, st, rfl, h⟩ := pm_sir_v hw
      exact lv_dup2_11 hx hb hdg rfl rfl (ih _ _ _ _ _ _ (pm_tlx htl rfl) h H locs ls hH hd hS hL)
    | iadd =>
      cases pm_len (n := 1) hln rfl rfl
      obtain ⟨x, y, st, rfl, h⟩ := pm_sii_v hw
      exact lv_iadd hx hb hdg (ih _ _ _ _ _ _ (pm_tlx htl rfl) (h _ rfl) H locs ls hH hd hS hL)
    | isub =>
      cases pm_len (n := 1) hln rfl rfl
      obtain ⟨x, y, st, rfl, h⟩ := pm_sii_v hw
      exact lv_isub hx hb hdg (ih _ _ _ _ _ _ (pm_tlx htl rfl) (h _ rfl) H locs ls hH hd hS hL)
    | imul =>
      cases pm_len (n := 1) hln rfl rfl
      obtain ⟨x, y, st, rfl, h⟩ := pm_sii_v hw
      exact lv_imul hx hb hdg (ih _ _ _ _ _ _ (pm_tlx htl rfl) (h _ rfl) H locs ls hH hd hS hL)
    | ishl =>
      cases pm_len (n := 1) hln rfl rfl
      obtain ⟨x, y, st, rfl, h⟩ := pm_sii_v hw
      exact lv_ishl hx hb hdg (ih _ _ _ _ _ _ (pm_tlx htl rfl) h H locs ls hH hd hS hL)
    | ishr =>
      cases pm_len (n := 1) hln rfl rfl
      obtain ⟨x, y, st, rfl, h⟩ := pm_sii_v hw
      exact lv_ishr hx hb hdg (ih _ _ _ _ _ _ (pm_tlx htl rfl) h H locs ls hH hd hS hL)
    | iand =>
      cases pm_len (n := 1) hln rfl rfl
      obtain ⟨x, y, st, rfl, h⟩ := pm_sii_v hw
      exact lv_iand hx hb hdg (ih _ _ _ _ _ _ (pm_tlx htl rfl) h H locs ls hH hd hS hL)
    | ior =>
      cases pm_len (n := 1) hln rfl rfl
      obtain ⟨x, y, st, rfl, h⟩ := pm_sii_v hw
      exact lv_ior hx hb hdg (ih _ _ _ _ _ _ (pm_tlx htl rfl) h H locs ls hH hd hS hL)
    | ixor =>
      cases pm_len (n := 1) hln rfl rfl
      obtain ⟨x, y, st, rfl, h⟩ := pm_sii_v hw
      exact lv_ixor hx hb hdg (ih _ _ _ _ _ _ (pm_tlx htl rfl) h H locs ls hH hd hS hL)
    | iushr =>
      cases pm_len (n := 1) hln rfl rfl
      obtain ⟨x, y, st, rfl, h⟩ := pm_sii_v hw
      exact lv_iushr hx hb hdg rfl (ih _ _ _ _ _ _ (pm_tlx htl rfl) h H locs ls hH hd hS hL)
    | idiv =>
      cases pm_len (n := 1) hln rfl rfl
      obtain ⟨x, y, st, rfl, h0, h⟩ := pm_sii_v hw
      exact lv_idiv hx hb hdg h0 (ih _ _ _ _ _ _ (pm_tlx htl rfl) (h _ rfl) H locs ls hH hd hS hL)
    | irem =>
      cases pm_len (n := 1) hln rfl rfl
      obtain ⟨x, y, st, rfl, h0, h⟩ := pm_sii_v hw
      exact lv_irem hx hb hdg h0 (ih _ _ _ _ _ _ (pm_tlx htl rfl) (h _ rfl) H locs ls hH hd hS hL)
    | ineg =>
      cases pm_len (n := 1) hln rfl rfl
      obtain ⟨x, st, rfl, h⟩ := pm_si_v hw
      exact lv_ineg hx hb hdg (ih _ _ _ _ _ _ (pm_tlx htl rfl) (h _ rfl) H locs ls hH hd hS hL)
    | i2l =>
      cases pm_len (n := 1) hln rfl rfl
      obtain ⟨x, st, rfl, h⟩ := pm_si_v hw
      exact lv_i2l hx hb hdg rfl (ih _ _ _ _ _ _ (pm_tlx htl rfl) h H locs ls hH hd hS hL)
    | ladd =>
      cases pm_len (n := 1) hln rfl rfl
      obtain ⟨x, y, st, rfl, h⟩ := pm_sll_v hw
      exact lv_ladd hx hb hdg (ih _ _ _ _ _ _ (pm_tlx htl rfl) h H locs ls hH hd hS hL)
    | lmul =>
      cases pm_len (n := 1) hln rfl rfl
      obtain ⟨x, y, st, rfl, h⟩ := pm_sll_v hw
      exact lv_lmul hx hb hdg (ih _ _ _ _ _ _ (pm_tlx htl rfl) h H locs ls hH hd hS hL)
    | lcmp =>
      cases pm_len (n := 1) hln rfl rfl
      obtain ⟨x, y, st, rfl, h⟩ := pm_sll_v hw
      exact W.lcmp hx hb hdg (ih _ _ _ _ _ _ (pm_tlx htl rfl) h H locs ls hH hd hS hL)
    | goto off =>
      cases pm_len (n := 3) hln rfl rfl
      simp only [pm_rs, decide_eq_true_eq] at hrs
      exact lv_goto (tgt := i) hx hb hdg hrs (hw H locs ls hH hd hS hL)
    | if_icmp cd off =>
      cases pm_len (n := 3) hln rfl rfl
      simp only [pm_rs, decide_eq_true_eq] at hrs
      cases cd with
      | eq =>
        obtain ⟨x, y, st, rfl, h⟩ := pm_sii_v hw
        exact lv_icmp_eq (tgt := i) hx hb hdg hrs (fun q => h.1 (q) H locs ls hH hd hS hL) (fun q => ih _ _ _ _ _ _ (pm_tlx htl rfl) (h.2 (q)) H locs ls hH hd hS hL)
      | ne =>
        obtain ⟨x, y, st, rfl, h⟩ := pm_sii_v hw
        exact lv_icmp_ne (tgt := i) hx hb hdg hrs (fun q => h.1 (q) H locs ls hH hd hS hL) (fun q => ih _ _ _ _ _ _ (pm_tlx htl rfl) (h.2 (q)) H locs ls hH hd hS hL)
      | lt =>
        obtain ⟨x, y, st, rfl, h⟩ := pm_sii_v hw
        exact lv_icmp_lt (tgt := i) hx hb hdg hrs (fun q => h.1 ((pm_lt _ _).mp q) H locs ls hH hd hS hL) (fun q => ih _ _ _ _ _ _ (pm_tlx htl rfl) (h.2 (by have := mt (pm_lt _ _).mpr q; omega)) H locs ls hH hd hS hL)
      | ge =>
        obtain ⟨x, y, st, rfl, h⟩ := pm_sii_v hw
        exact lv_icmp_ge (tgt := i) hx hb hdg hrs (fun q => h.1 ((pm_le _ _).mp q) H locs ls hH hd hS hL) (fun q => ih _ _ _ _ _ _ (pm_tlx htl rfl) (h.2 (by have := mt (pm_le _ _).mpr q; omega)) H locs ls hH hd hS hL)
      | gt =>
        obtain ⟨x, y, st, rfl, h⟩ := pm_sii_v hw
        exact lv_icmp_gt (tgt := i) hx hb hdg hrs (fun q => h.1 ((pm_lt _ _).mp q) H locs ls hH hd hS hL) (fun q => ih _ _ _ _ _ _ (pm_tlx htl rfl) (h.2 (by have := mt (pm_lt _ _).mpr q; omega)) H locs ls hH hd hS hL)
      | le =>
        obtain ⟨x, y, st, rfl, h⟩ := pm_sii_v hw
        exact lv_icmp_le (tgt := i) hx hb hdg hrs (fun q => h.1 ((pm_le _ _).mp q) H locs ls hH hd hS hL) (fun q => ih _ _ _ _ _ _ (pm_tlx htl rfl) (h.2 (by have := mt (pm_le _ _).mpr q; omega)) H locs ls hH hd hS hL)
    | ifCond cd off =>
      cases pm_len (n := 3) hln rfl rfl
      simp only [pm_rs, decide_eq_true_eq] at hrs
      cases cd with
      | eq =>
        obtain ⟨x, st, rfl, h⟩ := pm_si_v hw
        exact lv_if_eq (tgt := i) hx hb hdg hrs (fun q => h.1 (q) H locs ls hH hd hS hL) (fun q => ih _ _ _ _ _ _ (pm_tlx htl rfl) (h.2 (q)) H locs ls hH hd hS hL)
      | ne =>
        obtain ⟨x, st, rfl, h⟩ := pm_si_v hw
        exact lv_if_ne (tgt := i) hx hb hdg hrs (fun q => h.1 (q) H locs ls hH hd hS hL) (fun q => ih _ _ _ _ _ _ (pm_tlx htl rfl) (h.2 (q)) H locs ls hH hd hS hL)
      | lt =>
        obtain ⟨x, st, rfl, h⟩ := pm_si_v hw
        exact lv_if_lt (tgt := i) hx hb hdg hrs (fun q => h.1 ((pm_lt0 _).mp q) H locs ls hH hd hS hL) (fun q => ih _ _ _ _ _ _ (pm_tlx htl rfl) (h.2 (by have := mt (pm_lt0 _).mpr q; omega)) H locs ls hH hd hS hL)
      | ge =>
        obtain ⟨x, st, rfl, h⟩ := pm_si_v hw
        exact lv_if_ge (tgt := i) hx hb hdg hrs (fun q => h.1 ((pm_ge0 _).mp q) H locs ls hH hd hS hL) (fun q => ih _ _ _ _ _ _ (pm_tlx htl rfl) (h.2 (by have := mt (pm_ge0 _).mpr q; omega)) H locs ls hH hd hS hL)
      | gt =>
        obtain ⟨x, st, rfl, h⟩ := pm_si_v hw
        exact lv_if_gt (tgt := i) hx hb hdg hrs (fun q => h.1 ((pm_gt0 _).mp q) H locs ls hH hd hS hL) (fun q => ih _ _ _ _ _ _ (pm_tlx htl rfl) (h.2 (by have := mt (pm_gt0 _).mpr q; omega)) H locs ls hH hd hS hL)
      | le =>
        obtain ⟨x, st, rfl, h⟩ := pm_si_v hw
        exact lv_if_le (tgt := i) hx hb hdg hrs (fun q => h.1 ((pm_le0 _).mp q) H locs ls hH hd hS hL) (fun q => ih _ _ _ _ _ _ (pm_tlx htl rfl) (h.2 (by have := mt (pm_le0 _).mpr q; omega)) H locs ls hH hd hS hL)
    | ifnull off =>
      cases pm_len (n := 3) hln rfl rfl
      simp only [pm_rs, decide_eq_true_eq] at hrs
      rcases pm_srn_v hw with ⟨x, st, rfl, h⟩ | ⟨st, rfl, h⟩
      · exact lv_ifnull hx hb hdg (ih _ _ _ _ _ _ (pm_tlx htl rfl) h H locs ls hH hd hS hL)
      · exact lv_ifnullN (tgt := i) hx hb hdg hrs (h H locs ls hH hd hS hL)
    | ifnonnull off =>
      cases pm_len (n := 3) hln rfl rfl
      simp only [pm_rs, decide_eq_true_eq] at hrs
      rcases pm_srn_v hw with ⟨x, st, rfl, h⟩ | ⟨st, rfl, h⟩
      · exact lv_ifnonnull (tgt := i) hx hb hdg hrs (h H locs ls hH hd hS hL)
      · exact lv_ifnonnullN hx hb hdg (ih _ _ _ _ _ _ (pm_tlx htl rfl) h H locs ls hH hd hS hL)
    | tableswitch dflt lo hi offs =>
      simp only [pm_rs, Bool.and_eq_true, decide_eq_true_eq, List.all_eq_true] at hrs
      obtain ⟨⟨rfl, h1, h2⟩, h3⟩ := hrs
      obtain ⟨x, st, rfl, h⟩ := pm_si_v hw
      by_cases q1 : x.toInt < lo ∨ hi < x.toInt
      · exact lv_tableOut (tgt := ((pc : Int) + dflt).toNat) hx hb hdg q1 (by omega) (h _ (Or.inl ⟨q1, rfl⟩) H locs ls hH hd hS hL)
      · have q2 : ¬ x.toInt < lo := fun q => q1 (Or.inl q)
        have q3 : ¬ hi < x.toInt := fun q => q1 (Or.inr q)
        have q4 : (x.toInt - lo).toNat < offs.size := by omega
        have q5 : offs[(x.toInt - lo).toNat]? = some offs[(x.toInt - lo).toNat] := Array.getElem?_eq_getElem q4
        have q6 := h3 offs[(x.toInt - lo).toNat] (by rw [Array.mem_toList_iff]; exact Array.getElem_mem q4)
        exact lv_tableIn (tgt := ((pc : Int) + offs[(x.toInt - lo).toNat]).toNat) hx hb hdg q2 q3 q5 (by omega) (h _ (Or.inr ⟨q2, q3, _, q5, rfl⟩) H locs ls hH hd hS hL)
    | getfield idx =>
      cases pm_len (n := 3) hln rfl rfl
      simp only [pm_rs, decide_eq_true_eq] at hrs
      obtain ⟨a, st, rfl, fs, ha, h⟩ := pm_sr_v hw
      obtain ⟨v, hv, h⟩ := pm_ga_v h
      exact pm_w_get hx hb hown hts hK hH hrs ha hv hdg (ih _ _ _ _ _ _ (pm_tlx htl rfl) h H locs ls hH hd hS hL)
    | putfield idx =>
      cases pm_len (n := 3) hln rfl rfl
      simp only [pm_rs, Bool.and_eq_true, decide_eq_true_eq] at hrs
      obtain ⟨h1, h2, h3⟩ := hrs
      obtain ⟨v, a, st, rfl, fs, ha, hv, h⟩ := pm_svr_v hw
      simp only [Bool.and_eq_true] at hv
      obtain ⟨f1, f2⟩ := pm_fit h3 hv.1
      have hfa := hd a (by rw [ha]; exact fun q => by cases q)
      exact pm_w_put hx hb hown hts hK hH hin h1 h2 f1 f2 ha hv.2 hdg (fun H1 j hH1 hz oq => ih _ _ _ _ _ _ (pm_tlx htl rfl) h H1 _ ls hH1 (pm_dom_up hd hfa) (pm_S_put hS hz oq hfa) hL)
    | invokevirtual idx =>
      cases pm_len (n := 3) hln rfl rfl
      simp only [pm_rs, decide_eq_true_eq] at hrs
      obtain ⟨h1, h2, h3, h4, h5⟩ := hrs
      obtain ⟨as, b, rest, hna, rfl, ⟨fs, hb0⟩, d', mc', ms', Q', hM, hrm, h⟩ := pm_pv_v hw
      simp only [Bool.and_eq_true] at hrm
      obtain ⟨b1, b2, b3, b4⟩ := hrm
      have b1 : d' < d := by simpa using b1
      have b2 := Nat.le_of_ble_eq_true b2
      have b3 := Nat.le_of_ble_eq_true b3
      exact pm_w_callV hx hb hml hown hts hK hA hH hd hS hL.1 hM h1 h2 (hna.trans h3.symm) h5 h4 hb0 (by omega) (by omega) (by omega) (by omega) (pm_rme b4) hdg (fun rv A' H1 locs1 hq hH1 hd1 hS1 => ih _ _ _ _ _ _ (pm_tlx htl rfl) (h rv A' hq) H1 locs1 ls hH1 hd1 hS1 hL)
    | invokestatic idx =>
      cases pm_len (n := 3) hln rfl rfl
      simp only [pm_rs, decide_eq_true_eq] at hrs
      obtain ⟨h1, h2, h3⟩ := hrs
      obtain ⟨as, rest, hna, rfl, d', mc', ms', Q', hM, hrm, h⟩ := pm_ps_v hw
      simp only [Bool.and_eq_true] at hrm
      obtain ⟨b1, b2, b3, b4⟩ := hrm
      have b1 : d' < d := by simpa using b1
      have b2 := Nat.le_of_ble_eq_true b2
      have b3 := Nat.le_of_ble_eq_true b3
      exact pm_w_callS hx hb hml hown hts hK hA hH hd hS hL.1 hM h1 h2 (hna.trans h3.symm) (by omega) (by omega) (by omega) (by omega) (pm_rme b4) hdg (fun rv A' H1 locs1 hq hH1 hd1 hS1 => ih _ _ _ _ _ _ (pm_tlx htl rfl) (h rv A' hq) H1 locs1 ls hH1 hd1 hS1 hL)
    | invokespecial idx =>
      cases pm_len (n := 3) hln rfl rfl
      obtain ⟨b, rest, rfl, h⟩ := pm_sr_v hw
      replace h : pm_z0 z _ _ := h
      simp only [pm_rs] at hrs
      unfold pm_z0 at h
      rcases hz : z.toInt.toNat with _ | n0
      · rw [hz] at hrs h
        simp only [decide_eq_true_eq] at hrs
        obtain ⟨hrm, h⟩ := h
        simp only [Bool.and_eq_true] at hrm
        have b1 := Nat.le_of_ble_eq_true hrm.1
        have b4 := pm_rme hrm.2
        refine W.objInit hx hb hown (hts _ (pm_ol_ok _ hrs)) (hts _ pm_oi) (hts _ pm_oc) rfl (by rw [hml]; exact hL.1) rfl hdg (by omega) (by show 2 * 0 + _ + 12 ≤ _; omega) ?_
        exact ih _ _ _ _ _ _ (pm_tlx htl rfl) h H locs ls hH hd hS hL
      · rw [hz] at hrs h
        obtain ⟨d', mc', ms', Q', hM, hrm, h⟩ := h
        simp only [Bool.and_eq_true] at hrm
        obtain ⟨b1, b2, b3, b4⟩ := hrm
        have b1 : d' < d := by simpa using b1
        have b2 := Nat.le_of_ble_eq_true b2
        have b3 := Nat.le_of_ble_eq_true b3
        rcases n0 with _ | n0
        · simp only [decide_eq_true_eq] at hrs
          obtain ⟨h1, h2, h3⟩ := hrs
          exact pm_w_callI hx hb hml hown hts hK hA hH hd hS hL.1 hM h1 h2 h3.symm (by omega) (by omega) (by omega) (by omega) (pm_rme b4) hdg (fun rv A' H1 locs1 hq hH1 hd1 hS1 => ih _ _ _ _ _ _ (pm_tlx htl rfl) (h rv A' hq) H1 locs1 ls hH1 hd1 hS1 hL)
        · simp only [decide_eq_true_eq] at hrs
          obtain ⟨h1, h2, h3⟩ := hrs
          exact pm_w_callN hx hb hml hown hts hK hA hH hd hS hL.1 hM h1 h2 h3.symm (by omega) (by omega) (by omega) (by omega) (pm_rme b4) hdg (fun rv A' H1 locs1 hq hH1 hd1 hS1 => ih _ _ _ _ _ _ (pm_tlx htl rfl) (h rv A' hq) H1 locs1 ls hH1 hd1 hS1 hL)
    | new idx =>
      cases pm_len (n := 3) hln rfl rfl
      simp only [pm_rs, decide_eq_true_eq] at hrs
      obtain ⟨h1, rfl⟩ := hrs
      obtain ⟨hrm, h⟩ := hw
      simp only [Bool.and_eq_true] at hrm
      have b2 := Nat.le_of_ble_eq_true hrm.1
      have b3 := Nat.le_of_ble_eq_true hrm.2
      have hfz := hA H.size hS.1
      exact pm_w_new hx hb hown hts hK hH h1 (by omega) (by omega) hdg (fun H1 hH1 hz oq => ih _ _ _ _ _ _ (pm_tlx htl rfl) (h H.size (pm_hold_free hH (Nat.le_refl _))) H1 locs ls hH1 (pm_dom_up hd hfz) (pm_S_new hS (by omega) oq) hL)
    | newarray ty =>
      cases ty with
      | int =>
        cases pm_len (n := 2) hln rfl rfl
        simp only [pm_rs, decide_eq_true_eq] at hrs
        obtain ⟨n, st, rfl, rfl, hrm, h⟩ := pm_si_v hw
        simp only [Bool.and_eq_true] at hrm
        have b2 := Nat.le_of_ble_eq_true hrm.1
        have b3 := Nat.le_of_ble_eq_true hrm.2
        have hfz := hA H.size hS.1
        exact pm_w_newa hx hb hts hK hH hrs (by omega) (by omega) hdg (fun H1 hH1 hz oq => ih _ _ _ _ _ _ (pm_tlx htl rfl) (h H.size (pm_hold_free hH (Nat.le_refl _))) H1 locs ls hH1 (pm_dom_up hd hfz) (pm_S_new hS (by omega) oq) hL)
      | _ => exact False.elim hw
    | anewarray idx =>
      cases pm_len (n := 3) hln rfl rfl
      simp only [pm_rs, decide_eq_true_eq] at hrs
      obtain ⟨h1, h2⟩ := hrs
      obtain ⟨n, st, rfl, rfl, hrm, h⟩ := pm_si_v hw
      simp only [Bool.and_eq_true] at hrm
      have b2 := Nat.le_of_ble_eq_true hrm.1
      have b3 := Nat.le_of_ble_eq_true hrm.2
      have hfz := hA H.size hS.1
      exact pm_w_newq hx hb hown hts hK hH h1 h2 (by omega) (by omega) hdg (fun H1 hH1 hz oq => ih _ _ _ _ _ _ (pm_tlx htl rfl) (h H.size (pm_hold_free hH (Nat.le_refl _))) H1 locs ls hH1 (pm_dom_up hd hfz) (pm_S_new hS (by omega) oq) hL)
    | multianewarray idx dm =>
      cases pm_len (n := 4) hln rfl rfl
      simp only [pm_rs, decide_eq_true_eq] at hrs
      obtain ⟨rfl, rfl, rfl, h1, h2⟩ := hrs
      obtain ⟨n, m2, st, rfl, rfl, rfl, hrm, h⟩ := pm_sii_v hw
      simp only [Bool.and_eq_true] at hrm
      have b2 := Nat.le_of_ble_eq_true hrm.1
      have b3 := Nat.le_of_ble_eq_true hrm.2
      have hfz := hA H.size hS.1
      refine pm_w_mna hx hb hown hts hK hH h1 h2 (by omega) (by omega) hdg (fun H1 hH1 hz oq => ih _ _ _ _ _ _ (pm_tlx htl rfl) (h H.size (fun j => H.size + 1 + j) (pm_hold_free hH (Nat.le_refl _)) (fun j _ => pm_hold_free hH (by omega)) (fun j _ => by omega) (fun x y _ _ q => by omega)) H1 locs ls hH1 (fun q hq => ?_) (pm_S_new hS hz oq) hL)
      unfold pm_upm at hq
      by_cases q1 : q = H.size
      · rw [q1]; exact hfz
      · rw [if_neg q1] at hq
        by_cases q2 : ∃ j, j < i ∧ q = H.size + 1 + j
        · obtain ⟨j, -, rfl⟩ := q2
          exact hA _ (by have := hS.1; omega)
        · rw [if_neg q2] at hq
          exact hd q hq
    | ireturn =>
      cases pm_len (n := 1) hln rfl rfl
      simp only [pm_rs, decide_eq_true_eq] at hrs
      obtain ⟨v, st, rfl, rfl, h1, h⟩ := pm_si_v hw
      refine hret (some (.int v)) A cells slots H locs ls pc .ireturn h hH hd hS hdg (Or.inl ⟨rfl, v, rfl, ?_⟩)
      rcases hrs with ⟨-, q⟩ | ⟨q0, q⟩
      · exact Or.inl q
      · exact Or.inr ⟨q, h1 q0⟩
    | lreturn =>
      cases pm_len (n := 1) hln rfl rfl
      simp only [pm_rs, decide_eq_true_eq] at hrs
      obtain ⟨v, st, rfl, rfl, h⟩ := pm_sl_v hw
      exact hret (some (.long v)) A cells slots H locs ls pc .lreturn h hH hd hS hdg (Or.inr (Or.inl ⟨rfl, hrs, v, rfl⟩))
    | areturn =>
      cases pm_len (n := 1) hln rfl rfl
      have hrt : ∃ n, ret = some (.object n) := by
        simp only [pm_rs] at hrs
        split at hrs
        · exact ⟨_, rfl⟩
        · cases hrs
      rcases pm_srn_v hw with ⟨v, st, rfl, rfl, h⟩ | ⟨st, rfl, rfl, h⟩
      · exact hret (some (.ref v)) A cells slots H locs ls pc .areturn h hH hd hS hdg (Or.inr (Or.inr (Or.inl ⟨rfl, hrt, _, rfl, Or.inr ⟨v, rfl⟩⟩)))
      · exact hret (some .null) A cells slots H locs ls pc .areturn h hH hd hS hdg (Or.inr (Or.inr (Or.inl ⟨rfl, hrt, _, rfl, Or.inl rfl⟩)))
    | return_ =>
      cases pm_len (n := 1) hln rfl rfl
      simp only [pm_rs, decide_eq_true_eq] at hrs
      obtain ⟨rfl, h⟩ := hw
      exact hret none A cells slots H locs ls pc .return_ h hH hd hS hdg (Or.inr (Or.inr (Or.inr ⟨rfl, hrs, rfl⟩)))
    | _ => exact False.elim hw

