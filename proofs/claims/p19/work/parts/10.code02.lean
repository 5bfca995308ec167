section
/-! blocks, by a program -/
noncomputable def bk_X10_solve : pm_B := [(0, [(.iconst 0, 1, 0, 0, 0), (.istore_n 1, 1, 1, 0, 0), (.iconst 0, 1, 0, 0, 0), (.istore_n 2, 1, 2, 0, 0)], 4),
  (4, [(.iload_n 2, 1, 2, 0, 0), (.aload_n 0, 1, 0, 0, 0), (.getfield 68, 3, 10, 8, 0), (.getfield 172, 3, 5, 5, 0), (.if_icmp .ge 64, 3, 76, 0, 0), (.aload_n 0, 1, 0, 0, 0), (.getfield 68, 3, 10, 8, 0), (.getfield 351, 3, 5, 4, 0), (.iload_n 2, 1, 2, 0, 0), (.iaload, 1, 0, 0, 0), (.istore_n 3, 1, 3, 0, 0), (.iload_n 3, 1, 3, 0, 0), (.iconst (-1), 1, 0, 0, -1), (.if_icmp .ne 13, 3, 40, 0, 0), (.aload_n 0, 1, 0, 0, 0), (.getfield 12, 3, 10, 0, 0), (.getfield 80, 3, 9, 4, 0), (.goto 11, 3, 48, 0, 0)], 40),
  (40, [(.aload_n 0, 1, 0, 0, 0), (.getfield 12, 3, 10, 0, 0), (.iload_n 3, 1, 3, 0, 0), (.invokevirtual 332, 3, 149, 1, 9)], 48),
  (48, [(.astore 4, 2, 4, 0, 0), (.aload_n 0, 1, 0, 0, 0), (.getfield 68, 3, 10, 8, 0), (.iload_n 2, 1, 2, 0, 0), (.aload 4, 2, 4, 0, 0), (.aload_n 0, 1, 0, 0, 0), (.getfield 19, 3, 10, 1, 0), (.invokevirtual 353, 3, 162, 3, 5), (.ifCond .eq 6, 3, 70, 0, 0), (.iinc 1 1, 3, 1, 0, 1)], 70),
  (70, [(.iinc 2 1, 3, 2, 0, 1), (.goto (-69), 3, 4, 0, 0)], 76),
  (76, [(.iload_n 1, 1, 1, 0, 0), (.ireturn, 1, 0, 0, 0)], 78)]
set_option maxRecDepth 100000 in
theorem ok_X10_solve : pm_oks 10 false 5 (some .int) cX10_solve bk_X10_solve = true := oksG_ok (by decide +kernel)
set_option maxRecDepth 100000 in
theorem me_X10_solve : pm_me 161 = (yX10_solve, cX10_solve, 5, (some .int), 0, 0) := pm_mq_ok rfl
theorem mt_X10_solve {l : Launch} {g : pm_G} {d mc ms : Nat} {as : List Value} {A : pm_H} {Q : Option Value → pm_H → Prop} (hca : pm_cat 5 as = true) (body : ∀ J : pm_J, pm_Cl l g (fun _ => none) d mc ms (pm_Rq mc ms Q) bk_X10_solve J → J 0 (pm_l0 5 as) [] A 0 0) : pm_Mt l g 161 d mc ms as A Q := pm_Mt_of (isI := false) 10 bk_X10_solve me_X10_solve (plainFor_of_name plX10) rfl (fun h => by cases h) ok_X10_solve hca body
noncomputable def bk_X10_asked : pm_B := [(0, [(.aload_n 0, 1, 0, 0, 0), (.getfield 68, 3, 10, 8, 0), (.iload_n 1, 1, 1, 0, 0), (.iload_n 2, 1, 2, 0, 0), (.invokevirtual 357, 3, 164, 2, 5), (.ireturn, 1, 0, 0, 0)], 10)]
set_option maxRecDepth 100000 in
theorem ok_X10_asked : pm_oks 10 false 3 (some .int) cX10_asked bk_X10_asked = true := oksG_ok (by decide +kernel)
set_option maxRecDepth 100000 in
theorem me_X10_asked : pm_me 163 = (yX10_asked, cX10_asked, 3, (some .int), 2, 0) := pm_mq_ok rfl
theorem mt_X10_asked {l : Launch} {g : pm_G} {d mc ms : Nat} {as : List Value} {A : pm_H} {Q : Option Value → pm_H → Prop} (hca : pm_cat 3 as = true) (body : ∀ J : pm_J, pm_Cl l g (fun _ => none) d mc ms (pm_Rq mc ms Q) bk_X10_asked J → J 0 (pm_l0 3 as) [] A 0 0) : pm_Mt l g 163 d mc ms as A Q := pm_Mt_of (isI := false) 10 bk_X10_asked me_X10_asked (plainFor_of_name plX10) rfl (fun h => by cases h) ok_X10_asked hca body
noncomputable def bk_X10_forget : pm_B := [(0, [(.aload_n 0, 1, 0, 0, 0), (.getfield 68, 3, 10, 8, 0), (.getfield 172, 3, 5, 5, 0), (.istore_n 1, 1, 1, 0, 0), (.aload_n 0, 1, 0, 0, 0), (.getfield 68, 3, 10, 8, 0), (.iconst 0, 1, 0, 0, 0), (.putfield 172, 3, 5, 5, 0), (.iload_n 1, 1, 1, 0, 0), (.ireturn, 1, 0, 0, 0)], 18)]
set_option maxRecDepth 100000 in
theorem ok_X10_forget : pm_oks 10 false 2 (some .int) cX10_forget bk_X10_forget = true := oksG_ok (by decide +kernel)
set_option maxRecDepth 100000 in
theorem me_X10_forget : pm_me 165 = (yX10_forget, cX10_forget, 2, (some .int), 0, 0) := pm_mq_ok rfl
theorem mt_X10_forget {l : Launch} {g : pm_G} {d mc ms : Nat} {as : List Value} {A : pm_H} {Q : Option Value → pm_H → Prop} (hca : pm_cat 2 as = true) (body : ∀ J : pm_J, pm_Cl l g (fun _ => none) d mc ms (pm_Rq mc ms Q) bk_X10_forget J → J 0 (pm_l0 2 as) [] A 0 0) : pm_Mt l g 165 d mc ms as A Q := pm_Mt_of (isI := false) 10 bk_X10_forget me_X10_forget (plainFor_of_name plX10) rfl (fun h => by cases h) ok_X10_forget hca body
noncomputable def bk_X9_init : pm_B := [(0, [(.aload_n 0, 1, 0, 0, 0), (.invokespecial 3, 3, 0, 0, 0), (.aload_n 0, 1, 0, 0, 0), (.bipush 41, 2, 0, 0, 41), (.anewarray 9, 3, 41, 0, 0), (.putfield 11, 3, 9, 0, 1), (.aload_n 0, 1, 0, 0, 0), (.sipush 160, 3, 0, 0, 160), (.newarray .int, 2, 160, 0, 0), (.putfield 17, 3, 9, 1, 1), (.aload_n 0, 1, 0, 0, 0), (.bipush 24, 2, 0, 0, 24), (.newarray .int, 2, 24, 0, 0), (.putfield 21, 3, 9, 2, 1), (.aload_n 0, 1, 0, 0, 0), (.new 9, 3, 7, 5, 0), (.dup, 1, 0, 0, 0), (.invokespecial 24, 3, 2, 0, 2), (.putfield 25, 3, 9, 4, 1), (.aload_n 0, 1, 0, 0, 0), (.aload_n 0, 1, 0, 0, 0), (.getfield 25, 3, 9, 4, 0), (.putfield 29, 3, 9, 3, 1), (.aload_n 0, 1, 0, 0, 0), (.getfield 11, 3, 9, 0, 0), (.iconst 0, 1, 0, 0, 0), (.aload_n 0, 1, 0, 0, 0), (.getfield 25, 3, 9, 4, 0), (.aastore, 1, 0, 0, 0), (.return_, 1, 0, 0, 0)], 60)]
set_option maxRecDepth 100000 in
theorem ok_X9_init : pm_oks 9 true 1 none cX9_init bk_X9_init = true := oksG_ok (by decide +kernel)
set_option maxRecDepth 100000 in
theorem me_X9_init : pm_me 1 = (yX9_init, cX9_init, 1, none, 0, 2) := pm_mq_ok rfl
theorem mt_X9_init {l : Launch} {g : pm_G} {d mc ms : Nat} {as : List Value} {A : pm_H} {Q : Option Value → pm_H → Prop} (hca : pm_cat 1 as = true) (body : ∀ J : pm_J, pm_Cl l g (fun _ => none) d mc ms (pm_Rq mc ms Q) bk_X9_init J → J 0 (pm_l0 1 as) [] A 0 0) : pm_Mt l g 1 d mc ms as A Q := pm_Mt_of (isI := true) 9 bk_X9_init me_X9_init (plainFor_of_name plX9) rfl (fun _ => by decide +kernel) ok_X9_init hca body
noncomputable def bk_X9_begin : pm_B := [(0, [(.aload_n 0, 1, 0, 0, 0), (.getfield 32, 3, 9, 5, 0), (.iconst 1, 1, 0, 0, 1), (.iadd, 1, 0, 0, 0), (.bipush 41, 2, 0, 0, 41), (.invokestatic 42, 3, 17, 2, 0), (.istore_n 1, 1, 1, 0, 0), (.aload_n 0, 1, 0, 0, 0), (.getfield 11, 3, 9, 0, 0), (.iload_n 1, 1, 1, 0, 0), (.aaload, 1, 0, 0, 0), (.ifnonnull 16, 3, 34, 0, 0), (.aload_n 0, 1, 0, 0, 0), (.getfield 11, 3, 9, 0, 0), (.iload_n 1, 1, 1, 0, 0), (.new 9, 3, 7, 5, 0), (.dup, 1, 0, 0, 0), (.invokespecial 24, 3, 2, 0, 2), (.aastore, 1, 0, 0, 0)], 34),
  (34, [(.aload_n 0, 1, 0, 0, 0), (.aload_n 0, 1, 0, 0, 0), (.getfield 11, 3, 9, 0, 0), (.iload_n 1, 1, 1, 0, 0), (.aaload, 1, 0, 0, 0), (.putfield 29, 3, 9, 3, 1), (.aload_n 0, 1, 0, 0, 0), (.getfield 29, 3, 9, 3, 0), (.iconst 0, 1, 0, 0, 0), (.putfield 36, 3, 7, 3, 0), (.return_, 1, 0, 0, 0)], 53)]
set_option maxRecDepth 100000 in
theorem ok_X9_begin : pm_oks 9 false 2 none cX9_begin bk_X9_begin = true := oksG_ok (by decide +kernel)
set_option maxRecDepth 100000 in
theorem me_X9_begin : pm_me 16 = (yX9_begin, cX9_begin, 2, none, 0, 0) := pm_mq_ok rfl
theorem mt_X9_begin {l : Launch} {g : pm_G} {d mc ms : Nat} {as : List Value} {A : pm_H} {Q : Option Value → pm_H → Prop} (hca : pm_cat 2 as = true) (body : ∀ J : pm_J, pm_Cl l g (fun _ => none) d mc ms (pm_Rq mc ms Q) bk_X9_begin J → J 0 (pm_l0 2 as) [] A 0 0) : pm_Mt l g 16 d mc ms as A Q := pm_Mt_of (isI := false) 9 bk_X9_begin me_X9_begin (plainFor_of_name plX9) rfl (fun h => by cases h) ok_X9_begin hca body
noncomputable def bk_X9_keep : pm_B := [(0, [(.iload_n 1, 1, 1, 0, 0), (.istore_n 3, 1, 3, 0, 0)], 2),
  (2, [(.iload_n 3, 1, 3, 0, 0), (.iload_n 2, 1, 2, 0, 0), (.if_icmp .gt 50, 3, 54, 0, 0), (.aload_n 0, 1, 0, 0, 0), (.getfield 25, 3, 9, 4, 0), (.iload_n 3, 1, 3, 0, 0), (.invokevirtual 48, 3, 19, 1, 7), (.ifCond .eq 39, 3, 54, 0, 0), (.aload_n 0, 1, 0, 0, 0), (.aload_n 0, 1, 0, 0, 0), (.getfield 25, 3, 9, 4, 0), (.getfield 52, 3, 7, 0, 0), (.iload_n 3, 1, 3, 0, 0), (.iaload, 1, 0, 0, 0), (.aload_n 0, 1, 0, 0, 0), (.getfield 25, 3, 9, 4, 0), (.getfield 55, 3, 7, 1, 0), (.iload_n 3, 1, 3, 0, 0), (.iaload, 1, 0, 0, 0), (.aload_n 0, 1, 0, 0, 0), (.getfield 25, 3, 9, 4, 0), (.iload_n 3, 1, 3, 0, 0), (.invokevirtual 58, 3, 20, 1, 7), (.invokevirtual 62, 3, 22, 3, 9), (.iinc 3 1, 3, 3, 0, 1), (.goto (-49), 3, 2, 0, 0)], 54),
  (54, [(.return_, 1, 0, 0, 0)], 55)]
set_option maxRecDepth 100000 in
theorem ok_X9_keep : pm_oks 9 false 4 none cX9_keep bk_X9_keep = true := oksG_ok (by decide +kernel)
set_option maxRecDepth 100000 in
theorem me_X9_keep : pm_me 18 = (yX9_keep, cX9_keep, 4, none, 2, 0) := pm_mq_ok rfl
theorem mt_X9_keep {l : Launch} {g : pm_G} {d mc ms : Nat} {as : List Value} {A : pm_H} {Q : Option Value → pm_H → Prop} (hca : pm_cat 4 as = true) (body : ∀ J : pm_J, pm_Cl l g (fun _ => none) d mc ms (pm_Rq mc ms Q) bk_X9_keep J → J 0 (pm_l0 4 as) [] A 0 0) : pm_Mt l g 18 d mc ms as A Q := pm_Mt_of (isI := false) 9 bk_X9_keep me_X9_keep (plainFor_of_name plX9) rfl (fun h => by cases h) ok_X9_keep hca body
noncomputable def bk_X9_append : pm_B := [(0, [(.aload_n 0, 1, 0, 0, 0), (.getfield 29, 3, 9, 3, 0), (.getfield 36, 3, 7, 3, 0), (.istore 4, 2, 4, 0, 0), (.iload 4, 2, 4, 0, 0), (.ifCond .lt 11, 3, 22, 0, 0), (.iload 4, 2, 4, 0, 0), (.sipush 160, 3, 0, 0, 160), (.if_icmp .lt 4, 3, 23, 0, 0)], 22),
  (22, [(.return_, 1, 0, 0, 0)], 23),
  (23, [(.aload_n 0, 1, 0, 0, 0), (.getfield 29, 3, 9, 3, 0), (.getfield 52, 3, 7, 0, 0), (.iload 4, 2, 4, 0, 0), (.iload_n 1, 1, 1, 0, 0), (.iastore, 1, 0, 0, 0), (.aload_n 0, 1, 0, 0, 0), (.getfield 29, 3, 9, 3, 0), (.getfield 55, 3, 7, 1, 0), (.iload 4, 2, 4, 0, 0), (.iload_n 2, 1, 2, 0, 0), (.iastore, 1, 0, 0, 0), (.aload_n 0, 1, 0, 0, 0), (.getfield 17, 3, 9, 1, 0), (.iload 4, 2, 4, 0, 0), (.iload_n 3, 1, 3, 0, 0), (.iastore, 1, 0, 0, 0), (.aload_n 0, 1, 0, 0, 0), (.getfield 29, 3, 9, 3, 0), (.iload 4, 2, 4, 0, 0), (.iconst 1, 1, 0, 0, 1), (.iadd, 1, 0, 0, 0), (.putfield 36, 3, 7, 3, 0), (.return_, 1, 0, 0, 0)], 65)]
set_option maxRecDepth 100000 in
theorem ok_X9_append : pm_oks 9 false 5 none cX9_append bk_X9_append = true := oksG_ok (by decide +kernel)
set_option maxRecDepth 100000 in
theorem me_X9_append : pm_me 22 = (yX9_append, cX9_append, 5, none, 3, 0) := pm_mq_ok rfl
theorem mt_X9_append {l : Launch} {g : pm_G} {d mc ms : Nat} {as : List Value} {A : pm_H} {Q : Option Value → pm_H → Prop} (hca : pm_cat 5 as = true) (body : ∀ J : pm_J, pm_Cl l g (fun _ => none) d mc ms (pm_Rq mc ms Q) bk_X9_append J → J 0 (pm_l0 5 as) [] A 0 0) : pm_Mt l g 22 d mc ms as A Q := pm_Mt_of (isI := false) 9 bk_X9_append me_X9_append (plainFor_of_name plX9) rfl (fun h => by cases h) ok_X9_append hca body
noncomputable def bk_X9_keepAs : pm_B := [(0, [(.aload_n 0, 1, 0, 0, 0), (.getfield 25, 3, 9, 4, 0), (.iload_n 1, 1, 1, 0, 0), (.invokevirtual 48, 3, 19, 1, 7), (.ifCond .eq 25, 3, 33, 0, 0), (.aload_n 0, 1, 0, 0, 0), (.iload_n 2, 1, 2, 0, 0), (.aload_n 0, 1, 0, 0, 0), (.getfield 25, 3, 9, 4, 0), (.getfield 55, 3, 7, 1, 0), (.iload_n 1, 1, 1, 0, 0), (.iaload, 1, 0, 0, 0), (.aload_n 0, 1, 0, 0, 0), (.getfield 25, 3, 9, 4, 0), (.iload_n 1, 1, 1, 0, 0), (.invokevirtual 58, 3, 20, 1, 7), (.invokevirtual 62, 3, 22, 3, 9)], 33),
  (33, [(.return_, 1, 0, 0, 0)], 34)]
set_option maxRecDepth 100000 in
theorem ok_X9_keepAs : pm_oks 9 false 3 none cX9_keepAs bk_X9_keepAs = true := oksG_ok (by decide +kernel)
set_option maxRecDepth 100000 in
theorem me_X9_keepAs : pm_me 23 = (yX9_keepAs, cX9_keepAs, 3, none, 2, 0) := pm_mq_ok rfl
theorem mt_X9_keepAs {l : Launch} {g : pm_G} {d mc ms : Nat} {as : List Value} {A : pm_H} {Q : Option Value → pm_H → Prop} (hca : pm_cat 3 as = true) (body : ∀ J : pm_J, pm_Cl l g (fun _ => none) d mc ms (pm_Rq mc ms Q) bk_X9_keepAs J → J 0 (pm_l0 3 as) [] A 0 0) : pm_Mt l g 23 d mc ms as A Q := pm_Mt_of (isI := false) 9 bk_X9_keepAs me_X9_keepAs (plainFor_of_name plX9) rfl (fun h => by cases h) ok_X9_keepAs hca body
noncomputable def bk_X9_finish : pm_B := [(0, [(.aload_n 0, 1, 0, 0, 0), (.getfield 21, 3, 9, 2, 0), (.iconst (-1), 1, 0, 0, -1), (.invokestatic 70, 3, 4, 2, 0), (.iconst 0, 1, 0, 0, 0), (.istore_n 1, 1, 1, 0, 0), (.iconst 0, 1, 0, 0, 0), (.istore_n 2, 1, 2, 0, 0)], 12),
  (12, [(.iload_n 2, 1, 2, 0, 0), (.aload_n 0, 1, 0, 0, 0), (.getfield 29, 3, 9, 3, 0), (.getfield 36, 3, 7, 3, 0), (.if_icmp .ge 72, 3, 92, 0, 0), (.aload_n 0, 1, 0, 0, 0), (.getfield 29, 3, 9, 3, 0), (.getfield 52, 3, 7, 0, 0), (.iload_n 2, 1, 2, 0, 0), (.iaload, 1, 0, 0, 0), (.istore_n 3, 1, 3, 0, 0), (.aload_n 0, 1, 0, 0, 0), (.getfield 29, 3, 9, 3, 0), (.getfield 76, 3, 7, 2, 0), (.iload_n 2, 1, 2, 0, 0), (.aload_n 0, 1, 0, 0, 0), (.getfield 21, 3, 9, 2, 0), (.iload_n 3, 1, 3, 0, 0), (.iaload, 1, 0, 0, 0), (.iastore, 1, 0, 0, 0), (.aload_n 0, 1, 0, 0, 0), (.getfield 21, 3, 9, 2, 0), (.iload_n 3, 1, 3, 0, 0), (.iload_n 2, 1, 2, 0, 0), (.iastore, 1, 0, 0, 0), (.aload_n 0, 1, 0, 0, 0), (.getfield 17, 3, 9, 1, 0), (.iload_n 2, 1, 2, 0, 0), (.iaload, 1, 0, 0, 0), (.bipush (-2), 2, 0, 0, -2), (.if_icmp .eq 23, 3, 86, 0, 0), (.aload_n 0, 1, 0, 0, 0), (.getfield 17, 3, 9, 1, 0), (.iload_n 2, 1, 2, 0, 0), (.iaload, 1, 0, 0, 0), (.aload_n 0, 1, 0, 0, 0), (.getfield 29, 3, 9, 3, 0), (.iload_n 2, 1, 2, 0, 0), (.invokevirtual 58, 3, 20, 1, 7), (.if_icmp .eq 6, 3, 86, 0, 0), (.iinc 1 1, 3, 1, 0, 1)], 86),
  (86, [(.iinc 2 1, 3, 2, 0, 1), (.goto (-77), 3, 12, 0, 0)], 92),
  (92, [(.aload_n 0, 1, 0, 0, 0), (.getfield 29, 3, 9, 3, 0), (.iload_n 1, 1, 1, 0, 0), (.putfield 79, 3, 7, 4, 0), (.aload_n 0, 1, 0, 0, 0), (.aload_n 0, 1, 0, 0, 0), (.getfield 29, 3, 9, 3, 0), (.putfield 25, 3, 9, 4, 1), (.aload_n 0, 1, 0, 0, 0), (.dup, 1, 0, 0, 0), (.getfield 32, 3, 9, 5, 0), (.iconst 1, 1, 0, 0, 1), (.iadd, 1, 0, 0, 0), (.putfield 32, 3, 9, 5, 0), (.aload_n 0, 1, 0, 0, 0), (.dup, 1, 0, 0, 0), (.getfield 82, 3, 9, 7, 0), (.iload_n 1, 1, 1, 0, 0), (.iadd, 1, 0, 0, 0), (.putfield 82, 3, 9, 7, 0), (.iload_n 1, 1, 1, 0, 0), (.ireturn, 1, 0, 0, 0)], 130)]
set_option maxRecDepth 100000 in
theorem ok_X9_finish : pm_oks 9 false 4 (some .int) cX9_finish bk_X9_finish = true := oksG_ok (by decide +kernel)
set_option maxRecDepth 100000 in
theorem me_X9_finish : pm_me 24 = (yX9_finish, cX9_finish, 4, (some .int), 0, 0) := pm_mq_ok rfl
theorem mt_X9_finish {l : Launch} {g : pm_G} {d mc ms : Nat} {as : List Value} {A : pm_H} {Q : Option Value → pm_H → Prop} (hca : pm_cat 4 as = true) (body : ∀ J : pm_J, pm_Cl l g (fun _ => none) d mc ms (pm_Rq mc ms Q) bk_X9_finish J → J 0 (pm_l0 4 as) [] A 0 0) : pm_Mt l g 24 d mc ms as A Q := pm_Mt_of (isI := false) 9 bk_X9_finish me_X9_finish (plainFor_of_name plX9) rfl (fun h => by cases h) ok_X9_finish hca body
noncomputable def bk_X9_hasRoomFor : pm_B := [(0, [(.aload_n 0, 1, 0, 0, 0), (.getfield 25, 3, 9, 4, 0), (.getfield 36, 3, 7, 3, 0), (.iload_n 1, 1, 1, 0, 0), (.iadd, 1, 0, 0, 0), (.sipush 160, 3, 0, 0, 160), (.if_icmp .gt 19, 3, 31, 0, 0), (.aload_n 0, 1, 0, 0, 0), (.getfield 39, 3, 9, 6, 0), (.iload_n 1, 1, 1, 0, 0), (.iadd, 1, 0, 0, 0), (.sipush 10000, 3, 0, 0, 10000), (.if_icmp .gt 7, 3, 31, 0, 0), (.iconst 1, 1, 0, 0, 1), (.goto 4, 3, 32, 0, 0)], 31),
  (31, [(.iconst 0, 1, 0, 0, 0)], 32),
  (32, [(.ireturn, 1, 1, 0, 0)], 33)]
set_option maxRecDepth 100000 in
theorem ok_X9_hasRoomFor : pm_oks 9 false 2 (some .boolean) cX9_hasRoomFor bk_X9_hasRoomFor = true := oksG_ok (by decide +kernel)
set_option maxRecDepth 100000 in
theorem me_X9_hasRoomFor : pm_me 27 = (yX9_hasRoomFor, cX9_hasRoomFor, 2, (some .boolean), 1, 0) := pm_mq_ok rfl
theorem mt_X9_hasRoomFor {l : Launch} {g : pm_G} {d mc ms : Nat} {as : List Value} {A : pm_H} {Q : Option Value → pm_H → Prop} (hca : pm_cat 2 as = true) (body : ∀ J : pm_J, pm_Cl l g (fun _ => none) d mc ms (pm_Rq mc ms Q) bk_X9_hasRoomFor J → J 0 (pm_l0 2 as) [] A 0 0) : pm_Mt l g 27 d mc ms as A Q := pm_Mt_of (isI := false) 9 bk_X9_hasRoomFor me_X9_hasRoomFor (plainFor_of_name plX9) rfl (fun h => by cases h) ok_X9_hasRoomFor hca body
noncomputable def bk_X9_add : pm_B := [(0, [(.aload_n 0, 1, 0, 0, 0), (.iload_n 1, 1, 1, 0, 0), (.aload_n 0, 1, 0, 0, 0), (.getfield 39, 3, 9, 6, 0), (.bipush (-2), 2, 0, 0, -2), (.invokevirtual 62, 3, 22, 3, 9), (.aload_n 0, 1, 0, 0, 0), (.dup, 1, 0, 0, 0), (.getfield 39, 3, 9, 6, 0), (.iconst 1, 1, 0, 0, 1), (.iadd, 1, 0, 0, 0), (.putfield 39, 3, 9, 6, 0), (.return_, 1, 0, 0, 0)], 22)]
set_option maxRecDepth 100000 in
theorem ok_X9_add : pm_oks 9 false 2 none cX9_add bk_X9_add = true := oksG_ok (by decide +kernel)
set_option maxRecDepth 100000 in
theorem me_X9_add : pm_me 28 = (yX9_add, cX9_add, 2, none, 1, 0) := pm_mq_ok rfl
theorem mt_X9_add {l : Launch} {g : pm_G} {d mc ms : Nat} {as : List Value} {A : pm_H} {Q : Option Value → pm_H → Prop} (hca : pm_cat 2 as = true) (body : ∀ J : pm_J, pm_Cl l g (fun _ => none) d mc ms (pm_Rq mc ms Q) bk_X9_add J → J 0 (pm_l0 2 as) [] A 0 0) : pm_Mt l g 28 d mc ms as A Q := pm_Mt_of (isI := false) 9 bk_X9_add me_X9_add (plainFor_of_name plX9) rfl (fun h => by cases h) ok_X9_add hca body
noncomputable def bk_X9_keepThoseOf : pm_B := [(0, [(.iload_n 2, 1, 2, 0, 0), (.istore 4, 2, 4, 0, 0)], 3),
  (3, [(.iload 4, 2, 4, 0, 0), (.iload_n 3, 1, 3, 0, 0), (.if_icmp .gt 42, 3, 48, 0, 0), (.aload_n 0, 1, 0, 0, 0), (.getfield 25, 3, 9, 4, 0), (.iload 4, 2, 4, 0, 0), (.invokevirtual 48, 3, 19, 1, 7), (.ifCond .eq 30, 3, 48, 0, 0), (.aload_n 0, 1, 0, 0, 0), (.getfield 25, 3, 9, 4, 0), (.getfield 52, 3, 7, 0, 0), (.iload 4, 2, 4, 0, 0), (.iaload, 1, 0, 0, 0), (.iload_n 1, 1, 1, 0, 0), (.if_icmp .ne 10, 3, 42, 0, 0), (.aload_n 0, 1, 0, 0, 0), (.iload 4, 2, 4, 0, 0), (.iload_n 1, 1, 1, 0, 0), (.invokevirtual 66, 3, 23, 2, 9)], 42),
  (42, [(.iinc 4 1, 3, 4, 0, 1), (.goto (-42), 3, 3, 0, 0)], 48),
  (48, [(.return_, 1, 0, 0, 0)], 49)]
set_option maxRecDepth 100000 in
theorem ok_X9_keepThoseOf : pm_oks 9 false 5 none cX9_keepThoseOf bk_X9_keepThoseOf = true := oksG_ok (by decide +kernel)
set_option maxRecDepth 100000 in
theorem me_X9_keepThoseOf : pm_me 33 = (yX9_keepThoseOf, cX9_keepThoseOf, 5, none, 3, 0) := pm_mq_ok rfl
theorem mt_X9_keepThoseOf {l : Launch} {g : pm_G} {d mc ms : Nat} {as : List Value} {A : pm_H} {Q : Option Value → pm_H → Prop} (hca : pm_cat 5 as = true) (body : ∀ J : pm_J, pm_Cl l g (fun _ => none) d mc ms (pm_Rq mc ms Q) bk_X9_keepThoseOf J → J 0 (pm_l0 5 as) [] A 0 0) : pm_Mt l g 33 d mc ms as A Q := pm_Mt_of (isI := false) 9 bk_X9_keepThoseOf me_X9_keepThoseOf (plainFor_of_name plX9) rfl (fun h => by cases h) ok_X9_keepThoseOf hca body
noncomputable def bk_X9_behind : pm_B := [(0, [(.iload_n 1, 1, 1, 0, 0), (.ifCond .lt 26, 3, 27, 0, 0), (.iload_n 1, 1, 1, 0, 0), (.aload_n 0, 1, 0, 0, 0), (.getfield 32, 3, 9, 5, 0), (.if_icmp .gt 18, 3, 27, 0, 0), (.iload_n 1, 1, 1, 0, 0), (.aload_n 0, 1, 0, 0, 0), (.getfield 32, 3, 9, 5, 0), (.bipush 40, 2, 0, 0, 40), (.isub, 1, 0, 0, 0), (.if_icmp .le 7, 3, 27, 0, 0), (.iconst 1, 1, 0, 0, 1), (.goto 4, 3, 28, 0, 0)], 27),
  (27, [(.iconst 0, 1, 0, 0, 0)], 28),
  (28, [(.istore_n 2, 1, 2, 0, 0), (.iload_n 2, 1, 2, 0, 0), (.ifCond .eq 15, 3, 45, 0, 0), (.aload_n 0, 1, 0, 0, 0), (.getfield 11, 3, 9, 0, 0), (.iload_n 1, 1, 1, 0, 0), (.bipush 41, 2, 0, 0, 41), (.irem, 1, 0, 0, 0), (.aaload, 1, 0, 0, 0), (.goto 4, 3, 46, 0, 0)], 45),
  (45, [(.aconst_null, 1, 0, 0, 0)], 46),
  (46, [(.areturn, 1, 0, 0, 0)], 47)]
set_option maxRecDepth 100000 in
theorem ok_X9_behind : pm_oks 9 false 3 (some (.object "SpanColours$Row")) cX9_behind bk_X9_behind = true := oksG_ok (by decide +kernel)
set_option maxRecDepth 100000 in
theorem me_X9_behind : pm_me 149 = (yX9_behind, cX9_behind, 3, (some (.object "SpanColours$Row")), 1, 0) := pm_mq_ok rfl
theorem mt_X9_behind {l : Launch} {g : pm_G} {d mc ms : Nat} {as : List Value} {A : pm_H} {Q : Option Value → pm_H → Prop} (hca : pm_cat 3 as = true) (body : ∀ J : pm_J, pm_Cl l g (fun _ => none) d mc ms (pm_Rq mc ms Q) bk_X9_behind J → J 0 (pm_l0 3 as) [] A 0 0) : pm_Mt l g 149 d mc ms as A Q := pm_Mt_of (isI := false) 9 bk_X9_behind me_X9_behind (plainFor_of_name plX9) rfl (fun h => by cases h) ok_X9_behind hca body
noncomputable def bk_X9_steadySince : pm_B := [(0, [(.aload_n 0, 1, 0, 0, 0), (.getfield 25, 3, 9, 4, 0), (.iload_n 1, 1, 1, 0, 0), (.invokevirtual 85, 3, 46, 1, 7), (.istore_n 2, 1, 2, 0, 0), (.iload_n 2, 1, 2, 0, 0), (.iconst (-1), 1, 0, 0, -1), (.if_icmp .ne 5, 3, 16, 0, 0), (.iconst (-1), 1, 0, 0, -1), (.ireturn, 1, 0, 0, 0)], 16),
  (16, [(.aload_n 0, 1, 0, 0, 0), (.getfield 25, 3, 9, 4, 0), (.iload_n 2, 1, 2, 0, 0), (.invokevirtual 58, 3, 20, 1, 7), (.istore_n 3, 1, 3, 0, 0), (.aload_n 0, 1, 0, 0, 0), (.getfield 32, 3, 9, 5, 0), (.iconst 1, 1, 0, 0, 1), (.isub, 1, 0, 0, 0), (.istore 4, 2, 4, 0, 0)], 33),
  (33, [(.iload 4, 2, 4, 0, 0), (.ifCond .lt 51, 3, 86, 0, 0), (.aload_n 0, 1, 0, 0, 0), (.iload 4, 2, 4, 0, 0), (.invokevirtual 88, 3, 149, 1, 9), (.astore 5, 2, 5, 0, 0), (.aload 5, 2, 5, 0, 0), (.ifnull 27, 3, 75, 0, 0), (.aload 5, 2, 5, 0, 0), (.iload_n 1, 1, 1, 0, 0), (.invokevirtual 92, 3, 154, 1, 7), (.ifCond .eq 18, 3, 75, 0, 0), (.aload 5, 2, 5, 0, 0), (.aload 5, 2, 5, 0, 0), (.iload_n 1, 1, 1, 0, 0), (.invokevirtual 85, 3, 46, 1, 7), (.invokevirtual 58, 3, 20, 1, 7), (.iload_n 3, 1, 3, 0, 0), (.if_icmp .eq 8, 3, 80, 0, 0)], 75),
  (75, [(.iload 4, 2, 4, 0, 0), (.iconst 1, 1, 0, 0, 1), (.iadd, 1, 0, 0, 0), (.ireturn, 1, 0, 0, 0)], 80),
  (80, [(.iinc 4 (-1), 3, 4, 0, -1), (.goto (-50), 3, 33, 0, 0)], 86),
  (86, [(.iconst 0, 1, 0, 0, 0), (.ireturn, 1, 0, 0, 0)], 88)]
set_option maxRecDepth 100000 in
theorem ok_X9_steadySince : pm_oks 9 false 6 (some .int) cX9_steadySince bk_X9_steadySince = true := oksG_ok (by decide +kernel)
set_option maxRecDepth 100000 in
theorem me_X9_steadySince : pm_me 153 = (yX9_steadySince, cX9_steadySince, 6, (some .int), 1, 0) := pm_mq_ok rfl
theorem mt_X9_steadySince {l : Launch} {g : pm_G} {d mc ms : Nat} {as : List Value} {A : pm_H} {Q : Option Value → pm_H → Prop} (hca : pm_cat 6 as = true) (body : ∀ J : pm_J, pm_Cl l g (fun _ => none) d mc ms (pm_Rq mc ms Q) bk_X9_steadySince J → J 0 (pm_l0 6 as) [] A 0 0) : pm_Mt l g 153 d mc ms as A Q := pm_Mt_of (isI := false) 9 bk_X9_steadySince me_X9_steadySince (plainFor_of_name plX9) rfl (fun h => by cases h) ok_X9_steadySince hca body
noncomputable def bk_X9_unlikeNow : pm_B := [(0, [(.iconst 0, 1, 0, 0, 0), (.istore_n 3, 1, 3, 0, 0), (.iconst 0, 1, 0, 0, 0), (.istore 4, 2, 4, 0, 0)], 5),
  (5, [(.iload 4, 2, 4, 0, 0), (.aload_n 0, 1, 0, 0, 0), (.getfield 25, 3, 9, 4, 0), (.getfield 36, 3, 7, 3, 0), (.if_icmp .ge 47, 3, 61, 0, 0), (.aload_n 1, 1, 1, 0, 0), (.aload_n 0, 1, 0, 0, 0), (.getfield 25, 3, 9, 4, 0), (.getfield 55, 3, 7, 1, 0), (.iload 4, 2, 4, 0, 0), (.iaload, 1, 0, 0, 0), (.invokevirtual 85, 3, 46, 1, 7), (.istore 5, 2, 5, 0, 0), (.iload 5, 2, 5, 0, 0), (.iconst (-1), 1, 0, 0, -1), (.if_icmp .eq 19, 3, 55, 0, 0), (.aload_n 0, 1, 0, 0, 0), (.aload_n 1, 1, 1, 0, 0), (.iload 5, 2, 5, 0, 0), (.iload 4, 2, 4, 0, 0), (.iload_n 2, 1, 2, 0, 0), (.invokevirtual 95, 3, 157, 4, 9), (.ifCond .eq 6, 3, 55, 0, 0), (.iinc 3 1, 3, 3, 0, 1)], 55),
  (55, [(.iinc 4 1, 3, 4, 0, 1), (.goto (-53), 3, 5, 0, 0)], 61),
  (61, [(.iload_n 3, 1, 3, 0, 0), (.ireturn, 1, 0, 0, 0)], 63)]
set_option maxRecDepth 100000 in
theorem ok_X9_unlikeNow : pm_oks 9 false 6 (some .int) cX9_unlikeNow bk_X9_unlikeNow = true := oksG_ok (by decide +kernel)
set_option maxRecDepth 100000 in
theorem me_X9_unlikeNow : pm_me 156 = (yX9_unlikeNow, cX9_unlikeNow, 6, (some .int), 2, 0) := pm_mq_ok rfl
theorem mt_X9_unlikeNow {l : Launch} {g : pm_G} {d mc ms : Nat} {as : List Value} {A : pm_H} {Q : Option Value → pm_H → Prop} (hca : pm_cat 6 as = true) (body : ∀ J : pm_J, pm_Cl l g (fun _ => none) d mc ms (pm_Rq mc ms Q) bk_X9_unlikeNow J → J 0 (pm_l0 6 as) [] A 0 0) : pm_Mt l g 156 d mc ms as A Q := pm_Mt_of (isI := false) 9 bk_X9_unlikeNow me_X9_unlikeNow (plainFor_of_name plX9) rfl (fun h => by cases h) ok_X9_unlikeNow hca body
noncomputable def bk_X9_isUnlike : pm_B := [(0, [(.iload 4, 2, 4, 0, 0), (.tableswitch 63 0 2 #[26, 28, 39], 26, 2, 0, 0)], 28),
  (28, [(.iconst 1, 1, 0, 0, 1), (.ireturn, 1, 1, 0, 0)], 30),
  (30, [(.iload_n 2, 1, 2, 0, 0), (.iload_n 3, 1, 3, 0, 0), (.if_icmp .eq 7, 3, 39, 0, 0), (.iconst 1, 1, 0, 0, 1), (.goto 4, 3, 40, 0, 0)], 39),
  (39, [(.iconst 0, 1, 0, 0, 0)], 40),
  (40, [(.ireturn, 1, 1, 0, 0)], 41),
  (41, [(.aload_n 1, 1, 1, 0, 0), (.iload_n 2, 1, 2, 0, 0), (.iconst 0, 1, 0, 0, 0), (.invokevirtual 99, 3, 44, 2, 7), (.aload_n 0, 1, 0, 0, 0), (.getfield 25, 3, 9, 4, 0), (.iload_n 3, 1, 3, 0, 0), (.iconst 0, 1, 0, 0, 0), (.invokevirtual 99, 3, 44, 2, 7), (.if_icmp .eq 7, 3, 63, 0, 0), (.iconst 1, 1, 0, 0, 1), (.goto 4, 3, 64, 0, 0)], 63),
  (63, [(.iconst 0, 1, 0, 0, 0)], 64),
  (64, [(.ireturn, 1, 1, 0, 0)], 65),
  (65, [(.aload_n 1, 1, 1, 0, 0), (.iload_n 2, 1, 2, 0, 0), (.invokevirtual 58, 3, 20, 1, 7), (.aload_n 0, 1, 0, 0, 0), (.getfield 25, 3, 9, 4, 0), (.iload_n 3, 1, 3, 0, 0), (.invokevirtual 58, 3, 20, 1, 7), (.if_icmp .eq 7, 3, 85, 0, 0), (.iconst 1, 1, 0, 0, 1), (.goto 4, 3, 86, 0, 0)], 85),
  (85, [(.iconst 0, 1, 0, 0, 0)], 86),
  (86, [(.ireturn, 1, 1, 0, 0)], 87)]
set_option maxRecDepth 100000 in
theorem ok_X9_isUnlike : pm_oks 9 false 5 (some .boolean) cX9_isUnlike bk_X9_isUnlike = true := oksG_ok (by decide +kernel)
set_option maxRecDepth 100000 in
theorem me_X9_isUnlike : pm_me 157 = (yX9_isUnlike, cX9_isUnlike, 5, (some .boolean), 4, 0) := pm_mq_ok rfl
theorem mt_X9_isUnlike {l : Launch} {g : pm_G} {d mc ms : Nat} {as : List Value} {A : pm_H} {Q : Option Value → pm_H → Prop} (hca : pm_cat 5 as = true) (body : ∀ J : pm_J, pm_Cl l g (fun _ => none) d mc ms (pm_Rq mc ms Q) bk_X9_isUnlike J → J 0 (pm_l0 5 as) [] A 0 0) : pm_Mt l g 157 d mc ms as A Q := pm_Mt_of (isI := false) 9 bk_X9_isUnlike me_X9_isUnlike (plainFor_of_name plX9) rfl (fun h => by cases h) ok_X9_isUnlike hca body
noncomputable def bk_X7_init : pm_B := [(0, [(.aload_n 0, 1, 0, 0, 0), (.invokespecial 3, 3, 0, 0, 0), (.aload_n 0, 1, 0, 0, 0), (.sipush 160, 3, 0, 0, 160), (.newarray .int, 2, 160, 0, 0), (.putfield 9, 3, 7, 0, 1), (.aload_n 0, 1, 0, 0, 0), (.sipush 160, 3, 0, 0, 160), (.newarray .int, 2, 160, 0, 0), (.putfield 15, 3, 7, 1, 1), (.aload_n 0, 1, 0, 0, 0), (.sipush 160, 3, 0, 0, 160), (.newarray .int, 2, 160, 0, 0), (.putfield 18, 3, 7, 2, 1), (.return_, 1, 0, 0, 0)], 32)]
set_option maxRecDepth 100000 in
theorem ok_X7_init : pm_oks 7 true 1 none cX7_init bk_X7_init = true := oksG_ok (by decide +kernel)
set_option maxRecDepth 100000 in
theorem me_X7_init : pm_me 2 = (yX7_init, cX7_init, 1, none, 0, 2) := pm_mq_ok rfl
theorem mt_X7_init {l : Launch} {g : pm_G} {d mc ms : Nat} {as : List Value} {A : pm_H} {Q : Option Value → pm_H → Prop} (hca : pm_cat 1 as = true) (body : ∀ J : pm_J, pm_Cl l g (fun _ => none) d mc ms (pm_Rq mc ms Q) bk_X7_init J → J 0 (pm_l0 1 as) [] A 0 0) : pm_Mt l g 2 d mc ms as A Q := pm_Mt_of (isI := true) 7 bk_X7_init me_X7_init (plainFor_of_name plX7) rfl (fun _ => by decide +kernel) ok_X7_init hca body
noncomputable def bk_X7_isSpan : pm_B := [(0, [(.iload_n 1, 1, 1, 0, 0), (.ifCond .lt 20, 3, 21, 0, 0), (.iload_n 1, 1, 1, 0, 0), (.iload_n 2, 1, 2, 0, 0), (.if_icmp .gt 15, 3, 21, 0, 0), (.iload_n 2, 1, 2, 0, 0), (.aload_n 0, 1, 0, 0, 0), (.getfield 21, 3, 7, 3, 0), (.if_icmp .ge 7, 3, 21, 0, 0), (.iconst 1, 1, 0, 0, 1), (.goto 4, 3, 22, 0, 0)], 21),
  (21, [(.iconst 0, 1, 0, 0, 0)], 22),
  (22, [(.ireturn, 1, 1, 0, 0)], 23)]
set_option maxRecDepth 100000 in
theorem ok_X7_isSpan : pm_oks 7 false 3 (some .boolean) cX7_isSpan bk_X7_isSpan = true := oksG_ok (by decide +kernel)
set_option maxRecDepth 100000 in
theorem me_X7_isSpan : pm_me 14 = (yX7_isSpan, cX7_isSpan, 3, (some .boolean), 2, 0) := pm_mq_ok rfl
theorem mt_X7_isSpan {l : Launch} {g : pm_G} {d mc ms : Nat} {as : List Value} {A : pm_H} {Q : Option Value → pm_H → Prop} (hca : pm_cat 3 as = true) (body : ∀ J : pm_J, pm_Cl l g (fun _ => none) d mc ms (pm_Rq mc ms Q) bk_X7_isSpan J → J 0 (pm_l0 3 as) [] A 0 0) : pm_Mt l g 14 d mc ms as A Q := pm_Mt_of (isI := false) 7 bk_X7_isSpan me_X7_isSpan (plainFor_of_name plX7) rfl (fun h => by cases h) ok_X7_isSpan hca body
noncomputable def bk_X7_has : pm_B := [(0, [(.iload_n 1, 1, 1, 0, 0), (.ifCond .lt 15, 3, 16, 0, 0), (.iload_n 1, 1, 1, 0, 0), (.aload_n 0, 1, 0, 0, 0), (.getfield 21, 3, 7, 3, 0), (.if_icmp .ge 7, 3, 16, 0, 0), (.iconst 1, 1, 0, 0, 1), (.goto 4, 3, 17, 0, 0)], 16),
  (16, [(.iconst 0, 1, 0, 0, 0)], 17),
  (17, [(.ireturn, 1, 1, 0, 0)], 18)]
set_option maxRecDepth 100000 in
theorem ok_X7_has : pm_oks 7 false 2 (some .boolean) cX7_has bk_X7_has = true := oksG_ok (by decide +kernel)
set_option maxRecDepth 100000 in
theorem me_X7_has : pm_me 19 = (yX7_has, cX7_has, 2, (some .boolean), 1, 0) := pm_mq_ok rfl
theorem mt_X7_has {l : Launch} {g : pm_G} {d mc ms : Nat} {as : List Value} {A : pm_H} {Q : Option Value → pm_H → Prop} (hca : pm_cat 2 as = true) (body : ∀ J : pm_J, pm_Cl l g (fun _ => none) d mc ms (pm_Rq mc ms Q) bk_X7_has J → J 0 (pm_l0 2 as) [] A 0 0) : pm_Mt l g 19 d mc ms as A Q := pm_Mt_of (isI := false) 7 bk_X7_has me_X7_has (plainFor_of_name plX7) rfl (fun h => by cases h) ok_X7_has hca body
noncomputable def bk_X7_bondAt : pm_B := [(0, [(.aload_n 0, 1, 0, 0, 0), (.iload_n 1, 1, 1, 0, 0), (.invokevirtual 25, 3, 19, 1, 7), (.ifCond .eq 16, 3, 21, 0, 0), (.aload_n 0, 1, 0, 0, 0), (.aload_n 0, 1, 0, 0, 0), (.getfield 18, 3, 7, 2, 0), (.iload_n 1, 1, 1, 0, 0), (.iaload, 1, 0, 0, 0), (.invokevirtual 29, 3, 21, 1, 7), (.goto 4, 3, 22, 0, 0)], 21),
  (21, [(.iconst (-1), 1, 0, 0, -1)], 22),
  (22, [(.ireturn, 1, 0, 0, 0)], 23)]
set_option maxRecDepth 100000 in
theorem ok_X7_bondAt : pm_oks 7 false 2 (some .int) cX7_bondAt bk_X7_bondAt = true := oksG_ok (by decide +kernel)
set_option maxRecDepth 100000 in
theorem me_X7_bondAt : pm_me 20 = (yX7_bondAt, cX7_bondAt, 2, (some .int), 1, 0) := pm_mq_ok rfl
theorem mt_X7_bondAt {l : Launch} {g : pm_G} {d mc ms : Nat} {as : List Value} {A : pm_H} {Q : Option Value → pm_H → Prop} (hca : pm_cat 2 as = true) (body : ∀ J : pm_J, pm_Cl l g (fun _ => none) d mc ms (pm_Rq mc ms Q) bk_X7_bondAt J → J 0 (pm_l0 2 as) [] A 0 0) : pm_Mt l g 20 d mc ms as A Q := pm_Mt_of (isI := false) 7 bk_X7_bondAt me_X7_bondAt (plainFor_of_name plX7) rfl (fun h => by cases h) ok_X7_bondAt hca body
noncomputable def bk_X7_nameAt : pm_B := [(0, [(.aload_n 0, 1, 0, 0, 0), (.iload_n 1, 1, 1, 0, 0), (.invokevirtual 25, 3, 19, 1, 7), (.ifCond .eq 12, 3, 17, 0, 0), (.aload_n 0, 1, 0, 0, 0), (.getfield 15, 3, 7, 1, 0), (.iload_n 1, 1, 1, 0, 0), (.iaload, 1, 0, 0, 0), (.goto 4, 3, 18, 0, 0)], 17),
  (17, [(.iconst (-1), 1, 0, 0, -1)], 18),
  (18, [(.ireturn, 1, 0, 0, 0)], 19)]
set_option maxRecDepth 100000 in
theorem ok_X7_nameAt : pm_oks 7 false 2 (some .int) cX7_nameAt bk_X7_nameAt = true := oksG_ok (by decide +kernel)
set_option maxRecDepth 100000 in
theorem me_X7_nameAt : pm_me 21 = (yX7_nameAt, cX7_nameAt, 2, (some .int), 1, 0) := pm_mq_ok rfl
theorem mt_X7_nameAt {l : Launch} {g : pm_G} {d mc ms : Nat} {as : List Value} {A : pm_H} {Q : Option Value → pm_H → Prop} (hca : pm_cat 2 as = true) (body : ∀ J : pm_J, pm_Cl l g (fun _ => none) d mc ms (pm_Rq mc ms Q) bk_X7_nameAt J → J 0 (pm_l0 2 as) [] A 0 0) : pm_Mt l g 21 d mc ms as A Q := pm_Mt_of (isI := false) 7 bk_X7_nameAt me_X7_nameAt (plainFor_of_name plX7) rfl (fun h => by cases h) ok_X7_nameAt hca body
noncomputable def bk_X7_isGap : pm_B := [(0, [(.iload_n 1, 1, 1, 0, 0), (.ifCond .lt 15, 3, 16, 0, 0), (.iload_n 1, 1, 1, 0, 0), (.aload_n 0, 1, 0, 0, 0), (.getfield 21, 3, 7, 3, 0), (.if_icmp .gt 7, 3, 16, 0, 0), (.iconst 1, 1, 0, 0, 1), (.goto 4, 3, 17, 0, 0)], 16),
  (16, [(.iconst 0, 1, 0, 0, 0)], 17),
  (17, [(.ireturn, 1, 1, 0, 0)], 18)]
set_option maxRecDepth 100000 in
theorem ok_X7_isGap : pm_oks 7 false 2 (some .boolean) cX7_isGap bk_X7_isGap = true := oksG_ok (by decide +kernel)
set_option maxRecDepth 100000 in
theorem me_X7_isGap : pm_me 26 = (yX7_isGap, cX7_isGap, 2, (some .boolean), 1, 0) := pm_mq_ok rfl
theorem mt_X7_isGap {l : Launch} {g : pm_G} {d mc ms : Nat} {as : List Value} {A : pm_H} {Q : Option Value → pm_H → Prop} (hca : pm_cat 2 as = true) (body : ∀ J : pm_J, pm_Cl l g (fun _ => none) d mc ms (pm_Rq mc ms Q) bk_X7_isGap J → J 0 (pm_l0 2 as) [] A 0 0) : pm_Mt l g 26 d mc ms as A Q := pm_Mt_of (isI := false) 7 bk_X7_isGap me_X7_isGap (plainFor_of_name plX7) rfl (fun h => by cases h) ok_X7_isGap hca body
noncomputable def bk_X7_nextAlike : pm_B := [(0, [(.aload_n 0, 1, 0, 0, 0), (.iload_n 1, 1, 1, 0, 0), (.invokevirtual 25, 3, 19, 1, 7), (.ifCond .ne 5, 3, 10, 0, 0), (.iconst (-1), 1, 0, 0, -1), (.ireturn, 1, 0, 0, 0)], 10),
  (10, [(.iload_n 1, 1, 1, 0, 0), (.iconst 1, 1, 0, 0, 1), (.iadd, 1, 0, 0, 0), (.istore_n 2, 1, 2, 0, 0)], 14),
  (14, [(.iload_n 2, 1, 2, 0, 0), (.aload_n 0, 1, 0, 0, 0), (.getfield 21, 3, 7, 3, 0), (.if_icmp .ge 26, 3, 45, 0, 0), (.aload_n 0, 1, 0, 0, 0), (.getfield 9, 3, 7, 0, 0), (.iload_n 2, 1, 2, 0, 0), (.iaload, 1, 0, 0, 0), (.aload_n 0, 1, 0, 0, 0), (.getfield 9, 3, 7, 0, 0), (.iload_n 1, 1, 1, 0, 0), (.iaload, 1, 0, 0, 0), (.if_icmp .ne 5, 3, 39, 0, 0), (.iload_n 2, 1, 2, 0, 0), (.ireturn, 1, 0, 0, 0)], 39),
  (39, [(.iinc 2 1, 3, 2, 0, 1), (.goto (-28), 3, 14, 0, 0)], 45),
  (45, [(.iconst (-1), 1, 0, 0, -1), (.ireturn, 1, 0, 0, 0)], 47)]
set_option maxRecDepth 100000 in
theorem ok_X7_nextAlike : pm_oks 7 false 3 (some .int) cX7_nextAlike bk_X7_nextAlike = true := oksG_ok (by decide +kernel)
set_option maxRecDepth 100000 in
theorem me_X7_nextAlike : pm_me 43 = (yX7_nextAlike, cX7_nextAlike, 3, (some .int), 1, 0) := pm_mq_ok rfl
theorem mt_X7_nextAlike {l : Launch} {g : pm_G} {d mc ms : Nat} {as : List Value} {A : pm_H} {Q : Option Value → pm_H → Prop} (hca : pm_cat 3 as = true) (body : ∀ J : pm_J, pm_Cl l g (fun _ => none) d mc ms (pm_Rq mc ms Q) bk_X7_nextAlike J → J 0 (pm_l0 3 as) [] A 0 0) : pm_Mt l g 43 d mc ms as A Q := pm_Mt_of (isI := false) 7 bk_X7_nextAlike me_X7_nextAlike (plainFor_of_name plX7) rfl (fun h => by cases h) ok_X7_nextAlike hca body
noncomputable def bk_X7_tell : pm_B := [(0, [(.aload_n 0, 1, 0, 0, 0), (.iload_n 1, 1, 1, 0, 0), (.invokevirtual 25, 3, 19, 1, 7), (.ifCond .ne 5, 3, 10, 0, 0), (.iconst (-1), 1, 0, 0, -1), (.ireturn, 1, 0, 0, 0)], 10),
  (10, [(.iload_n 2, 1, 2, 0, 0), (.tableswitch 45 0 2 #[25, 32, 39], 25, 11, 0, 0)], 36),
  (36, [(.aload_n 0, 1, 0, 0, 0), (.getfield 9, 3, 7, 0, 0), (.iload_n 1, 1, 1, 0, 0), (.iaload, 1, 0, 0, 0), (.ireturn, 1, 0, 0, 0)], 43),
  (43, [(.aload_n 0, 1, 0, 0, 0), (.getfield 15, 3, 7, 1, 0), (.iload_n 1, 1, 1, 0, 0), (.iaload, 1, 0, 0, 0), (.ireturn, 1, 0, 0, 0)], 50),
  (50, [(.aload_n 0, 1, 0, 0, 0), (.iload_n 1, 1, 1, 0, 0), (.invokevirtual 33, 3, 20, 1, 7), (.ireturn, 1, 0, 0, 0)], 56),
  (56, [(.iconst (-1), 1, 0, 0, -1), (.ireturn, 1, 0, 0, 0)], 58)]
set_option maxRecDepth 100000 in
theorem ok_X7_tell : pm_oks 7 false 3 (some .int) cX7_tell bk_X7_tell = true := oksG_ok (by decide +kernel)
set_option maxRecDepth 100000 in
theorem me_X7_tell : pm_me 44 = (yX7_tell, cX7_tell, 3, (some .int), 2, 0) := pm_mq_ok rfl
theorem mt_X7_tell {l : Launch} {g : pm_G} {d mc ms : Nat} {as : List Value} {A : pm_H} {Q : Option Value → pm_H → Prop} (hca : pm_cat 3 as = true) (body : ∀ J : pm_J, pm_Cl l g (fun _ => none) d mc ms (pm_Rq mc ms Q) bk_X7_tell J → J 0 (pm_l0 3 as) [] A 0 0) : pm_Mt l g 44 d mc ms as A Q := pm_Mt_of (isI := false) 7 bk_X7_tell me_X7_tell (plainFor_of_name plX7) rfl (fun h => by cases h) ok_X7_tell hca body
noncomputable def bk_X7_placeOf : pm_B := [(0, [(.iconst 0, 1, 0, 0, 0), (.istore_n 2, 1, 2, 0, 0)], 2),
  (2, [(.iload_n 2, 1, 2, 0, 0), (.aload_n 0, 1, 0, 0, 0), (.getfield 21, 3, 7, 3, 0), (.if_icmp .ge 21, 3, 28, 0, 0), (.aload_n 0, 1, 0, 0, 0), (.getfield 15, 3, 7, 1, 0), (.iload_n 2, 1, 2, 0, 0), (.iaload, 1, 0, 0, 0), (.iload_n 1, 1, 1, 0, 0), (.if_icmp .ne 5, 3, 22, 0, 0), (.iload_n 2, 1, 2, 0, 0), (.ireturn, 1, 0, 0, 0)], 22),
  (22, [(.iinc 2 1, 3, 2, 0, 1), (.goto (-23), 3, 2, 0, 0)], 28),
  (28, [(.iconst (-1), 1, 0, 0, -1), (.ireturn, 1, 0, 0, 0)], 30)]
set_option maxRecDepth 100000 in
theorem ok_X7_placeOf : pm_oks 7 false 3 (some .int) cX7_placeOf bk_X7_placeOf = true := oksG_ok (by decide +kernel)
set_option maxRecDepth 100000 in
theorem me_X7_placeOf : pm_me 46 = (yX7_placeOf, cX7_placeOf, 3, (some .int), 1, 0) := pm_mq_ok rfl
theorem mt_X7_placeOf {l : Launch} {g : pm_G} {d mc ms : Nat} {as : List Value} {A : pm_H} {Q : Option Value → pm_H → Prop} (hca : pm_cat 3 as = true) (body : ∀ J : pm_J, pm_Cl l g (fun _ => none) d mc ms (pm_Rq mc ms Q) bk_X7_placeOf J → J 0 (pm_l0 3 as) [] A 0 0) : pm_Mt l g 46 d mc ms as A Q := pm_Mt_of (isI := false) 7 bk_X7_placeOf me_X7_placeOf (plainFor_of_name plX7) rfl (fun h => by cases h) ok_X7_placeOf hca body
noncomputable def bk_X7_howMany : pm_B := [(0, [(.iconst 0, 1, 0, 0, 0), (.istore_n 2, 1, 2, 0, 0), (.iconst 0, 1, 0, 0, 0), (.istore_n 3, 1, 3, 0, 0)], 4),
  (4, [(.iload_n 3, 1, 3, 0, 0), (.aload_n 0, 1, 0, 0, 0), (.getfield 21, 3, 7, 3, 0), (.if_icmp .ge 22, 3, 31, 0, 0), (.aload_n 0, 1, 0, 0, 0), (.getfield 9, 3, 7, 0, 0), (.iload_n 3, 1, 3, 0, 0), (.iaload, 1, 0, 0, 0), (.iload_n 1, 1, 1, 0, 0), (.if_icmp .ne 6, 3, 25, 0, 0), (.iinc 2 1, 3, 2, 0, 1)], 25),
  (25, [(.iinc 3 1, 3, 3, 0, 1), (.goto (-24), 3, 4, 0, 0)], 31),
  (31, [(.iload_n 2, 1, 2, 0, 0), (.ireturn, 1, 0, 0, 0)], 33)]
set_option maxRecDepth 100000 in
theorem ok_X7_howMany : pm_oks 7 false 4 (some .int) cX7_howMany bk_X7_howMany = true := oksG_ok (by decide +kernel)
set_option maxRecDepth 100000 in
theorem me_X7_howMany : pm_me 48 = (yX7_howMany, cX7_howMany, 4, (some .int), 1, 0) := pm_mq_ok rfl
theorem mt_X7_howMany {l : Launch} {g : pm_G} {d mc ms : Nat} {as : List Value} {A : pm_H} {Q : Option Value → pm_H → Prop} (hca : pm_cat 4 as = true) (body : ∀ J : pm_J, pm_Cl l g (fun _ => none) d mc ms (pm_Rq mc ms Q) bk_X7_howMany J → J 0 (pm_l0 4 as) [] A 0 0) : pm_Mt l g 48 d mc ms as A Q := pm_Mt_of (isI := false) 7 bk_X7_howMany me_X7_howMany (plainFor_of_name plX7) rfl (fun h => by cases h) ok_X7_howMany hca body
noncomputable def bk_X7_placeOfNth : pm_B := [(0, [(.iconst 0, 1, 0, 0, 0), (.istore_n 3, 1, 3, 0, 0), (.iconst 0, 1, 0, 0, 0), (.istore 4, 2, 4, 0, 0)], 5),
  (5, [(.iload 4, 2, 4, 0, 0), (.aload_n 0, 1, 0, 0, 0), (.getfield 21, 3, 7, 3, 0), (.if_icmp .ge 31, 3, 42, 0, 0), (.aload_n 0, 1, 0, 0, 0), (.getfield 9, 3, 7, 0, 0), (.iload 4, 2, 4, 0, 0), (.iaload, 1, 0, 0, 0), (.iload_n 1, 1, 1, 0, 0), (.if_icmp .ne 14, 3, 36, 0, 0), (.iload_n 3, 1, 3, 0, 0), (.iload_n 2, 1, 2, 0, 0), (.if_icmp .ne 6, 3, 33, 0, 0), (.iload 4, 2, 4, 0, 0), (.ireturn, 1, 0, 0, 0)], 33),
  (33, [(.iinc 3 1, 3, 3, 0, 1)], 36),
  (36, [(.iinc 4 1, 3, 4, 0, 1), (.goto (-34), 3, 5, 0, 0)], 42),
  (42, [(.iconst (-1), 1, 0, 0, -1), (.ireturn, 1, 0, 0, 0)], 44)]
set_option maxRecDepth 100000 in
theorem ok_X7_placeOfNth : pm_oks 7 false 5 (some .int) cX7_placeOfNth bk_X7_placeOfNth = true := oksG_ok (by decide +kernel)
set_option maxRecDepth 100000 in
theorem me_X7_placeOfNth : pm_me 49 = (yX7_placeOfNth, cX7_placeOfNth, 5, (some .int), 2, 0) := pm_mq_ok rfl
theorem mt_X7_placeOfNth {l : Launch} {g : pm_G} {d mc ms : Nat} {as : List Value} {A : pm_H} {Q : Option Value → pm_H → Prop} (hca : pm_cat 5 as = true) (body : ∀ J : pm_J, pm_Cl l g (fun _ => none) d mc ms (pm_Rq mc ms Q) bk_X7_placeOfNth J → J 0 (pm_l0 5 as) [] A 0 0) : pm_Mt l g 49 d mc ms as A Q := pm_Mt_of (isI := false) 7 bk_X7_placeOfNth me_X7_placeOfNth (plainFor_of_name plX7) rfl (fun h => by cases h) ok_X7_placeOfNth hca body
noncomputable def bk_X7_widestGap : pm_B := [(0, [(.iconst (-1), 1, 0, 0, -1), (.istore_n 2, 1, 2, 0, 0), (.iconst 0, 1, 0, 0, 0), (.istore_n 3, 1, 3, 0, 0)], 4),
  (4, [(.iload_n 3, 1, 3, 0, 0), (.aload_n 0, 1, 0, 0, 0), (.getfield 21, 3, 7, 3, 0), (.if_icmp .ge 44, 3, 53, 0, 0), (.aload_n 0, 1, 0, 0, 0), (.getfield 9, 3, 7, 0, 0), (.iload_n 3, 1, 3, 0, 0), (.iaload, 1, 0, 0, 0), (.iload_n 1, 1, 1, 0, 0), (.if_icmp .ne 28, 3, 47, 0, 0), (.aload_n 0, 1, 0, 0, 0), (.getfield 18, 3, 7, 2, 0), (.iload_n 3, 1, 3, 0, 0), (.iaload, 1, 0, 0, 0), (.iconst (-1), 1, 0, 0, -1), (.if_icmp .eq 18, 3, 47, 0, 0), (.iload_n 2, 1, 2, 0, 0), (.iload_n 3, 1, 3, 0, 0), (.aload_n 0, 1, 0, 0, 0), (.getfield 18, 3, 7, 2, 0), (.iload_n 3, 1, 3, 0, 0), (.iaload, 1, 0, 0, 0), (.isub, 1, 0, 0, 0), (.iconst 1, 1, 0, 0, 1), (.isub, 1, 0, 0, 0), (.invokestatic 39, 3, 51, 2, 0), (.istore_n 2, 1, 2, 0, 0)], 47),
  (47, [(.iinc 3 1, 3, 3, 0, 1), (.goto (-46), 3, 4, 0, 0)], 53),
  (53, [(.iload_n 2, 1, 2, 0, 0), (.ireturn, 1, 0, 0, 0)], 55)]
set_option maxRecDepth 100000 in
theorem ok_X7_widestGap : pm_oks 7 false 4 (some .int) cX7_widestGap bk_X7_widestGap = true := oksG_ok (by decide +kernel)
set_option maxRecDepth 100000 in
theorem me_X7_widestGap : pm_me 50 = (yX7_widestGap, cX7_widestGap, 4, (some .int), 1, 0) := pm_mq_ok rfl
theorem mt_X7_widestGap {l : Launch} {g : pm_G} {d mc ms : Nat} {as : List Value} {A : pm_H} {Q : Option Value → pm_H → Prop} (hca : pm_cat 4 as = true) (body : ∀ J : pm_J, pm_Cl l g (fun _ => none) d mc ms (pm_Rq mc ms Q) bk_X7_widestGap J → J 0 (pm_l0 4 as) [] A 0 0) : pm_Mt l g 50 d mc ms as A Q := pm_Mt_of (isI := false) 7 bk_X7_widestGap me_X7_widestGap (plainFor_of_name plX7) rfl (fun h => by cases h) ok_X7_widestGap hca body
noncomputable def bk_X7_hasName : pm_B := [(0, [(.aload_n 0, 1, 0, 0, 0), (.iload_n 1, 1, 1, 0, 0), (.invokevirtual 36, 3, 46, 1, 7), (.iconst (-1), 1, 0, 0, -1), (.if_icmp .eq 7, 3, 13, 0, 0), (.iconst 1, 1, 0, 0, 1), (.goto 4, 3, 14, 0, 0)], 13),
  (13, [(.iconst 0, 1, 0, 0, 0)], 14),
  (14, [(.ireturn, 1, 1, 0, 0)], 15)]
set_option maxRecDepth 100000 in
theorem ok_X7_hasName : pm_oks 7 false 2 (some .boolean) cX7_hasName bk_X7_hasName = true := oksG_ok (by decide +kernel)
set_option maxRecDepth 100000 in
theorem me_X7_hasName : pm_me 154 = (yX7_hasName, cX7_hasName, 2, (some .boolean), 1, 0) := pm_mq_ok rfl
theorem mt_X7_hasName {l : Launch} {g : pm_G} {d mc ms : Nat} {as : List Value} {A : pm_H} {Q : Option Value → pm_H → Prop} (hca : pm_cat 2 as = true) (body : ∀ J : pm_J, pm_Cl l g (fun _ => none) d mc ms (pm_Rq mc ms Q) bk_X7_hasName J → J 0 (pm_l0 2 as) [] A 0 0) : pm_Mt l g 154 d mc ms as A Q := pm_Mt_of (isI := false) 7 bk_X7_hasName me_X7_hasName (plainFor_of_name plX7) rfl (fun h => by cases h) ok_X7_hasName hca body
noncomputable def bk_X2_init : pm_B := [(0, [(.aload_n 0, 1, 0, 0, 0), (.invokespecial 3, 3, 0, 0, 0), (.aload_n 0, 1, 0, 0, 0), (.bipush 24, 2, 0, 0, 24), (.newarray .int, 2, 24, 0, 0), (.putfield 9, 3, 2, 0, 1), (.aload_n 0, 1, 0, 0, 0), (.bipush 24, 2, 0, 0, 24), (.newarray .int, 2, 24, 0, 0), (.putfield 15, 3, 2, 1, 1), (.aload_n 0, 1, 0, 0, 0), (.getfield 15, 3, 2, 1, 0), (.iconst 1, 1, 0, 0, 1), (.invokestatic 18, 3, 4, 2, 0), (.return_, 1, 0, 0, 0)], 29)]
set_option maxRecDepth 100000 in
theorem ok_X2_init : pm_oks 2 true 1 none cX2_init bk_X2_init = true := oksG_ok (by decide +kernel)
set_option maxRecDepth 100000 in
theorem me_X2_init : pm_me 3 = (yX2_init, cX2_init, 1, none, 0, 2) := pm_mq_ok rfl
theorem mt_X2_init {l : Launch} {g : pm_G} {d mc ms : Nat} {as : List Value} {A : pm_H} {Q : Option Value → pm_H → Prop} (hca : pm_cat 1 as = true) (body : ∀ J : pm_J, pm_Cl l g (fun _ => none) d mc ms (pm_Rq mc ms Q) bk_X2_init J → J 0 (pm_l0 1 as) [] A 0 0) : pm_Mt l g 3 d mc ms as A Q := pm_Mt_of (isI := true) 2 bk_X2_init me_X2_init (plainFor_of_name plX2) rfl (fun _ => by decide +kernel) ok_X2_init hca body
noncomputable def bk_X2_read : pm_B := [(0, [(.aload_n 0, 1, 0, 0, 0), (.invokevirtual 37, 3, 56, 0, 2), (.iload_n 2, 1, 2, 0, 0), (.istore 4, 2, 4, 0, 0)], 7),
  (7, [(.iload 4, 2, 4, 0, 0), (.iload_n 3, 1, 3, 0, 0), (.if_icmp .gt 29, 3, 39, 0, 0), (.aload_n 1, 1, 1, 0, 0), (.iload 4, 2, 4, 0, 0), (.invokevirtual 40, 3, 19, 1, 7), (.ifCond .eq 20, 3, 39, 0, 0), (.aload_n 0, 1, 0, 0, 0), (.aload_n 1, 1, 1, 0, 0), (.getfield 46, 3, 7, 0, 0), (.iload 4, 2, 4, 0, 0), (.iaload, 1, 0, 0, 0), (.invokevirtual 49, 3, 57, 1, 2), (.iinc 4 1, 3, 4, 0, 1), (.goto (-29), 3, 7, 0, 0)], 39),
  (39, [(.return_, 1, 0, 0, 0)], 40)]
set_option maxRecDepth 100000 in
theorem ok_X2_read : pm_oks 2 false 5 none cX2_read bk_X2_read = true := oksG_ok (by decide +kernel)
set_option maxRecDepth 100000 in
theorem me_X2_read : pm_me 55 = (yX2_read, cX2_read, 5, none, 3, 0) := pm_mq_ok rfl
theorem mt_X2_read {l : Launch} {g : pm_G} {d mc ms : Nat} {as : List Value} {A : pm_H} {Q : Option Value → pm_H → Prop} (hca : pm_cat 5 as = true) (body : ∀ J : pm_J, pm_Cl l g (fun _ => none) d mc ms (pm_Rq mc ms Q) bk_X2_read J → J 0 (pm_l0 5 as) [] A 0 0) : pm_Mt l g 55 d mc ms as A Q := pm_Mt_of (isI := false) 2 bk_X2_read me_X2_read (plainFor_of_name plX2) rfl (fun h => by cases h) ok_X2_read hca body
noncomputable def bk_X2_clear : pm_B := [(0, [(.aload_n 0, 1, 0, 0, 0), (.getfield 9, 3, 2, 0, 0), (.iconst 0, 1, 0, 0, 0), (.invokestatic 18, 3, 4, 2, 0), (.aload_n 0, 1, 0, 0, 0), (.iconst 0, 1, 0, 0, 0), (.putfield 24, 3, 2, 2, 0), (.aload_n 0, 1, 0, 0, 0), (.iconst 0, 1, 0, 0, 0), (.putfield 28, 3, 2, 3, 0), (.aload_n 0, 1, 0, 0, 0), (.iconst 0, 1, 0, 0, 0), (.putfield 31, 3, 2, 4, 0), (.aload_n 0, 1, 0, 0, 0), (.iconst 0, 1, 0, 0, 0), (.putfield 34, 3, 2, 5, 0), (.return_, 1, 0, 0, 0)], 29)]
set_option maxRecDepth 100000 in
theorem ok_X2_clear : pm_oks 2 false 1 none cX2_clear bk_X2_clear = true := oksG_ok (by decide +kernel)
set_option maxRecDepth 100000 in
theorem me_X2_clear : pm_me 56 = (yX2_clear, cX2_clear, 1, none, 0, 0) := pm_mq_ok rfl
theorem mt_X2_clear {l : Launch} {g : pm_G} {d mc ms : Nat} {as : List Value} {A : pm_H} {Q : Option Value → pm_H → Prop} (hca : pm_cat 1 as = true) (body : ∀ J : pm_J, pm_Cl l g (fun _ => none) d mc ms (pm_Rq mc ms Q) bk_X2_clear J → J 0 (pm_l0 1 as) [] A 0 0) : pm_Mt l g 56 d mc ms as A Q := pm_Mt_of (isI := false) 2 bk_X2_clear me_X2_clear (plainFor_of_name plX2) rfl (fun h => by cases h) ok_X2_clear hca body
noncomputable def bk_X2_take : pm_B := [(0, [(.aload_n 0, 1, 0, 0, 0), (.dup, 1, 0, 0, 0), (.getfield 24, 3, 2, 2, 0), (.iconst 1, 1, 0, 0, 1), (.iadd, 1, 0, 0, 0), (.putfield 24, 3, 2, 2, 0), (.aload_n 0, 1, 0, 0, 0), (.getfield 9, 3, 2, 0, 0), (.iload_n 1, 1, 1, 0, 0), (.dup2, 1, 0, 0, 0), (.iaload, 1, 0, 0, 0), (.iconst 1, 1, 0, 0, 1), (.iadd, 1, 0, 0, 0), (.iastore, 1, 0, 0, 0), (.aload_n 0, 1, 0, 0, 0), (.getfield 9, 3, 2, 0, 0), (.iload_n 1, 1, 1, 0, 0), (.iaload, 1, 0, 0, 0), (.iconst 1, 1, 0, 0, 1), (.if_icmp .ne 40, 3, 67, 0, 0), (.aload_n 0, 1, 0, 0, 0), (.dup, 1, 0, 0, 0), (.getfield 28, 3, 2, 3, 0), (.iconst 1, 1, 0, 0, 1), (.iadd, 1, 0, 0, 0), (.putfield 28, 3, 2, 3, 0), (.aload_n 0, 1, 0, 0, 0), (.dup, 1, 0, 0, 0), (.getfield 31, 3, 2, 4, 0), (.iconst 1, 1, 0, 0, 1), (.iload_n 1, 1, 1, 0, 0), (.ishl, 1, 0, 0, 0), (.ior, 1, 0, 0, 0), (.putfield 31, 3, 2, 4, 0), (.aload_n 0, 1, 0, 0, 0), (.dup, 1, 0, 0, 0), (.getfield 34, 3, 2, 5, 0), (.aload_n 0, 1, 0, 0, 0), (.getfield 15, 3, 2, 1, 0), (.iload_n 1, 1, 1, 0, 0), (.iaload, 1, 0, 0, 0), (.iadd, 1, 0, 0, 0), (.putfield 34, 3, 2, 5, 0)], 67),
  (67, [(.return_, 1, 0, 0, 0)], 68)]
set_option maxRecDepth 100000 in
theorem ok_X2_take : pm_oks 2 false 2 none cX2_take bk_X2_take = true := oksG_ok (by decide +kernel)
set_option maxRecDepth 100000 in
theorem me_X2_take : pm_me 57 = (yX2_take, cX2_take, 2, none, 1, 0) := pm_mq_ok rfl
theorem mt_X2_take {l : Launch} {g : pm_G} {d mc ms : Nat} {as : List Value} {A : pm_H} {Q : Option Value → pm_H → Prop} (hca : pm_cat 2 as = true) (body : ∀ J : pm_J, pm_Cl l g (fun _ => none) d mc ms (pm_Rq mc ms Q) bk_X2_take J → J 0 (pm_l0 2 as) [] A 0 0) : pm_Mt l g 57 d mc ms as A Q := pm_Mt_of (isI := false) 2 bk_X2_take me_X2_take (plainFor_of_name plX2) rfl (fun h => by cases h) ok_X2_take hca body
noncomputable def bk_X2_kindsFrom : pm_B := [(0, [(.iconst 0, 1, 0, 0, 0), (.istore_n 2, 1, 2, 0, 0), (.iconst 0, 1, 0, 0, 0), (.istore_n 3, 1, 3, 0, 0)], 4),
  (4, [(.iload_n 3, 1, 3, 0, 0), (.bipush 24, 2, 0, 0, 24), (.if_icmp .ge 22, 3, 29, 0, 0), (.aload_n 0, 1, 0, 0, 0), (.getfield 9, 3, 2, 0, 0), (.iload_n 3, 1, 3, 0, 0), (.iaload, 1, 0, 0, 0), (.iload_n 1, 1, 1, 0, 0), (.if_icmp .lt 6, 3, 23, 0, 0), (.iinc 2 1, 3, 2, 0, 1)], 23),
  (23, [(.iinc 3 1, 3, 3, 0, 1), (.goto (-22), 3, 4, 0, 0)], 29),
  (29, [(.iload_n 2, 1, 2, 0, 0), (.ireturn, 1, 0, 0, 0)], 31)]
set_option maxRecDepth 100000 in
theorem ok_X2_kindsFrom : pm_oks 2 false 4 (some .int) cX2_kindsFrom bk_X2_kindsFrom = true := oksG_ok (by decide +kernel)
set_option maxRecDepth 100000 in
theorem me_X2_kindsFrom : pm_me 64 = (yX2_kindsFrom, cX2_kindsFrom, 4, (some .int), 1, 0) := pm_mq_ok rfl
theorem mt_X2_kindsFrom {l : Launch} {g : pm_G} {d mc ms : Nat} {as : List Value} {A : pm_H} {Q : Option Value → pm_H → Prop} (hca : pm_cat 4 as = true) (body : ∀ J : pm_J, pm_Cl l g (fun _ => none) d mc ms (pm_Rq mc ms Q) bk_X2_kindsFrom J → J 0 (pm_l0 4 as) [] A 0 0) : pm_Mt l g 64 d mc ms as A Q := pm_Mt_of (isI := false) 2 bk_X2_kindsFrom me_X2_kindsFrom (plainFor_of_name plX2) rfl (fun h => by cases h) ok_X2_kindsFrom hca body
noncomputable def bk_X2_kindsOfJust : pm_B := [(0, [(.iconst 0, 1, 0, 0, 0), (.istore_n 2, 1, 2, 0, 0), (.iconst 0, 1, 0, 0, 0), (.istore_n 3, 1, 3, 0, 0)], 4),
  (4, [(.iload_n 3, 1, 3, 0, 0), (.bipush 24, 2, 0, 0, 24), (.if_icmp .ge 22, 3, 29, 0, 0), (.aload_n 0, 1, 0, 0, 0), (.getfield 9, 3, 2, 0, 0), (.iload_n 3, 1, 3, 0, 0), (.iaload, 1, 0, 0, 0), (.iload_n 1, 1, 1, 0, 0), (.if_icmp .ne 6, 3, 23, 0, 0), (.iinc 2 1, 3, 2, 0, 1)], 23),
  (23, [(.iinc 3 1, 3, 3, 0, 1), (.goto (-22), 3, 4, 0, 0)], 29),
  (29, [(.iload_n 2, 1, 2, 0, 0), (.ireturn, 1, 0, 0, 0)], 31)]
set_option maxRecDepth 100000 in
theorem ok_X2_kindsOfJust : pm_oks 2 false 4 (some .int) cX2_kindsOfJust bk_X2_kindsOfJust = true := oksG_ok (by decide +kernel)
set_option maxRecDepth 100000 in
theorem me_X2_kindsOfJust : pm_me 77 = (yX2_kindsOfJust, cX2_kindsOfJust, 4, (some .int), 1, 0) := pm_mq_ok rfl
theorem mt_X2_kindsOfJust {l : Launch} {g : pm_G} {d mc ms : Nat} {as : List Value} {A : pm_H} {Q : Option Value → pm_H → Prop} (hca : pm_cat 4 as = true) (body : ∀ J : pm_J, pm_Cl l g (fun _ => none) d mc ms (pm_Rq mc ms Q) bk_X2_kindsOfJust J → J 0 (pm_l0 4 as) [] A 0 0) : pm_Mt l g 77 d mc ms as A Q := pm_Mt_of (isI := false) 2 bk_X2_kindsOfJust me_X2_kindsOfJust (plainFor_of_name plX2) rfl (fun h => by cases h) ok_X2_kindsOfJust hca body
noncomputable def bk_X2_largerThanPart : pm_B := [(0, [(.iconst 0, 1, 0, 0, 0), (.istore_n 2, 1, 2, 0, 0), (.iconst 0, 1, 0, 0, 0), (.istore_n 3, 1, 3, 0, 0)], 4),
  (4, [(.iload_n 3, 1, 3, 0, 0), (.bipush 24, 2, 0, 0, 24), (.if_icmp .ge 34, 3, 41, 0, 0), (.aload_n 0, 1, 0, 0, 0), (.getfield 9, 3, 2, 0, 0), (.iload_n 3, 1, 3, 0, 0), (.iaload, 1, 0, 0, 0), (.i2l, 1, 0, 0, 0), (.iload_n 1, 1, 1, 0, 0), (.i2l, 1, 0, 0, 0), (.lmul, 1, 0, 0, 0), (.aload_n 0, 1, 0, 0, 0), (.getfield 24, 3, 2, 2, 0), (.i2l, 1, 0, 0, 0), (.lcmp, 1, 0, 0, 0), (.ifCond .le 9, 3, 35, 0, 0), (.iload_n 2, 1, 2, 0, 0), (.iconst 1, 1, 0, 0, 1), (.iload_n 3, 1, 3, 0, 0), (.ishl, 1, 0, 0, 0), (.ior, 1, 0, 0, 0), (.istore_n 2, 1, 2, 0, 0)], 35),
  (35, [(.iinc 3 1, 3, 3, 0, 1), (.goto (-34), 3, 4, 0, 0)], 41),
  (41, [(.iload_n 2, 1, 2, 0, 0), (.ireturn, 1, 0, 0, 0)], 43)]
set_option maxRecDepth 100000 in
theorem ok_X2_largerThanPart : pm_oks 2 false 4 (some .int) cX2_largerThanPart bk_X2_largerThanPart = true := oksG_ok (by decide +kernel)
set_option maxRecDepth 100000 in
theorem me_X2_largerThanPart : pm_me 79 = (yX2_largerThanPart, cX2_largerThanPart, 4, (some .int), 1, 0) := pm_mq_ok rfl
theorem mt_X2_largerThanPart {l : Launch} {g : pm_G} {d mc ms : Nat} {as : List Value} {A : pm_H} {Q : Option Value → pm_H → Prop} (hca : pm_cat 4 as = true) (body : ∀ J : pm_J, pm_Cl l g (fun _ => none) d mc ms (pm_Rq mc ms Q) bk_X2_largerThanPart J → J 0 (pm_l0 4 as) [] A 0 0) : pm_Mt l g 79 d mc ms as A Q := pm_Mt_of (isI := false) 2 bk_X2_largerThanPart me_X2_largerThanPart (plainFor_of_name plX2) rfl (fun h => by cases h) ok_X2_largerThanPart hca body
noncomputable def bk_X2_placesOfLargest : pm_B := [(0, [(.iconst 0, 1, 0, 0, 0), (.istore_n 2, 1, 2, 0, 0), (.iconst 0, 1, 0, 0, 0), (.istore_n 3, 1, 3, 0, 0), (.iconst 0, 1, 0, 0, 0), (.istore 4, 2, 4, 0, 0)], 7),
  (7, [(.iload 4, 2, 4, 0, 0), (.iload_n 1, 1, 1, 0, 0), (.if_icmp .ge 48, 3, 58, 0, 0), (.iload 4, 2, 4, 0, 0), (.bipush 24, 2, 0, 0, 24), (.if_icmp .ge 41, 3, 58, 0, 0), (.aload_n 0, 1, 0, 0, 0), (.iload_n 2, 1, 2, 0, 0), (.invokevirtual 53, 3, 92, 1, 2), (.istore 5, 2, 5, 0, 0), (.iload 5, 2, 5, 0, 0), (.iconst (-1), 1, 0, 0, -1), (.if_icmp .ne 5, 3, 35, 0, 0), (.iload_n 3, 1, 3, 0, 0), (.ireturn, 1, 0, 0, 0)], 35),
  (35, [(.iload_n 2, 1, 2, 0, 0), (.iconst 1, 1, 0, 0, 1), (.iload 5, 2, 5, 0, 0), (.ishl, 1, 0, 0, 0), (.ior, 1, 0, 0, 0), (.istore_n 2, 1, 2, 0, 0), (.iload_n 3, 1, 3, 0, 0), (.aload_n 0, 1, 0, 0, 0), (.getfield 9, 3, 2, 0, 0), (.iload 5, 2, 5, 0, 0), (.iaload, 1, 0, 0, 0), (.iadd, 1, 0, 0, 0), (.istore_n 3, 1, 3, 0, 0), (.iinc 4 1, 3, 4, 0, 1), (.goto (-48), 3, 7, 0, 0)], 58),
  (58, [(.iload_n 3, 1, 3, 0, 0), (.ireturn, 1, 0, 0, 0)], 60)]
set_option maxRecDepth 100000 in
theorem ok_X2_placesOfLargest : pm_oks 2 false 6 (some .int) cX2_placesOfLargest bk_X2_placesOfLargest = true := oksG_ok (by decide +kernel)
set_option maxRecDepth 100000 in
theorem me_X2_placesOfLargest : pm_me 91 = (yX2_placesOfLargest, cX2_placesOfLargest, 6, (some .int), 1, 0) := pm_mq_ok rfl
theorem mt_X2_placesOfLargest {l : Launch} {g : pm_G} {d mc ms : Nat} {as : List Value} {A : pm_H} {Q : Option Value → pm_H → Prop} (hca : pm_cat 6 as = true) (body : ∀ J : pm_J, pm_Cl l g (fun _ => none) d mc ms (pm_Rq mc ms Q) bk_X2_placesOfLargest J → J 0 (pm_l0 6 as) [] A 0 0) : pm_Mt l g 91 d mc ms as A Q := pm_Mt_of (isI := false) 2 bk_X2_placesOfLargest me_X2_placesOfLargest (plainFor_of_name plX2) rfl (fun h => by cases h) ok_X2_placesOfLargest hca body
end
section
/-! blocks, by a program -/
noncomputable def bk_X2_largestBeside : pm_B := [(0, [(.iconst (-1), 1, 0, 0, -1), (.istore_n 2, 1, 2, 0, 0), (.iconst 0, 1, 0, 0, 0), (.istore_n 3, 1, 3, 0, 0)], 4),
  (4, [(.iload_n 3, 1, 3, 0, 0), (.bipush 24, 2, 0, 0, 24), (.if_icmp .ge 51, 3, 58, 0, 0), (.iload_n 1, 1, 1, 0, 0), (.iconst 1, 1, 0, 0, 1), (.iload_n 3, 1, 3, 0, 0), (.ishl, 1, 0, 0, 0), (.iand, 1, 0, 0, 0), (.ifCond .ne 7, 3, 22, 0, 0), (.iconst 1, 1, 0, 0, 1), (.goto 4, 3, 23, 0, 0)], 22),
  (22, [(.iconst 0, 1, 0, 0, 0)], 23),
  (23, [(.istore 4, 2, 4, 0, 0), (.iload 4, 2, 4, 0, 0), (.ifCond .eq 25, 3, 52, 0, 0), (.iload_n 2, 1, 2, 0, 0), (.iconst (-1), 1, 0, 0, -1), (.if_icmp .eq 18, 3, 50, 0, 0), (.aload_n 0, 1, 0, 0, 0), (.getfield 9, 3, 2, 0, 0), (.iload_n 3, 1, 3, 0, 0), (.iaload, 1, 0, 0, 0), (.aload_n 0, 1, 0, 0, 0), (.getfield 9, 3, 2, 0, 0), (.iload_n 2, 1, 2, 0, 0), (.iaload, 1, 0, 0, 0), (.if_icmp .le 5, 3, 52, 0, 0)], 50),
  (50, [(.iload_n 3, 1, 3, 0, 0), (.istore_n 2, 1, 2, 0, 0)], 52),
  (52, [(.iinc 3 1, 3, 3, 0, 1), (.goto (-51), 3, 4, 0, 0)], 58),
  (58, [(.iload_n 2, 1, 2, 0, 0), (.ireturn, 1, 0, 0, 0)], 60)]
set_option maxRecDepth 100000 in
theorem ok_X2_largestBeside : pm_oks 2 false 5 (some .int) cX2_largestBeside bk_X2_largestBeside = true := oksG_ok (by decide +kernel)
set_option maxRecDepth 100000 in
theorem me_X2_largestBeside : pm_me 92 = (yX2_largestBeside, cX2_largestBeside, 5, (some .int), 1, 0) := pm_mq_ok rfl
theorem mt_X2_largestBeside {l : Launch} {g : pm_G} {d mc ms : Nat} {as : List Value} {A : pm_H} {Q : Option Value → pm_H → Prop} (hca : pm_cat 5 as = true) (body : ∀ J : pm_J, pm_Cl l g (fun _ => none) d mc ms (pm_Rq mc ms Q) bk_X2_largestBeside J → J 0 (pm_l0 5 as) [] A 0 0) : pm_Mt l g 92 d mc ms as A Q := pm_Mt_of (isI := false) 2 bk_X2_largestBeside me_X2_largestBeside (plainFor_of_name plX2) rfl (fun h => by cases h) ok_X2_largestBeside hca body
noncomputable def bk_X2_twosAlike : pm_B := [(0, [(.iconst 0, 1, 0, 0, 0), (.istore_n 1, 1, 1, 0, 0), (.iconst 0, 1, 0, 0, 0), (.istore_n 2, 1, 2, 0, 0)], 4),
  (4, [(.iload_n 2, 1, 2, 0, 0), (.bipush 24, 2, 0, 0, 24), (.if_icmp .ge 29, 3, 36, 0, 0), (.iload_n 1, 1, 1, 0, 0), (.aload_n 0, 1, 0, 0, 0), (.getfield 9, 3, 2, 0, 0), (.iload_n 2, 1, 2, 0, 0), (.iaload, 1, 0, 0, 0), (.aload_n 0, 1, 0, 0, 0), (.getfield 9, 3, 2, 0, 0), (.iload_n 2, 1, 2, 0, 0), (.iaload, 1, 0, 0, 0), (.iconst 1, 1, 0, 0, 1), (.isub, 1, 0, 0, 0), (.imul, 1, 0, 0, 0), (.iconst 2, 1, 0, 0, 2), (.idiv, 1, 0, 0, 0), (.iadd, 1, 0, 0, 0), (.istore_n 1, 1, 1, 0, 0), (.iinc 2 1, 3, 2, 0, 1), (.goto (-29), 3, 4, 0, 0)], 36),
  (36, [(.iload_n 1, 1, 1, 0, 0), (.ireturn, 1, 0, 0, 0)], 38)]
set_option maxRecDepth 100000 in
theorem ok_X2_twosAlike : pm_oks 2 false 3 (some .int) cX2_twosAlike bk_X2_twosAlike = true := oksG_ok (by decide +kernel)
set_option maxRecDepth 100000 in
theorem me_X2_twosAlike : pm_me 95 = (yX2_twosAlike, cX2_twosAlike, 3, (some .int), 0, 0) := pm_mq_ok rfl
theorem mt_X2_twosAlike {l : Launch} {g : pm_G} {d mc ms : Nat} {as : List Value} {A : pm_H} {Q : Option Value → pm_H → Prop} (hca : pm_cat 3 as = true) (body : ∀ J : pm_J, pm_Cl l g (fun _ => none) d mc ms (pm_Rq mc ms Q) bk_X2_twosAlike J → J 0 (pm_l0 3 as) [] A 0 0) : pm_Mt l g 95 d mc ms as A Q := pm_Mt_of (isI := false) 2 bk_X2_twosAlike me_X2_twosAlike (plainFor_of_name plX2) rfl (fun h => by cases h) ok_X2_twosAlike hca body
noncomputable def bk_X2_drop : pm_B := [(0, [(.aload_n 0, 1, 0, 0, 0), (.dup, 1, 0, 0, 0), (.getfield 24, 3, 2, 2, 0), (.iconst 1, 1, 0, 0, 1), (.isub, 1, 0, 0, 0), (.putfield 24, 3, 2, 2, 0), (.aload_n 0, 1, 0, 0, 0), (.getfield 9, 3, 2, 0, 0), (.iload_n 1, 1, 1, 0, 0), (.dup2, 1, 0, 0, 0), (.iaload, 1, 0, 0, 0), (.iconst 1, 1, 0, 0, 1), (.isub, 1, 0, 0, 0), (.iastore, 1, 0, 0, 0), (.aload_n 0, 1, 0, 0, 0), (.getfield 9, 3, 2, 0, 0), (.iload_n 1, 1, 1, 0, 0), (.iaload, 1, 0, 0, 0), (.ifCond .ne 42, 3, 68, 0, 0), (.aload_n 0, 1, 0, 0, 0), (.dup, 1, 0, 0, 0), (.getfield 28, 3, 2, 3, 0), (.iconst 1, 1, 0, 0, 1), (.isub, 1, 0, 0, 0), (.putfield 28, 3, 2, 3, 0), (.aload_n 0, 1, 0, 0, 0), (.dup, 1, 0, 0, 0), (.getfield 31, 3, 2, 4, 0), (.iconst 1, 1, 0, 0, 1), (.iload_n 1, 1, 1, 0, 0), (.ishl, 1, 0, 0, 0), (.iconst (-1), 1, 0, 0, -1), (.ixor, 1, 0, 0, 0), (.iand, 1, 0, 0, 0), (.putfield 31, 3, 2, 4, 0), (.aload_n 0, 1, 0, 0, 0), (.dup, 1, 0, 0, 0), (.getfield 34, 3, 2, 5, 0), (.aload_n 0, 1, 0, 0, 0), (.getfield 15, 3, 2, 1, 0), (.iload_n 1, 1, 1, 0, 0), (.iaload, 1, 0, 0, 0), (.isub, 1, 0, 0, 0), (.putfield 34, 3, 2, 5, 0)], 68),
  (68, [(.return_, 1, 0, 0, 0)], 69)]
set_option maxRecDepth 100000 in
theorem ok_X2_drop : pm_oks 2 false 2 none cX2_drop bk_X2_drop = true := oksG_ok (by decide +kernel)
set_option maxRecDepth 100000 in
theorem me_X2_drop : pm_me 113 = (yX2_drop, cX2_drop, 2, none, 1, 0) := pm_mq_ok rfl
theorem mt_X2_drop {l : Launch} {g : pm_G} {d mc ms : Nat} {as : List Value} {A : pm_H} {Q : Option Value → pm_H → Prop} (hca : pm_cat 2 as = true) (body : ∀ J : pm_J, pm_Cl l g (fun _ => none) d mc ms (pm_Rq mc ms Q) bk_X2_drop J → J 0 (pm_l0 2 as) [] A 0 0) : pm_Mt l g 113 d mc ms as A Q := pm_Mt_of (isI := false) 2 bk_X2_drop me_X2_drop (plainFor_of_name plX2) rfl (fun h => by cases h) ok_X2_drop hca body
noncomputable def bk_J7_fill_53178 : pm_B := [(0, [(.iconst 0, 1, 0, 0, 0), (.istore_n 2, 1, 2, 0, 0), (.aload_n 0, 1, 0, 0, 0), (.arraylength, 1, 0, 0, 0), (.istore_n 3, 1, 3, 0, 0)], 5),
  (5, [(.iload_n 2, 1, 2, 0, 0), (.iload_n 3, 1, 3, 0, 0), (.if_icmp .ge 13, 3, 20, 0, 0), (.aload_n 0, 1, 0, 0, 0), (.iload_n 2, 1, 2, 0, 0), (.iload_n 1, 1, 1, 0, 0), (.iastore, 1, 0, 0, 0), (.iinc 2 1, 3, 2, 0, 1), (.goto (-12), 3, 5, 0, 0)], 20),
  (20, [(.return_, 1, 0, 0, 0)], 21)]
set_option maxRecDepth 100000 in
theorem ok_J7_fill_53178 : pm_oks 15 false 4 none cJ7_fill_53178 bk_J7_fill_53178 = true := oksG_ok (by decide +kernel)
set_option maxRecDepth 100000 in
theorem me_J7_fill_53178 : pm_me 4 = (yJ7_fill_53178, cJ7_fill_53178, 4, none, 2, 1) := pm_mq_ok rfl
theorem mt_J7_fill_53178 {l : Launch} {g : pm_G} {d mc ms : Nat} {as : List Value} {A : pm_H} {Q : Option Value → pm_H → Prop} (hca : pm_cat 4 as = true) (body : ∀ J : pm_J, pm_Cl l g (fun _ => none) d mc ms (pm_Rq mc ms Q) bk_J7_fill_53178 J → J 0 (pm_l0 4 as) [] A 0 0) : pm_Mt l g 4 d mc ms as A Q := pm_Mt_of (isI := false) 15 bk_J7_fill_53178 me_J7_fill_53178 (plainFor_of_name plJ7) rfl (fun h => by cases h) ok_J7_fill_53178 hca body
noncomputable def bk_X0_init : pm_B := [(0, [(.aload_n 0, 1, 0, 0, 0), (.invokespecial 3, 3, 0, 0, 0), (.aload_n 0, 1, 0, 0, 0), (.bipush 24, 2, 0, 0, 24), (.newarray .int, 2, 24, 0, 0), (.putfield 9, 3, 0, 0, 1), (.aload_n 0, 1, 0, 0, 0), (.sipush 160, 3, 0, 0, 160), (.newarray .int, 2, 160, 0, 0), (.putfield 15, 3, 0, 1, 1), (.return_, 1, 0, 0, 0)], 22)]
set_option maxRecDepth 100000 in
theorem ok_X0_init : pm_oks 0 true 1 none cX0_init bk_X0_init = true := oksG_ok (by decide +kernel)
set_option maxRecDepth 100000 in
theorem me_X0_init : pm_me 5 = (yX0_init, cX0_init, 1, none, 0, 2) := pm_mq_ok rfl
theorem mt_X0_init {l : Launch} {g : pm_G} {d mc ms : Nat} {as : List Value} {A : pm_H} {Q : Option Value → pm_H → Prop} (hca : pm_cat 1 as = true) (body : ∀ J : pm_J, pm_Cl l g (fun _ => none) d mc ms (pm_Rq mc ms Q) bk_X0_init J → J 0 (pm_l0 1 as) [] A 0 0) : pm_Mt l g 5 d mc ms as A Q := pm_Mt_of (isI := true) 0 bk_X0_init me_X0_init (plainFor_of_name plX0) rfl (fun _ => by decide +kernel) ok_X0_init hca body
noncomputable def bk_X0_reported : pm_B := [(0, [(.aload_n 0, 1, 0, 0, 0), (.getfield 15, 3, 0, 1, 0), (.iconst (-1), 1, 0, 0, -1), (.invokestatic 18, 3, 4, 2, 0), (.iconst 0, 1, 0, 0, 0), (.istore 5, 2, 5, 0, 0), (.iload_n 2, 1, 2, 0, 0), (.istore 6, 2, 6, 0, 0)], 14),
  (14, [(.iload 6, 2, 6, 0, 0), (.iload_n 3, 1, 3, 0, 0), (.if_icmp .gt 55, 3, 72, 0, 0), (.aload_n 1, 1, 1, 0, 0), (.getfield 24, 3, 7, 2, 0), (.iload 6, 2, 6, 0, 0), (.iaload, 1, 0, 0, 0), (.istore 7, 2, 7, 0, 0), (.iload 7, 2, 7, 0, 0), (.iconst (-1), 1, 0, 0, -1), (.if_icmp .ne 19, 3, 51, 0, 0), (.iload 5, 2, 5, 0, 0), (.iload 4, 2, 4, 0, 0), (.if_icmp .ne 6, 3, 45, 0, 0), (.iload 6, 2, 6, 0, 0), (.ireturn, 1, 0, 0, 0)], 45),
  (45, [(.iinc 5 1, 3, 5, 0, 1), (.goto 18, 3, 66, 0, 0)], 51),
  (51, [(.iload 7, 2, 7, 0, 0), (.iload_n 2, 1, 2, 0, 0), (.if_icmp .ge 12, 3, 66, 0, 0), (.aload_n 0, 1, 0, 0, 0), (.getfield 15, 3, 0, 1, 0), (.iload 7, 2, 7, 0, 0), (.iload 6, 2, 6, 0, 0), (.iastore, 1, 0, 0, 0)], 66),
  (66, [(.iinc 6 1, 3, 6, 0, 1), (.goto (-55), 3, 14, 0, 0)], 72),
  (72, [(.iconst 0, 1, 0, 0, 0), (.istore 6, 2, 6, 0, 0)], 75),
  (75, [(.iload 6, 2, 6, 0, 0), (.iload_n 2, 1, 2, 0, 0), (.if_icmp .ge 38, 3, 116, 0, 0), (.aload_n 0, 1, 0, 0, 0), (.getfield 15, 3, 0, 1, 0), (.iload 6, 2, 6, 0, 0), (.iaload, 1, 0, 0, 0), (.iconst (-1), 1, 0, 0, -1), (.if_icmp .eq 21, 3, 110, 0, 0), (.iload 5, 2, 5, 0, 0), (.iload 4, 2, 4, 0, 0), (.if_icmp .ne 11, 3, 107, 0, 0), (.aload_n 0, 1, 0, 0, 0), (.getfield 15, 3, 0, 1, 0), (.iload 6, 2, 6, 0, 0), (.iaload, 1, 0, 0, 0), (.ireturn, 1, 0, 0, 0)], 107),
  (107, [(.iinc 5 1, 3, 5, 0, 1)], 110),
  (110, [(.iinc 6 1, 3, 6, 0, 1), (.goto (-38), 3, 75, 0, 0)], 116),
  (116, [(.iconst (-1), 1, 0, 0, -1), (.ireturn, 1, 0, 0, 0)], 118)]
set_option maxRecDepth 100000 in
theorem ok_X0_reported : pm_oks 0 false 8 (some .int) cX0_reported bk_X0_reported = true := oksG_ok (by decide +kernel)
set_option maxRecDepth 100000 in
theorem me_X0_reported : pm_me 66 = (yX0_reported, cX0_reported, 8, (some .int), 4, 0) := pm_mq_ok rfl
theorem mt_X0_reported {l : Launch} {g : pm_G} {d mc ms : Nat} {as : List Value} {A : pm_H} {Q : Option Value → pm_H → Prop} (hca : pm_cat 8 as = true) (body : ∀ J : pm_J, pm_Cl l g (fun _ => none) d mc ms (pm_Rq mc ms Q) bk_X0_reported J → J 0 (pm_l0 8 as) [] A 0 0) : pm_Mt l g 66 d mc ms as A Q := pm_Mt_of (isI := false) 0 bk_X0_reported me_X0_reported (plainFor_of_name plX0) rfl (fun h => by cases h) ok_X0_reported hca body
noncomputable def bk_X0_colourInOrder : pm_B := [(0, [(.iload 6, 2, 6, 0, 0), (.tableswitch 93 0 4 #[34, 46, 58, 69, 81], 34, 2, 0, 0)], 36),
  (36, [(.aload_n 0, 1, 0, 0, 0), (.aload_n 1, 1, 1, 0, 0), (.iload_n 3, 1, 3, 0, 0), (.iload 4, 2, 4, 0, 0), (.iconst 1, 1, 0, 0, 1), (.invokevirtual 29, 3, 69, 4, 0), (.goto 52, 3, 97, 0, 0)], 48),
  (48, [(.aload_n 0, 1, 0, 0, 0), (.aload_n 1, 1, 1, 0, 0), (.iload 4, 2, 4, 0, 0), (.iload_n 3, 1, 3, 0, 0), (.iconst (-1), 1, 0, 0, -1), (.invokevirtual 29, 3, 69, 4, 0), (.goto 40, 3, 97, 0, 0)], 60),
  (60, [(.aload_n 0, 1, 0, 0, 0), (.aload_n 2, 1, 2, 0, 0), (.getfield 33, 3, 2, 4, 0), (.iload 5, 2, 5, 0, 0), (.invokevirtual 39, 3, 71, 2, 0), (.ireturn, 1, 0, 0, 0)], 71),
  (71, [(.aload_n 0, 1, 0, 0, 0), (.aload_n 2, 1, 2, 0, 0), (.aload_n 2, 1, 2, 0, 0), (.getfield 43, 3, 2, 1, 0), (.invokevirtual 46, 3, 72, 2, 0), (.goto 17, 3, 97, 0, 0)], 83),
  (83, [(.aload_n 0, 1, 0, 0, 0), (.aload_n 2, 1, 2, 0, 0), (.aload_n 2, 1, 2, 0, 0), (.getfield 50, 3, 2, 0, 0), (.invokevirtual 46, 3, 72, 2, 0), (.goto 5, 3, 97, 0, 0)], 95),
  (95, [(.iconst (-1), 1, 0, 0, -1), (.ireturn, 1, 0, 0, 0)], 97),
  (97, [(.iload 5, 2, 5, 0, 0), (.ifCond .lt 22, 3, 121, 0, 0), (.iload 5, 2, 5, 0, 0), (.aload_n 0, 1, 0, 0, 0), (.getfield 53, 3, 0, 2, 0), (.if_icmp .ge 13, 3, 121, 0, 0), (.aload_n 0, 1, 0, 0, 0), (.getfield 9, 3, 0, 0, 0), (.iload 5, 2, 5, 0, 0), (.iaload, 1, 0, 0, 0), (.goto 4, 3, 122, 0, 0)], 121),
  (121, [(.iconst (-1), 1, 0, 0, -1)], 122),
  (122, [(.ireturn, 1, 0, 0, 0)], 123)]
set_option maxRecDepth 100000 in
theorem ok_X0_colourInOrder : pm_oks 0 false 7 (some .int) cX0_colourInOrder bk_X0_colourInOrder = true := oksG_ok (by decide +kernel)
set_option maxRecDepth 100000 in
theorem me_X0_colourInOrder : pm_me 68 = (yX0_colourInOrder, cX0_colourInOrder, 7, (some .int), 6, 0) := pm_mq_ok rfl
theorem mt_X0_colourInOrder {l : Launch} {g : pm_G} {d mc ms : Nat} {as : List Value} {A : pm_H} {Q : Option Value → pm_H → Prop} (hca : pm_cat 7 as = true) (body : ∀ J : pm_J, pm_Cl l g (fun _ => none) d mc ms (pm_Rq mc ms Q) bk_X0_colourInOrder J → J 0 (pm_l0 7 as) [] A 0 0) : pm_Mt l g 68 d mc ms as A Q := pm_Mt_of (isI := false) 0 bk_X0_colourInOrder me_X0_colourInOrder (plainFor_of_name plX0) rfl (fun h => by cases h) ok_X0_colourInOrder hca body
noncomputable def bk_X0_listAsMet : pm_B := [(0, [(.iconst 0, 1, 0, 0, 0), (.istore 5, 2, 5, 0, 0), (.iload_n 3, 1, 3, 0, 0), (.iload_n 2, 1, 2, 0, 0), (.isub, 1, 0, 0, 0), (.invokestatic 56, 3, 70, 1, 0), (.istore 6, 2, 6, 0, 0), (.aload_n 0, 1, 0, 0, 0), (.iconst 0, 1, 0, 0, 0), (.putfield 53, 3, 0, 2, 0), (.iconst 0, 1, 0, 0, 0), (.istore 7, 2, 7, 0, 0)], 19),
  (19, [(.iload 7, 2, 7, 0, 0), (.iload 6, 2, 6, 0, 0), (.if_icmp .gt 72, 3, 95, 0, 0), (.aload_n 1, 1, 1, 0, 0), (.getfield 62, 3, 7, 0, 0), (.iload_n 2, 1, 2, 0, 0), (.iload 7, 2, 7, 0, 0), (.iload 4, 2, 4, 0, 0), (.imul, 1, 0, 0, 0), (.iadd, 1, 0, 0, 0), (.iaload, 1, 0, 0, 0), (.istore 8, 2, 8, 0, 0), (.iload 5, 2, 5, 0, 0), (.iconst 1, 1, 0, 0, 1), (.iload 8, 2, 8, 0, 0), (.ishl, 1, 0, 0, 0), (.iand, 1, 0, 0, 0), (.ifCond .ne 42, 3, 89, 0, 0), (.aload_n 0, 1, 0, 0, 0), (.getfield 53, 3, 0, 2, 0), (.bipush 24, 2, 0, 0, 24), (.if_icmp .ge 33, 3, 89, 0, 0), (.iload 5, 2, 5, 0, 0), (.iconst 1, 1, 0, 0, 1), (.iload 8, 2, 8, 0, 0), (.ishl, 1, 0, 0, 0), (.ior, 1, 0, 0, 0), (.istore 5, 2, 5, 0, 0), (.aload_n 0, 1, 0, 0, 0), (.getfield 9, 3, 0, 0, 0), (.aload_n 0, 1, 0, 0, 0), (.getfield 53, 3, 0, 2, 0), (.iload 8, 2, 8, 0, 0), (.iastore, 1, 0, 0, 0), (.aload_n 0, 1, 0, 0, 0), (.dup, 1, 0, 0, 0), (.getfield 53, 3, 0, 2, 0), (.iconst 1, 1, 0, 0, 1), (.iadd, 1, 0, 0, 0), (.putfield 53, 3, 0, 2, 0)], 89),
  (89, [(.iinc 7 1, 3, 7, 0, 1), (.goto (-73), 3, 19, 0, 0)], 95),
  (95, [(.return_, 1, 0, 0, 0)], 96)]
set_option maxRecDepth 100000 in
theorem ok_X0_listAsMet : pm_oks 0 false 9 none cX0_listAsMet bk_X0_listAsMet = true := oksG_ok (by decide +kernel)
set_option maxRecDepth 100000 in
theorem me_X0_listAsMet : pm_me 69 = (yX0_listAsMet, cX0_listAsMet, 9, none, 4, 0) := pm_mq_ok rfl
theorem mt_X0_listAsMet {l : Launch} {g : pm_G} {d mc ms : Nat} {as : List Value} {A : pm_H} {Q : Option Value → pm_H → Prop} (hca : pm_cat 9 as = true) (body : ∀ J : pm_J, pm_Cl l g (fun _ => none) d mc ms (pm_Rq mc ms Q) bk_X0_listAsMet J → J 0 (pm_l0 9 as) [] A 0 0) : pm_Mt l g 69 d mc ms as A Q := pm_Mt_of (isI := false) 0 bk_X0_listAsMet me_X0_listAsMet (plainFor_of_name plX0) rfl (fun h => by cases h) ok_X0_listAsMet hca body
noncomputable def bk_X0_colourOf : pm_B := [(0, [(.iconst 0, 1, 0, 0, 0), (.istore_n 3, 1, 3, 0, 0), (.iconst 0, 1, 0, 0, 0), (.istore 4, 2, 4, 0, 0)], 5),
  (5, [(.iload 4, 2, 4, 0, 0), (.bipush 24, 2, 0, 0, 24), (.if_icmp .ge 29, 3, 38, 0, 0), (.iload_n 1, 1, 1, 0, 0), (.iconst 1, 1, 0, 0, 1), (.iload 4, 2, 4, 0, 0), (.ishl, 1, 0, 0, 0), (.iand, 1, 0, 0, 0), (.ifCond .eq 14, 3, 32, 0, 0), (.iload_n 3, 1, 3, 0, 0), (.iload_n 2, 1, 2, 0, 0), (.if_icmp .ne 6, 3, 29, 0, 0), (.iload 4, 2, 4, 0, 0), (.ireturn, 1, 0, 0, 0)], 29),
  (29, [(.iinc 3 1, 3, 3, 0, 1)], 32),
  (32, [(.iinc 4 1, 3, 4, 0, 1), (.goto (-30), 3, 5, 0, 0)], 38),
  (38, [(.iconst (-1), 1, 0, 0, -1), (.ireturn, 1, 0, 0, 0)], 40)]
set_option maxRecDepth 100000 in
theorem ok_X0_colourOf : pm_oks 0 false 5 (some .int) cX0_colourOf bk_X0_colourOf = true := oksG_ok (by decide +kernel)
set_option maxRecDepth 100000 in
theorem me_X0_colourOf : pm_me 71 = (yX0_colourOf, cX0_colourOf, 5, (some .int), 2, 0) := pm_mq_ok rfl
theorem mt_X0_colourOf {l : Launch} {g : pm_G} {d mc ms : Nat} {as : List Value} {A : pm_H} {Q : Option Value → pm_H → Prop} (hca : pm_cat 5 as = true) (body : ∀ J : pm_J, pm_Cl l g (fun _ => none) d mc ms (pm_Rq mc ms Q) bk_X0_colourOf J → J 0 (pm_l0 5 as) [] A 0 0) : pm_Mt l g 71 d mc ms as A Q := pm_Mt_of (isI := false) 0 bk_X0_colourOf me_X0_colourOf (plainFor_of_name plX0) rfl (fun h => by cases h) ok_X0_colourOf hca body
noncomputable def bk_X0_listByMost : pm_B := [(0, [(.aload_n 0, 1, 0, 0, 0), (.iconst 0, 1, 0, 0, 0), (.putfield 53, 3, 0, 2, 0), (.iconst 0, 1, 0, 0, 0), (.istore_n 3, 1, 3, 0, 0)], 7),
  (7, [(.iload_n 3, 1, 3, 0, 0), (.bipush 24, 2, 0, 0, 24), (.if_icmp .ge 86, 3, 96, 0, 0), (.aload_n 1, 1, 1, 0, 0), (.getfield 50, 3, 2, 0, 0), (.iload_n 3, 1, 3, 0, 0), (.iaload, 1, 0, 0, 0), (.ifCond .le 71, 3, 90, 0, 0), (.aload_n 0, 1, 0, 0, 0), (.getfield 53, 3, 0, 2, 0), (.istore 4, 2, 4, 0, 0)], 28),
  (28, [(.iload 4, 2, 4, 0, 0), (.ifCond .le 42, 3, 72, 0, 0), (.aload_n 2, 1, 2, 0, 0), (.aload_n 0, 1, 0, 0, 0), (.getfield 9, 3, 0, 0, 0), (.iload 4, 2, 4, 0, 0), (.iconst 1, 1, 0, 0, 1), (.isub, 1, 0, 0, 0), (.iaload, 1, 0, 0, 0), (.iaload, 1, 0, 0, 0), (.aload_n 2, 1, 2, 0, 0), (.iload_n 3, 1, 3, 0, 0), (.iaload, 1, 0, 0, 0), (.if_icmp .ge 25, 3, 72, 0, 0), (.aload_n 0, 1, 0, 0, 0), (.getfield 9, 3, 0, 0, 0), (.iload 4, 2, 4, 0, 0), (.aload_n 0, 1, 0, 0, 0), (.getfield 9, 3, 0, 0, 0), (.iload 4, 2, 4, 0, 0), (.iconst 1, 1, 0, 0, 1), (.isub, 1, 0, 0, 0), (.iaload, 1, 0, 0, 0), (.iastore, 1, 0, 0, 0), (.iinc 4 (-1), 3, 4, 0, -1), (.goto (-41), 3, 28, 0, 0)], 72),
  (72, [(.aload_n 0, 1, 0, 0, 0), (.getfield 9, 3, 0, 0, 0), (.iload 4, 2, 4, 0, 0), (.iload_n 3, 1, 3, 0, 0), (.iastore, 1, 0, 0, 0), (.aload_n 0, 1, 0, 0, 0), (.dup, 1, 0, 0, 0), (.getfield 53, 3, 0, 2, 0), (.iconst 1, 1, 0, 0, 1), (.iadd, 1, 0, 0, 0), (.putfield 53, 3, 0, 2, 0)], 90),
  (90, [(.iinc 3 1, 3, 3, 0, 1), (.goto (-86), 3, 7, 0, 0)], 96),
  (96, [(.return_, 1, 0, 0, 0)], 97)]
set_option maxRecDepth 100000 in
theorem ok_X0_listByMost : pm_oks 0 false 5 none cX0_listByMost bk_X0_listByMost = true := oksG_ok (by decide +kernel)
set_option maxRecDepth 100000 in
theorem me_X0_listByMost : pm_me 72 = (yX0_listByMost, cX0_listByMost, 5, none, 2, 0) := pm_mq_ok rfl
theorem mt_X0_listByMost {l : Launch} {g : pm_G} {d mc ms : Nat} {as : List Value} {A : pm_H} {Q : Option Value → pm_H → Prop} (hca : pm_cat 5 as = true) (body : ∀ J : pm_J, pm_Cl l g (fun _ => none) d mc ms (pm_Rq mc ms Q) bk_X0_listByMost J → J 0 (pm_l0 5 as) [] A 0 0) : pm_Mt l g 72 d mc ms as A Q := pm_Mt_of (isI := false) 0 bk_X0_listByMost me_X0_listByMost (plainFor_of_name plX0) rfl (fun h => by cases h) ok_X0_listByMost hca body
noncomputable def bk_X1_init : pm_B := [(0, [(.aload_n 0, 1, 0, 0, 0), (.invokespecial 3, 3, 0, 0, 0), (.aload_n 0, 1, 0, 0, 0), (.sipush 160, 3, 0, 0, 160), (.newarray .int, 2, 160, 0, 0), (.putfield 9, 3, 1, 0, 1), (.aload_n 0, 1, 0, 0, 0), (.bipush 24, 2, 0, 0, 24), (.newarray .int, 2, 24, 0, 0), (.putfield 15, 3, 1, 1, 1), (.aload_n 0, 1, 0, 0, 0), (.bipush 24, 2, 0, 0, 24), (.newarray .int, 2, 24, 0, 0), (.putfield 18, 3, 1, 2, 1), (.return_, 1, 0, 0, 0)], 30)]
set_option maxRecDepth 100000 in
theorem ok_X1_init : pm_oks 1 true 1 none cX1_init bk_X1_init = true := oksG_ok (by decide +kernel)
set_option maxRecDepth 100000 in
theorem me_X1_init : pm_me 6 = (yX1_init, cX1_init, 1, none, 0, 2) := pm_mq_ok rfl
theorem mt_X1_init {l : Launch} {g : pm_G} {d mc ms : Nat} {as : List Value} {A : pm_H} {Q : Option Value → pm_H → Prop} (hca : pm_cat 1 as = true) (body : ∀ J : pm_J, pm_Cl l g (fun _ => none) d mc ms (pm_Rq mc ms Q) bk_X1_init J → J 0 (pm_l0 1 as) [] A 0 0) : pm_Mt l g 6 d mc ms as A Q := pm_Mt_of (isI := true) 1 bk_X1_init me_X1_init (plainFor_of_name plX1) rfl (fun _ => by decide +kernel) ok_X1_init hca body
noncomputable def bk_X1_findNearestAlike : pm_B := [(0, [(.aload_n 0, 1, 0, 0, 0), (.invokevirtual 28, 3, 82, 0, 1), (.iload_n 2, 1, 2, 0, 0), (.istore 4, 2, 4, 0, 0)], 7),
  (7, [(.iload 4, 2, 4, 0, 0), (.iload_n 3, 1, 3, 0, 0), (.if_icmp .gt 33, 3, 43, 0, 0), (.aload_n 1, 1, 1, 0, 0), (.getfield 31, 3, 7, 2, 0), (.iload 4, 2, 4, 0, 0), (.iaload, 1, 0, 0, 0), (.iload_n 2, 1, 2, 0, 0), (.if_icmp .lt 16, 3, 37, 0, 0), (.aload_n 0, 1, 0, 0, 0), (.aload_n 1, 1, 1, 0, 0), (.getfield 31, 3, 7, 2, 0), (.iload 4, 2, 4, 0, 0), (.iaload, 1, 0, 0, 0), (.iload 4, 2, 4, 0, 0), (.invokevirtual 36, 3, 83, 2, 1)], 37),
  (37, [(.iinc 4 1, 3, 4, 0, 1), (.goto (-33), 3, 7, 0, 0)], 43),
  (43, [(.return_, 1, 0, 0, 0)], 44)]
set_option maxRecDepth 100000 in
theorem ok_X1_findNearestAlike : pm_oks 1 false 5 none cX1_findNearestAlike bk_X1_findNearestAlike = true := oksG_ok (by decide +kernel)
set_option maxRecDepth 100000 in
theorem me_X1_findNearestAlike : pm_me 81 = (yX1_findNearestAlike, cX1_findNearestAlike, 5, none, 3, 0) := pm_mq_ok rfl
theorem mt_X1_findNearestAlike {l : Launch} {g : pm_G} {d mc ms : Nat} {as : List Value} {A : pm_H} {Q : Option Value → pm_H → Prop} (hca : pm_cat 5 as = true) (body : ∀ J : pm_J, pm_Cl l g (fun _ => none) d mc ms (pm_Rq mc ms Q) bk_X1_findNearestAlike J → J 0 (pm_l0 5 as) [] A 0 0) : pm_Mt l g 81 d mc ms as A Q := pm_Mt_of (isI := false) 1 bk_X1_findNearestAlike me_X1_findNearestAlike (plainFor_of_name plX1) rfl (fun h => by cases h) ok_X1_findNearestAlike hca body
noncomputable def bk_X1_clearPair : pm_B := [(0, [(.aload_n 0, 1, 0, 0, 0), (.iconst (-1), 1, 0, 0, -1), (.putfield 21, 3, 1, 3, 0), (.aload_n 0, 1, 0, 0, 0), (.iconst (-1), 1, 0, 0, -1), (.putfield 25, 3, 1, 4, 0), (.return_, 1, 0, 0, 0)], 11)]
set_option maxRecDepth 100000 in
theorem ok_X1_clearPair : pm_oks 1 false 1 none cX1_clearPair bk_X1_clearPair = true := oksG_ok (by decide +kernel)
set_option maxRecDepth 100000 in
theorem me_X1_clearPair : pm_me 82 = (yX1_clearPair, cX1_clearPair, 1, none, 0, 0) := pm_mq_ok rfl
theorem mt_X1_clearPair {l : Launch} {g : pm_G} {d mc ms : Nat} {as : List Value} {A : pm_H} {Q : Option Value → pm_H → Prop} (hca : pm_cat 1 as = true) (body : ∀ J : pm_J, pm_Cl l g (fun _ => none) d mc ms (pm_Rq mc ms Q) bk_X1_clearPair J → J 0 (pm_l0 1 as) [] A 0 0) : pm_Mt l g 82 d mc ms as A Q := pm_Mt_of (isI := false) 1 bk_X1_clearPair me_X1_clearPair (plainFor_of_name plX1) rfl (fun h => by cases h) ok_X1_clearPair hca body
noncomputable def bk_X1_offerPair : pm_B := [(0, [(.aload_n 0, 1, 0, 0, 0), (.getfield 21, 3, 1, 3, 0), (.iconst (-1), 1, 0, 0, -1), (.if_icmp .eq 13, 3, 18, 0, 0), (.iload_n 2, 1, 2, 0, 0), (.iload_n 1, 1, 1, 0, 0), (.isub, 1, 0, 0, 0), (.aload_n 0, 1, 0, 0, 0), (.getfield 21, 3, 1, 3, 0), (.if_icmp .ge 15, 3, 30, 0, 0)], 18),
  (18, [(.aload_n 0, 1, 0, 0, 0), (.iload_n 2, 1, 2, 0, 0), (.iload_n 1, 1, 1, 0, 0), (.isub, 1, 0, 0, 0), (.putfield 21, 3, 1, 3, 0), (.aload_n 0, 1, 0, 0, 0), (.iload_n 1, 1, 1, 0, 0), (.putfield 25, 3, 1, 4, 0)], 30),
  (30, [(.return_, 1, 0, 0, 0)], 31)]
set_option maxRecDepth 100000 in
theorem ok_X1_offerPair : pm_oks 1 false 3 none cX1_offerPair bk_X1_offerPair = true := oksG_ok (by decide +kernel)
set_option maxRecDepth 100000 in
theorem me_X1_offerPair : pm_me 83 = (yX1_offerPair, cX1_offerPair, 3, none, 2, 0) := pm_mq_ok rfl
theorem mt_X1_offerPair {l : Launch} {g : pm_G} {d mc ms : Nat} {as : List Value} {A : pm_H} {Q : Option Value → pm_H → Prop} (hca : pm_cat 3 as = true) (body : ∀ J : pm_J, pm_Cl l g (fun _ => none) d mc ms (pm_Rq mc ms Q) bk_X1_offerPair J → J 0 (pm_l0 3 as) [] A 0 0) : pm_Mt l g 83 d mc ms as A Q := pm_Mt_of (isI := false) 1 bk_X1_offerPair me_X1_offerPair (plainFor_of_name plX1) rfl (fun h => by cases h) ok_X1_offerPair hca body
noncomputable def bk_X1_pairFound : pm_B := [(0, [(.iload_n 1, 1, 1, 0, 0), (.ifCond .ne 10, 3, 11, 0, 0), (.aload_n 0, 1, 0, 0, 0), (.getfield 21, 3, 1, 3, 0), (.goto 16, 3, 24, 0, 0)], 11),
  (11, [(.iload_n 1, 1, 1, 0, 0), (.iconst 1, 1, 0, 0, 1), (.if_icmp .ne 10, 3, 23, 0, 0), (.aload_n 0, 1, 0, 0, 0), (.getfield 25, 3, 1, 4, 0), (.goto 4, 3, 24, 0, 0)], 23),
  (23, [(.iconst (-1), 1, 0, 0, -1)], 24),
  (24, [(.ireturn, 1, 0, 0, 0)], 25)]
set_option maxRecDepth 100000 in
theorem ok_X1_pairFound : pm_oks 1 false 2 (some .int) cX1_pairFound bk_X1_pairFound = true := oksG_ok (by decide +kernel)
set_option maxRecDepth 100000 in
theorem me_X1_pairFound : pm_me 84 = (yX1_pairFound, cX1_pairFound, 2, (some .int), 1, 0) := pm_mq_ok rfl
theorem mt_X1_pairFound {l : Launch} {g : pm_G} {d mc ms : Nat} {as : List Value} {A : pm_H} {Q : Option Value → pm_H → Prop} (hca : pm_cat 2 as = true) (body : ∀ J : pm_J, pm_Cl l g (fun _ => none) d mc ms (pm_Rq mc ms Q) bk_X1_pairFound J → J 0 (pm_l0 2 as) [] A 0 0) : pm_Mt l g 84 d mc ms as A Q := pm_Mt_of (isI := false) 1 bk_X1_pairFound me_X1_pairFound (plainFor_of_name plX1) rfl (fun h => by cases h) ok_X1_pairFound hca body
noncomputable def bk_X1_unlikeTwos : pm_B := [(0, [(.aload_n 0, 1, 0, 0, 0), (.getfield 18, 3, 1, 2, 0), (.iconst 0, 1, 0, 0, 0), (.invokestatic 46, 3, 4, 2, 0), (.iconst 0, 1, 0, 0, 0), (.istore 4, 2, 4, 0, 0), (.iload_n 2, 1, 2, 0, 0), (.iconst 1, 1, 0, 0, 1), (.iadd, 1, 0, 0, 0), (.istore 5, 2, 5, 0, 0)], 16),
  (16, [(.iload 5, 2, 5, 0, 0), (.iload_n 3, 1, 3, 0, 0), (.if_icmp .gt 90, 3, 109, 0, 0), (.aload_n 1, 1, 1, 0, 0), (.getfield 43, 3, 7, 0, 0), (.iload 5, 2, 5, 0, 0), (.iconst 1, 1, 0, 0, 1), (.isub, 1, 0, 0, 0), (.iaload, 1, 0, 0, 0), (.aload_n 1, 1, 1, 0, 0), (.getfield 43, 3, 7, 0, 0), (.iload 5, 2, 5, 0, 0), (.iaload, 1, 0, 0, 0), (.invokestatic 52, 3, 87, 2, 0), (.istore 6, 2, 6, 0, 0), (.aload_n 1, 1, 1, 0, 0), (.getfield 43, 3, 7, 0, 0), (.iload 5, 2, 5, 0, 0), (.iconst 1, 1, 0, 0, 1), (.isub, 1, 0, 0, 0), (.iaload, 1, 0, 0, 0), (.aload_n 1, 1, 1, 0, 0), (.getfield 43, 3, 7, 0, 0), (.iload 5, 2, 5, 0, 0), (.iaload, 1, 0, 0, 0), (.invokestatic 58, 3, 51, 2, 0), (.istore 7, 2, 7, 0, 0), (.iload 6, 2, 6, 0, 0), (.iload 7, 2, 7, 0, 0), (.if_icmp .eq 35, 3, 103, 0, 0), (.aload_n 0, 1, 0, 0, 0), (.getfield 18, 3, 1, 2, 0), (.iload 6, 2, 6, 0, 0), (.iaload, 1, 0, 0, 0), (.iconst 1, 1, 0, 0, 1), (.iload 7, 2, 7, 0, 0), (.ishl, 1, 0, 0, 0), (.iand, 1, 0, 0, 0), (.ifCond .ne 20, 3, 103, 0, 0), (.aload_n 0, 1, 0, 0, 0), (.getfield 18, 3, 1, 2, 0), (.iload 6, 2, 6, 0, 0), (.dup2, 1, 0, 0, 0), (.iaload, 1, 0, 0, 0), (.iconst 1, 1, 0, 0, 1), (.iload 7, 2, 7, 0, 0), (.ishl, 1, 0, 0, 0), (.ior, 1, 0, 0, 0), (.iastore, 1, 0, 0, 0), (.iinc 4 1, 3, 4, 0, 1)], 103),
  (103, [(.iinc 5 1, 3, 5, 0, 1), (.goto (-90), 3, 16, 0, 0)], 109),
  (109, [(.iload 4, 2, 4, 0, 0), (.ireturn, 1, 0, 0, 0)], 112)]
set_option maxRecDepth 100000 in
theorem ok_X1_unlikeTwos : pm_oks 1 false 8 (some .int) cX1_unlikeTwos bk_X1_unlikeTwos = true := oksG_ok (by decide +kernel)
set_option maxRecDepth 100000 in
theorem me_X1_unlikeTwos : pm_me 86 = (yX1_unlikeTwos, cX1_unlikeTwos, 8, (some .int), 3, 0) := pm_mq_ok rfl
theorem mt_X1_unlikeTwos {l : Launch} {g : pm_G} {d mc ms : Nat} {as : List Value} {A : pm_H} {Q : Option Value → pm_H → Prop} (hca : pm_cat 8 as = true) (body : ∀ J : pm_J, pm_Cl l g (fun _ => none) d mc ms (pm_Rq mc ms Q) bk_X1_unlikeTwos J → J 0 (pm_l0 8 as) [] A 0 0) : pm_Mt l g 86 d mc ms as A Q := pm_Mt_of (isI := false) 1 bk_X1_unlikeTwos me_X1_unlikeTwos (plainFor_of_name plX1) rfl (fun h => by cases h) ok_X1_unlikeTwos hca body
noncomputable def bk_X1_coveringLength : pm_B := [(0, [(.aload_n 2, 1, 2, 0, 0), (.aload_n 1, 1, 1, 0, 0), (.iload_n 3, 1, 3, 0, 0), (.iload 4, 2, 4, 0, 0), (.invokevirtual 61, 3, 55, 3, 2), (.aload_n 0, 1, 0, 0, 0), (.getfield 15, 3, 1, 1, 0), (.iload_n 3, 1, 3, 0, 0), (.iconst 1, 1, 0, 0, 1), (.isub, 1, 0, 0, 0), (.invokestatic 46, 3, 4, 2, 0), (.iconst 1, 1, 0, 0, 1), (.istore 5, 2, 5, 0, 0), (.iload_n 3, 1, 3, 0, 0), (.istore 6, 2, 6, 0, 0)], 24),
  (24, [(.iload 6, 2, 6, 0, 0), (.iload 4, 2, 4, 0, 0), (.if_icmp .gt 44, 3, 72, 0, 0), (.aload_n 1, 1, 1, 0, 0), (.getfield 43, 3, 7, 0, 0), (.iload 6, 2, 6, 0, 0), (.iaload, 1, 0, 0, 0), (.istore 7, 2, 7, 0, 0), (.iload 5, 2, 5, 0, 0), (.iload 6, 2, 6, 0, 0), (.aload_n 0, 1, 0, 0, 0), (.getfield 15, 3, 1, 1, 0), (.iload 7, 2, 7, 0, 0), (.iaload, 1, 0, 0, 0), (.isub, 1, 0, 0, 0), (.invokestatic 58, 3, 51, 2, 0), (.istore 5, 2, 5, 0, 0), (.aload_n 0, 1, 0, 0, 0), (.getfield 15, 3, 1, 1, 0), (.iload 7, 2, 7, 0, 0), (.iload 6, 2, 6, 0, 0), (.iastore, 1, 0, 0, 0), (.iinc 6 1, 3, 6, 0, 1), (.goto (-45), 3, 24, 0, 0)], 72),
  (72, [(.iconst 0, 1, 0, 0, 0), (.istore 6, 2, 6, 0, 0)], 75),
  (75, [(.iload 6, 2, 6, 0, 0), (.bipush 24, 2, 0, 0, 24), (.if_icmp .ge 38, 3, 117, 0, 0), (.aload_n 2, 1, 2, 0, 0), (.getfield 67, 3, 2, 0, 0), (.iload 6, 2, 6, 0, 0), (.iaload, 1, 0, 0, 0), (.ifCond .le 22, 3, 111, 0, 0), (.iload 5, 2, 5, 0, 0), (.iload 4, 2, 4, 0, 0), (.iconst 1, 1, 0, 0, 1), (.iadd, 1, 0, 0, 0), (.aload_n 0, 1, 0, 0, 0), (.getfield 15, 3, 1, 1, 0), (.iload 6, 2, 6, 0, 0), (.iaload, 1, 0, 0, 0), (.isub, 1, 0, 0, 0), (.invokestatic 58, 3, 51, 2, 0), (.istore 5, 2, 5, 0, 0)], 111),
  (111, [(.iinc 6 1, 3, 6, 0, 1), (.goto (-39), 3, 75, 0, 0)], 117),
  (117, [(.iload 5, 2, 5, 0, 0), (.ireturn, 1, 0, 0, 0)], 120)]
set_option maxRecDepth 100000 in
theorem ok_X1_coveringLength : pm_oks 1 false 8 (some .int) cX1_coveringLength bk_X1_coveringLength = true := oksG_ok (by decide +kernel)
set_option maxRecDepth 100000 in
theorem me_X1_coveringLength : pm_me 89 = (yX1_coveringLength, cX1_coveringLength, 8, (some .int), 4, 0) := pm_mq_ok rfl
theorem mt_X1_coveringLength {l : Launch} {g : pm_G} {d mc ms : Nat} {as : List Value} {A : pm_H} {Q : Option Value → pm_H → Prop} (hca : pm_cat 8 as = true) (body : ∀ J : pm_J, pm_Cl l g (fun _ => none) d mc ms (pm_Rq mc ms Q) bk_X1_coveringLength J → J 0 (pm_l0 8 as) [] A 0 0) : pm_Mt l g 89 d mc ms as A Q := pm_Mt_of (isI := false) 1 bk_X1_coveringLength me_X1_coveringLength (plainFor_of_name plX1) rfl (fun h => by cases h) ok_X1_coveringLength hca body
noncomputable def bk_X1_evenestEnd : pm_B := [(0, [(.aload_n 2, 1, 2, 0, 0), (.invokevirtual 70, 3, 56, 0, 2), (.iload_n 3, 1, 3, 0, 0), (.istore 5, 2, 5, 0, 0)], 7),
  (7, [(.iload 5, 2, 5, 0, 0), (.iload 4, 2, 4, 0, 0), (.if_icmp .gt 31, 3, 42, 0, 0), (.aload_n 2, 1, 2, 0, 0), (.aload_n 1, 1, 1, 0, 0), (.getfield 43, 3, 7, 0, 0), (.iload 5, 2, 5, 0, 0), (.iaload, 1, 0, 0, 0), (.invokevirtual 73, 3, 57, 1, 2), (.aload_n 0, 1, 0, 0, 0), (.getfield 9, 3, 1, 0, 0), (.iload 5, 2, 5, 0, 0), (.aload_n 2, 1, 2, 0, 0), (.getfield 77, 3, 2, 3, 0), (.iastore, 1, 0, 0, 0), (.iinc 5 1, 3, 5, 0, 1), (.goto (-32), 3, 7, 0, 0)], 42),
  (42, [(.aload_n 2, 1, 2, 0, 0), (.invokevirtual 70, 3, 56, 0, 2), (.iconst (-1), 1, 0, 0, -1), (.istore 5, 2, 5, 0, 0), (.bipush 25, 2, 0, 0, 25), (.istore 6, 2, 6, 0, 0), (.iload 4, 2, 4, 0, 0), (.iconst 1, 1, 0, 0, 1), (.isub, 1, 0, 0, 0), (.istore 7, 2, 7, 0, 0)], 59),
  (59, [(.iload 7, 2, 7, 0, 0), (.iload_n 3, 1, 3, 0, 0), (.if_icmp .lt 54, 3, 116, 0, 0), (.aload_n 2, 1, 2, 0, 0), (.aload_n 1, 1, 1, 0, 0), (.getfield 43, 3, 7, 0, 0), (.iload 7, 2, 7, 0, 0), (.iconst 1, 1, 0, 0, 1), (.iadd, 1, 0, 0, 0), (.iaload, 1, 0, 0, 0), (.invokevirtual 73, 3, 57, 1, 2), (.aload_n 0, 1, 0, 0, 0), (.getfield 9, 3, 1, 0, 0), (.iload 7, 2, 7, 0, 0), (.iaload, 1, 0, 0, 0), (.aload_n 2, 1, 2, 0, 0), (.getfield 77, 3, 2, 3, 0), (.isub, 1, 0, 0, 0), (.invokestatic 80, 3, 70, 1, 0), (.istore 8, 2, 8, 0, 0), (.iload 8, 2, 8, 0, 0), (.iload 6, 2, 6, 0, 0), (.if_icmp .gt 11, 3, 110, 0, 0), (.iload 8, 2, 8, 0, 0), (.istore 6, 2, 6, 0, 0), (.iload 7, 2, 7, 0, 0), (.istore 5, 2, 5, 0, 0)], 110),
  (110, [(.iinc 7 (-1), 3, 7, 0, -1), (.goto (-54), 3, 59, 0, 0)], 116),
  (116, [(.iload 5, 2, 5, 0, 0), (.ireturn, 1, 0, 0, 0)], 119)]
set_option maxRecDepth 100000 in
theorem ok_X1_evenestEnd : pm_oks 1 false 9 (some .int) cX1_evenestEnd bk_X1_evenestEnd = true := oksG_ok (by decide +kernel)
set_option maxRecDepth 100000 in
theorem me_X1_evenestEnd : pm_me 97 = (yX1_evenestEnd, cX1_evenestEnd, 9, (some .int), 4, 0) := pm_mq_ok rfl
theorem mt_X1_evenestEnd {l : Launch} {g : pm_G} {d mc ms : Nat} {as : List Value} {A : pm_H} {Q : Option Value → pm_H → Prop} (hca : pm_cat 9 as = true) (body : ∀ J : pm_J, pm_Cl l g (fun _ => none) d mc ms (pm_Rq mc ms Q) bk_X1_evenestEnd J → J 0 (pm_l0 9 as) [] A 0 0) : pm_Mt l g 97 d mc ms as A Q := pm_Mt_of (isI := false) 1 bk_X1_evenestEnd me_X1_evenestEnd (plainFor_of_name plX1) rfl (fun h => by cases h) ok_X1_evenestEnd hca body
noncomputable def bk_X1_findNearestOfTwo : pm_B := [(0, [(.aload_n 0, 1, 0, 0, 0), (.invokevirtual 28, 3, 82, 0, 1), (.iconst (-1), 1, 0, 0, -1), (.istore 4, 2, 4, 0, 0), (.iconst (-1), 1, 0, 0, -1), (.istore 5, 2, 5, 0, 0), (.iconst 0, 1, 0, 0, 0), (.istore 6, 2, 6, 0, 0)], 13),
  (13, [(.iload 6, 2, 6, 0, 0), (.aload_n 1, 1, 1, 0, 0), (.getfield 40, 3, 7, 3, 0), (.if_icmp .ge 70, 3, 89, 0, 0), (.aload_n 1, 1, 1, 0, 0), (.getfield 43, 3, 7, 0, 0), (.iload 6, 2, 6, 0, 0), (.iaload, 1, 0, 0, 0), (.iload_n 2, 1, 2, 0, 0), (.if_icmp .ne 24, 3, 54, 0, 0), (.iload 6, 2, 6, 0, 0), (.istore 4, 2, 4, 0, 0), (.iload 5, 2, 5, 0, 0), (.iconst (-1), 1, 0, 0, -1), (.if_icmp .eq 43, 3, 83, 0, 0), (.aload_n 0, 1, 0, 0, 0), (.iload 5, 2, 5, 0, 0), (.iload 6, 2, 6, 0, 0), (.invokevirtual 36, 3, 83, 2, 1), (.goto 32, 3, 83, 0, 0)], 54),
  (54, [(.aload_n 1, 1, 1, 0, 0), (.getfield 43, 3, 7, 0, 0), (.iload 6, 2, 6, 0, 0), (.iaload, 1, 0, 0, 0), (.iload_n 3, 1, 3, 0, 0), (.if_icmp .ne 21, 3, 83, 0, 0), (.iload 6, 2, 6, 0, 0), (.istore 5, 2, 5, 0, 0), (.iload 4, 2, 4, 0, 0), (.iconst (-1), 1, 0, 0, -1), (.if_icmp .eq 11, 3, 83, 0, 0), (.aload_n 0, 1, 0, 0, 0), (.iload 4, 2, 4, 0, 0), (.iload 6, 2, 6, 0, 0), (.invokevirtual 36, 3, 83, 2, 1)], 83),
  (83, [(.iinc 6 1, 3, 6, 0, 1), (.goto (-73), 3, 13, 0, 0)], 89),
  (89, [(.return_, 1, 0, 0, 0)], 90)]
set_option maxRecDepth 100000 in
theorem ok_X1_findNearestOfTwo : pm_oks 1 false 7 none cX1_findNearestOfTwo bk_X1_findNearestOfTwo = true := oksG_ok (by decide +kernel)
set_option maxRecDepth 100000 in
theorem me_X1_findNearestOfTwo : pm_me 99 = (yX1_findNearestOfTwo, cX1_findNearestOfTwo, 7, none, 3, 0) := pm_mq_ok rfl
theorem mt_X1_findNearestOfTwo {l : Launch} {g : pm_G} {d mc ms : Nat} {as : List Value} {A : pm_H} {Q : Option Value → pm_H → Prop} (hca : pm_cat 7 as = true) (body : ∀ J : pm_J, pm_Cl l g (fun _ => none) d mc ms (pm_Rq mc ms Q) bk_X1_findNearestOfTwo J → J 0 (pm_l0 7 as) [] A 0 0) : pm_Mt l g 99 d mc ms as A Q := pm_Mt_of (isI := false) 1 bk_X1_findNearestOfTwo me_X1_findNearestOfTwo (plainFor_of_name plX1) rfl (fun h => by cases h) ok_X1_findNearestOfTwo hca body
noncomputable def bk_X6_init : pm_B := [(0, [(.aload_n 0, 1, 0, 0, 0), (.invokespecial 3, 3, 0, 0, 0), (.aload_n 0, 1, 0, 0, 0), (.bipush 24, 2, 0, 0, 24), (.newarray .int, 2, 24, 0, 0), (.putfield 9, 3, 6, 0, 1), (.return_, 1, 0, 0, 0)], 13)]
set_option maxRecDepth 100000 in
theorem ok_X6_init : pm_oks 6 true 1 none cX6_init bk_X6_init = true := oksG_ok (by decide +kernel)
set_option maxRecDepth 100000 in
theorem me_X6_init : pm_me 7 = (yX6_init, cX6_init, 1, none, 0, 2) := pm_mq_ok rfl
theorem mt_X6_init {l : Launch} {g : pm_G} {d mc ms : Nat} {as : List Value} {A : pm_H} {Q : Option Value → pm_H → Prop} (hca : pm_cat 1 as = true) (body : ∀ J : pm_J, pm_Cl l g (fun _ => none) d mc ms (pm_Rq mc ms Q) bk_X6_init J → J 0 (pm_l0 1 as) [] A 0 0) : pm_Mt l g 7 d mc ms as A Q := pm_Mt_of (isI := true) 6 bk_X6_init me_X6_init (plainFor_of_name plX6) rfl (fun _ => by decide +kernel) ok_X6_init hca body
noncomputable def bk_X6_forColours : pm_B := [(0, [(.aload_n 2, 1, 2, 0, 0), (.invokevirtual 22, 3, 56, 0, 2), (.iload_n 3, 1, 3, 0, 0), (.istore 5, 2, 5, 0, 0)], 7),
  (7, [(.iload 5, 2, 5, 0, 0), (.aload_n 1, 1, 1, 0, 0), (.getfield 27, 3, 7, 3, 0), (.if_icmp .ge 32, 3, 45, 0, 0), (.aload_n 2, 1, 2, 0, 0), (.aload_n 1, 1, 1, 0, 0), (.getfield 32, 3, 7, 0, 0), (.iload 5, 2, 5, 0, 0), (.iaload, 1, 0, 0, 0), (.invokevirtual 35, 3, 57, 1, 2), (.aload_n 2, 1, 2, 0, 0), (.getfield 39, 3, 2, 3, 0), (.iload 4, 2, 4, 0, 0), (.if_icmp .lt 6, 3, 39, 0, 0), (.iload 5, 2, 5, 0, 0), (.ireturn, 1, 0, 0, 0)], 39),
  (39, [(.iinc 5 1, 3, 5, 0, 1), (.goto (-35), 3, 7, 0, 0)], 45),
  (45, [(.iconst (-1), 1, 0, 0, -1), (.ireturn, 1, 0, 0, 0)], 47)]
set_option maxRecDepth 100000 in
theorem ok_X6_forColours : pm_oks 6 false 6 (some .int) cX6_forColours bk_X6_forColours = true := oksG_ok (by decide +kernel)
set_option maxRecDepth 100000 in
theorem me_X6_forColours : pm_me 101 = (yX6_forColours, cX6_forColours, 6, (some .int), 4, 0) := pm_mq_ok rfl
theorem mt_X6_forColours {l : Launch} {g : pm_G} {d mc ms : Nat} {as : List Value} {A : pm_H} {Q : Option Value → pm_H → Prop} (hca : pm_cat 6 as = true) (body : ∀ J : pm_J, pm_Cl l g (fun _ => none) d mc ms (pm_Rq mc ms Q) bk_X6_forColours J → J 0 (pm_l0 6 as) [] A 0 0) : pm_Mt l g 101 d mc ms as A Q := pm_Mt_of (isI := false) 6 bk_X6_forColours me_X6_forColours (plainFor_of_name plX6) rfl (fun h => by cases h) ok_X6_forColours hca body
noncomputable def bk_X6_backForColours : pm_B := [(0, [(.aload_n 2, 1, 2, 0, 0), (.invokevirtual 22, 3, 56, 0, 2), (.iload_n 3, 1, 3, 0, 0), (.istore 5, 2, 5, 0, 0)], 7),
  (7, [(.iload 5, 2, 5, 0, 0), (.ifCond .lt 32, 3, 41, 0, 0), (.aload_n 2, 1, 2, 0, 0), (.aload_n 1, 1, 1, 0, 0), (.getfield 32, 3, 7, 0, 0), (.iload 5, 2, 5, 0, 0), (.iaload, 1, 0, 0, 0), (.invokevirtual 35, 3, 57, 1, 2), (.aload_n 2, 1, 2, 0, 0), (.getfield 39, 3, 2, 3, 0), (.iload 4, 2, 4, 0, 0), (.if_icmp .lt 6, 3, 35, 0, 0), (.iload 5, 2, 5, 0, 0), (.ireturn, 1, 0, 0, 0)], 35),
  (35, [(.iinc 5 (-1), 3, 5, 0, -1), (.goto (-31), 3, 7, 0, 0)], 41),
  (41, [(.iconst (-1), 1, 0, 0, -1), (.ireturn, 1, 0, 0, 0)], 43)]
set_option maxRecDepth 100000 in
theorem ok_X6_backForColours : pm_oks 6 false 6 (some .int) cX6_backForColours bk_X6_backForColours = true := oksG_ok (by decide +kernel)
set_option maxRecDepth 100000 in
theorem me_X6_backForColours : pm_me 103 = (yX6_backForColours, cX6_backForColours, 6, (some .int), 4, 0) := pm_mq_ok rfl
theorem mt_X6_backForColours {l : Launch} {g : pm_G} {d mc ms : Nat} {as : List Value} {A : pm_H} {Q : Option Value → pm_H → Prop} (hca : pm_cat 6 as = true) (body : ∀ J : pm_J, pm_Cl l g (fun _ => none) d mc ms (pm_Rq mc ms Q) bk_X6_backForColours J → J 0 (pm_l0 6 as) [] A 0 0) : pm_Mt l g 103 d mc ms as A Q := pm_Mt_of (isI := false) 6 bk_X6_backForColours me_X6_backForColours (plainFor_of_name plX6) rfl (fun h => by cases h) ok_X6_backForColours hca body
noncomputable def bk_X6_forMass : pm_B := [(0, [(.aload_n 2, 1, 2, 0, 0), (.invokevirtual 22, 3, 56, 0, 2), (.iload_n 3, 1, 3, 0, 0), (.istore 5, 2, 5, 0, 0)], 7),
  (7, [(.iload 5, 2, 5, 0, 0), (.aload_n 1, 1, 1, 0, 0), (.getfield 27, 3, 7, 3, 0), (.if_icmp .ge 32, 3, 45, 0, 0), (.aload_n 2, 1, 2, 0, 0), (.aload_n 1, 1, 1, 0, 0), (.getfield 32, 3, 7, 0, 0), (.iload 5, 2, 5, 0, 0), (.iaload, 1, 0, 0, 0), (.invokevirtual 35, 3, 57, 1, 2), (.aload_n 2, 1, 2, 0, 0), (.getfield 42, 3, 2, 5, 0), (.iload 4, 2, 4, 0, 0), (.if_icmp .lt 6, 3, 39, 0, 0), (.iload 5, 2, 5, 0, 0), (.ireturn, 1, 0, 0, 0)], 39),
  (39, [(.iinc 5 1, 3, 5, 0, 1), (.goto (-35), 3, 7, 0, 0)], 45),
  (45, [(.iconst (-1), 1, 0, 0, -1), (.ireturn, 1, 0, 0, 0)], 47)]
set_option maxRecDepth 100000 in
theorem ok_X6_forMass : pm_oks 6 false 6 (some .int) cX6_forMass bk_X6_forMass = true := oksG_ok (by decide +kernel)
set_option maxRecDepth 100000 in
theorem me_X6_forMass : pm_me 105 = (yX6_forMass, cX6_forMass, 6, (some .int), 4, 0) := pm_mq_ok rfl
theorem mt_X6_forMass {l : Launch} {g : pm_G} {d mc ms : Nat} {as : List Value} {A : pm_H} {Q : Option Value → pm_H → Prop} (hca : pm_cat 6 as = true) (body : ∀ J : pm_J, pm_Cl l g (fun _ => none) d mc ms (pm_Rq mc ms Q) bk_X6_forMass J → J 0 (pm_l0 6 as) [] A 0 0) : pm_Mt l g 105 d mc ms as A Q := pm_Mt_of (isI := false) 6 bk_X6_forMass me_X6_forMass (plainFor_of_name plX6) rfl (fun h => by cases h) ok_X6_forMass hca body
noncomputable def bk_X6_findShortestWith : pm_B := [(0, [(.aload_n 0, 1, 0, 0, 0), (.invokevirtual 45, 3, 108, 0, 6), (.aload_n 0, 1, 0, 0, 0), (.iconst 0, 1, 0, 0, 0), (.putfield 48, 3, 6, 4, 0), (.aload_n 0, 1, 0, 0, 0), (.getfield 9, 3, 6, 0, 0), (.iconst (-1), 1, 0, 0, -1), (.invokestatic 51, 3, 4, 2, 0), (.iconst 0, 1, 0, 0, 0), (.istore_n 3, 1, 3, 0, 0)], 19),
  (19, [(.iload_n 3, 1, 3, 0, 0), (.aload_n 1, 1, 1, 0, 0), (.getfield 27, 3, 7, 3, 0), (.if_icmp .ge 83, 3, 107, 0, 0), (.aload_n 0, 1, 0, 0, 0), (.getfield 9, 3, 6, 0, 0), (.aload_n 1, 1, 1, 0, 0), (.getfield 32, 3, 7, 0, 0), (.iload_n 3, 1, 3, 0, 0), (.iaload, 1, 0, 0, 0), (.iload_n 3, 1, 3, 0, 0), (.iastore, 1, 0, 0, 0), (.aload_n 0, 1, 0, 0, 0), (.iload_n 2, 1, 2, 0, 0), (.iload_n 3, 1, 3, 0, 0), (.invokevirtual 57, 3, 109, 2, 6), (.istore 4, 2, 4, 0, 0), (.aload_n 0, 1, 0, 0, 0), (.dup, 1, 0, 0, 0), (.getfield 48, 3, 6, 4, 0), (.iload 4, 2, 4, 0, 0), (.iconst 1, 1, 0, 0, 1), (.iadd, 1, 0, 0, 0), (.iadd, 1, 0, 0, 0), (.putfield 48, 3, 6, 4, 0), (.iload 4, 2, 4, 0, 0), (.iconst (-1), 1, 0, 0, -1), (.if_icmp .eq 38, 3, 101, 0, 0), (.aload_n 0, 1, 0, 0, 0), (.getfield 15, 3, 6, 1, 0), (.iconst (-1), 1, 0, 0, -1), (.if_icmp .eq 19, 3, 90, 0, 0), (.iload_n 3, 1, 3, 0, 0), (.iload 4, 2, 4, 0, 0), (.isub, 1, 0, 0, 0), (.aload_n 0, 1, 0, 0, 0), (.getfield 19, 3, 6, 2, 0), (.aload_n 0, 1, 0, 0, 0), (.getfield 15, 3, 6, 1, 0), (.isub, 1, 0, 0, 0), (.if_icmp .ge 14, 3, 101, 0, 0)], 90),
  (90, [(.aload_n 0, 1, 0, 0, 0), (.iload 4, 2, 4, 0, 0), (.putfield 15, 3, 6, 1, 0), (.aload_n 0, 1, 0, 0, 0), (.iload_n 3, 1, 3, 0, 0), (.putfield 19, 3, 6, 2, 0)], 101),
  (101, [(.iinc 3 1, 3, 3, 0, 1), (.goto (-85), 3, 19, 0, 0)], 107),
  (107, [(.return_, 1, 0, 0, 0)], 108)]
set_option maxRecDepth 100000 in
theorem ok_X6_findShortestWith : pm_oks 6 false 5 none cX6_findShortestWith bk_X6_findShortestWith = true := oksG_ok (by decide +kernel)
set_option maxRecDepth 100000 in
theorem me_X6_findShortestWith : pm_me 107 = (yX6_findShortestWith, cX6_findShortestWith, 5, none, 2, 0) := pm_mq_ok rfl
theorem mt_X6_findShortestWith {l : Launch} {g : pm_G} {d mc ms : Nat} {as : List Value} {A : pm_H} {Q : Option Value → pm_H → Prop} (hca : pm_cat 5 as = true) (body : ∀ J : pm_J, pm_Cl l g (fun _ => none) d mc ms (pm_Rq mc ms Q) bk_X6_findShortestWith J → J 0 (pm_l0 5 as) [] A 0 0) : pm_Mt l g 107 d mc ms as A Q := pm_Mt_of (isI := false) 6 bk_X6_findShortestWith me_X6_findShortestWith (plainFor_of_name plX6) rfl (fun h => by cases h) ok_X6_findShortestWith hca body
noncomputable def bk_X6_clearFound : pm_B := [(0, [(.aload_n 0, 1, 0, 0, 0), (.iconst (-1), 1, 0, 0, -1), (.putfield 15, 3, 6, 1, 0), (.aload_n 0, 1, 0, 0, 0), (.iconst (-1), 1, 0, 0, -1), (.putfield 19, 3, 6, 2, 0), (.return_, 1, 0, 0, 0)], 11)]
set_option maxRecDepth 100000 in
theorem ok_X6_clearFound : pm_oks 6 false 1 none cX6_clearFound bk_X6_clearFound = true := oksG_ok (by decide +kernel)
set_option maxRecDepth 100000 in
theorem me_X6_clearFound : pm_me 108 = (yX6_clearFound, cX6_clearFound, 1, none, 0, 0) := pm_mq_ok rfl
theorem mt_X6_clearFound {l : Launch} {g : pm_G} {d mc ms : Nat} {as : List Value} {A : pm_H} {Q : Option Value → pm_H → Prop} (hca : pm_cat 1 as = true) (body : ∀ J : pm_J, pm_Cl l g (fun _ => none) d mc ms (pm_Rq mc ms Q) bk_X6_clearFound J → J 0 (pm_l0 1 as) [] A 0 0) : pm_Mt l g 108 d mc ms as A Q := pm_Mt_of (isI := false) 6 bk_X6_clearFound me_X6_clearFound (plainFor_of_name plX6) rfl (fun h => by cases h) ok_X6_clearFound hca body
noncomputable def bk_X6_earliestLatest : pm_B := [(0, [(.iload_n 2, 1, 2, 0, 0), (.istore_n 3, 1, 3, 0, 0), (.iconst 0, 1, 0, 0, 0), (.istore 4, 2, 4, 0, 0)], 5),
  (5, [(.iload 4, 2, 4, 0, 0), (.bipush 24, 2, 0, 0, 24), (.if_icmp .ge 30, 3, 39, 0, 0), (.iload_n 1, 1, 1, 0, 0), (.iconst 1, 1, 0, 0, 1), (.iload 4, 2, 4, 0, 0), (.ishl, 1, 0, 0, 0), (.iand, 1, 0, 0, 0), (.ifCond .eq 15, 3, 33, 0, 0), (.iload_n 3, 1, 3, 0, 0), (.aload_n 0, 1, 0, 0, 0), (.getfield 9, 3, 6, 0, 0), (.iload 4, 2, 4, 0, 0), (.iaload, 1, 0, 0, 0), (.invokestatic 61, 3, 87, 2, 0), (.istore_n 3, 1, 3, 0, 0)], 33),
  (33, [(.iinc 4 1, 3, 4, 0, 1), (.goto (-31), 3, 5, 0, 0)], 39),
  (39, [(.iload_n 3, 1, 3, 0, 0), (.ireturn, 1, 0, 0, 0)], 41)]
set_option maxRecDepth 100000 in
theorem ok_X6_earliestLatest : pm_oks 6 false 5 (some .int) cX6_earliestLatest bk_X6_earliestLatest = true := oksG_ok (by decide +kernel)
set_option maxRecDepth 100000 in
theorem me_X6_earliestLatest : pm_me 109 = (yX6_earliestLatest, cX6_earliestLatest, 5, (some .int), 2, 0) := pm_mq_ok rfl
theorem mt_X6_earliestLatest {l : Launch} {g : pm_G} {d mc ms : Nat} {as : List Value} {A : pm_H} {Q : Option Value → pm_H → Prop} (hca : pm_cat 5 as = true) (body : ∀ J : pm_J, pm_Cl l g (fun _ => none) d mc ms (pm_Rq mc ms Q) bk_X6_earliestLatest J → J 0 (pm_l0 5 as) [] A 0 0) : pm_Mt l g 109 d mc ms as A Q := pm_Mt_of (isI := false) 6 bk_X6_earliestLatest me_X6_earliestLatest (plainFor_of_name plX6) rfl (fun h => by cases h) ok_X6_earliestLatest hca body
noncomputable def bk_X6_endFound : pm_B := [(0, [(.iload_n 1, 1, 1, 0, 0), (.ifCond .ne 10, 3, 11, 0, 0), (.aload_n 0, 1, 0, 0, 0), (.getfield 15, 3, 6, 1, 0), (.goto 16, 3, 24, 0, 0)], 11),
  (11, [(.iload_n 1, 1, 1, 0, 0), (.iconst 1, 1, 0, 0, 1), (.if_icmp .ne 10, 3, 23, 0, 0), (.aload_n 0, 1, 0, 0, 0), (.getfield 19, 3, 6, 2, 0), (.goto 4, 3, 24, 0, 0)], 23),
  (23, [(.iconst (-1), 1, 0, 0, -1)], 24),
  (24, [(.ireturn, 1, 0, 0, 0)], 25)]
set_option maxRecDepth 100000 in
theorem ok_X6_endFound : pm_oks 6 false 2 (some .int) cX6_endFound bk_X6_endFound = true := oksG_ok (by decide +kernel)
set_option maxRecDepth 100000 in
theorem me_X6_endFound : pm_me 110 = (yX6_endFound, cX6_endFound, 2, (some .int), 1, 0) := pm_mq_ok rfl
theorem mt_X6_endFound {l : Launch} {g : pm_G} {d mc ms : Nat} {as : List Value} {A : pm_H} {Q : Option Value → pm_H → Prop} (hca : pm_cat 2 as = true) (body : ∀ J : pm_J, pm_Cl l g (fun _ => none) d mc ms (pm_Rq mc ms Q) bk_X6_endFound J → J 0 (pm_l0 2 as) [] A 0 0) : pm_Mt l g 110 d mc ms as A Q := pm_Mt_of (isI := false) 6 bk_X6_endFound me_X6_endFound (plainFor_of_name plX6) rfl (fun h => by cases h) ok_X6_endFound hca body
end
section
/-! blocks, by a program -/
noncomputable def bk_X6_findLongestOf : pm_B := [(0, [(.aload_n 0, 1, 0, 0, 0), (.invokevirtual 45, 3, 108, 0, 6), (.aload_n 2, 1, 2, 0, 0), (.invokevirtual 22, 3, 56, 0, 2), (.iconst 0, 1, 0, 0, 0), (.istore 4, 2, 4, 0, 0), (.iconst 0, 1, 0, 0, 0), (.istore 5, 2, 5, 0, 0)], 14),
  (14, [(.iload 5, 2, 5, 0, 0), (.aload_n 1, 1, 1, 0, 0), (.getfield 27, 3, 7, 3, 0), (.if_icmp .ge 60, 3, 80, 0, 0), (.aload_n 2, 1, 2, 0, 0), (.aload_n 1, 1, 1, 0, 0), (.getfield 32, 3, 7, 0, 0), (.iload 5, 2, 5, 0, 0), (.iaload, 1, 0, 0, 0), (.invokevirtual 35, 3, 57, 1, 2)], 34),
  (34, [(.aload_n 2, 1, 2, 0, 0), (.getfield 39, 3, 2, 3, 0), (.iload_n 3, 1, 3, 0, 0), (.if_icmp .le 27, 3, 66, 0, 0), (.iload 4, 2, 4, 0, 0), (.iload 5, 2, 5, 0, 0), (.if_icmp .ge 20, 3, 66, 0, 0), (.aload_n 2, 1, 2, 0, 0), (.aload_n 1, 1, 1, 0, 0), (.getfield 32, 3, 7, 0, 0), (.iload 4, 2, 4, 0, 0), (.iaload, 1, 0, 0, 0), (.invokevirtual 66, 3, 113, 1, 2), (.iinc 4 1, 3, 4, 0, 1), (.goto (-29), 3, 34, 0, 0)], 66),
  (66, [(.aload_n 0, 1, 0, 0, 0), (.iload 4, 2, 4, 0, 0), (.iload 5, 2, 5, 0, 0), (.invokevirtual 69, 3, 114, 2, 6), (.iinc 5 1, 3, 5, 0, 1), (.goto (-63), 3, 14, 0, 0)], 80),
  (80, [(.return_, 1, 0, 0, 0)], 81)]
set_option maxRecDepth 100000 in
theorem ok_X6_findLongestOf : pm_oks 6 false 6 none cX6_findLongestOf bk_X6_findLongestOf = true := oksG_ok (by decide +kernel)
set_option maxRecDepth 100000 in
theorem me_X6_findLongestOf : pm_me 112 = (yX6_findLongestOf, cX6_findLongestOf, 6, none, 3, 0) := pm_mq_ok rfl
theorem mt_X6_findLongestOf {l : Launch} {g : pm_G} {d mc ms : Nat} {as : List Value} {A : pm_H} {Q : Option Value → pm_H → Prop} (hca : pm_cat 6 as = true) (body : ∀ J : pm_J, pm_Cl l g (fun _ => none) d mc ms (pm_Rq mc ms Q) bk_X6_findLongestOf J → J 0 (pm_l0 6 as) [] A 0 0) : pm_Mt l g 112 d mc ms as A Q := pm_Mt_of (isI := false) 6 bk_X6_findLongestOf me_X6_findLongestOf (plainFor_of_name plX6) rfl (fun h => by cases h) ok_X6_findLongestOf hca body
noncomputable def bk_X6_offerLonger : pm_B := [(0, [(.aload_n 0, 1, 0, 0, 0), (.getfield 15, 3, 6, 1, 0), (.iconst (-1), 1, 0, 0, -1), (.if_icmp .eq 18, 3, 23, 0, 0), (.iload_n 2, 1, 2, 0, 0), (.iload_n 1, 1, 1, 0, 0), (.isub, 1, 0, 0, 0), (.aload_n 0, 1, 0, 0, 0), (.getfield 19, 3, 6, 2, 0), (.aload_n 0, 1, 0, 0, 0), (.getfield 15, 3, 6, 1, 0), (.isub, 1, 0, 0, 0), (.if_icmp .le 13, 3, 33, 0, 0)], 23),
  (23, [(.aload_n 0, 1, 0, 0, 0), (.iload_n 1, 1, 1, 0, 0), (.putfield 15, 3, 6, 1, 0), (.aload_n 0, 1, 0, 0, 0), (.iload_n 2, 1, 2, 0, 0), (.putfield 19, 3, 6, 2, 0)], 33),
  (33, [(.return_, 1, 0, 0, 0)], 34)]
set_option maxRecDepth 100000 in
theorem ok_X6_offerLonger : pm_oks 6 false 3 none cX6_offerLonger bk_X6_offerLonger = true := oksG_ok (by decide +kernel)
set_option maxRecDepth 100000 in
theorem me_X6_offerLonger : pm_me 114 = (yX6_offerLonger, cX6_offerLonger, 3, none, 2, 0) := pm_mq_ok rfl
theorem mt_X6_offerLonger {l : Launch} {g : pm_G} {d mc ms : Nat} {as : List Value} {A : pm_H} {Q : Option Value → pm_H → Prop} (hca : pm_cat 3 as = true) (body : ∀ J : pm_J, pm_Cl l g (fun _ => none) d mc ms (pm_Rq mc ms Q) bk_X6_offerLonger J → J 0 (pm_l0 3 as) [] A 0 0) : pm_Mt l g 114 d mc ms as A Q := pm_Mt_of (isI := false) 6 bk_X6_offerLonger me_X6_offerLonger (plainFor_of_name plX6) rfl (fun h => by cases h) ok_X6_offerLonger hca body
noncomputable def bk_X6_findLongestUnlike : pm_B := [(0, [(.aload_n 0, 1, 0, 0, 0), (.invokevirtual 45, 3, 108, 0, 6), (.iconst 0, 1, 0, 0, 0), (.istore_n 2, 1, 2, 0, 0), (.iconst 0, 1, 0, 0, 0), (.istore_n 3, 1, 3, 0, 0)], 8),
  (8, [(.iload_n 3, 1, 3, 0, 0), (.aload_n 1, 1, 1, 0, 0), (.getfield 27, 3, 7, 3, 0), (.if_icmp .ge 28, 3, 41, 0, 0), (.iload_n 2, 1, 2, 0, 0), (.aload_n 1, 1, 1, 0, 0), (.getfield 73, 3, 7, 2, 0), (.iload_n 3, 1, 3, 0, 0), (.iaload, 1, 0, 0, 0), (.iconst 1, 1, 0, 0, 1), (.iadd, 1, 0, 0, 0), (.invokestatic 76, 3, 51, 2, 0), (.istore_n 2, 1, 2, 0, 0), (.aload_n 0, 1, 0, 0, 0), (.iload_n 2, 1, 2, 0, 0), (.iload_n 3, 1, 3, 0, 0), (.invokevirtual 69, 3, 114, 2, 6), (.iinc 3 1, 3, 3, 0, 1), (.goto (-30), 3, 8, 0, 0)], 41),
  (41, [(.return_, 1, 0, 0, 0)], 42)]
set_option maxRecDepth 100000 in
theorem ok_X6_findLongestUnlike : pm_oks 6 false 4 none cX6_findLongestUnlike bk_X6_findLongestUnlike = true := oksG_ok (by decide +kernel)
set_option maxRecDepth 100000 in
theorem me_X6_findLongestUnlike : pm_me 116 = (yX6_findLongestUnlike, cX6_findLongestUnlike, 4, none, 1, 0) := pm_mq_ok rfl
theorem mt_X6_findLongestUnlike {l : Launch} {g : pm_G} {d mc ms : Nat} {as : List Value} {A : pm_H} {Q : Option Value → pm_H → Prop} (hca : pm_cat 4 as = true) (body : ∀ J : pm_J, pm_Cl l g (fun _ => none) d mc ms (pm_Rq mc ms Q) bk_X6_findLongestUnlike J → J 0 (pm_l0 4 as) [] A 0 0) : pm_Mt l g 116 d mc ms as A Q := pm_Mt_of (isI := false) 6 bk_X6_findLongestUnlike me_X6_findLongestUnlike (plainFor_of_name plX6) rfl (fun h => by cases h) ok_X6_findLongestUnlike hca body
noncomputable def bk_X6_findHeaviest : pm_B := [(0, [(.aload_n 2, 1, 2, 0, 0), (.aload_n 1, 1, 1, 0, 0), (.iconst 0, 1, 0, 0, 0), (.iload_n 3, 1, 3, 0, 0), (.iconst 1, 1, 0, 0, 1), (.isub, 1, 0, 0, 0), (.invokevirtual 79, 3, 55, 3, 2), (.aload_n 0, 1, 0, 0, 0), (.iconst 0, 1, 0, 0, 0), (.putfield 15, 3, 6, 1, 0), (.aload_n 0, 1, 0, 0, 0), (.aload_n 2, 1, 2, 0, 0), (.getfield 42, 3, 2, 5, 0), (.putfield 83, 3, 6, 3, 0), (.iconst 1, 1, 0, 0, 1), (.istore 4, 2, 4, 0, 0)], 25),
  (25, [(.iload 4, 2, 4, 0, 0), (.iload_n 3, 1, 3, 0, 0), (.iadd, 1, 0, 0, 0), (.aload_n 1, 1, 1, 0, 0), (.getfield 27, 3, 7, 3, 0), (.if_icmp .gt 62, 3, 95, 0, 0), (.aload_n 2, 1, 2, 0, 0), (.aload_n 1, 1, 1, 0, 0), (.getfield 32, 3, 7, 0, 0), (.iload 4, 2, 4, 0, 0), (.iconst 1, 1, 0, 0, 1), (.isub, 1, 0, 0, 0), (.iaload, 1, 0, 0, 0), (.invokevirtual 66, 3, 113, 1, 2), (.aload_n 2, 1, 2, 0, 0), (.aload_n 1, 1, 1, 0, 0), (.getfield 32, 3, 7, 0, 0), (.iload 4, 2, 4, 0, 0), (.iload_n 3, 1, 3, 0, 0), (.iadd, 1, 0, 0, 0), (.iconst 1, 1, 0, 0, 1), (.isub, 1, 0, 0, 0), (.iaload, 1, 0, 0, 0), (.invokevirtual 35, 3, 57, 1, 2), (.aload_n 2, 1, 2, 0, 0), (.getfield 42, 3, 2, 5, 0), (.aload_n 0, 1, 0, 0, 0), (.getfield 83, 3, 6, 3, 0), (.if_icmp .le 17, 3, 89, 0, 0), (.aload_n 0, 1, 0, 0, 0), (.iload 4, 2, 4, 0, 0), (.putfield 15, 3, 6, 1, 0), (.aload_n 0, 1, 0, 0, 0), (.aload_n 2, 1, 2, 0, 0), (.getfield 42, 3, 2, 5, 0), (.putfield 83, 3, 6, 3, 0)], 89),
  (89, [(.iinc 4 1, 3, 4, 0, 1), (.goto (-67), 3, 25, 0, 0)], 95),
  (95, [(.return_, 1, 0, 0, 0)], 96)]
set_option maxRecDepth 100000 in
theorem ok_X6_findHeaviest : pm_oks 6 false 5 none cX6_findHeaviest bk_X6_findHeaviest = true := oksG_ok (by decide +kernel)
set_option maxRecDepth 100000 in
theorem me_X6_findHeaviest : pm_me 118 = (yX6_findHeaviest, cX6_findHeaviest, 5, none, 3, 0) := pm_mq_ok rfl
theorem mt_X6_findHeaviest {l : Launch} {g : pm_G} {d mc ms : Nat} {as : List Value} {A : pm_H} {Q : Option Value → pm_H → Prop} (hca : pm_cat 5 as = true) (body : ∀ J : pm_J, pm_Cl l g (fun _ => none) d mc ms (pm_Rq mc ms Q) bk_X6_findHeaviest J → J 0 (pm_l0 5 as) [] A 0 0) : pm_Mt l g 118 d mc ms as A Q := pm_Mt_of (isI := false) 6 bk_X6_findHeaviest me_X6_findHeaviest (plainFor_of_name plX6) rfl (fun h => by cases h) ok_X6_findHeaviest hca body
noncomputable def bk_X8_init : pm_B := [(0, [(.aload_n 0, 1, 0, 0, 0), (.invokespecial 3, 3, 0, 0, 0), (.aload_n 0, 1, 0, 0, 0), (.sipush 160, 3, 0, 0, 160), (.newarray .int, 2, 160, 0, 0), (.putfield 9, 3, 8, 0, 1), (.aload_n 0, 1, 0, 0, 0), (.bipush 24, 2, 0, 0, 24), (.newarray .int, 2, 24, 0, 0), (.putfield 15, 3, 8, 1, 1), (.aload_n 0, 1, 0, 0, 0), (.bipush 24, 2, 0, 0, 24), (.newarray .int, 2, 24, 0, 0), (.putfield 18, 3, 8, 2, 1), (.return_, 1, 0, 0, 0)], 30)]
set_option maxRecDepth 100000 in
theorem ok_X8_init : pm_oks 8 true 1 none cX8_init bk_X8_init = true := oksG_ok (by decide +kernel)
set_option maxRecDepth 100000 in
theorem me_X8_init : pm_me 8 = (yX8_init, cX8_init, 1, none, 0, 2) := pm_mq_ok rfl
theorem mt_X8_init {l : Launch} {g : pm_G} {d mc ms : Nat} {as : List Value} {A : pm_H} {Q : Option Value → pm_H → Prop} (hca : pm_cat 1 as = true) (body : ∀ J : pm_J, pm_Cl l g (fun _ => none) d mc ms (pm_Rq mc ms Q) bk_X8_init J → J 0 (pm_l0 1 as) [] A 0 0) : pm_Mt l g 8 d mc ms as A Q := pm_Mt_of (isI := true) 8 bk_X8_init me_X8_init (plainFor_of_name plX8) rfl (fun _ => by decide +kernel) ok_X8_init hca body
noncomputable def bk_X8_canBe : pm_B := [(0, [(.iload_n 0, 1, 0, 0, 0), (.iconst 1, 1, 0, 0, 1), (.if_icmp .lt 22, 3, 24, 0, 0), (.iload_n 0, 1, 0, 0, 0), (.bipush 24, 2, 0, 0, 24), (.if_icmp .gt 16, 3, 24, 0, 0), (.iload_n 1, 1, 1, 0, 0), (.ifCond .eq 8, 3, 20, 0, 0), (.iload_n 1, 1, 1, 0, 0), (.iconst 1, 1, 0, 0, 1), (.if_icmp .ne 7, 3, 24, 0, 0)], 20),
  (20, [(.iconst 1, 1, 0, 0, 1), (.goto 4, 3, 25, 0, 0)], 24),
  (24, [(.iconst 0, 1, 0, 0, 0)], 25),
  (25, [(.ireturn, 1, 1, 0, 0)], 26)]
set_option maxRecDepth 100000 in
theorem ok_X8_canBe : pm_oks 8 false 2 (some .boolean) cX8_canBe bk_X8_canBe = true := oksG_ok (by decide +kernel)
set_option maxRecDepth 100000 in
theorem me_X8_canBe : pm_me 121 = (yX8_canBe, cX8_canBe, 2, (some .boolean), 2, 1) := pm_mq_ok rfl
theorem mt_X8_canBe {l : Launch} {g : pm_G} {d mc ms : Nat} {as : List Value} {A : pm_H} {Q : Option Value → pm_H → Prop} (hca : pm_cat 2 as = true) (body : ∀ J : pm_J, pm_Cl l g (fun _ => none) d mc ms (pm_Rq mc ms Q) bk_X8_canBe J → J 0 (pm_l0 2 as) [] A 0 0) : pm_Mt l g 121 d mc ms as A Q := pm_Mt_of (isI := false) 8 bk_X8_canBe me_X8_canBe (plainFor_of_name plX8) rfl (fun h => by cases h) ok_X8_canBe hca body
noncomputable def bk_X8_goThrough : pm_B := [(0, [(.aload_n 0, 1, 0, 0, 0), (.aload_n 1, 1, 1, 0, 0), (.invokevirtual 21, 3, 123, 1, 8), (.aload_n 0, 1, 0, 0, 0), (.iconst 0, 1, 0, 0, 0), (.putfield 25, 3, 8, 3, 0), (.aload_n 0, 1, 0, 0, 0), (.iconst 0, 1, 0, 0, 0), (.putfield 29, 3, 8, 4, 0), (.iconst 0, 1, 0, 0, 0), (.istore 5, 2, 5, 0, 0)], 18),
  (18, [(.iload 5, 2, 5, 0, 0), (.iload_n 2, 1, 2, 0, 0), (.if_icmp .gt 115, 3, 136, 0, 0), (.aload_n 1, 1, 1, 0, 0), (.iload 5, 2, 5, 0, 0), (.invokevirtual 32, 3, 19, 1, 7), (.ifCond .eq 106, 3, 136, 0, 0), (.aload_n 1, 1, 1, 0, 0), (.getfield 38, 3, 7, 0, 0), (.iload 5, 2, 5, 0, 0), (.iaload, 1, 0, 0, 0), (.istore 6, 2, 6, 0, 0), (.aload_n 0, 1, 0, 0, 0), (.getfield 29, 3, 8, 4, 0), (.iconst 1, 1, 0, 0, 1), (.iload 6, 2, 6, 0, 0), (.ishl, 1, 0, 0, 0), (.iand, 1, 0, 0, 0), (.ifCond .ne 56, 3, 107, 0, 0), (.aload_n 0, 1, 0, 0, 0), (.dup, 1, 0, 0, 0), (.getfield 25, 3, 8, 3, 0), (.iconst 1, 1, 0, 0, 1), (.iadd, 1, 0, 0, 0), (.putfield 25, 3, 8, 3, 0), (.aload_n 0, 1, 0, 0, 0), (.getfield 29, 3, 8, 4, 0), (.invokestatic 41, 3, 75, 1, 0), (.iload_n 3, 1, 3, 0, 0), (.if_icmp .lt 22, 3, 94, 0, 0), (.aload_n 0, 1, 0, 0, 0), (.dup, 1, 0, 0, 0), (.getfield 29, 3, 8, 4, 0), (.iconst 1, 1, 0, 0, 1), (.aload_n 0, 1, 0, 0, 0), (.iload 4, 2, 4, 0, 0), (.invokevirtual 47, 3, 124, 1, 8), (.ishl, 1, 0, 0, 0), (.iconst (-1), 1, 0, 0, -1), (.ixor, 1, 0, 0, 0), (.iand, 1, 0, 0, 0), (.putfield 29, 3, 8, 4, 0)], 94),
  (94, [(.aload_n 0, 1, 0, 0, 0), (.dup, 1, 0, 0, 0), (.getfield 29, 3, 8, 4, 0), (.iconst 1, 1, 0, 0, 1), (.iload 6, 2, 6, 0, 0), (.ishl, 1, 0, 0, 0), (.ior, 1, 0, 0, 0), (.putfield 29, 3, 8, 4, 0)], 107),
  (107, [(.aload_n 0, 1, 0, 0, 0), (.getfield 15, 3, 8, 1, 0), (.iload 6, 2, 6, 0, 0), (.iload 5, 2, 5, 0, 0), (.iastore, 1, 0, 0, 0), (.aload_n 0, 1, 0, 0, 0), (.getfield 18, 3, 8, 2, 0), (.iload 6, 2, 6, 0, 0), (.aload_n 0, 1, 0, 0, 0), (.getfield 9, 3, 8, 0, 0), (.iload 5, 2, 5, 0, 0), (.iaload, 1, 0, 0, 0), (.iastore, 1, 0, 0, 0), (.iinc 5 1, 3, 5, 0, 1), (.goto (-115), 3, 18, 0, 0)], 136),
  (136, [(.return_, 1, 0, 0, 0)], 137)]
set_option maxRecDepth 100000 in
theorem ok_X8_goThrough : pm_oks 8 false 7 none cX8_goThrough bk_X8_goThrough = true := oksG_ok (by decide +kernel)
set_option maxRecDepth 100000 in
theorem me_X8_goThrough : pm_me 122 = (yX8_goThrough, cX8_goThrough, 7, none, 4, 0) := pm_mq_ok rfl
theorem mt_X8_goThrough {l : Launch} {g : pm_G} {d mc ms : Nat} {as : List Value} {A : pm_H} {Q : Option Value → pm_H → Prop} (hca : pm_cat 7 as = true) (body : ∀ J : pm_J, pm_Cl l g (fun _ => none) d mc ms (pm_Rq mc ms Q) bk_X8_goThrough J → J 0 (pm_l0 7 as) [] A 0 0) : pm_Mt l g 122 d mc ms as A Q := pm_Mt_of (isI := false) 8 bk_X8_goThrough me_X8_goThrough (plainFor_of_name plX8) rfl (fun h => by cases h) ok_X8_goThrough hca body
noncomputable def bk_X8_findNextAlike : pm_B := [(0, [(.aload_n 0, 1, 0, 0, 0), (.getfield 9, 3, 8, 0, 0), (.sipush 160, 3, 0, 0, 160), (.invokestatic 50, 3, 4, 2, 0), (.iconst 0, 1, 0, 0, 0), (.istore_n 2, 1, 2, 0, 0)], 12),
  (12, [(.iload_n 2, 1, 2, 0, 0), (.aload_n 1, 1, 1, 0, 0), (.getfield 56, 3, 7, 3, 0), (.if_icmp .ge 31, 3, 48, 0, 0), (.aload_n 1, 1, 1, 0, 0), (.getfield 59, 3, 7, 2, 0), (.iload_n 2, 1, 2, 0, 0), (.iaload, 1, 0, 0, 0), (.iconst (-1), 1, 0, 0, -1), (.if_icmp .eq 15, 3, 42, 0, 0), (.aload_n 0, 1, 0, 0, 0), (.getfield 9, 3, 8, 0, 0), (.aload_n 1, 1, 1, 0, 0), (.getfield 59, 3, 7, 2, 0), (.iload_n 2, 1, 2, 0, 0), (.iaload, 1, 0, 0, 0), (.iload_n 2, 1, 2, 0, 0), (.iastore, 1, 0, 0, 0)], 42),
  (42, [(.iinc 2 1, 3, 2, 0, 1), (.goto (-33), 3, 12, 0, 0)], 48),
  (48, [(.return_, 1, 0, 0, 0)], 49)]
set_option maxRecDepth 100000 in
theorem ok_X8_findNextAlike : pm_oks 8 false 3 none cX8_findNextAlike bk_X8_findNextAlike = true := oksG_ok (by decide +kernel)
set_option maxRecDepth 100000 in
theorem me_X8_findNextAlike : pm_me 123 = (yX8_findNextAlike, cX8_findNextAlike, 3, none, 1, 0) := pm_mq_ok rfl
theorem mt_X8_findNextAlike {l : Launch} {g : pm_G} {d mc ms : Nat} {as : List Value} {A : pm_H} {Q : Option Value → pm_H → Prop} (hca : pm_cat 3 as = true) (body : ∀ J : pm_J, pm_Cl l g (fun _ => none) d mc ms (pm_Rq mc ms Q) bk_X8_findNextAlike J → J 0 (pm_l0 3 as) [] A 0 0) : pm_Mt l g 123 d mc ms as A Q := pm_Mt_of (isI := false) 8 bk_X8_findNextAlike me_X8_findNextAlike (plainFor_of_name plX8) rfl (fun h => by cases h) ok_X8_findNextAlike hca body
noncomputable def bk_X8_oneToGo : pm_B := [(0, [(.iconst (-1), 1, 0, 0, -1), (.istore_n 2, 1, 2, 0, 0), (.iconst 0, 1, 0, 0, 0), (.istore_n 3, 1, 3, 0, 0)], 4),
  (4, [(.iload_n 3, 1, 3, 0, 0), (.bipush 24, 2, 0, 0, 24), (.if_icmp .ge 37, 3, 44, 0, 0), (.aload_n 0, 1, 0, 0, 0), (.getfield 29, 3, 8, 4, 0), (.iconst 1, 1, 0, 0, 1), (.iload_n 3, 1, 3, 0, 0), (.ishl, 1, 0, 0, 0), (.iand, 1, 0, 0, 0), (.ifCond .eq 20, 3, 38, 0, 0), (.iload_n 2, 1, 2, 0, 0), (.iconst (-1), 1, 0, 0, -1), (.if_icmp .eq 13, 3, 36, 0, 0), (.aload_n 0, 1, 0, 0, 0), (.iload_n 3, 1, 3, 0, 0), (.iload_n 2, 1, 2, 0, 0), (.iload_n 1, 1, 1, 0, 0), (.invokevirtual 62, 3, 125, 3, 8), (.ifCond .eq 5, 3, 38, 0, 0)], 36),
  (36, [(.iload_n 3, 1, 3, 0, 0), (.istore_n 2, 1, 2, 0, 0)], 38),
  (38, [(.iinc 3 1, 3, 3, 0, 1), (.goto (-37), 3, 4, 0, 0)], 44),
  (44, [(.iload_n 2, 1, 2, 0, 0), (.iconst 0, 1, 0, 0, 0), (.invokestatic 66, 3, 51, 2, 0), (.ireturn, 1, 0, 0, 0)], 50)]
set_option maxRecDepth 100000 in
theorem ok_X8_oneToGo : pm_oks 8 false 4 (some .int) cX8_oneToGo bk_X8_oneToGo = true := oksG_ok (by decide +kernel)
set_option maxRecDepth 100000 in
theorem me_X8_oneToGo : pm_me 124 = (yX8_oneToGo, cX8_oneToGo, 4, (some .int), 1, 0) := pm_mq_ok rfl
theorem mt_X8_oneToGo {l : Launch} {g : pm_G} {d mc ms : Nat} {as : List Value} {A : pm_H} {Q : Option Value → pm_H → Prop} (hca : pm_cat 4 as = true) (body : ∀ J : pm_J, pm_Cl l g (fun _ => none) d mc ms (pm_Rq mc ms Q) bk_X8_oneToGo J → J 0 (pm_l0 4 as) [] A 0 0) : pm_Mt l g 124 d mc ms as A Q := pm_Mt_of (isI := false) 8 bk_X8_oneToGo me_X8_oneToGo (plainFor_of_name plX8) rfl (fun h => by cases h) ok_X8_oneToGo hca body
noncomputable def bk_X8_goesRather : pm_B := [(0, [(.iload_n 3, 1, 3, 0, 0), (.ifCond .ne 24, 3, 25, 0, 0), (.aload_n 0, 1, 0, 0, 0), (.getfield 15, 3, 8, 1, 0), (.iload_n 1, 1, 1, 0, 0), (.iaload, 1, 0, 0, 0), (.aload_n 0, 1, 0, 0, 0), (.getfield 15, 3, 8, 1, 0), (.iload_n 2, 1, 2, 0, 0), (.iaload, 1, 0, 0, 0), (.if_icmp .ge 7, 3, 23, 0, 0), (.iconst 1, 1, 0, 0, 1), (.goto 4, 3, 24, 0, 0)], 23),
  (23, [(.iconst 0, 1, 0, 0, 0)], 24),
  (24, [(.ireturn, 1, 1, 0, 0)], 25),
  (25, [(.aload_n 0, 1, 0, 0, 0), (.getfield 18, 3, 8, 2, 0), (.iload_n 1, 1, 1, 0, 0), (.iaload, 1, 0, 0, 0), (.aload_n 0, 1, 0, 0, 0), (.getfield 18, 3, 8, 2, 0), (.iload_n 2, 1, 2, 0, 0), (.iaload, 1, 0, 0, 0), (.if_icmp .le 7, 3, 44, 0, 0), (.iconst 1, 1, 0, 0, 1), (.goto 4, 3, 45, 0, 0)], 44),
  (44, [(.iconst 0, 1, 0, 0, 0)], 45),
  (45, [(.ireturn, 1, 1, 0, 0)], 46)]
set_option maxRecDepth 100000 in
theorem ok_X8_goesRather : pm_oks 8 false 4 (some .boolean) cX8_goesRather bk_X8_goesRather = true := oksG_ok (by decide +kernel)
set_option maxRecDepth 100000 in
theorem me_X8_goesRather : pm_me 125 = (yX8_goesRather, cX8_goesRather, 4, (some .boolean), 3, 0) := pm_mq_ok rfl
theorem mt_X8_goesRather {l : Launch} {g : pm_G} {d mc ms : Nat} {as : List Value} {A : pm_H} {Q : Option Value → pm_H → Prop} (hca : pm_cat 4 as = true) (body : ∀ J : pm_J, pm_Cl l g (fun _ => none) d mc ms (pm_Rq mc ms Q) bk_X8_goesRather J → J 0 (pm_l0 4 as) [] A 0 0) : pm_Mt l g 125 d mc ms as A Q := pm_Mt_of (isI := false) 8 bk_X8_goesRather me_X8_goesRather (plainFor_of_name plX8) rfl (fun h => by cases h) ok_X8_goesRather hca body
noncomputable def bk_X4_init : pm_B := [(0, [(.aload_n 0, 1, 0, 0, 0), (.invokespecial 3, 3, 0, 0, 0), (.aload_n 0, 1, 0, 0, 0), (.sipush 160, 3, 0, 0, 160), (.newarray .int, 2, 160, 0, 0), (.putfield 9, 3, 4, 0, 1), (.return_, 1, 0, 0, 0)], 14)]
set_option maxRecDepth 100000 in
theorem ok_X4_init : pm_oks 4 true 1 none cX4_init bk_X4_init = true := oksG_ok (by decide +kernel)
set_option maxRecDepth 100000 in
theorem me_X4_init : pm_me 9 = (yX4_init, cX4_init, 1, none, 0, 2) := pm_mq_ok rfl
theorem mt_X4_init {l : Launch} {g : pm_G} {d mc ms : Nat} {as : List Value} {A : pm_H} {Q : Option Value → pm_H → Prop} (hca : pm_cat 1 as = true) (body : ∀ J : pm_J, pm_Cl l g (fun _ => none) d mc ms (pm_Rq mc ms Q) bk_X4_init J → J 0 (pm_l0 1 as) [] A 0 0) : pm_Mt l g 9 d mc ms as A Q := pm_Mt_of (isI := true) 4 bk_X4_init me_X4_init (plainFor_of_name plX4) rfl (fun _ => by decide +kernel) ok_X4_init hca body
noncomputable def bk_X4_spansUpTo : pm_B := [(0, [(.aload_n 2, 1, 2, 0, 0), (.invokevirtual 15, 3, 56, 0, 2), (.iconst 0, 1, 0, 0, 0), (.istore 4, 2, 4, 0, 0), (.iconst 0, 1, 0, 0, 0), (.istore 5, 2, 5, 0, 0), (.iconst 0, 1, 0, 0, 0), (.istore 6, 2, 6, 0, 0)], 13),
  (13, [(.iload 6, 2, 6, 0, 0), (.aload_n 1, 1, 1, 0, 0), (.getfield 20, 3, 7, 3, 0), (.if_icmp .ge 64, 3, 83, 0, 0), (.aload_n 2, 1, 2, 0, 0), (.aload_n 1, 1, 1, 0, 0), (.getfield 26, 3, 7, 0, 0), (.iload 6, 2, 6, 0, 0), (.iaload, 1, 0, 0, 0), (.invokevirtual 29, 3, 57, 1, 2)], 33),
  (33, [(.aload_n 2, 1, 2, 0, 0), (.getfield 33, 3, 2, 3, 0), (.iload_n 3, 1, 3, 0, 0), (.if_icmp .le 27, 3, 65, 0, 0), (.iload 5, 2, 5, 0, 0), (.iload 6, 2, 6, 0, 0), (.if_icmp .gt 20, 3, 65, 0, 0), (.aload_n 2, 1, 2, 0, 0), (.aload_n 1, 1, 1, 0, 0), (.getfield 26, 3, 7, 0, 0), (.iload 5, 2, 5, 0, 0), (.iaload, 1, 0, 0, 0), (.invokevirtual 36, 3, 113, 1, 2), (.iinc 5 1, 3, 5, 0, 1), (.goto (-29), 3, 33, 0, 0)], 65),
  (65, [(.iload 4, 2, 4, 0, 0), (.iload 6, 2, 6, 0, 0), (.iload 5, 2, 5, 0, 0), (.isub, 1, 0, 0, 0), (.iconst 1, 1, 0, 0, 1), (.iadd, 1, 0, 0, 0), (.iadd, 1, 0, 0, 0), (.istore 4, 2, 4, 0, 0), (.iinc 6 1, 3, 6, 0, 1), (.goto (-67), 3, 13, 0, 0)], 83),
  (83, [(.iload 4, 2, 4, 0, 0), (.ireturn, 1, 0, 0, 0)], 86)]
set_option maxRecDepth 100000 in
theorem ok_X4_spansUpTo : pm_oks 4 false 7 (some .int) cX4_spansUpTo bk_X4_spansUpTo = true := oksG_ok (by decide +kernel)
set_option maxRecDepth 100000 in
theorem me_X4_spansUpTo : pm_me 129 = (yX4_spansUpTo, cX4_spansUpTo, 7, (some .int), 3, 0) := pm_mq_ok rfl
theorem mt_X4_spansUpTo {l : Launch} {g : pm_G} {d mc ms : Nat} {as : List Value} {A : pm_H} {Q : Option Value → pm_H → Prop} (hca : pm_cat 7 as = true) (body : ∀ J : pm_J, pm_Cl l g (fun _ => none) d mc ms (pm_Rq mc ms Q) bk_X4_spansUpTo J → J 0 (pm_l0 7 as) [] A 0 0) : pm_Mt l g 129 d mc ms as A Q := pm_Mt_of (isI := false) 4 bk_X4_spansUpTo me_X4_spansUpTo (plainFor_of_name plX4) rfl (fun h => by cases h) ok_X4_spansUpTo hca body
noncomputable def bk_X4_unlikeSets : pm_B := [(0, [(.aload_n 2, 1, 2, 0, 0), (.aload_n 1, 1, 1, 0, 0), (.iconst 0, 1, 0, 0, 0), (.iload_n 3, 1, 3, 0, 0), (.iconst 1, 1, 0, 0, 1), (.isub, 1, 0, 0, 0), (.invokevirtual 39, 3, 55, 3, 2), (.iconst 0, 1, 0, 0, 0), (.istore 4, 2, 4, 0, 0), (.iconst 0, 1, 0, 0, 0), (.istore 5, 2, 5, 0, 0)], 15),
  (15, [(.iload 5, 2, 5, 0, 0), (.iload_n 3, 1, 3, 0, 0), (.iadd, 1, 0, 0, 0), (.aload_n 1, 1, 1, 0, 0), (.getfield 20, 3, 7, 3, 0), (.if_icmp .gt 69, 3, 92, 0, 0), (.iload 5, 2, 5, 0, 0), (.ifCond .le 31, 3, 59, 0, 0), (.aload_n 2, 1, 2, 0, 0), (.aload_n 1, 1, 1, 0, 0), (.getfield 26, 3, 7, 0, 0), (.iload 5, 2, 5, 0, 0), (.iconst 1, 1, 0, 0, 1), (.isub, 1, 0, 0, 0), (.iaload, 1, 0, 0, 0), (.invokevirtual 36, 3, 113, 1, 2), (.aload_n 2, 1, 2, 0, 0), (.aload_n 1, 1, 1, 0, 0), (.getfield 26, 3, 7, 0, 0), (.iload 5, 2, 5, 0, 0), (.iload_n 3, 1, 3, 0, 0), (.iadd, 1, 0, 0, 0), (.iconst 1, 1, 0, 0, 1), (.isub, 1, 0, 0, 0), (.iaload, 1, 0, 0, 0), (.invokevirtual 29, 3, 57, 1, 2)], 59),
  (59, [(.aload_n 0, 1, 0, 0, 0), (.aload_n 2, 1, 2, 0, 0), (.getfield 43, 3, 2, 4, 0), (.iload 4, 2, 4, 0, 0), (.invokevirtual 46, 3, 133, 2, 4), (.ifCond .ne 17, 3, 86, 0, 0), (.aload_n 0, 1, 0, 0, 0), (.getfield 9, 3, 4, 0, 0), (.iload 4, 2, 4, 0, 0), (.aload_n 2, 1, 2, 0, 0), (.getfield 43, 3, 2, 4, 0), (.iastore, 1, 0, 0, 0), (.iinc 4 1, 3, 4, 0, 1)], 86),
  (86, [(.iinc 5 1, 3, 5, 0, 1), (.goto (-74), 3, 15, 0, 0)], 92),
  (92, [(.iload 4, 2, 4, 0, 0), (.ireturn, 1, 0, 0, 0)], 95)]
set_option maxRecDepth 100000 in
theorem ok_X4_unlikeSets : pm_oks 4 false 6 (some .int) cX4_unlikeSets bk_X4_unlikeSets = true := oksG_ok (by decide +kernel)
set_option maxRecDepth 100000 in
theorem me_X4_unlikeSets : pm_me 132 = (yX4_unlikeSets, cX4_unlikeSets, 6, (some .int), 3, 0) := pm_mq_ok rfl
theorem mt_X4_unlikeSets {l : Launch} {g : pm_G} {d mc ms : Nat} {as : List Value} {A : pm_H} {Q : Option Value → pm_H → Prop} (hca : pm_cat 6 as = true) (body : ∀ J : pm_J, pm_Cl l g (fun _ => none) d mc ms (pm_Rq mc ms Q) bk_X4_unlikeSets J → J 0 (pm_l0 6 as) [] A 0 0) : pm_Mt l g 132 d mc ms as A Q := pm_Mt_of (isI := false) 4 bk_X4_unlikeSets me_X4_unlikeSets (plainFor_of_name plX4) rfl (fun h => by cases h) ok_X4_unlikeSets hca body
noncomputable def bk_X4_isAmong : pm_B := [(0, [(.iconst 0, 1, 0, 0, 0), (.istore_n 3, 1, 3, 0, 0)], 2),
  (2, [(.iload_n 3, 1, 3, 0, 0), (.iload_n 2, 1, 2, 0, 0), (.if_icmp .ge 21, 3, 25, 0, 0), (.aload_n 0, 1, 0, 0, 0), (.getfield 9, 3, 4, 0, 0), (.iload_n 3, 1, 3, 0, 0), (.iaload, 1, 0, 0, 0), (.iload_n 1, 1, 1, 0, 0), (.if_icmp .ne 5, 3, 19, 0, 0), (.iconst 1, 1, 0, 0, 1), (.ireturn, 1, 1, 0, 0)], 19),
  (19, [(.iinc 3 1, 3, 3, 0, 1), (.goto (-20), 3, 2, 0, 0)], 25),
  (25, [(.iconst 0, 1, 0, 0, 0), (.ireturn, 1, 1, 0, 0)], 27)]
set_option maxRecDepth 100000 in
theorem ok_X4_isAmong : pm_oks 4 false 4 (some .boolean) cX4_isAmong bk_X4_isAmong = true := oksG_ok (by decide +kernel)
set_option maxRecDepth 100000 in
theorem me_X4_isAmong : pm_me 133 = (yX4_isAmong, cX4_isAmong, 4, (some .boolean), 2, 0) := pm_mq_ok rfl
theorem mt_X4_isAmong {l : Launch} {g : pm_G} {d mc ms : Nat} {as : List Value} {A : pm_H} {Q : Option Value → pm_H → Prop} (hca : pm_cat 4 as = true) (body : ∀ J : pm_J, pm_Cl l g (fun _ => none) d mc ms (pm_Rq mc ms Q) bk_X4_isAmong J → J 0 (pm_l0 4 as) [] A 0 0) : pm_Mt l g 133 d mc ms as A Q := pm_Mt_of (isI := false) 4 bk_X4_isAmong me_X4_isAmong (plainFor_of_name plX4) rfl (fun h => by cases h) ok_X4_isAmong hca body
noncomputable def bk_X4_matching : pm_B := [(0, [(.iconst 0, 1, 0, 0, 0), (.istore 5, 2, 5, 0, 0), (.iconst 0, 1, 0, 0, 0), (.istore 6, 2, 6, 0, 0)], 6),
  (6, [(.iload 6, 2, 6, 0, 0), (.iload_n 3, 1, 3, 0, 0), (.iadd, 1, 0, 0, 0), (.iload_n 2, 1, 2, 0, 0), (.isub, 1, 0, 0, 0), (.aload_n 1, 1, 1, 0, 0), (.getfield 20, 3, 7, 3, 0), (.if_icmp .ge 37, 3, 53, 0, 0), (.aload_n 1, 1, 1, 0, 0), (.iload_n 2, 1, 2, 0, 0), (.iload 6, 2, 6, 0, 0), (.iload_n 3, 1, 3, 0, 0), (.iload_n 2, 1, 2, 0, 0), (.isub, 1, 0, 0, 0), (.iconst 1, 1, 0, 0, 1), (.iadd, 1, 0, 0, 0), (.invokestatic 53, 3, 136, 4, 0), (.ifCond .eq 16, 3, 47, 0, 0), (.iload 5, 2, 5, 0, 0), (.iload 4, 2, 4, 0, 0), (.if_icmp .ne 6, 3, 44, 0, 0), (.iload 6, 2, 6, 0, 0), (.ireturn, 1, 0, 0, 0)], 44),
  (44, [(.iinc 5 1, 3, 5, 0, 1)], 47),
  (47, [(.iinc 6 1, 3, 6, 0, 1), (.goto (-44), 3, 6, 0, 0)], 53),
  (53, [(.iload 4, 2, 4, 0, 0), (.iconst (-1), 1, 0, 0, -1), (.if_icmp .ne 8, 3, 64, 0, 0), (.iload 5, 2, 5, 0, 0), (.goto 4, 3, 65, 0, 0)], 64),
  (64, [(.iconst (-1), 1, 0, 0, -1)], 65),
  (65, [(.ireturn, 1, 0, 0, 0)], 66)]
set_option maxRecDepth 100000 in
theorem ok_X4_matching : pm_oks 4 false 7 (some .int) cX4_matching bk_X4_matching = true := oksG_ok (by decide +kernel)
set_option maxRecDepth 100000 in
theorem me_X4_matching : pm_me 135 = (yX4_matching, cX4_matching, 7, (some .int), 4, 0) := pm_mq_ok rfl
theorem mt_X4_matching {l : Launch} {g : pm_G} {d mc ms : Nat} {as : List Value} {A : pm_H} {Q : Option Value → pm_H → Prop} (hca : pm_cat 7 as = true) (body : ∀ J : pm_J, pm_Cl l g (fun _ => none) d mc ms (pm_Rq mc ms Q) bk_X4_matching J → J 0 (pm_l0 7 as) [] A 0 0) : pm_Mt l g 135 d mc ms as A Q := pm_Mt_of (isI := false) 4 bk_X4_matching me_X4_matching (plainFor_of_name plX4) rfl (fun h => by cases h) ok_X4_matching hca body
noncomputable def bk_X4_areMatching : pm_B := [(0, [(.iconst 0, 1, 0, 0, 0), (.istore 4, 2, 4, 0, 0)], 3),
  (3, [(.iload 4, 2, 4, 0, 0), (.iload_n 3, 1, 3, 0, 0), (.if_icmp .ge 32, 3, 38, 0, 0), (.aload_n 0, 1, 0, 0, 0), (.iload_n 1, 1, 1, 0, 0), (.iload_n 1, 1, 1, 0, 0), (.iload 4, 2, 4, 0, 0), (.iadd, 1, 0, 0, 0), (.invokestatic 57, 3, 137, 3, 0), (.aload_n 0, 1, 0, 0, 0), (.iload_n 2, 1, 2, 0, 0), (.iload_n 2, 1, 2, 0, 0), (.iload 4, 2, 4, 0, 0), (.iadd, 1, 0, 0, 0), (.invokestatic 57, 3, 137, 3, 0), (.if_icmp .eq 5, 3, 32, 0, 0), (.iconst 0, 1, 0, 0, 0), (.ireturn, 1, 1, 0, 0)], 32),
  (32, [(.iinc 4 1, 3, 4, 0, 1), (.goto (-32), 3, 3, 0, 0)], 38),
  (38, [(.iconst 1, 1, 0, 0, 1), (.ireturn, 1, 1, 0, 0)], 40)]
set_option maxRecDepth 100000 in
theorem ok_X4_areMatching : pm_oks 4 false 5 (some .boolean) cX4_areMatching bk_X4_areMatching = true := oksG_ok (by decide +kernel)
set_option maxRecDepth 100000 in
theorem me_X4_areMatching : pm_me 136 = (yX4_areMatching, cX4_areMatching, 5, (some .boolean), 4, 1) := pm_mq_ok rfl
theorem mt_X4_areMatching {l : Launch} {g : pm_G} {d mc ms : Nat} {as : List Value} {A : pm_H} {Q : Option Value → pm_H → Prop} (hca : pm_cat 5 as = true) (body : ∀ J : pm_J, pm_Cl l g (fun _ => none) d mc ms (pm_Rq mc ms Q) bk_X4_areMatching J → J 0 (pm_l0 5 as) [] A 0 0) : pm_Mt l g 136 d mc ms as A Q := pm_Mt_of (isI := false) 4 bk_X4_areMatching me_X4_areMatching (plainFor_of_name plX4) rfl (fun h => by cases h) ok_X4_areMatching hca body
noncomputable def bk_X4_stepWithin : pm_B := [(0, [(.aload_n 0, 1, 0, 0, 0), (.getfield 50, 3, 7, 2, 0), (.iload_n 2, 1, 2, 0, 0), (.iaload, 1, 0, 0, 0), (.iload_n 1, 1, 1, 0, 0), (.if_icmp .lt 14, 3, 21, 0, 0), (.iload_n 2, 1, 2, 0, 0), (.aload_n 0, 1, 0, 0, 0), (.getfield 50, 3, 7, 2, 0), (.iload_n 2, 1, 2, 0, 0), (.iaload, 1, 0, 0, 0), (.isub, 1, 0, 0, 0), (.goto 4, 3, 22, 0, 0)], 21),
  (21, [(.iconst 0, 1, 0, 0, 0)], 22),
  (22, [(.ireturn, 1, 0, 0, 0)], 23)]
set_option maxRecDepth 100000 in
theorem ok_X4_stepWithin : pm_oks 4 false 3 (some .int) cX4_stepWithin bk_X4_stepWithin = true := oksG_ok (by decide +kernel)
set_option maxRecDepth 100000 in
theorem me_X4_stepWithin : pm_me 137 = (yX4_stepWithin, cX4_stepWithin, 3, (some .int), 3, 1) := pm_mq_ok rfl
theorem mt_X4_stepWithin {l : Launch} {g : pm_G} {d mc ms : Nat} {as : List Value} {A : pm_H} {Q : Option Value → pm_H → Prop} (hca : pm_cat 3 as = true) (body : ∀ J : pm_J, pm_Cl l g (fun _ => none) d mc ms (pm_Rq mc ms Q) bk_X4_stepWithin J → J 0 (pm_l0 3 as) [] A 0 0) : pm_Mt l g 137 d mc ms as A Q := pm_Mt_of (isI := false) 4 bk_X4_stepWithin me_X4_stepWithin (plainFor_of_name plX4) rfl (fun h => by cases h) ok_X4_stepWithin hca body
noncomputable def bk_X4_findTwin : pm_B := [(0, [(.aload_n 0, 1, 0, 0, 0), (.iconst (-1), 1, 0, 0, -1), (.putfield 61, 3, 4, 1, 0), (.aload_n 0, 1, 0, 0, 0), (.iconst 0, 1, 0, 0, 0), (.putfield 64, 3, 4, 2, 0), (.iconst 1, 1, 0, 0, 1), (.istore_n 2, 1, 2, 0, 0)], 12),
  (12, [(.iload_n 2, 1, 2, 0, 0), (.aload_n 1, 1, 1, 0, 0), (.getfield 20, 3, 7, 3, 0), (.if_icmp .ge 15, 3, 32, 0, 0), (.aload_n 0, 1, 0, 0, 0), (.aload_n 1, 1, 1, 0, 0), (.iload_n 2, 1, 2, 0, 0), (.invokevirtual 67, 3, 140, 2, 4), (.iinc 2 1, 3, 2, 0, 1), (.goto (-17), 3, 12, 0, 0)], 32),
  (32, [(.return_, 1, 0, 0, 0)], 33)]
set_option maxRecDepth 100000 in
theorem ok_X4_findTwin : pm_oks 4 false 3 none cX4_findTwin bk_X4_findTwin = true := oksG_ok (by decide +kernel)
set_option maxRecDepth 100000 in
theorem me_X4_findTwin : pm_me 139 = (yX4_findTwin, cX4_findTwin, 3, none, 1, 0) := pm_mq_ok rfl
theorem mt_X4_findTwin {l : Launch} {g : pm_G} {d mc ms : Nat} {as : List Value} {A : pm_H} {Q : Option Value → pm_H → Prop} (hca : pm_cat 3 as = true) (body : ∀ J : pm_J, pm_Cl l g (fun _ => none) d mc ms (pm_Rq mc ms Q) bk_X4_findTwin J → J 0 (pm_l0 3 as) [] A 0 0) : pm_Mt l g 139 d mc ms as A Q := pm_Mt_of (isI := false) 4 bk_X4_findTwin me_X4_findTwin (plainFor_of_name plX4) rfl (fun h => by cases h) ok_X4_findTwin hca body
noncomputable def bk_X4_findTwinApart : pm_B := [(0, [(.iconst 0, 1, 0, 0, 0), (.istore_n 3, 1, 3, 0, 0), (.iconst 0, 1, 0, 0, 0), (.istore 4, 2, 4, 0, 0)], 5),
  (5, [(.iload 4, 2, 4, 0, 0), (.iload_n 2, 1, 2, 0, 0), (.iadd, 1, 0, 0, 0), (.aload_n 1, 1, 1, 0, 0), (.getfield 20, 3, 7, 3, 0), (.if_icmp .ge 98, 3, 111, 0, 0), (.iload_n 3, 1, 3, 0, 0), (.iload 4, 2, 4, 0, 0), (.invokestatic 71, 3, 51, 2, 0), (.istore_n 3, 1, 3, 0, 0)], 23),
  (23, [(.iload_n 3, 1, 3, 0, 0), (.iload_n 2, 1, 2, 0, 0), (.iadd, 1, 0, 0, 0), (.aload_n 1, 1, 1, 0, 0), (.getfield 20, 3, 7, 3, 0), (.if_icmp .ge 30, 3, 60, 0, 0), (.aload_n 1, 1, 1, 0, 0), (.iload 4, 2, 4, 0, 0), (.iload_n 3, 1, 3, 0, 0), (.invokestatic 57, 3, 137, 3, 0), (.aload_n 1, 1, 1, 0, 0), (.iload 4, 2, 4, 0, 0), (.iload_n 2, 1, 2, 0, 0), (.iadd, 1, 0, 0, 0), (.iload_n 3, 1, 3, 0, 0), (.iload_n 2, 1, 2, 0, 0), (.iadd, 1, 0, 0, 0), (.invokestatic 57, 3, 137, 3, 0), (.if_icmp .ne 9, 3, 60, 0, 0), (.iinc 3 1, 3, 3, 0, 1), (.goto (-34), 3, 23, 0, 0)], 60),
  (60, [(.iload_n 3, 1, 3, 0, 0), (.iload 4, 2, 4, 0, 0), (.isub, 1, 0, 0, 0), (.istore 5, 2, 5, 0, 0), (.iload 5, 2, 5, 0, 0), (.aload_n 0, 1, 0, 0, 0), (.getfield 64, 3, 4, 2, 0), (.if_icmp .gt 21, 3, 93, 0, 0), (.iload 5, 2, 5, 0, 0), (.aload_n 0, 1, 0, 0, 0), (.getfield 64, 3, 4, 2, 0), (.if_icmp .ne 24, 3, 105, 0, 0), (.iload 4, 2, 4, 0, 0), (.aload_n 0, 1, 0, 0, 0), (.getfield 61, 3, 4, 1, 0), (.if_icmp .ge 15, 3, 105, 0, 0)], 93),
  (93, [(.aload_n 0, 1, 0, 0, 0), (.iload 4, 2, 4, 0, 0), (.putfield 61, 3, 4, 1, 0), (.aload_n 0, 1, 0, 0, 0), (.iload 5, 2, 5, 0, 0), (.putfield 64, 3, 4, 2, 0)], 105),
  (105, [(.iinc 4 1, 3, 4, 0, 1), (.goto (-103), 3, 5, 0, 0)], 111),
  (111, [(.return_, 1, 0, 0, 0)], 112)]
set_option maxRecDepth 100000 in
theorem ok_X4_findTwinApart : pm_oks 4 false 6 none cX4_findTwinApart bk_X4_findTwinApart = true := oksG_ok (by decide +kernel)
set_option maxRecDepth 100000 in
theorem me_X4_findTwinApart : pm_me 140 = (yX4_findTwinApart, cX4_findTwinApart, 6, none, 2, 0) := pm_mq_ok rfl
theorem mt_X4_findTwinApart {l : Launch} {g : pm_G} {d mc ms : Nat} {as : List Value} {A : pm_H} {Q : Option Value → pm_H → Prop} (hca : pm_cat 6 as = true) (body : ∀ J : pm_J, pm_Cl l g (fun _ => none) d mc ms (pm_Rq mc ms Q) bk_X4_findTwinApart J → J 0 (pm_l0 6 as) [] A 0 0) : pm_Mt l g 140 d mc ms as A Q := pm_Mt_of (isI := false) 4 bk_X4_findTwinApart me_X4_findTwinApart (plainFor_of_name plX4) rfl (fun h => by cases h) ok_X4_findTwinApart hca body
noncomputable def bk_X3_init : pm_B := [(0, [(.aload_n 0, 1, 0, 0, 0), (.invokespecial 3, 3, 0, 0, 0), (.aload_n 0, 1, 0, 0, 0), (.bipush 9, 2, 0, 0, 9), (.sipush 161, 3, 0, 0, 161), (.multianewarray 9 2, 4, 9, 161, 0), (.putfield 11, 3, 3, 0, 1), (.return_, 1, 0, 0, 0)], 18)]
set_option maxRecDepth 100000 in
theorem ok_X3_init : pm_oks 3 true 1 none cX3_init bk_X3_init = true := oksG_ok (by decide +kernel)
set_option maxRecDepth 100000 in
theorem me_X3_init : pm_me 10 = (yX3_init, cX3_init, 1, none, 0, 2) := pm_mq_ok rfl
theorem mt_X3_init {l : Launch} {g : pm_G} {d mc ms : Nat} {as : List Value} {A : pm_H} {Q : Option Value → pm_H → Prop} (hca : pm_cat 1 as = true) (body : ∀ J : pm_J, pm_Cl l g (fun _ => none) d mc ms (pm_Rq mc ms Q) bk_X3_init J → J 0 (pm_l0 1 as) [] A 0 0) : pm_Mt l g 10 d mc ms as A Q := pm_Mt_of (isI := true) 3 bk_X3_init me_X3_init (plainFor_of_name plX3) rfl (fun _ => by decide +kernel) ok_X3_init hca body
noncomputable def bk_X3_greedy : pm_B := [(0, [(.aload_n 2, 1, 2, 0, 0), (.invokevirtual 16, 3, 56, 0, 2), (.iconst 0, 1, 0, 0, 0), (.istore 5, 2, 5, 0, 0), (.iconst 0, 1, 0, 0, 0), (.istore 6, 2, 6, 0, 0)], 10),
  (10, [(.iload 6, 2, 6, 0, 0), (.aload_n 1, 1, 1, 0, 0), (.getfield 21, 3, 7, 3, 0), (.if_icmp .ge 58, 3, 74, 0, 0), (.aload_n 2, 1, 2, 0, 0), (.aload_n 1, 1, 1, 0, 0), (.getfield 27, 3, 7, 0, 0), (.iload 6, 2, 6, 0, 0), (.iaload, 1, 0, 0, 0), (.invokevirtual 31, 3, 57, 1, 2), (.aload_n 2, 1, 2, 0, 0), (.getfield 35, 3, 2, 3, 0), (.iload_n 3, 1, 3, 0, 0), (.if_icmp .le 33, 3, 68, 0, 0), (.iload 5, 2, 5, 0, 0), (.iload 4, 2, 4, 0, 0), (.if_icmp .ne 8, 3, 50, 0, 0), (.iload 6, 2, 6, 0, 0), (.iconst 1, 1, 0, 0, 1), (.isub, 1, 0, 0, 0), (.ireturn, 1, 0, 0, 0)], 50),
  (50, [(.iinc 5 1, 3, 5, 0, 1), (.aload_n 2, 1, 2, 0, 0), (.invokevirtual 16, 3, 56, 0, 2), (.aload_n 2, 1, 2, 0, 0), (.aload_n 1, 1, 1, 0, 0), (.getfield 27, 3, 7, 0, 0), (.iload 6, 2, 6, 0, 0), (.iaload, 1, 0, 0, 0), (.invokevirtual 31, 3, 57, 1, 2)], 68),
  (68, [(.iinc 6 1, 3, 6, 0, 1), (.goto (-61), 3, 10, 0, 0)], 74),
  (74, [(.iload 4, 2, 4, 0, 0), (.iconst (-1), 1, 0, 0, -1), (.if_icmp .ne 19, 3, 96, 0, 0), (.aload_n 1, 1, 1, 0, 0), (.getfield 21, 3, 7, 3, 0), (.ifCond .ne 7, 3, 91, 0, 0), (.iconst 0, 1, 0, 0, 0), (.goto 7, 3, 95, 0, 0)], 91),
  (91, [(.iload 5, 2, 5, 0, 0), (.iconst 1, 1, 0, 0, 1), (.iadd, 1, 0, 0, 0)], 95),
  (95, [(.ireturn, 1, 0, 0, 0)], 96),
  (96, [(.iload 5, 2, 5, 0, 0), (.iload 4, 2, 4, 0, 0), (.if_icmp .ne 12, 3, 112, 0, 0), (.aload_n 1, 1, 1, 0, 0), (.getfield 21, 3, 7, 3, 0), (.iconst 1, 1, 0, 0, 1), (.isub, 1, 0, 0, 0), (.goto 4, 3, 113, 0, 0)], 112),
  (112, [(.iconst (-1), 1, 0, 0, -1)], 113),
  (113, [(.ireturn, 1, 0, 0, 0)], 114)]
set_option maxRecDepth 100000 in
theorem ok_X3_greedy : pm_oks 3 false 7 (some .int) cX3_greedy bk_X3_greedy = true := oksG_ok (by decide +kernel)
set_option maxRecDepth 100000 in
theorem me_X3_greedy : pm_me 142 = (yX3_greedy, cX3_greedy, 7, (some .int), 4, 0) := pm_mq_ok rfl
theorem mt_X3_greedy {l : Launch} {g : pm_G} {d mc ms : Nat} {as : List Value} {A : pm_H} {Q : Option Value → pm_H → Prop} (hca : pm_cat 7 as = true) (body : ∀ J : pm_J, pm_Cl l g (fun _ => none) d mc ms (pm_Rq mc ms Q) bk_X3_greedy J → J 0 (pm_l0 7 as) [] A 0 0) : pm_Mt l g 142 d mc ms as A Q := pm_Mt_of (isI := false) 3 bk_X3_greedy me_X3_greedy (plainFor_of_name plX3) rfl (fun h => by cases h) ok_X3_greedy hca body
noncomputable def bk_X3_weighUp : pm_B := [(0, [(.iconst 0, 1, 0, 0, 0), (.istore 4, 2, 4, 0, 0)], 3),
  (3, [(.iload 4, 2, 4, 0, 0), (.iload_n 3, 1, 3, 0, 0), (.if_icmp .gt 20, 3, 26, 0, 0), (.aload_n 0, 1, 0, 0, 0), (.getfield 11, 3, 3, 0, 0), (.iload 4, 2, 4, 0, 0), (.aaload, 1, 0, 0, 0), (.iconst (-1), 1, 0, 0, -1), (.invokestatic 38, 3, 4, 2, 0), (.iinc 4 1, 3, 4, 0, 1), (.goto (-20), 3, 3, 0, 0)], 26),
  (26, [(.aload_n 0, 1, 0, 0, 0), (.getfield 11, 3, 3, 0, 0), (.iconst 0, 1, 0, 0, 0), (.aaload, 1, 0, 0, 0), (.aload_n 1, 1, 1, 0, 0), (.getfield 21, 3, 7, 3, 0), (.iconst 0, 1, 0, 0, 0), (.iastore, 1, 0, 0, 0), (.aload_n 1, 1, 1, 0, 0), (.getfield 21, 3, 7, 3, 0), (.iconst 1, 1, 0, 0, 1), (.isub, 1, 0, 0, 0), (.istore 4, 2, 4, 0, 0)], 46),
  (46, [(.iload 4, 2, 4, 0, 0), (.ifCond .lt 110, 3, 158, 0, 0), (.aload_n 2, 1, 2, 0, 0), (.invokevirtual 16, 3, 56, 0, 2), (.iload 4, 2, 4, 0, 0), (.istore 5, 2, 5, 0, 0)], 59),
  (59, [(.iload 5, 2, 5, 0, 0), (.aload_n 1, 1, 1, 0, 0), (.getfield 21, 3, 7, 3, 0), (.if_icmp .ge 87, 3, 152, 0, 0), (.aload_n 2, 1, 2, 0, 0), (.aload_n 1, 1, 1, 0, 0), (.getfield 27, 3, 7, 0, 0), (.iload 5, 2, 5, 0, 0), (.iaload, 1, 0, 0, 0), (.invokevirtual 31, 3, 57, 1, 2), (.iconst 1, 1, 0, 0, 1), (.istore 6, 2, 6, 0, 0)], 82),
  (82, [(.iload 6, 2, 6, 0, 0), (.iload_n 3, 1, 3, 0, 0), (.if_icmp .gt 61, 3, 146, 0, 0), (.aload_n 0, 1, 0, 0, 0), (.getfield 11, 3, 3, 0, 0), (.iload 6, 2, 6, 0, 0), (.iconst 1, 1, 0, 0, 1), (.isub, 1, 0, 0, 0), (.aaload, 1, 0, 0, 0), (.iload 5, 2, 5, 0, 0), (.iconst 1, 1, 0, 0, 1), (.iadd, 1, 0, 0, 0), (.iaload, 1, 0, 0, 0), (.istore 7, 2, 7, 0, 0), (.iload 7, 2, 7, 0, 0), (.iconst (-1), 1, 0, 0, -1), (.if_icmp .eq 33, 3, 140, 0, 0), (.aload_n 0, 1, 0, 0, 0), (.getfield 11, 3, 3, 0, 0), (.iload 6, 2, 6, 0, 0), (.aaload, 1, 0, 0, 0), (.iload 4, 2, 4, 0, 0), (.aload_n 0, 1, 0, 0, 0), (.getfield 11, 3, 3, 0, 0), (.iload 6, 2, 6, 0, 0), (.aaload, 1, 0, 0, 0), (.iload 4, 2, 4, 0, 0), (.iaload, 1, 0, 0, 0), (.aload_n 2, 1, 2, 0, 0), (.getfield 35, 3, 2, 3, 0), (.iload 7, 2, 7, 0, 0), (.iadd, 1, 0, 0, 0), (.invokestatic 44, 3, 51, 2, 0), (.iastore, 1, 0, 0, 0)], 140),
  (140, [(.iinc 6 1, 3, 6, 0, 1), (.goto (-61), 3, 82, 0, 0)], 146),
  (146, [(.iinc 5 1, 3, 5, 0, 1), (.goto (-90), 3, 59, 0, 0)], 152),
  (152, [(.iinc 4 (-1), 3, 4, 0, -1), (.goto (-109), 3, 46, 0, 0)], 158),
  (158, [(.return_, 1, 0, 0, 0)], 159)]
set_option maxRecDepth 100000 in
theorem ok_X3_weighUp : pm_oks 3 false 8 none cX3_weighUp bk_X3_weighUp = true := oksG_ok (by decide +kernel)
set_option maxRecDepth 100000 in
theorem me_X3_weighUp : pm_me 144 = (yX3_weighUp, cX3_weighUp, 8, none, 3, 0) := pm_mq_ok rfl
theorem mt_X3_weighUp {l : Launch} {g : pm_G} {d mc ms : Nat} {as : List Value} {A : pm_H} {Q : Option Value → pm_H → Prop} (hca : pm_cat 8 as = true) (body : ∀ J : pm_J, pm_Cl l g (fun _ => none) d mc ms (pm_Rq mc ms Q) bk_X3_weighUp J → J 0 (pm_l0 8 as) [] A 0 0) : pm_Mt l g 144 d mc ms as A Q := pm_Mt_of (isI := false) 3 bk_X3_weighUp me_X3_weighUp (plainFor_of_name plX3) rfl (fun h => by cases h) ok_X3_weighUp hca body
noncomputable def bk_X3_worthOf : pm_B := [(0, [(.iload_n 1, 1, 1, 0, 0), (.ifCond .lt 24, 3, 25, 0, 0), (.iload_n 1, 1, 1, 0, 0), (.bipush 8, 2, 0, 0, 8), (.if_icmp .gt 18, 3, 25, 0, 0), (.iload_n 2, 1, 2, 0, 0), (.ifCond .lt 14, 3, 25, 0, 0), (.iload_n 2, 1, 2, 0, 0), (.sipush 160, 3, 0, 0, 160), (.if_icmp .gt 7, 3, 25, 0, 0), (.iconst 1, 1, 0, 0, 1), (.goto 4, 3, 26, 0, 0)], 25),
  (25, [(.iconst 0, 1, 0, 0, 0)], 26),
  (26, [(.istore_n 3, 1, 3, 0, 0), (.iload_n 3, 1, 3, 0, 0), (.ifCond .eq 14, 3, 42, 0, 0), (.aload_n 0, 1, 0, 0, 0), (.getfield 11, 3, 3, 0, 0), (.iload_n 1, 1, 1, 0, 0), (.aaload, 1, 0, 0, 0), (.iload_n 2, 1, 2, 0, 0), (.iaload, 1, 0, 0, 0), (.goto 4, 3, 43, 0, 0)], 42),
  (42, [(.iconst (-1), 1, 0, 0, -1)], 43),
  (43, [(.ireturn, 1, 0, 0, 0)], 44)]
set_option maxRecDepth 100000 in
theorem ok_X3_worthOf : pm_oks 3 false 4 (some .int) cX3_worthOf bk_X3_worthOf = true := oksG_ok (by decide +kernel)
set_option maxRecDepth 100000 in
theorem me_X3_worthOf : pm_me 145 = (yX3_worthOf, cX3_worthOf, 4, (some .int), 2, 0) := pm_mq_ok rfl
theorem mt_X3_worthOf {l : Launch} {g : pm_G} {d mc ms : Nat} {as : List Value} {A : pm_H} {Q : Option Value → pm_H → Prop} (hca : pm_cat 4 as = true) (body : ∀ J : pm_J, pm_Cl l g (fun _ => none) d mc ms (pm_Rq mc ms Q) bk_X3_worthOf J → J 0 (pm_l0 4 as) [] A 0 0) : pm_Mt l g 145 d mc ms as A Q := pm_Mt_of (isI := false) 3 bk_X3_worthOf me_X3_worthOf (plainFor_of_name plX3) rfl (fun h => by cases h) ok_X3_worthOf hca body
noncomputable def bk_X3_lastPlaceOf : pm_B := [(0, [(.iconst (-1), 1, 0, 0, -1), (.istore 5, 2, 5, 0, 0), (.iconst 0, 1, 0, 0, 0), (.istore 6, 2, 6, 0, 0)], 6),
  (6, [(.iload 6, 2, 6, 0, 0), (.iload 4, 2, 4, 0, 0), (.if_icmp .gt 25, 3, 35, 0, 0), (.aload_n 0, 1, 0, 0, 0), (.aload_n 1, 1, 1, 0, 0), (.aload_n 2, 1, 2, 0, 0), (.iload 5, 2, 5, 0, 0), (.iconst 1, 1, 0, 0, 1), (.iadd, 1, 0, 0, 0), (.iload_n 3, 1, 3, 0, 0), (.iload 6, 2, 6, 0, 0), (.isub, 1, 0, 0, 0), (.invokevirtual 50, 3, 147, 4, 3), (.istore 5, 2, 5, 0, 0), (.iinc 6 1, 3, 6, 0, 1), (.goto (-26), 3, 6, 0, 0)], 35),
  (35, [(.iload 5, 2, 5, 0, 0), (.ireturn, 1, 0, 0, 0)], 38)]
set_option maxRecDepth 100000 in
theorem ok_X3_lastPlaceOf : pm_oks 3 false 7 (some .int) cX3_lastPlaceOf bk_X3_lastPlaceOf = true := oksG_ok (by decide +kernel)
set_option maxRecDepth 100000 in
theorem me_X3_lastPlaceOf : pm_me 146 = (yX3_lastPlaceOf, cX3_lastPlaceOf, 7, (some .int), 4, 0) := pm_mq_ok rfl
theorem mt_X3_lastPlaceOf {l : Launch} {g : pm_G} {d mc ms : Nat} {as : List Value} {A : pm_H} {Q : Option Value → pm_H → Prop} (hca : pm_cat 7 as = true) (body : ∀ J : pm_J, pm_Cl l g (fun _ => none) d mc ms (pm_Rq mc ms Q) bk_X3_lastPlaceOf J → J 0 (pm_l0 7 as) [] A 0 0) : pm_Mt l g 146 d mc ms as A Q := pm_Mt_of (isI := false) 3 bk_X3_lastPlaceOf me_X3_lastPlaceOf (plainFor_of_name plX3) rfl (fun h => by cases h) ok_X3_lastPlaceOf hca body
noncomputable def bk_X3_shortestBestEnd : pm_B := [(0, [(.aload_n 2, 1, 2, 0, 0), (.invokevirtual 16, 3, 56, 0, 2), (.iload_n 3, 1, 3, 0, 0), (.istore 5, 2, 5, 0, 0)], 7),
  (7, [(.iload 5, 2, 5, 0, 0), (.aload_n 1, 1, 1, 0, 0), (.getfield 21, 3, 7, 3, 0), (.if_icmp .ge 60, 3, 73, 0, 0), (.aload_n 2, 1, 2, 0, 0), (.aload_n 1, 1, 1, 0, 0), (.getfield 27, 3, 7, 0, 0), (.iload 5, 2, 5, 0, 0), (.iaload, 1, 0, 0, 0), (.invokevirtual 31, 3, 57, 1, 2), (.aload_n 0, 1, 0, 0, 0), (.iload 4, 2, 4, 0, 0), (.iconst 1, 1, 0, 0, 1), (.isub, 1, 0, 0, 0), (.iload 5, 2, 5, 0, 0), (.iconst 1, 1, 0, 0, 1), (.iadd, 1, 0, 0, 0), (.invokevirtual 54, 3, 145, 2, 3), (.istore 6, 2, 6, 0, 0), (.iload 6, 2, 6, 0, 0), (.iconst (-1), 1, 0, 0, -1), (.if_icmp .eq 23, 3, 67, 0, 0), (.aload_n 2, 1, 2, 0, 0), (.getfield 35, 3, 2, 3, 0), (.iload 6, 2, 6, 0, 0), (.iadd, 1, 0, 0, 0), (.aload_n 0, 1, 0, 0, 0), (.iload 4, 2, 4, 0, 0), (.iload_n 3, 1, 3, 0, 0), (.invokevirtual 54, 3, 145, 2, 3), (.if_icmp .ne 6, 3, 67, 0, 0), (.iload 5, 2, 5, 0, 0), (.ireturn, 1, 0, 0, 0)], 67),
  (67, [(.iinc 5 1, 3, 5, 0, 1), (.goto (-63), 3, 7, 0, 0)], 73),
  (73, [(.iconst (-1), 1, 0, 0, -1), (.ireturn, 1, 0, 0, 0)], 75)]
set_option maxRecDepth 100000 in
theorem ok_X3_shortestBestEnd : pm_oks 3 false 7 (some .int) cX3_shortestBestEnd bk_X3_shortestBestEnd = true := oksG_ok (by decide +kernel)
set_option maxRecDepth 100000 in
theorem me_X3_shortestBestEnd : pm_me 147 = (yX3_shortestBestEnd, cX3_shortestBestEnd, 7, (some .int), 4, 0) := pm_mq_ok rfl
theorem mt_X3_shortestBestEnd {l : Launch} {g : pm_G} {d mc ms : Nat} {as : List Value} {A : pm_H} {Q : Option Value → pm_H → Prop} (hca : pm_cat 7 as = true) (body : ∀ J : pm_J, pm_Cl l g (fun _ => none) d mc ms (pm_Rq mc ms Q) bk_X3_shortestBestEnd J → J 0 (pm_l0 7 as) [] A 0 0) : pm_Mt l g 147 d mc ms as A Q := pm_Mt_of (isI := false) 3 bk_X3_shortestBestEnd me_X3_shortestBestEnd (plainFor_of_name plX3) rfl (fun h => by cases h) ok_X3_shortestBestEnd hca body
noncomputable def bk_X5_init : pm_B := [(0, [(.aload_n 0, 1, 0, 0, 0), (.invokespecial 3, 3, 0, 0, 0), (.aload_n 0, 1, 0, 0, 0), (.bipush 30, 2, 0, 0, 30), (.newarray .int, 2, 30, 0, 0), (.putfield 9, 3, 5, 0, 1), (.aload_n 0, 1, 0, 0, 0), (.bipush 30, 2, 0, 0, 30), (.newarray .int, 2, 30, 0, 0), (.putfield 15, 3, 5, 1, 1), (.aload_n 0, 1, 0, 0, 0), (.bipush 30, 2, 0, 0, 30), (.newarray .int, 2, 30, 0, 0), (.putfield 18, 3, 5, 2, 1), (.aload_n 0, 1, 0, 0, 0), (.bipush 30, 2, 0, 0, 30), (.newarray .int, 2, 30, 0, 0), (.putfield 21, 3, 5, 3, 1), (.aload_n 0, 1, 0, 0, 0), (.bipush 30, 2, 0, 0, 30), (.newarray .int, 2, 30, 0, 0), (.putfield 24, 3, 5, 4, 1), (.return_, 1, 0, 0, 0)], 45)]
set_option maxRecDepth 100000 in
theorem ok_X5_init : pm_oks 5 true 1 none cX5_init bk_X5_init = true := oksG_ok (by decide +kernel)
set_option maxRecDepth 100000 in
theorem me_X5_init : pm_me 11 = (yX5_init, cX5_init, 1, none, 0, 2) := pm_mq_ok rfl
theorem mt_X5_init {l : Launch} {g : pm_G} {d mc ms : Nat} {as : List Value} {A : pm_H} {Q : Option Value → pm_H → Prop} (hca : pm_cat 1 as = true) (body : ∀ J : pm_J, pm_Cl l g (fun _ => none) d mc ms (pm_Rq mc ms Q) bk_X5_init J → J 0 (pm_l0 1 as) [] A 0 0) : pm_Mt l g 11 d mc ms as A Q := pm_Mt_of (isI := true) 5 bk_X5_init me_X5_init (plainFor_of_name plX5) rfl (fun _ => by decide +kernel) ok_X5_init hca body
end
section
/-! blocks, by a program -/
noncomputable def bk_X5_add : pm_B := [(0, [(.aload_n 0, 1, 0, 0, 0), (.getfield 27, 3, 5, 5, 0), (.ifCond .lt 12, 3, 16, 0, 0), (.aload_n 0, 1, 0, 0, 0), (.getfield 27, 3, 5, 5, 0), (.bipush 30, 2, 0, 0, 30), (.if_icmp .lt 5, 3, 18, 0, 0)], 16),
  (16, [(.iconst (-1), 1, 0, 0, -1), (.ireturn, 1, 0, 0, 0)], 18),
  (18, [(.aload_n 0, 1, 0, 0, 0), (.getfield 27, 3, 5, 5, 0), (.istore 4, 2, 4, 0, 0), (.aload_n 0, 1, 0, 0, 0), (.getfield 9, 3, 5, 0, 0), (.iload 4, 2, 4, 0, 0), (.iload_n 2, 1, 2, 0, 0), (.iastore, 1, 0, 0, 0), (.aload_n 0, 1, 0, 0, 0), (.getfield 15, 3, 5, 1, 0), (.iload 4, 2, 4, 0, 0), (.iload_n 3, 1, 3, 0, 0), (.iastore, 1, 0, 0, 0), (.aload_n 0, 1, 0, 0, 0), (.getfield 24, 3, 5, 4, 0), (.iload 4, 2, 4, 0, 0), (.iload_n 1, 1, 1, 0, 0), (.iastore, 1, 0, 0, 0), (.aload_n 0, 1, 0, 0, 0), (.getfield 18, 3, 5, 2, 0), (.iload 4, 2, 4, 0, 0), (.iconst (-1), 1, 0, 0, -1), (.iastore, 1, 0, 0, 0), (.aload_n 0, 1, 0, 0, 0), (.getfield 21, 3, 5, 3, 0), (.iload 4, 2, 4, 0, 0), (.iconst (-1), 1, 0, 0, -1), (.iastore, 1, 0, 0, 0), (.aload_n 0, 1, 0, 0, 0), (.dup, 1, 0, 0, 0), (.getfield 27, 3, 5, 5, 0), (.iconst 1, 1, 0, 0, 1), (.iadd, 1, 0, 0, 0), (.putfield 27, 3, 5, 5, 0), (.iload 4, 2, 4, 0, 0), (.ireturn, 1, 0, 0, 0)], 77)]
set_option maxRecDepth 100000 in
theorem ok_X5_add : pm_oks 5 false 5 (some .int) cX5_add bk_X5_add = true := oksG_ok (by decide +kernel)
set_option maxRecDepth 100000 in
theorem me_X5_add : pm_me 159 = (yX5_add, cX5_add, 5, (some .int), 3, 0) := pm_mq_ok rfl
theorem mt_X5_add {l : Launch} {g : pm_G} {d mc ms : Nat} {as : List Value} {A : pm_H} {Q : Option Value → pm_H → Prop} (hca : pm_cat 5 as = true) (body : ∀ J : pm_J, pm_Cl l g (fun _ => none) d mc ms (pm_Rq mc ms Q) bk_X5_add J → J 0 (pm_l0 5 as) [] A 0 0) : pm_Mt l g 159 d mc ms as A Q := pm_Mt_of (isI := false) 5 bk_X5_add me_X5_add (plainFor_of_name plX5) rfl (fun h => by cases h) ok_X5_add hca body
noncomputable def bk_X5_answer : pm_B := [(0, [(.aload_n 0, 1, 0, 0, 0), (.getfield 18, 3, 5, 2, 0), (.iload_n 1, 1, 1, 0, 0), (.iconst (-1), 1, 0, 0, -1), (.iastore, 1, 0, 0, 0), (.aload_n 0, 1, 0, 0, 0), (.getfield 21, 3, 5, 3, 0), (.iload_n 1, 1, 1, 0, 0), (.iconst (-1), 1, 0, 0, -1), (.iastore, 1, 0, 0, 0), (.aload_n 2, 1, 2, 0, 0), (.ifnonnull 5, 3, 20, 0, 0), (.iconst 0, 1, 0, 0, 0), (.ireturn, 1, 1, 0, 0)], 20),
  (20, [(.aload_n 2, 1, 2, 0, 0), (.aload_n 0, 1, 0, 0, 0), (.getfield 9, 3, 5, 0, 0), (.iload_n 1, 1, 1, 0, 0), (.iaload, 1, 0, 0, 0), (.invokevirtual 31, 3, 46, 1, 7), (.istore 4, 2, 4, 0, 0), (.aload_n 2, 1, 2, 0, 0), (.aload_n 0, 1, 0, 0, 0), (.getfield 15, 3, 5, 1, 0), (.iload_n 1, 1, 1, 0, 0), (.iaload, 1, 0, 0, 0), (.invokevirtual 31, 3, 46, 1, 7), (.istore 5, 2, 5, 0, 0), (.iload 4, 2, 4, 0, 0), (.iconst (-1), 1, 0, 0, -1), (.if_icmp .eq 9, 3, 56, 0, 0), (.iload 5, 2, 5, 0, 0), (.iconst (-1), 1, 0, 0, -1), (.if_icmp .ne 5, 3, 58, 0, 0)], 56),
  (56, [(.iconst 0, 1, 0, 0, 0), (.ireturn, 1, 1, 0, 0)], 58),
  (58, [(.aload_n 3, 1, 3, 0, 0), (.aload_n 2, 1, 2, 0, 0), (.iload 4, 2, 4, 0, 0), (.iload 5, 2, 5, 0, 0), (.invokestatic 37, 3, 87, 2, 0), (.iload 4, 2, 4, 0, 0), (.iload 5, 2, 5, 0, 0), (.invokestatic 43, 3, 51, 2, 0), (.invokevirtual 46, 3, 55, 3, 2), (.aload_n 0, 1, 0, 0, 0), (.getfield 18, 3, 5, 2, 0), (.iload_n 1, 1, 1, 0, 0), (.aload_n 3, 1, 3, 0, 0), (.getfield 52, 3, 2, 3, 0), (.iastore, 1, 0, 0, 0), (.aload_n 0, 1, 0, 0, 0), (.getfield 21, 3, 5, 3, 0), (.iload_n 1, 1, 1, 0, 0), (.aload_n 3, 1, 3, 0, 0), (.getfield 54, 3, 2, 5, 0), (.iastore, 1, 0, 0, 0), (.iconst 1, 1, 0, 0, 1), (.ireturn, 1, 1, 0, 0)], 99)]
set_option maxRecDepth 100000 in
theorem ok_X5_answer : pm_oks 5 false 6 (some .boolean) cX5_answer bk_X5_answer = true := oksG_ok (by decide +kernel)
set_option maxRecDepth 100000 in
theorem me_X5_answer : pm_me 162 = (yX5_answer, cX5_answer, 6, (some .boolean), 3, 0) := pm_mq_ok rfl
theorem mt_X5_answer {l : Launch} {g : pm_G} {d mc ms : Nat} {as : List Value} {A : pm_H} {Q : Option Value → pm_H → Prop} (hca : pm_cat 6 as = true) (body : ∀ J : pm_J, pm_Cl l g (fun _ => none) d mc ms (pm_Rq mc ms Q) bk_X5_answer J → J 0 (pm_l0 6 as) [] A 0 0) : pm_Mt l g 162 d mc ms as A Q := pm_Mt_of (isI := false) 5 bk_X5_answer me_X5_answer (plainFor_of_name plX5) rfl (fun h => by cases h) ok_X5_answer hca body
noncomputable def bk_X5_tell : pm_B := [(0, [(.iload_n 1, 1, 1, 0, 0), (.ifCond .lt 11, 3, 12, 0, 0), (.iload_n 1, 1, 1, 0, 0), (.aload_n 0, 1, 0, 0, 0), (.getfield 27, 3, 5, 5, 0), (.if_icmp .lt 5, 3, 14, 0, 0)], 12),
  (12, [(.iconst (-1), 1, 0, 0, -1), (.ireturn, 1, 0, 0, 0)], 14),
  (14, [(.iload_n 2, 1, 2, 0, 0), (.tableswitch 68 0 4 #[33, 40, 47, 54, 61], 33, 15, 0, 0)], 48),
  (48, [(.aload_n 0, 1, 0, 0, 0), (.getfield 18, 3, 5, 2, 0), (.iload_n 1, 1, 1, 0, 0), (.iaload, 1, 0, 0, 0), (.ireturn, 1, 0, 0, 0)], 55),
  (55, [(.aload_n 0, 1, 0, 0, 0), (.getfield 21, 3, 5, 3, 0), (.iload_n 1, 1, 1, 0, 0), (.iaload, 1, 0, 0, 0), (.ireturn, 1, 0, 0, 0)], 62),
  (62, [(.aload_n 0, 1, 0, 0, 0), (.getfield 9, 3, 5, 0, 0), (.iload_n 1, 1, 1, 0, 0), (.iaload, 1, 0, 0, 0), (.ireturn, 1, 0, 0, 0)], 69),
  (69, [(.aload_n 0, 1, 0, 0, 0), (.getfield 15, 3, 5, 1, 0), (.iload_n 1, 1, 1, 0, 0), (.iaload, 1, 0, 0, 0), (.ireturn, 1, 0, 0, 0)], 76),
  (76, [(.aload_n 0, 1, 0, 0, 0), (.getfield 24, 3, 5, 4, 0), (.iload_n 1, 1, 1, 0, 0), (.iaload, 1, 0, 0, 0), (.ireturn, 1, 0, 0, 0)], 83),
  (83, [(.iconst (-1), 1, 0, 0, -1), (.ireturn, 1, 0, 0, 0)], 85)]
set_option maxRecDepth 100000 in
theorem ok_X5_tell : pm_oks 5 false 3 (some .int) cX5_tell bk_X5_tell = true := oksG_ok (by decide +kernel)
set_option maxRecDepth 100000 in
theorem me_X5_tell : pm_me 164 = (yX5_tell, cX5_tell, 3, (some .int), 2, 0) := pm_mq_ok rfl
theorem mt_X5_tell {l : Launch} {g : pm_G} {d mc ms : Nat} {as : List Value} {A : pm_H} {Q : Option Value → pm_H → Prop} (hca : pm_cat 3 as = true) (body : ∀ J : pm_J, pm_Cl l g (fun _ => none) d mc ms (pm_Rq mc ms Q) bk_X5_tell J → J 0 (pm_l0 3 as) [] A 0 0) : pm_Mt l g 164 d mc ms as A Q := pm_Mt_of (isI := false) 5 bk_X5_tell me_X5_tell (plainFor_of_name plX5) rfl (fun h => by cases h) ok_X5_tell hca body
noncomputable def bk_J9_floorMod_7cf53 : pm_B := [(0, [(.iload_n 0, 1, 0, 0, 0), (.iload_n 1, 1, 1, 0, 0), (.irem, 1, 0, 0, 0), (.istore_n 2, 1, 2, 0, 0), (.iload_n 0, 1, 0, 0, 0), (.iload_n 1, 1, 1, 0, 0), (.ixor, 1, 0, 0, 0), (.ifCond .ge 11, 3, 18, 0, 0), (.iload_n 2, 1, 2, 0, 0), (.ifCond .eq 7, 3, 18, 0, 0), (.iload_n 2, 1, 2, 0, 0), (.iload_n 1, 1, 1, 0, 0), (.iadd, 1, 0, 0, 0), (.ireturn, 1, 0, 0, 0)], 18),
  (18, [(.iload_n 2, 1, 2, 0, 0), (.ireturn, 1, 0, 0, 0)], 20)]
set_option maxRecDepth 100000 in
theorem ok_J9_floorMod_7cf53 : pm_oks 14 false 3 (some .int) cJ9_floorMod_7cf53 bk_J9_floorMod_7cf53 = true := oksG_ok (by decide +kernel)
set_option maxRecDepth 100000 in
theorem me_J9_floorMod_7cf53 : pm_me 17 = (yJ9_floorMod_7cf53, cJ9_floorMod_7cf53, 3, (some .int), 2, 1) := pm_mq_ok rfl
theorem mt_J9_floorMod_7cf53 {l : Launch} {g : pm_G} {d mc ms : Nat} {as : List Value} {A : pm_H} {Q : Option Value → pm_H → Prop} (hca : pm_cat 3 as = true) (body : ∀ J : pm_J, pm_Cl l g (fun _ => none) d mc ms (pm_Rq mc ms Q) bk_J9_floorMod_7cf53 J → J 0 (pm_l0 3 as) [] A 0 0) : pm_Mt l g 17 d mc ms as A Q := pm_Mt_of (isI := false) 14 bk_J9_floorMod_7cf53 me_J9_floorMod_7cf53 (Jvm.Free.JP.mathPlain rfl (by decide +kernel)) rfl (fun h => by cases h) ok_J9_floorMod_7cf53 hca body
noncomputable def bk_J9_max_7cf53 : pm_B := [(0, [(.iload_n 0, 1, 0, 0, 0), (.iload_n 1, 1, 1, 0, 0), (.if_icmp .lt 7, 3, 9, 0, 0), (.iload_n 0, 1, 0, 0, 0), (.goto 4, 3, 10, 0, 0)], 9),
  (9, [(.iload_n 1, 1, 1, 0, 0)], 10),
  (10, [(.ireturn, 1, 0, 0, 0)], 11)]
set_option maxRecDepth 100000 in
theorem ok_J9_max_7cf53 : pm_oks 14 false 2 (some .int) cJ9_max_7cf53 bk_J9_max_7cf53 = true := oksG_ok (by decide +kernel)
set_option maxRecDepth 100000 in
theorem me_J9_max_7cf53 : pm_me 51 = (yJ9_max_7cf53, cJ9_max_7cf53, 2, (some .int), 2, 1) := pm_mq_ok rfl
theorem mt_J9_max_7cf53 {l : Launch} {g : pm_G} {d mc ms : Nat} {as : List Value} {A : pm_H} {Q : Option Value → pm_H → Prop} (hca : pm_cat 2 as = true) (body : ∀ J : pm_J, pm_Cl l g (fun _ => none) d mc ms (pm_Rq mc ms Q) bk_J9_max_7cf53 J → J 0 (pm_l0 2 as) [] A 0 0) : pm_Mt l g 51 d mc ms as A Q := pm_Mt_of (isI := false) 14 bk_J9_max_7cf53 me_J9_max_7cf53 (Jvm.Free.JP.mathPlain rfl (by decide +kernel)) rfl (fun h => by cases h) ok_J9_max_7cf53 hca body
noncomputable def bk_J9_abs_0f7a4 : pm_B := [(0, [(.iload_n 0, 1, 0, 0, 0), (.ifCond .ge 8, 3, 9, 0, 0), (.iload_n 0, 1, 0, 0, 0), (.ineg, 1, 0, 0, 0), (.goto 4, 3, 10, 0, 0)], 9),
  (9, [(.iload_n 0, 1, 0, 0, 0)], 10),
  (10, [(.ireturn, 1, 0, 0, 0)], 11)]
set_option maxRecDepth 100000 in
theorem ok_J9_abs_0f7a4 : pm_oks 14 false 1 (some .int) cJ9_abs_0f7a4 bk_J9_abs_0f7a4 = true := oksG_ok (by decide +kernel)
set_option maxRecDepth 100000 in
theorem me_J9_abs_0f7a4 : pm_me 70 = (yJ9_abs_0f7a4, cJ9_abs_0f7a4, 1, (some .int), 1, 1) := pm_mq_ok rfl
theorem mt_J9_abs_0f7a4 {l : Launch} {g : pm_G} {d mc ms : Nat} {as : List Value} {A : pm_H} {Q : Option Value → pm_H → Prop} (hca : pm_cat 1 as = true) (body : ∀ J : pm_J, pm_Cl l g (fun _ => none) d mc ms (pm_Rq mc ms Q) bk_J9_abs_0f7a4 J → J 0 (pm_l0 1 as) [] A 0 0) : pm_Mt l g 70 d mc ms as A Q := pm_Mt_of (isI := false) 14 bk_J9_abs_0f7a4 me_J9_abs_0f7a4 (Jvm.Free.JP.mathPlain rfl (by decide +kernel)) rfl (fun h => by cases h) ok_J9_abs_0f7a4 hca body
noncomputable def bk_J9_min_7cf53 : pm_B := [(0, [(.iload_n 0, 1, 0, 0, 0), (.iload_n 1, 1, 1, 0, 0), (.if_icmp .gt 7, 3, 9, 0, 0), (.iload_n 0, 1, 0, 0, 0), (.goto 4, 3, 10, 0, 0)], 9),
  (9, [(.iload_n 1, 1, 1, 0, 0)], 10),
  (10, [(.ireturn, 1, 0, 0, 0)], 11)]
set_option maxRecDepth 100000 in
theorem ok_J9_min_7cf53 : pm_oks 14 false 2 (some .int) cJ9_min_7cf53 bk_J9_min_7cf53 = true := oksG_ok (by decide +kernel)
set_option maxRecDepth 100000 in
theorem me_J9_min_7cf53 : pm_me 87 = (yJ9_min_7cf53, cJ9_min_7cf53, 2, (some .int), 2, 1) := pm_mq_ok rfl
theorem mt_J9_min_7cf53 {l : Launch} {g : pm_G} {d mc ms : Nat} {as : List Value} {A : pm_H} {Q : Option Value → pm_H → Prop} (hca : pm_cat 2 as = true) (body : ∀ J : pm_J, pm_Cl l g (fun _ => none) d mc ms (pm_Rq mc ms Q) bk_J9_min_7cf53 J → J 0 (pm_l0 2 as) [] A 0 0) : pm_Mt l g 87 d mc ms as A Q := pm_Mt_of (isI := false) 14 bk_J9_min_7cf53 me_J9_min_7cf53 (Jvm.Free.JP.mathPlain rfl (by decide +kernel)) rfl (fun h => by cases h) ok_J9_min_7cf53 hca body
noncomputable def bk_J6_bitCount_0f7a4 : pm_B := [(0, [(.iload_n 0, 1, 0, 0, 0), (.iload_n 0, 1, 0, 0, 0), (.iconst 1, 1, 0, 0, 1), (.iushr, 1, 0, 0, 0), (.ldc_w 265, 3, 0, 0, 1431655765), (.iand, 1, 0, 0, 0), (.isub, 1, 0, 0, 0), (.istore_n 0, 1, 0, 0, 0), (.iload_n 0, 1, 0, 0, 0), (.ldc_w 266, 3, 0, 0, 858993459), (.iand, 1, 0, 0, 0), (.iload_n 0, 1, 0, 0, 0), (.iconst 2, 1, 0, 0, 2), (.iushr, 1, 0, 0, 0), (.ldc_w 266, 3, 0, 0, 858993459), (.iand, 1, 0, 0, 0), (.iadd, 1, 0, 0, 0), (.istore_n 0, 1, 0, 0, 0), (.iload_n 0, 1, 0, 0, 0), (.iload_n 0, 1, 0, 0, 0), (.iconst 4, 1, 0, 0, 4), (.iushr, 1, 0, 0, 0), (.iadd, 1, 0, 0, 0), (.ldc_w 267, 3, 0, 0, 252645135), (.iand, 1, 0, 0, 0), (.istore_n 0, 1, 0, 0, 0), (.iload_n 0, 1, 0, 0, 0), (.iload_n 0, 1, 0, 0, 0), (.bipush 8, 2, 0, 0, 8), (.iushr, 1, 0, 0, 0), (.iadd, 1, 0, 0, 0), (.istore_n 0, 1, 0, 0, 0), (.iload_n 0, 1, 0, 0, 0), (.iload_n 0, 1, 0, 0, 0), (.bipush 16, 2, 0, 0, 16), (.iushr, 1, 0, 0, 0), (.iadd, 1, 0, 0, 0), (.istore_n 0, 1, 0, 0, 0), (.iload_n 0, 1, 0, 0, 0), (.bipush 63, 2, 0, 0, 63), (.iand, 1, 0, 0, 0), (.ireturn, 1, 0, 0, 0)], 53)]
set_option maxRecDepth 100000 in
theorem ok_J6_bitCount_0f7a4 : pm_oks 13 false 1 (some .int) cJ6_bitCount_0f7a4 bk_J6_bitCount_0f7a4 = true := oksG_ok (by decide +kernel)
set_option maxRecDepth 100000 in
theorem me_J6_bitCount_0f7a4 : pm_me 75 = (yJ6_bitCount_0f7a4, cJ6_bitCount_0f7a4, 1, (some .int), 1, 1) := pm_mq_ok rfl
theorem mt_J6_bitCount_0f7a4 {l : Launch} {g : pm_G} {d mc ms : Nat} {as : List Value} {A : pm_H} {Q : Option Value → pm_H → Prop} (hca : pm_cat 1 as = true) (body : ∀ J : pm_J, pm_Cl l g (fun _ => none) d mc ms (pm_Rq mc ms Q) bk_J6_bitCount_0f7a4 J → J 0 (pm_l0 1 as) [] A 0 0) : pm_Mt l g 75 d mc ms as A Q := pm_Mt_of (isI := false) 13 bk_J6_bitCount_0f7a4 me_J6_bitCount_0f7a4 (plainFor_of_name plJ6) rfl (fun h => by cases h) ok_J6_bitCount_0f7a4 hca body
noncomputable def bk_X11_init : pm_B := [(0, [(.aload_n 0, 1, 0, 0, 0), (.invokespecial 1, 3, 0, 0, 0), (.aload_n 0, 1, 0, 0, 0), (.sipush 160, 3, 0, 0, 160), (.newarray .int, 2, 160, 0, 0), (.putfield 7, 3, 11, 0, 1), (.aload_n 0, 1, 0, 0, 0), (.sipush 160, 3, 0, 0, 160), (.newarray .int, 2, 160, 0, 0), (.putfield 13, 3, 11, 1, 1), (.aload_n 0, 1, 0, 0, 0), (.bipush 24, 2, 0, 0, 24), (.newarray .int, 2, 24, 0, 0), (.putfield 16, 3, 11, 2, 1), (.aload_n 0, 1, 0, 0, 0), (.sipush 160, 3, 0, 0, 160), (.newarray .int, 2, 160, 0, 0), (.putfield 19, 3, 11, 3, 1), (.aload_n 0, 1, 0, 0, 0), (.sipush 160, 3, 0, 0, 160), (.newarray .int, 2, 160, 0, 0), (.putfield 22, 3, 11, 4, 1), (.aload_n 0, 1, 0, 0, 0), (.sipush 160, 3, 0, 0, 160), (.newarray .int, 2, 160, 0, 0), (.putfield 25, 3, 11, 5, 1), (.aload_n 0, 1, 0, 0, 0), (.sipush 160, 3, 0, 0, 160), (.newarray .int, 2, 160, 0, 0), (.putfield 28, 3, 11, 6, 1), (.aload_n 0, 1, 0, 0, 0), (.bipush 30, 2, 0, 0, 30), (.newarray .int, 2, 30, 0, 0), (.putfield 31, 3, 11, 13, 1), (.aload_n 0, 1, 0, 0, 0), (.bipush 30, 2, 0, 0, 30), (.newarray .int, 2, 30, 0, 0), (.putfield 34, 3, 11, 14, 1), (.aload_n 0, 1, 0, 0, 0), (.bipush 30, 2, 0, 0, 30), (.newarray .int, 2, 30, 0, 0), (.putfield 37, 3, 11, 15, 1), (.aload_n 0, 1, 0, 0, 0), (.bipush 30, 2, 0, 0, 30), (.newarray .int, 2, 30, 0, 0), (.putfield 40, 3, 11, 16, 1), (.aload_n 0, 1, 0, 0, 0), (.bipush 30, 2, 0, 0, 30), (.newarray .int, 2, 30, 0, 0), (.putfield 43, 3, 11, 18, 1), (.aload_n 0, 1, 0, 0, 0), (.sipush 6400, 3, 0, 0, 6400), (.newarray .int, 2, 6400, 0, 0), (.putfield 46, 3, 11, 19, 1), (.aload_n 0, 1, 0, 0, 0), (.sipush 6400, 3, 0, 0, 6400), (.newarray .int, 2, 6400, 0, 0), (.putfield 49, 3, 11, 20, 1), (.aload_n 0, 1, 0, 0, 0), (.bipush 40, 2, 0, 0, 40), (.newarray .int, 2, 40, 0, 0), (.putfield 52, 3, 11, 21, 1), (.aload_n 0, 1, 0, 0, 0), (.bipush 40, 2, 0, 0, 40), (.newarray .int, 2, 40, 0, 0), (.putfield 55, 3, 11, 22, 1), (.aload_n 0, 1, 0, 0, 0), (.bipush 24, 2, 0, 0, 24), (.newarray .int, 2, 24, 0, 0), (.putfield 58, 3, 11, 23, 1), (.aload_n 0, 1, 0, 0, 0), (.sipush 160, 3, 0, 0, 160), (.newarray .int, 2, 160, 0, 0), (.putfield 61, 3, 11, 25, 1), (.aload_n 0, 1, 0, 0, 0), (.sipush 1449, 3, 0, 0, 1449), (.newarray .int, 2, 1449, 0, 0), (.putfield 64, 3, 11, 26, 1), (.aload_n 0, 1, 0, 0, 0), (.sipush 1449, 3, 0, 0, 1449), (.newarray .int, 2, 1449, 0, 0), (.putfield 67, 3, 11, 27, 1), (.iconst 0, 1, 0, 0, 0), (.istore_n 1, 1, 1, 0, 0)], 177),
  (177, [(.iload_n 1, 1, 1, 0, 0), (.bipush 24, 2, 0, 0, 24), (.if_icmp .ge 16, 3, 196, 0, 0), (.aload_n 0, 1, 0, 0, 0), (.getfield 16, 3, 11, 2, 0), (.iload_n 1, 1, 1, 0, 0), (.iconst 1, 1, 0, 0, 1), (.iastore, 1, 0, 0, 0), (.iinc 1 1, 3, 1, 0, 1), (.goto (-16), 3, 177, 0, 0)], 196),
  (196, [(.return_, 1, 0, 0, 0)], 197)]
set_option maxRecDepth 100000 in
theorem ok_X11_init : pm_oks 11 true 2 none cX11_init bk_X11_init = true := oksG_ok (by decide +kernel)
set_option maxRecDepth 100000 in
theorem me_X11_init : pm_me 166 = (yX11_init, cX11_init, 2, none, 0, 2) := pm_mq_ok rfl
theorem mt_X11_init {l : Launch} {g : pm_G} {d mc ms : Nat} {as : List Value} {A : pm_H} {Q : Option Value → pm_H → Prop} (hca : pm_cat 2 as = true) (body : ∀ J : pm_J, pm_Cl l g (fun _ => none) d mc ms (pm_Rq mc ms Q) bk_X11_init J → J 0 (pm_l0 2 as) [] A 0 0) : pm_Mt l g 166 d mc ms as A Q := pm_Mt_of (isI := true) 11 bk_X11_init me_X11_init (plainFor_of_name plX11) rfl (fun _ => by decide +kernel) ok_X11_init hca body
noncomputable def bk_X11_put : pm_B := [(0, [(.aload_n 0, 1, 0, 0, 0), (.iload_n 1, 1, 1, 0, 0), (.invokevirtual 119, 3, 168, 1, 11), (.ifCond .eq 22, 3, 27, 0, 0), (.iload_n 2, 1, 2, 0, 0), (.invokestatic 122, 3, 170, 1, 0), (.ifCond .eq 15, 3, 27, 0, 0), (.aload_n 0, 1, 0, 0, 0), (.iload_n 1, 1, 1, 0, 0), (.iload_n 1, 1, 1, 0, 0), (.iconst (-1), 1, 0, 0, -1), (.iload_n 2, 1, 2, 0, 0), (.iconst 0, 1, 0, 0, 0), (.invokevirtual 125, 3, 171, 5, 11), (.goto 4, 3, 28, 0, 0)], 27),
  (27, [(.iconst (-1), 1, 0, 0, -1)], 28),
  (28, [(.ireturn, 1, 0, 0, 0)], 29)]
set_option maxRecDepth 100000 in
theorem ok_X11_put : pm_oks 11 false 3 (some .int) cX11_put bk_X11_put = true := oksG_ok (by decide +kernel)
set_option maxRecDepth 100000 in
theorem me_X11_put : pm_me 167 = (yX11_put, cX11_put, 3, (some .int), 2, 0) := pm_mq_ok rfl
theorem mt_X11_put {l : Launch} {g : pm_G} {d mc ms : Nat} {as : List Value} {A : pm_H} {Q : Option Value → pm_H → Prop} (hca : pm_cat 3 as = true) (body : ∀ J : pm_J, pm_Cl l g (fun _ => none) d mc ms (pm_Rq mc ms Q) bk_X11_put J → J 0 (pm_l0 3 as) [] A 0 0) : pm_Mt l g 167 d mc ms as A Q := pm_Mt_of (isI := false) 11 bk_X11_put me_X11_put (plainFor_of_name plX11) rfl (fun h => by cases h) ok_X11_put hca body
noncomputable def bk_X11_isPlace : pm_B := [(0, [(.iload_n 1, 1, 1, 0, 0), (.iconst 0, 1, 0, 0, 0), (.aload_n 0, 1, 0, 0, 0), (.getfield 70, 3, 11, 7, 0), (.iconst 1, 1, 0, 0, 1), (.isub, 1, 0, 0, 0), (.invokestatic 74, 3, 169, 3, 0), (.ireturn, 1, 1, 0, 0)], 12)]
set_option maxRecDepth 100000 in
theorem ok_X11_isPlace : pm_oks 11 false 2 (some .boolean) cX11_isPlace bk_X11_isPlace = true := oksG_ok (by decide +kernel)
set_option maxRecDepth 100000 in
theorem me_X11_isPlace : pm_me 168 = (yX11_isPlace, cX11_isPlace, 2, (some .boolean), 1, 0) := pm_mq_ok rfl
theorem mt_X11_isPlace {l : Launch} {g : pm_G} {d mc ms : Nat} {as : List Value} {A : pm_H} {Q : Option Value → pm_H → Prop} (hca : pm_cat 2 as = true) (body : ∀ J : pm_J, pm_Cl l g (fun _ => none) d mc ms (pm_Rq mc ms Q) bk_X11_isPlace J → J 0 (pm_l0 2 as) [] A 0 0) : pm_Mt l g 168 d mc ms as A Q := pm_Mt_of (isI := false) 11 bk_X11_isPlace me_X11_isPlace (plainFor_of_name plX11) rfl (fun h => by cases h) ok_X11_isPlace hca body
noncomputable def bk_X11_isIn : pm_B := [(0, [(.iload_n 0, 1, 0, 0, 0), (.iload_n 1, 1, 1, 0, 0), (.if_icmp .lt 12, 3, 14, 0, 0), (.iload_n 0, 1, 0, 0, 0), (.iload_n 2, 1, 2, 0, 0), (.if_icmp .gt 7, 3, 14, 0, 0), (.iconst 1, 1, 0, 0, 1), (.goto 4, 3, 15, 0, 0)], 14),
  (14, [(.iconst 0, 1, 0, 0, 0)], 15),
  (15, [(.ireturn, 1, 1, 0, 0)], 16)]
set_option maxRecDepth 100000 in
theorem ok_X11_isIn : pm_oks 11 false 3 (some .boolean) cX11_isIn bk_X11_isIn = true := oksG_ok (by decide +kernel)
set_option maxRecDepth 100000 in
theorem me_X11_isIn : pm_me 169 = (yX11_isIn, cX11_isIn, 3, (some .boolean), 3, 1) := pm_mq_ok rfl
theorem mt_X11_isIn {l : Launch} {g : pm_G} {d mc ms : Nat} {as : List Value} {A : pm_H} {Q : Option Value → pm_H → Prop} (hca : pm_cat 3 as = true) (body : ∀ J : pm_J, pm_Cl l g (fun _ => none) d mc ms (pm_Rq mc ms Q) bk_X11_isIn J → J 0 (pm_l0 3 as) [] A 0 0) : pm_Mt l g 169 d mc ms as A Q := pm_Mt_of (isI := false) 11 bk_X11_isIn me_X11_isIn (plainFor_of_name plX11) rfl (fun h => by cases h) ok_X11_isIn hca body
noncomputable def bk_X11_isColour : pm_B := [(0, [(.iload_n 0, 1, 0, 0, 0), (.iconst 0, 1, 0, 0, 0), (.bipush 23, 2, 0, 0, 23), (.invokestatic 74, 3, 169, 3, 0), (.ireturn, 1, 1, 0, 0)], 8)]
set_option maxRecDepth 100000 in
theorem ok_X11_isColour : pm_oks 11 false 1 (some .boolean) cX11_isColour bk_X11_isColour = true := oksG_ok (by decide +kernel)
set_option maxRecDepth 100000 in
theorem me_X11_isColour : pm_me 170 = (yX11_isColour, cX11_isColour, 1, (some .boolean), 1, 1) := pm_mq_ok rfl
theorem mt_X11_isColour {l : Launch} {g : pm_G} {d mc ms : Nat} {as : List Value} {A : pm_H} {Q : Option Value → pm_H → Prop} (hca : pm_cat 1 as = true) (body : ∀ J : pm_J, pm_Cl l g (fun _ => none) d mc ms (pm_Rq mc ms Q) bk_X11_isColour J → J 0 (pm_l0 1 as) [] A 0 0) : pm_Mt l g 170 d mc ms as A Q := pm_Mt_of (isI := false) 11 bk_X11_isColour me_X11_isColour (plainFor_of_name plX11) rfl (fun h => by cases h) ok_X11_isColour hca body
noncomputable def bk_X11_recolours : pm_B := [(0, [(.aload_n 0, 1, 0, 0, 0), (.invokevirtual 112, 3, 172, 0, 11), (.iconst 0, 1, 0, 0, 0), (.istore 6, 2, 6, 0, 0)], 7),
  (7, [(.iload 6, 2, 6, 0, 0), (.aload_n 0, 1, 0, 0, 0), (.getfield 70, 3, 11, 7, 0), (.if_icmp .ge 86, 3, 99, 0, 0), (.aload_n 0, 1, 0, 0, 0), (.getfield 7, 3, 11, 0, 0), (.iload 6, 2, 6, 0, 0), (.iaload, 1, 0, 0, 0), (.istore 7, 2, 7, 0, 0), (.iload 6, 2, 6, 0, 0), (.iload_n 1, 1, 1, 0, 0), (.iload_n 2, 1, 2, 0, 0), (.invokestatic 74, 3, 169, 3, 0), (.istore 8, 2, 8, 0, 0), (.iload 8, 2, 8, 0, 0), (.ifCond .ne 8, 3, 44, 0, 0), (.iload 7, 2, 7, 0, 0), (.goto 37, 3, 78, 0, 0)], 44),
  (44, [(.iload_n 3, 1, 3, 0, 0), (.iconst (-1), 1, 0, 0, -1), (.if_icmp .eq 9, 3, 55, 0, 0), (.iload 7, 2, 7, 0, 0), (.iload_n 3, 1, 3, 0, 0), (.if_icmp .ne 8, 3, 60, 0, 0)], 55),
  (55, [(.iload 4, 2, 4, 0, 0), (.goto 21, 3, 78, 0, 0)], 60),
  (60, [(.iload 5, 2, 5, 0, 0), (.ifCond .eq 14, 3, 76, 0, 0), (.iload 7, 2, 7, 0, 0), (.iload 4, 2, 4, 0, 0), (.if_icmp .ne 7, 3, 76, 0, 0), (.iload_n 3, 1, 3, 0, 0), (.goto 5, 3, 78, 0, 0)], 76),
  (76, [(.iload 7, 2, 7, 0, 0)], 78),
  (78, [(.istore 9, 2, 9, 0, 0), (.aload_n 0, 1, 0, 0, 0), (.iload 9, 2, 9, 0, 0), (.aload_n 0, 1, 0, 0, 0), (.getfield 13, 3, 11, 1, 0), (.iload 6, 2, 6, 0, 0), (.iaload, 1, 0, 0, 0), (.invokevirtual 91, 3, 175, 2, 11), (.iinc 6 1, 3, 6, 0, 1), (.goto (-89), 3, 7, 0, 0)], 99),
  (99, [(.aload_n 0, 1, 0, 0, 0), (.invokevirtual 115, 3, 176, 0, 11), (.ireturn, 1, 0, 0, 0)], 104)]
set_option maxRecDepth 100000 in
theorem ok_X11_recolours : pm_oks 11 false 10 (some .int) cX11_recolours bk_X11_recolours = true := oksG_ok (by decide +kernel)
set_option maxRecDepth 100000 in
theorem me_X11_recolours : pm_me 171 = (yX11_recolours, cX11_recolours, 10, (some .int), 5, 0) := pm_mq_ok rfl
theorem mt_X11_recolours {l : Launch} {g : pm_G} {d mc ms : Nat} {as : List Value} {A : pm_H} {Q : Option Value → pm_H → Prop} (hca : pm_cat 10 as = true) (body : ∀ J : pm_J, pm_Cl l g (fun _ => none) d mc ms (pm_Rq mc ms Q) bk_X11_recolours J → J 0 (pm_l0 10 as) [] A 0 0) : pm_Mt l g 171 d mc ms as A Q := pm_Mt_of (isI := false) 11 bk_X11_recolours me_X11_recolours (plainFor_of_name plX11) rfl (fun h => by cases h) ok_X11_recolours hca body
noncomputable def bk_X11_begins : pm_B := [(0, [(.aload_n 0, 1, 0, 0, 0), (.aload_n 0, 1, 0, 0, 0), (.getfield 70, 3, 11, 7, 0), (.putfield 82, 3, 11, 8, 0), (.iconst 0, 1, 0, 0, 0), (.istore_n 1, 1, 1, 0, 0)], 10),
  (10, [(.iload_n 1, 1, 1, 0, 0), (.aload_n 0, 1, 0, 0, 0), (.getfield 70, 3, 11, 7, 0), (.if_icmp .ge 32, 3, 47, 0, 0), (.aload_n 0, 1, 0, 0, 0), (.getfield 19, 3, 11, 3, 0), (.iload_n 1, 1, 1, 0, 0), (.aload_n 0, 1, 0, 0, 0), (.getfield 13, 3, 11, 1, 0), (.iload_n 1, 1, 1, 0, 0), (.iaload, 1, 0, 0, 0), (.iastore, 1, 0, 0, 0), (.aload_n 0, 1, 0, 0, 0), (.getfield 22, 3, 11, 4, 0), (.iload_n 1, 1, 1, 0, 0), (.aload_n 0, 1, 0, 0, 0), (.iload_n 1, 1, 1, 0, 0), (.invokevirtual 85, 3, 173, 1, 11), (.iastore, 1, 0, 0, 0), (.iinc 1 1, 3, 1, 0, 1), (.goto (-34), 3, 10, 0, 0)], 47),
  (47, [(.aload_n 0, 1, 0, 0, 0), (.iconst 0, 1, 0, 0, 0), (.putfield 88, 3, 11, 9, 0), (.return_, 1, 0, 0, 0)], 53)]
set_option maxRecDepth 100000 in
theorem ok_X11_begins : pm_oks 11 false 2 none cX11_begins bk_X11_begins = true := oksG_ok (by decide +kernel)
set_option maxRecDepth 100000 in
theorem me_X11_begins : pm_me 172 = (yX11_begins, cX11_begins, 2, none, 0, 0) := pm_mq_ok rfl
theorem mt_X11_begins {l : Launch} {g : pm_G} {d mc ms : Nat} {as : List Value} {A : pm_H} {Q : Option Value → pm_H → Prop} (hca : pm_cat 2 as = true) (body : ∀ J : pm_J, pm_Cl l g (fun _ => none) d mc ms (pm_Rq mc ms Q) bk_X11_begins J → J 0 (pm_l0 2 as) [] A 0 0) : pm_Mt l g 172 d mc ms as A Q := pm_Mt_of (isI := false) 11 bk_X11_begins me_X11_begins (plainFor_of_name plX11) rfl (fun h => by cases h) ok_X11_begins hca body
noncomputable def bk_X11_bondOf : pm_B := [(0, [(.aload_n 0, 1, 0, 0, 0), (.iload_n 1, 1, 1, 0, 0), (.invokevirtual 78, 3, 174, 1, 11), (.ifCond .ge 7, 3, 12, 0, 0), (.iconst (-1), 1, 0, 0, -1), (.goto 13, 3, 22, 0, 0)], 12),
  (12, [(.aload_n 0, 1, 0, 0, 0), (.getfield 13, 3, 11, 1, 0), (.aload_n 0, 1, 0, 0, 0), (.iload_n 1, 1, 1, 0, 0), (.invokevirtual 78, 3, 174, 1, 11), (.iaload, 1, 0, 0, 0)], 22),
  (22, [(.ireturn, 1, 0, 0, 0)], 23)]
set_option maxRecDepth 100000 in
theorem ok_X11_bondOf : pm_oks 11 false 2 (some .int) cX11_bondOf bk_X11_bondOf = true := oksG_ok (by decide +kernel)
set_option maxRecDepth 100000 in
theorem me_X11_bondOf : pm_me 173 = (yX11_bondOf, cX11_bondOf, 2, (some .int), 1, 0) := pm_mq_ok rfl
theorem mt_X11_bondOf {l : Launch} {g : pm_G} {d mc ms : Nat} {as : List Value} {A : pm_H} {Q : Option Value → pm_H → Prop} (hca : pm_cat 2 as = true) (body : ∀ J : pm_J, pm_Cl l g (fun _ => none) d mc ms (pm_Rq mc ms Q) bk_X11_bondOf J → J 0 (pm_l0 2 as) [] A 0 0) : pm_Mt l g 173 d mc ms as A Q := pm_Mt_of (isI := false) 11 bk_X11_bondOf me_X11_bondOf (plainFor_of_name plX11) rfl (fun h => by cases h) ok_X11_bondOf hca body
noncomputable def bk_X11_ahead : pm_B := [(0, [(.iload_n 1, 1, 1, 0, 0), (.iconst 1, 1, 0, 0, 1), (.isub, 1, 0, 0, 0), (.istore_n 2, 1, 2, 0, 0)], 4),
  (4, [(.iload_n 2, 1, 2, 0, 0), (.ifCond .lt 26, 3, 31, 0, 0), (.aload_n 0, 1, 0, 0, 0), (.getfield 7, 3, 11, 0, 0), (.iload_n 2, 1, 2, 0, 0), (.iaload, 1, 0, 0, 0), (.aload_n 0, 1, 0, 0, 0), (.getfield 7, 3, 11, 0, 0), (.iload_n 1, 1, 1, 0, 0), (.iaload, 1, 0, 0, 0), (.if_icmp .ne 5, 3, 25, 0, 0), (.iload_n 2, 1, 2, 0, 0), (.ireturn, 1, 0, 0, 0)], 25),
  (25, [(.iinc 2 (-1), 3, 2, 0, -1), (.goto (-24), 3, 4, 0, 0)], 31),
  (31, [(.iconst (-1), 1, 0, 0, -1), (.ireturn, 1, 0, 0, 0)], 33)]
set_option maxRecDepth 100000 in
theorem ok_X11_ahead : pm_oks 11 false 3 (some .int) cX11_ahead bk_X11_ahead = true := oksG_ok (by decide +kernel)
set_option maxRecDepth 100000 in
theorem me_X11_ahead : pm_me 174 = (yX11_ahead, cX11_ahead, 3, (some .int), 1, 0) := pm_mq_ok rfl
theorem mt_X11_ahead {l : Launch} {g : pm_G} {d mc ms : Nat} {as : List Value} {A : pm_H} {Q : Option Value → pm_H → Prop} (hca : pm_cat 3 as = true) (body : ∀ J : pm_J, pm_Cl l g (fun _ => none) d mc ms (pm_Rq mc ms Q) bk_X11_ahead J → J 0 (pm_l0 3 as) [] A 0 0) : pm_Mt l g 174 d mc ms as A Q := pm_Mt_of (isI := false) 11 bk_X11_ahead me_X11_ahead (plainFor_of_name plX11) rfl (fun h => by cases h) ok_X11_ahead hca body
noncomputable def bk_X11_lays : pm_B := [(0, [(.aload_n 0, 1, 0, 0, 0), (.getfield 25, 3, 11, 5, 0), (.aload_n 0, 1, 0, 0, 0), (.getfield 88, 3, 11, 9, 0), (.iload_n 1, 1, 1, 0, 0), (.iastore, 1, 0, 0, 0), (.aload_n 0, 1, 0, 0, 0), (.getfield 28, 3, 11, 6, 0), (.aload_n 0, 1, 0, 0, 0), (.getfield 88, 3, 11, 9, 0), (.iload_n 2, 1, 2, 0, 0), (.iastore, 1, 0, 0, 0), (.aload_n 0, 1, 0, 0, 0), (.dup, 1, 0, 0, 0), (.getfield 88, 3, 11, 9, 0), (.iconst 1, 1, 0, 0, 1), (.iadd, 1, 0, 0, 0), (.putfield 88, 3, 11, 9, 0), (.return_, 1, 0, 0, 0)], 31)]
set_option maxRecDepth 100000 in
theorem ok_X11_lays : pm_oks 11 false 3 none cX11_lays bk_X11_lays = true := oksG_ok (by decide +kernel)
set_option maxRecDepth 100000 in
theorem me_X11_lays : pm_me 175 = (yX11_lays, cX11_lays, 3, none, 2, 0) := pm_mq_ok rfl
theorem mt_X11_lays {l : Launch} {g : pm_G} {d mc ms : Nat} {as : List Value} {A : pm_H} {Q : Option Value → pm_H → Prop} (hca : pm_cat 3 as = true) (body : ∀ J : pm_J, pm_Cl l g (fun _ => none) d mc ms (pm_Rq mc ms Q) bk_X11_lays J → J 0 (pm_l0 3 as) [] A 0 0) : pm_Mt l g 175 d mc ms as A Q := pm_Mt_of (isI := false) 11 bk_X11_lays me_X11_lays (plainFor_of_name plX11) rfl (fun h => by cases h) ok_X11_lays hca body
noncomputable def bk_X11_ends : pm_B := [(0, [(.aload_n 0, 1, 0, 0, 0), (.aload_n 0, 1, 0, 0, 0), (.getfield 88, 3, 11, 9, 0), (.putfield 70, 3, 11, 7, 0), (.iconst 0, 1, 0, 0, 0), (.istore_n 1, 1, 1, 0, 0)], 10),
  (10, [(.iload_n 1, 1, 1, 0, 0), (.aload_n 0, 1, 0, 0, 0), (.getfield 70, 3, 11, 7, 0), (.if_icmp .ge 33, 3, 48, 0, 0), (.aload_n 0, 1, 0, 0, 0), (.getfield 7, 3, 11, 0, 0), (.iload_n 1, 1, 1, 0, 0), (.aload_n 0, 1, 0, 0, 0), (.getfield 25, 3, 11, 5, 0), (.iload_n 1, 1, 1, 0, 0), (.iaload, 1, 0, 0, 0), (.iastore, 1, 0, 0, 0), (.aload_n 0, 1, 0, 0, 0), (.getfield 13, 3, 11, 1, 0), (.iload_n 1, 1, 1, 0, 0), (.aload_n 0, 1, 0, 0, 0), (.getfield 28, 3, 11, 6, 0), (.iload_n 1, 1, 1, 0, 0), (.iaload, 1, 0, 0, 0), (.iastore, 1, 0, 0, 0), (.iinc 1 1, 3, 1, 0, 1), (.goto (-35), 3, 10, 0, 0)], 48),
  (48, [(.iconst 0, 1, 0, 0, 0), (.istore_n 1, 1, 1, 0, 0), (.iconst 0, 1, 0, 0, 0), (.istore_n 2, 1, 2, 0, 0)], 52),
  (52, [(.iload_n 2, 1, 2, 0, 0), (.aload_n 0, 1, 0, 0, 0), (.getfield 70, 3, 11, 7, 0), (.if_icmp .ge 25, 3, 82, 0, 0), (.iload_n 1, 1, 1, 0, 0), (.aload_n 0, 1, 0, 0, 0), (.iload_n 2, 1, 2, 0, 0), (.invokevirtual 98, 3, 177, 1, 11), (.ifCond .eq 7, 3, 73, 0, 0), (.iconst 1, 1, 0, 0, 1), (.goto 4, 3, 74, 0, 0)], 73),
  (73, [(.iconst 0, 1, 0, 0, 0)], 74),
  (74, [(.iadd, 1, 0, 0, 0), (.istore_n 1, 1, 1, 0, 0), (.iinc 2 1, 3, 2, 0, 1), (.goto (-27), 3, 52, 0, 0)], 82),
  (82, [(.aload_n 0, 1, 0, 0, 0), (.dup, 1, 0, 0, 0), (.getfield 102, 3, 11, 11, 0), (.iconst 1, 1, 0, 0, 1), (.iadd, 1, 0, 0, 0), (.putfield 102, 3, 11, 11, 0), (.aload_n 0, 1, 0, 0, 0), (.dup, 1, 0, 0, 0), (.getfield 105, 3, 11, 12, 0), (.iload_n 1, 1, 1, 0, 0), (.iadd, 1, 0, 0, 0), (.putfield 105, 3, 11, 12, 0), (.aload_n 0, 1, 0, 0, 0), (.iload_n 1, 1, 1, 0, 0), (.invokevirtual 108, 3, 178, 1, 11), (.iload_n 1, 1, 1, 0, 0), (.ireturn, 1, 0, 0, 0)], 109)]
set_option maxRecDepth 100000 in
theorem ok_X11_ends : pm_oks 11 false 3 (some .int) cX11_ends bk_X11_ends = true := oksG_ok (by decide +kernel)
set_option maxRecDepth 100000 in
theorem me_X11_ends : pm_me 176 = (yX11_ends, cX11_ends, 3, (some .int), 0, 0) := pm_mq_ok rfl
theorem mt_X11_ends {l : Launch} {g : pm_G} {d mc ms : Nat} {as : List Value} {A : pm_H} {Q : Option Value → pm_H → Prop} (hca : pm_cat 3 as = true) (body : ∀ J : pm_J, pm_Cl l g (fun _ => none) d mc ms (pm_Rq mc ms Q) bk_X11_ends J → J 0 (pm_l0 3 as) [] A 0 0) : pm_Mt l g 176 d mc ms as A Q := pm_Mt_of (isI := false) 11 bk_X11_ends me_X11_ends (plainFor_of_name plX11) rfl (fun h => by cases h) ok_X11_ends hca body
noncomputable def bk_X11_isTouched : pm_B := [(0, [(.iconst 0, 1, 0, 0, 0), (.istore_n 2, 1, 2, 0, 0)], 2),
  (2, [(.iload_n 2, 1, 2, 0, 0), (.aload_n 0, 1, 0, 0, 0), (.getfield 82, 3, 11, 8, 0), (.if_icmp .ge 44, 3, 51, 0, 0), (.aload_n 0, 1, 0, 0, 0), (.getfield 19, 3, 11, 3, 0), (.iload_n 2, 1, 2, 0, 0), (.iaload, 1, 0, 0, 0), (.aload_n 0, 1, 0, 0, 0), (.getfield 13, 3, 11, 1, 0), (.iload_n 1, 1, 1, 0, 0), (.iaload, 1, 0, 0, 0), (.if_icmp .ne 23, 3, 45, 0, 0), (.aload_n 0, 1, 0, 0, 0), (.getfield 22, 3, 11, 4, 0), (.iload_n 2, 1, 2, 0, 0), (.iaload, 1, 0, 0, 0), (.aload_n 0, 1, 0, 0, 0), (.iload_n 1, 1, 1, 0, 0), (.invokevirtual 85, 3, 173, 1, 11), (.if_icmp .eq 7, 3, 43, 0, 0), (.iconst 1, 1, 0, 0, 1), (.goto 4, 3, 44, 0, 0)], 43),
  (43, [(.iconst 0, 1, 0, 0, 0)], 44),
  (44, [(.ireturn, 1, 1, 0, 0)], 45),
  (45, [(.iinc 2 1, 3, 2, 0, 1), (.goto (-46), 3, 2, 0, 0)], 51),
  (51, [(.iconst 0, 1, 0, 0, 0), (.ireturn, 1, 1, 0, 0)], 53)]
set_option maxRecDepth 100000 in
theorem ok_X11_isTouched : pm_oks 11 false 3 (some .boolean) cX11_isTouched bk_X11_isTouched = true := oksG_ok (by decide +kernel)
set_option maxRecDepth 100000 in
theorem me_X11_isTouched : pm_me 177 = (yX11_isTouched, cX11_isTouched, 3, (some .boolean), 1, 0) := pm_mq_ok rfl
theorem mt_X11_isTouched {l : Launch} {g : pm_G} {d mc ms : Nat} {as : List Value} {A : pm_H} {Q : Option Value → pm_H → Prop} (hca : pm_cat 3 as = true) (body : ∀ J : pm_J, pm_Cl l g (fun _ => none) d mc ms (pm_Rq mc ms Q) bk_X11_isTouched J → J 0 (pm_l0 3 as) [] A 0 0) : pm_Mt l g 177 d mc ms as A Q := pm_Mt_of (isI := false) 11 bk_X11_isTouched me_X11_isTouched (plainFor_of_name plX11) rfl (fun h => by cases h) ok_X11_isTouched hca body
noncomputable def bk_X11_keepsRow : pm_B := [(0, [(.aload_n 0, 1, 0, 0, 0), (.getfield 102, 3, 11, 11, 0), (.bipush 40, 2, 0, 0, 40), (.irem, 1, 0, 0, 0), (.istore_n 2, 1, 2, 0, 0), (.aload_n 0, 1, 0, 0, 0), (.getfield 52, 3, 11, 21, 0), (.iload_n 2, 1, 2, 0, 0), (.aload_n 0, 1, 0, 0, 0), (.getfield 70, 3, 11, 7, 0), (.iastore, 1, 0, 0, 0), (.aload_n 0, 1, 0, 0, 0), (.getfield 55, 3, 11, 22, 0), (.iload_n 2, 1, 2, 0, 0), (.iload_n 1, 1, 1, 0, 0), (.iastore, 1, 0, 0, 0), (.iconst 0, 1, 0, 0, 0), (.istore_n 3, 1, 3, 0, 0)], 27),
  (27, [(.iload_n 3, 1, 3, 0, 0), (.aload_n 0, 1, 0, 0, 0), (.getfield 70, 3, 11, 7, 0), (.if_icmp .ge 45, 3, 77, 0, 0), (.aload_n 0, 1, 0, 0, 0), (.getfield 46, 3, 11, 19, 0), (.sipush 160, 3, 0, 0, 160), (.iload_n 2, 1, 2, 0, 0), (.imul, 1, 0, 0, 0), (.iload_n 3, 1, 3, 0, 0), (.iadd, 1, 0, 0, 0), (.aload_n 0, 1, 0, 0, 0), (.getfield 7, 3, 11, 0, 0), (.iload_n 3, 1, 3, 0, 0), (.iaload, 1, 0, 0, 0), (.iastore, 1, 0, 0, 0), (.aload_n 0, 1, 0, 0, 0), (.getfield 49, 3, 11, 20, 0), (.sipush 160, 3, 0, 0, 160), (.iload_n 2, 1, 2, 0, 0), (.imul, 1, 0, 0, 0), (.iload_n 3, 1, 3, 0, 0), (.iadd, 1, 0, 0, 0), (.aload_n 0, 1, 0, 0, 0), (.getfield 13, 3, 11, 1, 0), (.iload_n 3, 1, 3, 0, 0), (.iaload, 1, 0, 0, 0), (.iastore, 1, 0, 0, 0), (.iinc 3 1, 3, 3, 0, 1), (.goto (-47), 3, 27, 0, 0)], 77),
  (77, [(.return_, 1, 0, 0, 0)], 78)]
set_option maxRecDepth 100000 in
theorem ok_X11_keepsRow : pm_oks 11 false 4 none cX11_keepsRow bk_X11_keepsRow = true := oksG_ok (by decide +kernel)
set_option maxRecDepth 100000 in
theorem me_X11_keepsRow : pm_me 178 = (yX11_keepsRow, cX11_keepsRow, 4, none, 1, 0) := pm_mq_ok rfl
theorem mt_X11_keepsRow {l : Launch} {g : pm_G} {d mc ms : Nat} {as : List Value} {A : pm_H} {Q : Option Value → pm_H → Prop} (hca : pm_cat 4 as = true) (body : ∀ J : pm_J, pm_Cl l g (fun _ => none) d mc ms (pm_Rq mc ms Q) bk_X11_keepsRow J → J 0 (pm_l0 4 as) [] A 0 0) : pm_Mt l g 178 d mc ms as A Q := pm_Mt_of (isI := false) 11 bk_X11_keepsRow me_X11_keepsRow (plainFor_of_name plX11) rfl (fun h => by cases h) ok_X11_keepsRow hca body
noncomputable def bk_X11_paint : pm_B := [(0, [(.aload_n 0, 1, 0, 0, 0), (.iload_n 1, 1, 1, 0, 0), (.iload_n 2, 1, 2, 0, 0), (.invokevirtual 129, 3, 180, 2, 11), (.ifCond .eq 22, 3, 28, 0, 0), (.iload_n 3, 1, 3, 0, 0), (.invokestatic 122, 3, 170, 1, 0), (.ifCond .eq 15, 3, 28, 0, 0), (.aload_n 0, 1, 0, 0, 0), (.iload_n 1, 1, 1, 0, 0), (.iload_n 2, 1, 2, 0, 0), (.iconst (-1), 1, 0, 0, -1), (.iload_n 3, 1, 3, 0, 0), (.iconst 0, 1, 0, 0, 0), (.invokevirtual 125, 3, 171, 5, 11), (.goto 4, 3, 29, 0, 0)], 28),
  (28, [(.iconst (-1), 1, 0, 0, -1)], 29),
  (29, [(.ireturn, 1, 0, 0, 0)], 30)]
set_option maxRecDepth 100000 in
theorem ok_X11_paint : pm_oks 11 false 4 (some .int) cX11_paint bk_X11_paint = true := oksG_ok (by decide +kernel)
set_option maxRecDepth 100000 in
theorem me_X11_paint : pm_me 179 = (yX11_paint, cX11_paint, 4, (some .int), 3, 0) := pm_mq_ok rfl
theorem mt_X11_paint {l : Launch} {g : pm_G} {d mc ms : Nat} {as : List Value} {A : pm_H} {Q : Option Value → pm_H → Prop} (hca : pm_cat 4 as = true) (body : ∀ J : pm_J, pm_Cl l g (fun _ => none) d mc ms (pm_Rq mc ms Q) bk_X11_paint J → J 0 (pm_l0 4 as) [] A 0 0) : pm_Mt l g 179 d mc ms as A Q := pm_Mt_of (isI := false) 11 bk_X11_paint me_X11_paint (plainFor_of_name plX11) rfl (fun h => by cases h) ok_X11_paint hca body
noncomputable def bk_X11_isSpan : pm_B := [(0, [(.iload_n 1, 1, 1, 0, 0), (.ifCond .lt 20, 3, 21, 0, 0), (.iload_n 1, 1, 1, 0, 0), (.iload_n 2, 1, 2, 0, 0), (.if_icmp .gt 15, 3, 21, 0, 0), (.iload_n 2, 1, 2, 0, 0), (.aload_n 0, 1, 0, 0, 0), (.getfield 70, 3, 11, 7, 0), (.if_icmp .ge 7, 3, 21, 0, 0), (.iconst 1, 1, 0, 0, 1), (.goto 4, 3, 22, 0, 0)], 21),
  (21, [(.iconst 0, 1, 0, 0, 0)], 22),
  (22, [(.ireturn, 1, 1, 0, 0)], 23)]
set_option maxRecDepth 100000 in
theorem ok_X11_isSpan : pm_oks 11 false 3 (some .boolean) cX11_isSpan bk_X11_isSpan = true := oksG_ok (by decide +kernel)
set_option maxRecDepth 100000 in
theorem me_X11_isSpan : pm_me 180 = (yX11_isSpan, cX11_isSpan, 3, (some .boolean), 2, 0) := pm_mq_ok rfl
theorem mt_X11_isSpan {l : Launch} {g : pm_G} {d mc ms : Nat} {as : List Value} {A : pm_H} {Q : Option Value → pm_H → Prop} (hca : pm_cat 3 as = true) (body : ∀ J : pm_J, pm_Cl l g (fun _ => none) d mc ms (pm_Rq mc ms Q) bk_X11_isSpan J → J 0 (pm_l0 3 as) [] A 0 0) : pm_Mt l g 180 d mc ms as A Q := pm_Mt_of (isI := false) 11 bk_X11_isSpan me_X11_isSpan (plainFor_of_name plX11) rfl (fun h => by cases h) ok_X11_isSpan hca body
noncomputable def bk_X11_merge : pm_B := [(0, [(.iload_n 1, 1, 1, 0, 0), (.invokestatic 122, 3, 170, 1, 0), (.ifCond .eq 32, 3, 36, 0, 0), (.iload_n 2, 1, 2, 0, 0), (.invokestatic 122, 3, 170, 1, 0), (.ifCond .eq 25, 3, 36, 0, 0), (.iload_n 1, 1, 1, 0, 0), (.iload_n 2, 1, 2, 0, 0), (.if_icmp .eq 20, 3, 36, 0, 0), (.aload_n 0, 1, 0, 0, 0), (.iconst 0, 1, 0, 0, 0), (.aload_n 0, 1, 0, 0, 0), (.getfield 70, 3, 11, 7, 0), (.iconst 1, 1, 0, 0, 1), (.isub, 1, 0, 0, 0), (.iload_n 1, 1, 1, 0, 0), (.iload_n 2, 1, 2, 0, 0), (.iconst 0, 1, 0, 0, 0), (.invokevirtual 125, 3, 171, 5, 11), (.goto 4, 3, 37, 0, 0)], 36),
  (36, [(.iconst (-1), 1, 0, 0, -1)], 37),
  (37, [(.ireturn, 1, 0, 0, 0)], 38)]
set_option maxRecDepth 100000 in
theorem ok_X11_merge : pm_oks 11 false 3 (some .int) cX11_merge bk_X11_merge = true := oksG_ok (by decide +kernel)
set_option maxRecDepth 100000 in
theorem me_X11_merge : pm_me 181 = (yX11_merge, cX11_merge, 3, (some .int), 2, 0) := pm_mq_ok rfl
theorem mt_X11_merge {l : Launch} {g : pm_G} {d mc ms : Nat} {as : List Value} {A : pm_H} {Q : Option Value → pm_H → Prop} (hca : pm_cat 3 as = true) (body : ∀ J : pm_J, pm_Cl l g (fun _ => none) d mc ms (pm_Rq mc ms Q) bk_X11_merge J → J 0 (pm_l0 3 as) [] A 0 0) : pm_Mt l g 181 d mc ms as A Q := pm_Mt_of (isI := false) 11 bk_X11_merge me_X11_merge (plainFor_of_name plX11) rfl (fun h => by cases h) ok_X11_merge hca body
noncomputable def bk_X11_exchange : pm_B := [(0, [(.iload_n 1, 1, 1, 0, 0), (.invokestatic 122, 3, 170, 1, 0), (.ifCond .eq 32, 3, 36, 0, 0), (.iload_n 2, 1, 2, 0, 0), (.invokestatic 122, 3, 170, 1, 0), (.ifCond .eq 25, 3, 36, 0, 0), (.iload_n 1, 1, 1, 0, 0), (.iload_n 2, 1, 2, 0, 0), (.if_icmp .eq 20, 3, 36, 0, 0), (.aload_n 0, 1, 0, 0, 0), (.iconst 0, 1, 0, 0, 0), (.aload_n 0, 1, 0, 0, 0), (.getfield 70, 3, 11, 7, 0), (.iconst 1, 1, 0, 0, 1), (.isub, 1, 0, 0, 0), (.iload_n 1, 1, 1, 0, 0), (.iload_n 2, 1, 2, 0, 0), (.iconst 1, 1, 0, 0, 1), (.invokevirtual 125, 3, 171, 5, 11), (.goto 4, 3, 37, 0, 0)], 36),
  (36, [(.iconst (-1), 1, 0, 0, -1)], 37),
  (37, [(.ireturn, 1, 0, 0, 0)], 38)]
set_option maxRecDepth 100000 in
theorem ok_X11_exchange : pm_oks 11 false 3 (some .int) cX11_exchange bk_X11_exchange = true := oksG_ok (by decide +kernel)
set_option maxRecDepth 100000 in
theorem me_X11_exchange : pm_me 182 = (yX11_exchange, cX11_exchange, 3, (some .int), 2, 0) := pm_mq_ok rfl
theorem mt_X11_exchange {l : Launch} {g : pm_G} {d mc ms : Nat} {as : List Value} {A : pm_H} {Q : Option Value → pm_H → Prop} (hca : pm_cat 3 as = true) (body : ∀ J : pm_J, pm_Cl l g (fun _ => none) d mc ms (pm_Rq mc ms Q) bk_X11_exchange J → J 0 (pm_l0 3 as) [] A 0 0) : pm_Mt l g 182 d mc ms as A Q := pm_Mt_of (isI := false) 11 bk_X11_exchange me_X11_exchange (plainFor_of_name plX11) rfl (fun h => by cases h) ok_X11_exchange hca body
noncomputable def bk_X11_insert : pm_B := [(0, [(.iload_n 1, 1, 1, 0, 0), (.iconst 0, 1, 0, 0, 0), (.aload_n 0, 1, 0, 0, 0), (.getfield 70, 3, 11, 7, 0), (.invokestatic 74, 3, 169, 3, 0), (.ifCond .eq 18, 3, 27, 0, 0), (.iload_n 2, 1, 2, 0, 0), (.invokestatic 122, 3, 170, 1, 0), (.ifCond .eq 11, 3, 27, 0, 0), (.aload_n 0, 1, 0, 0, 0), (.iconst 1, 1, 0, 0, 1), (.invokevirtual 133, 3, 184, 1, 11), (.ifCond .ne 5, 3, 29, 0, 0)], 27),
  (27, [(.iconst (-1), 1, 0, 0, -1), (.ireturn, 1, 0, 0, 0)], 29),
  (29, [(.aload_n 0, 1, 0, 0, 0), (.invokevirtual 112, 3, 172, 0, 11), (.aload_n 0, 1, 0, 0, 0), (.iconst 0, 1, 0, 0, 0), (.iload_n 1, 1, 1, 0, 0), (.invokevirtual 136, 3, 185, 2, 11), (.aload_n 0, 1, 0, 0, 0), (.iload_n 2, 1, 2, 0, 0), (.invokevirtual 139, 3, 186, 1, 11), (.aload_n 0, 1, 0, 0, 0), (.iload_n 1, 1, 1, 0, 0), (.aload_n 0, 1, 0, 0, 0), (.getfield 70, 3, 11, 7, 0), (.invokevirtual 136, 3, 185, 2, 11), (.aload_n 0, 1, 0, 0, 0), (.invokevirtual 115, 3, 176, 0, 11), (.ireturn, 1, 0, 0, 0)], 58)]
set_option maxRecDepth 100000 in
theorem ok_X11_insert : pm_oks 11 false 3 (some .int) cX11_insert bk_X11_insert = true := oksG_ok (by decide +kernel)
set_option maxRecDepth 100000 in
theorem me_X11_insert : pm_me 183 = (yX11_insert, cX11_insert, 3, (some .int), 2, 0) := pm_mq_ok rfl
theorem mt_X11_insert {l : Launch} {g : pm_G} {d mc ms : Nat} {as : List Value} {A : pm_H} {Q : Option Value → pm_H → Prop} (hca : pm_cat 3 as = true) (body : ∀ J : pm_J, pm_Cl l g (fun _ => none) d mc ms (pm_Rq mc ms Q) bk_X11_insert J → J 0 (pm_l0 3 as) [] A 0 0) : pm_Mt l g 183 d mc ms as A Q := pm_Mt_of (isI := false) 11 bk_X11_insert me_X11_insert (plainFor_of_name plX11) rfl (fun h => by cases h) ok_X11_insert hca body
noncomputable def bk_X11_hasRoom : pm_B := [(0, [(.aload_n 0, 1, 0, 0, 0), (.getfield 70, 3, 11, 7, 0), (.iload_n 1, 1, 1, 0, 0), (.iadd, 1, 0, 0, 0), (.sipush 160, 3, 0, 0, 160), (.if_icmp .gt 19, 3, 28, 0, 0), (.aload_n 0, 1, 0, 0, 0), (.getfield 95, 3, 11, 10, 0), (.iload_n 1, 1, 1, 0, 0), (.iadd, 1, 0, 0, 0), (.sipush 10000, 3, 0, 0, 10000), (.if_icmp .gt 7, 3, 28, 0, 0), (.iconst 1, 1, 0, 0, 1), (.goto 4, 3, 29, 0, 0)], 28),
  (28, [(.iconst 0, 1, 0, 0, 0)], 29),
  (29, [(.ireturn, 1, 1, 0, 0)], 30)]
set_option maxRecDepth 100000 in
theorem ok_X11_hasRoom : pm_oks 11 false 2 (some .boolean) cX11_hasRoom bk_X11_hasRoom = true := oksG_ok (by decide +kernel)
set_option maxRecDepth 100000 in
theorem me_X11_hasRoom : pm_me 184 = (yX11_hasRoom, cX11_hasRoom, 2, (some .boolean), 1, 0) := pm_mq_ok rfl
theorem mt_X11_hasRoom {l : Launch} {g : pm_G} {d mc ms : Nat} {as : List Value} {A : pm_H} {Q : Option Value → pm_H → Prop} (hca : pm_cat 2 as = true) (body : ∀ J : pm_J, pm_Cl l g (fun _ => none) d mc ms (pm_Rq mc ms Q) bk_X11_hasRoom J → J 0 (pm_l0 2 as) [] A 0 0) : pm_Mt l g 184 d mc ms as A Q := pm_Mt_of (isI := false) 11 bk_X11_hasRoom me_X11_hasRoom (plainFor_of_name plX11) rfl (fun h => by cases h) ok_X11_hasRoom hca body
noncomputable def bk_X11_laysFrom : pm_B := [(0, [(.iload_n 1, 1, 1, 0, 0), (.istore_n 3, 1, 3, 0, 0)], 2),
  (2, [(.iload_n 3, 1, 3, 0, 0), (.iload_n 2, 1, 2, 0, 0), (.if_icmp .ge 25, 3, 29, 0, 0), (.aload_n 0, 1, 0, 0, 0), (.aload_n 0, 1, 0, 0, 0), (.getfield 7, 3, 11, 0, 0), (.iload_n 3, 1, 3, 0, 0), (.iaload, 1, 0, 0, 0), (.aload_n 0, 1, 0, 0, 0), (.getfield 13, 3, 11, 1, 0), (.iload_n 3, 1, 3, 0, 0), (.iaload, 1, 0, 0, 0), (.invokevirtual 91, 3, 175, 2, 11), (.iinc 3 1, 3, 3, 0, 1), (.goto (-24), 3, 2, 0, 0)], 29),
  (29, [(.return_, 1, 0, 0, 0)], 30)]
set_option maxRecDepth 100000 in
theorem ok_X11_laysFrom : pm_oks 11 false 4 none cX11_laysFrom bk_X11_laysFrom = true := oksG_ok (by decide +kernel)
set_option maxRecDepth 100000 in
theorem me_X11_laysFrom : pm_me 185 = (yX11_laysFrom, cX11_laysFrom, 4, none, 2, 0) := pm_mq_ok rfl
theorem mt_X11_laysFrom {l : Launch} {g : pm_G} {d mc ms : Nat} {as : List Value} {A : pm_H} {Q : Option Value → pm_H → Prop} (hca : pm_cat 4 as = true) (body : ∀ J : pm_J, pm_Cl l g (fun _ => none) d mc ms (pm_Rq mc ms Q) bk_X11_laysFrom J → J 0 (pm_l0 4 as) [] A 0 0) : pm_Mt l g 185 d mc ms as A Q := pm_Mt_of (isI := false) 11 bk_X11_laysFrom me_X11_laysFrom (plainFor_of_name plX11) rfl (fun h => by cases h) ok_X11_laysFrom hca body
noncomputable def bk_X11_laysNew : pm_B := [(0, [(.aload_n 0, 1, 0, 0, 0), (.iload_n 1, 1, 1, 0, 0), (.aload_n 0, 1, 0, 0, 0), (.getfield 95, 3, 11, 10, 0), (.invokevirtual 91, 3, 175, 2, 11), (.aload_n 0, 1, 0, 0, 0), (.dup, 1, 0, 0, 0), (.getfield 95, 3, 11, 10, 0), (.iconst 1, 1, 0, 0, 1), (.iadd, 1, 0, 0, 0), (.putfield 95, 3, 11, 10, 0), (.return_, 1, 0, 0, 0)], 20)]
set_option maxRecDepth 100000 in
theorem ok_X11_laysNew : pm_oks 11 false 2 none cX11_laysNew bk_X11_laysNew = true := oksG_ok (by decide +kernel)
set_option maxRecDepth 100000 in
theorem me_X11_laysNew : pm_me 186 = (yX11_laysNew, cX11_laysNew, 2, none, 1, 0) := pm_mq_ok rfl
theorem mt_X11_laysNew {l : Launch} {g : pm_G} {d mc ms : Nat} {as : List Value} {A : pm_H} {Q : Option Value → pm_H → Prop} (hca : pm_cat 2 as = true) (body : ∀ J : pm_J, pm_Cl l g (fun _ => none) d mc ms (pm_Rq mc ms Q) bk_X11_laysNew J → J 0 (pm_l0 2 as) [] A 0 0) : pm_Mt l g 186 d mc ms as A Q := pm_Mt_of (isI := false) 11 bk_X11_laysNew me_X11_laysNew (plainFor_of_name plX11) rfl (fun h => by cases h) ok_X11_laysNew hca body
noncomputable def bk_X11_cut : pm_B := [(0, [(.aload_n 0, 1, 0, 0, 0), (.iload_n 1, 1, 1, 0, 0), (.iload_n 2, 1, 2, 0, 0), (.invokevirtual 129, 3, 180, 2, 11), (.ifCond .ne 5, 3, 11, 0, 0), (.iconst (-1), 1, 0, 0, -1), (.ireturn, 1, 0, 0, 0)], 11),
  (11, [(.aload_n 0, 1, 0, 0, 0), (.invokevirtual 112, 3, 172, 0, 11), (.aload_n 0, 1, 0, 0, 0), (.iconst 0, 1, 0, 0, 0), (.iload_n 1, 1, 1, 0, 0), (.invokevirtual 136, 3, 185, 2, 11), (.aload_n 0, 1, 0, 0, 0), (.iload_n 2, 1, 2, 0, 0), (.iconst 1, 1, 0, 0, 1), (.iadd, 1, 0, 0, 0), (.aload_n 0, 1, 0, 0, 0), (.getfield 70, 3, 11, 7, 0), (.invokevirtual 136, 3, 185, 2, 11), (.aload_n 0, 1, 0, 0, 0), (.invokevirtual 115, 3, 176, 0, 11), (.ireturn, 1, 0, 0, 0)], 37)]
set_option maxRecDepth 100000 in
theorem ok_X11_cut : pm_oks 11 false 3 (some .int) cX11_cut bk_X11_cut = true := oksG_ok (by decide +kernel)
set_option maxRecDepth 100000 in
theorem me_X11_cut : pm_me 187 = (yX11_cut, cX11_cut, 3, (some .int), 2, 0) := pm_mq_ok rfl
theorem mt_X11_cut {l : Launch} {g : pm_G} {d mc ms : Nat} {as : List Value} {A : pm_H} {Q : Option Value → pm_H → Prop} (hca : pm_cat 3 as = true) (body : ∀ J : pm_J, pm_Cl l g (fun _ => none) d mc ms (pm_Rq mc ms Q) bk_X11_cut J → J 0 (pm_l0 3 as) [] A 0 0) : pm_Mt l g 187 d mc ms as A Q := pm_Mt_of (isI := false) 11 bk_X11_cut me_X11_cut (plainFor_of_name plX11) rfl (fun h => by cases h) ok_X11_cut hca body
noncomputable def bk_X11_turn : pm_B := [(0, [(.aload_n 0, 1, 0, 0, 0), (.iload_n 1, 1, 1, 0, 0), (.iload_n 2, 1, 2, 0, 0), (.invokevirtual 129, 3, 180, 2, 11), (.ifCond .ne 5, 3, 11, 0, 0), (.iconst (-1), 1, 0, 0, -1), (.ireturn, 1, 0, 0, 0)], 11),
  (11, [(.aload_n 0, 1, 0, 0, 0), (.invokevirtual 112, 3, 172, 0, 11), (.aload_n 0, 1, 0, 0, 0), (.iconst 0, 1, 0, 0, 0), (.iload_n 1, 1, 1, 0, 0), (.invokevirtual 136, 3, 185, 2, 11), (.iload_n 2, 1, 2, 0, 0), (.istore_n 3, 1, 3, 0, 0)], 23),
  (23, [(.iload_n 3, 1, 3, 0, 0), (.iload_n 1, 1, 1, 0, 0), (.if_icmp .lt 25, 3, 50, 0, 0), (.aload_n 0, 1, 0, 0, 0), (.aload_n 0, 1, 0, 0, 0), (.getfield 7, 3, 11, 0, 0), (.iload_n 3, 1, 3, 0, 0), (.iaload, 1, 0, 0, 0), (.aload_n 0, 1, 0, 0, 0), (.getfield 13, 3, 11, 1, 0), (.iload_n 3, 1, 3, 0, 0), (.iaload, 1, 0, 0, 0), (.invokevirtual 91, 3, 175, 2, 11), (.iinc 3 (-1), 3, 3, 0, -1), (.goto (-24), 3, 23, 0, 0)], 50),
  (50, [(.aload_n 0, 1, 0, 0, 0), (.iload_n 2, 1, 2, 0, 0), (.iconst 1, 1, 0, 0, 1), (.iadd, 1, 0, 0, 0), (.aload_n 0, 1, 0, 0, 0), (.getfield 70, 3, 11, 7, 0), (.invokevirtual 136, 3, 185, 2, 11), (.aload_n 0, 1, 0, 0, 0), (.invokevirtual 115, 3, 176, 0, 11), (.ireturn, 1, 0, 0, 0)], 66)]
set_option maxRecDepth 100000 in
theorem ok_X11_turn : pm_oks 11 false 4 (some .int) cX11_turn bk_X11_turn = true := oksG_ok (by decide +kernel)
set_option maxRecDepth 100000 in
theorem me_X11_turn : pm_me 188 = (yX11_turn, cX11_turn, 4, (some .int), 2, 0) := pm_mq_ok rfl
theorem mt_X11_turn {l : Launch} {g : pm_G} {d mc ms : Nat} {as : List Value} {A : pm_H} {Q : Option Value → pm_H → Prop} (hca : pm_cat 4 as = true) (body : ∀ J : pm_J, pm_Cl l g (fun _ => none) d mc ms (pm_Rq mc ms Q) bk_X11_turn J → J 0 (pm_l0 4 as) [] A 0 0) : pm_Mt l g 188 d mc ms as A Q := pm_Mt_of (isI := false) 11 bk_X11_turn me_X11_turn (plainFor_of_name plX11) rfl (fun h => by cases h) ok_X11_turn hca body
noncomputable def bk_X11_shift : pm_B := [(0, [(.aload_n 0, 1, 0, 0, 0), (.iload_n 1, 1, 1, 0, 0), (.iload_n 2, 1, 2, 0, 0), (.invokevirtual 129, 3, 180, 2, 11), (.ifCond .eq 16, 3, 22, 0, 0), (.iload_n 3, 1, 3, 0, 0), (.iconst 0, 1, 0, 0, 0), (.iload_n 2, 1, 2, 0, 0), (.iload_n 1, 1, 1, 0, 0), (.isub, 1, 0, 0, 0), (.iconst 1, 1, 0, 0, 1), (.iadd, 1, 0, 0, 0), (.invokestatic 74, 3, 169, 3, 0), (.ifCond .ne 5, 3, 24, 0, 0)], 22),
  (22, [(.iconst (-1), 1, 0, 0, -1), (.ireturn, 1, 0, 0, 0)], 24),
  (24, [(.aload_n 0, 1, 0, 0, 0), (.invokevirtual 112, 3, 172, 0, 11), (.aload_n 0, 1, 0, 0, 0), (.iconst 0, 1, 0, 0, 0), (.iload_n 1, 1, 1, 0, 0), (.invokevirtual 136, 3, 185, 2, 11), (.aload_n 0, 1, 0, 0, 0), (.iload_n 1, 1, 1, 0, 0), (.iload_n 3, 1, 3, 0, 0), (.iadd, 1, 0, 0, 0), (.iload_n 2, 1, 2, 0, 0), (.iconst 1, 1, 0, 0, 1), (.iadd, 1, 0, 0, 0), (.invokevirtual 136, 3, 185, 2, 11), (.aload_n 0, 1, 0, 0, 0), (.iload_n 1, 1, 1, 0, 0), (.iload_n 1, 1, 1, 0, 0), (.iload_n 3, 1, 3, 0, 0), (.iadd, 1, 0, 0, 0), (.invokevirtual 136, 3, 185, 2, 11), (.aload_n 0, 1, 0, 0, 0), (.iload_n 2, 1, 2, 0, 0), (.iconst 1, 1, 0, 0, 1), (.iadd, 1, 0, 0, 0), (.aload_n 0, 1, 0, 0, 0), (.getfield 70, 3, 11, 7, 0), (.invokevirtual 136, 3, 185, 2, 11), (.aload_n 0, 1, 0, 0, 0), (.invokevirtual 115, 3, 176, 0, 11), (.ireturn, 1, 0, 0, 0)], 68)]
set_option maxRecDepth 100000 in
theorem ok_X11_shift : pm_oks 11 false 4 (some .int) cX11_shift bk_X11_shift = true := oksG_ok (by decide +kernel)
set_option maxRecDepth 100000 in
theorem me_X11_shift : pm_me 189 = (yX11_shift, cX11_shift, 4, (some .int), 3, 0) := pm_mq_ok rfl
theorem mt_X11_shift {l : Launch} {g : pm_G} {d mc ms : Nat} {as : List Value} {A : pm_H} {Q : Option Value → pm_H → Prop} (hca : pm_cat 4 as = true) (body : ∀ J : pm_J, pm_Cl l g (fun _ => none) d mc ms (pm_Rq mc ms Q) bk_X11_shift J → J 0 (pm_l0 4 as) [] A 0 0) : pm_Mt l g 189 d mc ms as A Q := pm_Mt_of (isI := false) 11 bk_X11_shift me_X11_shift (plainFor_of_name plX11) rfl (fun h => by cases h) ok_X11_shift hca body
end
section
/-! blocks, by a program -/
noncomputable def bk_X11_sort : pm_B := [(0, [(.aload_n 0, 1, 0, 0, 0), (.iload_n 1, 1, 1, 0, 0), (.iload_n 2, 1, 2, 0, 0), (.invokevirtual 129, 3, 180, 2, 11), (.ifCond .ne 5, 3, 11, 0, 0), (.iconst (-1), 1, 0, 0, -1), (.ireturn, 1, 0, 0, 0)], 11),
  (11, [(.aload_n 0, 1, 0, 0, 0), (.invokevirtual 112, 3, 172, 0, 11), (.aload_n 0, 1, 0, 0, 0), (.iconst 0, 1, 0, 0, 0), (.iload_n 1, 1, 1, 0, 0), (.invokevirtual 136, 3, 185, 2, 11), (.iconst 0, 1, 0, 0, 0), (.istore_n 3, 1, 3, 0, 0)], 23),
  (23, [(.iload_n 3, 1, 3, 0, 0), (.bipush 24, 2, 0, 0, 24), (.if_icmp .ge 47, 3, 73, 0, 0), (.iload_n 1, 1, 1, 0, 0), (.istore 4, 2, 4, 0, 0)], 32),
  (32, [(.iload 4, 2, 4, 0, 0), (.iload_n 2, 1, 2, 0, 0), (.if_icmp .gt 32, 3, 67, 0, 0), (.aload_n 0, 1, 0, 0, 0), (.getfield 7, 3, 11, 0, 0), (.iload 4, 2, 4, 0, 0), (.iaload, 1, 0, 0, 0), (.iload_n 3, 1, 3, 0, 0), (.if_icmp .ne 15, 3, 61, 0, 0), (.aload_n 0, 1, 0, 0, 0), (.iload_n 3, 1, 3, 0, 0), (.aload_n 0, 1, 0, 0, 0), (.getfield 13, 3, 11, 1, 0), (.iload 4, 2, 4, 0, 0), (.iaload, 1, 0, 0, 0), (.invokevirtual 91, 3, 175, 2, 11)], 61),
  (61, [(.iinc 4 1, 3, 4, 0, 1), (.goto (-32), 3, 32, 0, 0)], 67),
  (67, [(.iinc 3 1, 3, 3, 0, 1), (.goto (-47), 3, 23, 0, 0)], 73),
  (73, [(.aload_n 0, 1, 0, 0, 0), (.iload_n 2, 1, 2, 0, 0), (.iconst 1, 1, 0, 0, 1), (.iadd, 1, 0, 0, 0), (.aload_n 0, 1, 0, 0, 0), (.getfield 70, 3, 11, 7, 0), (.invokevirtual 136, 3, 185, 2, 11), (.aload_n 0, 1, 0, 0, 0), (.invokevirtual 115, 3, 176, 0, 11), (.ireturn, 1, 0, 0, 0)], 89)]
set_option maxRecDepth 100000 in
theorem ok_X11_sort : pm_oks 11 false 5 (some .int) cX11_sort bk_X11_sort = true := oksG_ok (by decide +kernel)
set_option maxRecDepth 100000 in
theorem me_X11_sort : pm_me 190 = (yX11_sort, cX11_sort, 5, (some .int), 2, 0) := pm_mq_ok rfl
theorem mt_X11_sort {l : Launch} {g : pm_G} {d mc ms : Nat} {as : List Value} {A : pm_H} {Q : Option Value → pm_H → Prop} (hca : pm_cat 5 as = true) (body : ∀ J : pm_J, pm_Cl l g (fun _ => none) d mc ms (pm_Rq mc ms Q) bk_X11_sort J → J 0 (pm_l0 5 as) [] A 0 0) : pm_Mt l g 190 d mc ms as A Q := pm_Mt_of (isI := false) 11 bk_X11_sort me_X11_sort (plainFor_of_name plX11) rfl (fun h => by cases h) ok_X11_sort hca body
noncomputable def bk_X11_swap : pm_B := [(0, [(.aload_n 0, 1, 0, 0, 0), (.iload_n 1, 1, 1, 0, 0), (.iload_n 2, 1, 2, 0, 0), (.invokevirtual 129, 3, 180, 2, 11), (.ifCond .eq 24, 3, 30, 0, 0), (.aload_n 0, 1, 0, 0, 0), (.iload_n 3, 1, 3, 0, 0), (.iload 4, 2, 4, 0, 0), (.invokevirtual 129, 3, 180, 2, 11), (.ifCond .eq 14, 3, 30, 0, 0), (.iload_n 1, 1, 1, 0, 0), (.iload 4, 2, 4, 0, 0), (.if_icmp .gt 10, 3, 32, 0, 0), (.iload_n 3, 1, 3, 0, 0), (.iload_n 2, 1, 2, 0, 0), (.if_icmp .gt 5, 3, 32, 0, 0)], 30),
  (30, [(.iconst (-1), 1, 0, 0, -1), (.ireturn, 1, 0, 0, 0)], 32),
  (32, [(.iload_n 1, 1, 1, 0, 0), (.iload_n 3, 1, 3, 0, 0), (.if_icmp .ge 7, 3, 41, 0, 0), (.iconst 1, 1, 0, 0, 1), (.goto 4, 3, 42, 0, 0)], 41),
  (41, [(.iconst 0, 1, 0, 0, 0)], 42),
  (42, [(.istore 5, 2, 5, 0, 0), (.iload 5, 2, 5, 0, 0), (.ifCond .eq 7, 3, 53, 0, 0), (.iload_n 1, 1, 1, 0, 0), (.goto 4, 3, 54, 0, 0)], 53),
  (53, [(.iload_n 3, 1, 3, 0, 0)], 54),
  (54, [(.istore 6, 2, 6, 0, 0), (.iload 5, 2, 5, 0, 0), (.ifCond .eq 7, 3, 65, 0, 0), (.iload_n 2, 1, 2, 0, 0), (.goto 5, 3, 67, 0, 0)], 65),
  (65, [(.iload 4, 2, 4, 0, 0)], 67),
  (67, [(.istore 7, 2, 7, 0, 0), (.iload 5, 2, 5, 0, 0), (.ifCond .eq 7, 3, 78, 0, 0), (.iload_n 3, 1, 3, 0, 0), (.goto 4, 3, 79, 0, 0)], 78),
  (78, [(.iload_n 1, 1, 1, 0, 0)], 79),
  (79, [(.istore 8, 2, 8, 0, 0), (.iload 5, 2, 5, 0, 0), (.ifCond .eq 8, 3, 91, 0, 0), (.iload 4, 2, 4, 0, 0), (.goto 4, 3, 92, 0, 0)], 91),
  (91, [(.iload_n 2, 1, 2, 0, 0)], 92),
  (92, [(.istore 9, 2, 9, 0, 0), (.aload_n 0, 1, 0, 0, 0), (.invokevirtual 112, 3, 172, 0, 11), (.aload_n 0, 1, 0, 0, 0), (.iconst 0, 1, 0, 0, 0), (.iload 6, 2, 6, 0, 0), (.invokevirtual 136, 3, 185, 2, 11), (.aload_n 0, 1, 0, 0, 0), (.iload 8, 2, 8, 0, 0), (.iload 9, 2, 9, 0, 0), (.iconst 1, 1, 0, 0, 1), (.iadd, 1, 0, 0, 0), (.invokevirtual 136, 3, 185, 2, 11), (.aload_n 0, 1, 0, 0, 0), (.iload 7, 2, 7, 0, 0), (.iconst 1, 1, 0, 0, 1), (.iadd, 1, 0, 0, 0), (.iload 8, 2, 8, 0, 0), (.invokevirtual 136, 3, 185, 2, 11), (.aload_n 0, 1, 0, 0, 0), (.iload 6, 2, 6, 0, 0), (.iload 7, 2, 7, 0, 0), (.iconst 1, 1, 0, 0, 1), (.iadd, 1, 0, 0, 0), (.invokevirtual 136, 3, 185, 2, 11), (.aload_n 0, 1, 0, 0, 0), (.iload 9, 2, 9, 0, 0), (.iconst 1, 1, 0, 0, 1), (.iadd, 1, 0, 0, 0), (.aload_n 0, 1, 0, 0, 0), (.getfield 70, 3, 11, 7, 0), (.invokevirtual 136, 3, 185, 2, 11), (.aload_n 0, 1, 0, 0, 0), (.invokevirtual 115, 3, 176, 0, 11), (.ireturn, 1, 0, 0, 0)], 152)]
set_option maxRecDepth 100000 in
theorem ok_X11_swap : pm_oks 11 false 10 (some .int) cX11_swap bk_X11_swap = true := oksG_ok (by decide +kernel)
set_option maxRecDepth 100000 in
theorem me_X11_swap : pm_me 191 = (yX11_swap, cX11_swap, 10, (some .int), 4, 0) := pm_mq_ok rfl
theorem mt_X11_swap {l : Launch} {g : pm_G} {d mc ms : Nat} {as : List Value} {A : pm_H} {Q : Option Value → pm_H → Prop} (hca : pm_cat 10 as = true) (body : ∀ J : pm_J, pm_Cl l g (fun _ => none) d mc ms (pm_Rq mc ms Q) bk_X11_swap J → J 0 (pm_l0 10 as) [] A 0 0) : pm_Mt l g 191 d mc ms as A Q := pm_Mt_of (isI := false) 11 bk_X11_swap me_X11_swap (plainFor_of_name plX11) rfl (fun h => by cases h) ok_X11_swap hca body
noncomputable def bk_X11_copy : pm_B := [(0, [(.aload_n 0, 1, 0, 0, 0), (.iload_n 1, 1, 1, 0, 0), (.iload_n 2, 1, 2, 0, 0), (.invokevirtual 129, 3, 180, 2, 11), (.ifCond .eq 27, 3, 33, 0, 0), (.iload_n 3, 1, 3, 0, 0), (.iconst 0, 1, 0, 0, 0), (.aload_n 0, 1, 0, 0, 0), (.getfield 70, 3, 11, 7, 0), (.invokestatic 74, 3, 169, 3, 0), (.ifCond .eq 15, 3, 33, 0, 0), (.aload_n 0, 1, 0, 0, 0), (.iload_n 2, 1, 2, 0, 0), (.iload_n 1, 1, 1, 0, 0), (.isub, 1, 0, 0, 0), (.iconst 1, 1, 0, 0, 1), (.iadd, 1, 0, 0, 0), (.invokevirtual 133, 3, 184, 1, 11), (.ifCond .ne 5, 3, 35, 0, 0)], 33),
  (33, [(.iconst (-1), 1, 0, 0, -1), (.ireturn, 1, 0, 0, 0)], 35),
  (35, [(.aload_n 0, 1, 0, 0, 0), (.invokevirtual 112, 3, 172, 0, 11), (.aload_n 0, 1, 0, 0, 0), (.iconst 0, 1, 0, 0, 0), (.iload_n 3, 1, 3, 0, 0), (.invokevirtual 136, 3, 185, 2, 11), (.iload_n 1, 1, 1, 0, 0), (.istore 4, 2, 4, 0, 0)], 48),
  (48, [(.iload 4, 2, 4, 0, 0), (.iload_n 2, 1, 2, 0, 0), (.if_icmp .gt 20, 3, 71, 0, 0), (.aload_n 0, 1, 0, 0, 0), (.aload_n 0, 1, 0, 0, 0), (.getfield 7, 3, 11, 0, 0), (.iload 4, 2, 4, 0, 0), (.iaload, 1, 0, 0, 0), (.invokevirtual 139, 3, 186, 1, 11), (.iinc 4 1, 3, 4, 0, 1), (.goto (-20), 3, 48, 0, 0)], 71),
  (71, [(.aload_n 0, 1, 0, 0, 0), (.iload_n 3, 1, 3, 0, 0), (.aload_n 0, 1, 0, 0, 0), (.getfield 70, 3, 11, 7, 0), (.invokevirtual 136, 3, 185, 2, 11), (.aload_n 0, 1, 0, 0, 0), (.invokevirtual 115, 3, 176, 0, 11), (.ireturn, 1, 0, 0, 0)], 85)]
set_option maxRecDepth 100000 in
theorem ok_X11_copy : pm_oks 11 false 5 (some .int) cX11_copy bk_X11_copy = true := oksG_ok (by decide +kernel)
set_option maxRecDepth 100000 in
theorem me_X11_copy : pm_me 192 = (yX11_copy, cX11_copy, 5, (some .int), 3, 0) := pm_mq_ok rfl
theorem mt_X11_copy {l : Launch} {g : pm_G} {d mc ms : Nat} {as : List Value} {A : pm_H} {Q : Option Value → pm_H → Prop} (hca : pm_cat 5 as = true) (body : ∀ J : pm_J, pm_Cl l g (fun _ => none) d mc ms (pm_Rq mc ms Q) bk_X11_copy J → J 0 (pm_l0 5 as) [] A 0 0) : pm_Mt l g 192 d mc ms as A Q := pm_Mt_of (isI := false) 11 bk_X11_copy me_X11_copy (plainFor_of_name plX11) rfl (fun h => by cases h) ok_X11_copy hca body
noncomputable def bk_X11_draw : pm_B := [(0, [(.iload_n 1, 1, 1, 0, 0), (.iconst 0, 1, 0, 0, 0), (.sipush 9999, 3, 0, 0, 9999), (.invokestatic 74, 3, 169, 3, 0), (.ifCond .eq 32, 3, 40, 0, 0), (.iload_n 2, 1, 2, 0, 0), (.iconst 1, 1, 0, 0, 1), (.sipush 160, 3, 0, 0, 160), (.invokestatic 74, 3, 169, 3, 0), (.ifCond .eq 21, 3, 40, 0, 0), (.iload_n 3, 1, 3, 0, 0), (.iconst 1, 1, 0, 0, 1), (.bipush 24, 2, 0, 0, 24), (.invokestatic 74, 3, 169, 3, 0), (.ifCond .eq 11, 3, 40, 0, 0), (.aload_n 0, 1, 0, 0, 0), (.iload_n 2, 1, 2, 0, 0), (.invokevirtual 133, 3, 184, 1, 11), (.ifCond .ne 5, 3, 42, 0, 0)], 40),
  (40, [(.iconst (-1), 1, 0, 0, -1), (.ireturn, 1, 0, 0, 0)], 42),
  (42, [(.aload_n 0, 1, 0, 0, 0), (.invokevirtual 112, 3, 172, 0, 11), (.aload_n 0, 1, 0, 0, 0), (.iconst 0, 1, 0, 0, 0), (.aload_n 0, 1, 0, 0, 0), (.getfield 70, 3, 11, 7, 0), (.invokevirtual 136, 3, 185, 2, 11), (.iload_n 1, 1, 1, 0, 0), (.istore 4, 2, 4, 0, 0), (.iconst 0, 1, 0, 0, 0), (.istore 5, 2, 5, 0, 0)], 61),
  (61, [(.iload 5, 2, 5, 0, 0), (.iload_n 2, 1, 2, 0, 0), (.if_icmp .ge 32, 3, 96, 0, 0), (.sipush 137, 3, 0, 0, 137), (.iload 4, 2, 4, 0, 0), (.imul, 1, 0, 0, 0), (.bipush 71, 2, 0, 0, 71), (.iadd, 1, 0, 0, 0), (.sipush 10007, 3, 0, 0, 10007), (.irem, 1, 0, 0, 0), (.istore 4, 2, 4, 0, 0), (.aload_n 0, 1, 0, 0, 0), (.iload 4, 2, 4, 0, 0), (.iload_n 3, 1, 3, 0, 0), (.irem, 1, 0, 0, 0), (.invokevirtual 139, 3, 186, 1, 11), (.iinc 5 1, 3, 5, 0, 1), (.goto (-32), 3, 61, 0, 0)], 96),
  (96, [(.aload_n 0, 1, 0, 0, 0), (.invokevirtual 115, 3, 176, 0, 11), (.ireturn, 1, 0, 0, 0)], 101)]
set_option maxRecDepth 100000 in
theorem ok_X11_draw : pm_oks 11 false 6 (some .int) cX11_draw bk_X11_draw = true := oksG_ok (by decide +kernel)
set_option maxRecDepth 100000 in
theorem me_X11_draw : pm_me 193 = (yX11_draw, cX11_draw, 6, (some .int), 3, 0) := pm_mq_ok rfl
theorem mt_X11_draw {l : Launch} {g : pm_G} {d mc ms : Nat} {as : List Value} {A : pm_H} {Q : Option Value → pm_H → Prop} (hca : pm_cat 6 as = true) (body : ∀ J : pm_J, pm_Cl l g (fun _ => none) d mc ms (pm_Rq mc ms Q) bk_X11_draw J → J 0 (pm_l0 6 as) [] A 0 0) : pm_Mt l g 193 d mc ms as A Q := pm_Mt_of (isI := false) 11 bk_X11_draw me_X11_draw (plainFor_of_name plX11) rfl (fun h => by cases h) ok_X11_draw hca body
noncomputable def bk_X11_weigh : pm_B := [(0, [(.iload_n 1, 1, 1, 0, 0), (.invokestatic 122, 3, 170, 1, 0), (.ifCond .eq 14, 3, 18, 0, 0), (.iload_n 2, 1, 2, 0, 0), (.iconst 0, 1, 0, 0, 0), (.sipush 999, 3, 0, 0, 999), (.invokestatic 74, 3, 169, 3, 0), (.ifCond .ne 5, 3, 20, 0, 0)], 18),
  (18, [(.iconst (-1), 1, 0, 0, -1), (.ireturn, 1, 0, 0, 0)], 20),
  (20, [(.aload_n 0, 1, 0, 0, 0), (.getfield 16, 3, 11, 2, 0), (.iload_n 1, 1, 1, 0, 0), (.iaload, 1, 0, 0, 0), (.istore_n 3, 1, 3, 0, 0), (.aload_n 0, 1, 0, 0, 0), (.getfield 16, 3, 11, 2, 0), (.iload_n 1, 1, 1, 0, 0), (.iload_n 2, 1, 2, 0, 0), (.iastore, 1, 0, 0, 0), (.iload_n 3, 1, 3, 0, 0), (.ireturn, 1, 0, 0, 0)], 36)]
set_option maxRecDepth 100000 in
theorem ok_X11_weigh : pm_oks 11 false 4 (some .int) cX11_weigh bk_X11_weigh = true := oksG_ok (by decide +kernel)
set_option maxRecDepth 100000 in
theorem me_X11_weigh : pm_me 194 = (yX11_weigh, cX11_weigh, 4, (some .int), 2, 0) := pm_mq_ok rfl
theorem mt_X11_weigh {l : Launch} {g : pm_G} {d mc ms : Nat} {as : List Value} {A : pm_H} {Q : Option Value → pm_H → Prop} (hca : pm_cat 4 as = true) (body : ∀ J : pm_J, pm_Cl l g (fun _ => none) d mc ms (pm_Rq mc ms Q) bk_X11_weigh J → J 0 (pm_l0 4 as) [] A 0 0) : pm_Mt l g 194 d mc ms as A Q := pm_Mt_of (isI := false) 11 bk_X11_weigh me_X11_weigh (plainFor_of_name plX11) rfl (fun h => by cases h) ok_X11_weigh hca body
noncomputable def bk_X11_at : pm_B := [(0, [(.aload_n 0, 1, 0, 0, 0), (.iload_n 1, 1, 1, 0, 0), (.invokevirtual 119, 3, 168, 1, 11), (.ifCond .ne 5, 3, 10, 0, 0), (.iconst (-1), 1, 0, 0, -1), (.ireturn, 1, 0, 0, 0)], 10),
  (10, [(.iload_n 2, 1, 2, 0, 0), (.tableswitch 72 0 3 #[29, 36, 43, 49], 29, 11, 0, 0)], 40),
  (40, [(.aload_n 0, 1, 0, 0, 0), (.getfield 7, 3, 11, 0, 0), (.iload_n 1, 1, 1, 0, 0), (.iaload, 1, 0, 0, 0), (.ireturn, 1, 0, 0, 0)], 47),
  (47, [(.aload_n 0, 1, 0, 0, 0), (.getfield 13, 3, 11, 1, 0), (.iload_n 1, 1, 1, 0, 0), (.iaload, 1, 0, 0, 0), (.ireturn, 1, 0, 0, 0)], 54),
  (54, [(.aload_n 0, 1, 0, 0, 0), (.iload_n 1, 1, 1, 0, 0), (.invokevirtual 85, 3, 173, 1, 11), (.ireturn, 1, 0, 0, 0)], 60),
  (60, [(.aload_n 0, 1, 0, 0, 0), (.iload_n 1, 1, 1, 0, 0), (.invokevirtual 142, 3, 196, 1, 11), (.ifCond .ge 7, 3, 72, 0, 0), (.iconst (-1), 1, 0, 0, -1), (.goto 13, 3, 82, 0, 0)], 72),
  (72, [(.aload_n 0, 1, 0, 0, 0), (.getfield 13, 3, 11, 1, 0), (.aload_n 0, 1, 0, 0, 0), (.iload_n 1, 1, 1, 0, 0), (.invokevirtual 142, 3, 196, 1, 11), (.iaload, 1, 0, 0, 0)], 82),
  (82, [(.ireturn, 1, 0, 0, 0)], 83),
  (83, [(.iconst (-1), 1, 0, 0, -1), (.ireturn, 1, 0, 0, 0)], 85)]
set_option maxRecDepth 100000 in
theorem ok_X11_at : pm_oks 11 false 3 (some .int) cX11_at bk_X11_at = true := oksG_ok (by decide +kernel)
set_option maxRecDepth 100000 in
theorem me_X11_at : pm_me 195 = (yX11_at, cX11_at, 3, (some .int), 2, 0) := pm_mq_ok rfl
theorem mt_X11_at {l : Launch} {g : pm_G} {d mc ms : Nat} {as : List Value} {A : pm_H} {Q : Option Value → pm_H → Prop} (hca : pm_cat 3 as = true) (body : ∀ J : pm_J, pm_Cl l g (fun _ => none) d mc ms (pm_Rq mc ms Q) bk_X11_at J → J 0 (pm_l0 3 as) [] A 0 0) : pm_Mt l g 195 d mc ms as A Q := pm_Mt_of (isI := false) 11 bk_X11_at me_X11_at (plainFor_of_name plX11) rfl (fun h => by cases h) ok_X11_at hca body
noncomputable def bk_X11_behind : pm_B := [(0, [(.iload_n 1, 1, 1, 0, 0), (.iconst 1, 1, 0, 0, 1), (.iadd, 1, 0, 0, 0), (.istore_n 2, 1, 2, 0, 0)], 4),
  (4, [(.iload_n 2, 1, 2, 0, 0), (.aload_n 0, 1, 0, 0, 0), (.getfield 70, 3, 11, 7, 0), (.if_icmp .ge 26, 3, 35, 0, 0), (.aload_n 0, 1, 0, 0, 0), (.getfield 7, 3, 11, 0, 0), (.iload_n 2, 1, 2, 0, 0), (.iaload, 1, 0, 0, 0), (.aload_n 0, 1, 0, 0, 0), (.getfield 7, 3, 11, 0, 0), (.iload_n 1, 1, 1, 0, 0), (.iaload, 1, 0, 0, 0), (.if_icmp .ne 5, 3, 29, 0, 0), (.iload_n 2, 1, 2, 0, 0), (.ireturn, 1, 0, 0, 0)], 29),
  (29, [(.iinc 2 1, 3, 2, 0, 1), (.goto (-28), 3, 4, 0, 0)], 35),
  (35, [(.iconst (-1), 1, 0, 0, -1), (.ireturn, 1, 0, 0, 0)], 37)]
set_option maxRecDepth 100000 in
theorem ok_X11_behind : pm_oks 11 false 3 (some .int) cX11_behind bk_X11_behind = true := oksG_ok (by decide +kernel)
set_option maxRecDepth 100000 in
theorem me_X11_behind : pm_me 196 = (yX11_behind, cX11_behind, 3, (some .int), 1, 0) := pm_mq_ok rfl
theorem mt_X11_behind {l : Launch} {g : pm_G} {d mc ms : Nat} {as : List Value} {A : pm_H} {Q : Option Value → pm_H → Prop} (hca : pm_cat 3 as = true) (body : ∀ J : pm_J, pm_Cl l g (fun _ => none) d mc ms (pm_Rq mc ms Q) bk_X11_behind J → J 0 (pm_l0 3 as) [] A 0 0) : pm_Mt l g 196 d mc ms as A Q := pm_Mt_of (isI := false) 11 bk_X11_behind me_X11_behind (plainFor_of_name plX11) rfl (fun h => by cases h) ok_X11_behind hca body
noncomputable def bk_X11_place : pm_B := [(0, [(.iload_n 1, 1, 1, 0, 0), (.ifCond .ge 7, 3, 8, 0, 0), (.iconst (-1), 1, 0, 0, -1), (.goto 8, 3, 13, 0, 0)], 8),
  (8, [(.aload_n 0, 1, 0, 0, 0), (.iload_n 1, 1, 1, 0, 0), (.invokevirtual 145, 3, 198, 1, 11)], 13),
  (13, [(.ireturn, 1, 0, 0, 0)], 14)]
set_option maxRecDepth 100000 in
theorem ok_X11_place : pm_oks 11 false 2 (some .int) cX11_place bk_X11_place = true := oksG_ok (by decide +kernel)
set_option maxRecDepth 100000 in
theorem me_X11_place : pm_me 197 = (yX11_place, cX11_place, 2, (some .int), 1, 0) := pm_mq_ok rfl
theorem mt_X11_place {l : Launch} {g : pm_G} {d mc ms : Nat} {as : List Value} {A : pm_H} {Q : Option Value → pm_H → Prop} (hca : pm_cat 2 as = true) (body : ∀ J : pm_J, pm_Cl l g (fun _ => none) d mc ms (pm_Rq mc ms Q) bk_X11_place J → J 0 (pm_l0 2 as) [] A 0 0) : pm_Mt l g 197 d mc ms as A Q := pm_Mt_of (isI := false) 11 bk_X11_place me_X11_place (plainFor_of_name plX11) rfl (fun h => by cases h) ok_X11_place hca body
noncomputable def bk_X11_placeOf : pm_B := [(0, [(.iconst 0, 1, 0, 0, 0), (.istore_n 2, 1, 2, 0, 0)], 2),
  (2, [(.iload_n 2, 1, 2, 0, 0), (.aload_n 0, 1, 0, 0, 0), (.getfield 70, 3, 11, 7, 0), (.if_icmp .ge 21, 3, 28, 0, 0), (.aload_n 0, 1, 0, 0, 0), (.getfield 13, 3, 11, 1, 0), (.iload_n 2, 1, 2, 0, 0), (.iaload, 1, 0, 0, 0), (.iload_n 1, 1, 1, 0, 0), (.if_icmp .ne 5, 3, 22, 0, 0), (.iload_n 2, 1, 2, 0, 0), (.ireturn, 1, 0, 0, 0)], 22),
  (22, [(.iinc 2 1, 3, 2, 0, 1), (.goto (-23), 3, 2, 0, 0)], 28),
  (28, [(.iconst (-1), 1, 0, 0, -1), (.ireturn, 1, 0, 0, 0)], 30)]
set_option maxRecDepth 100000 in
theorem ok_X11_placeOf : pm_oks 11 false 3 (some .int) cX11_placeOf bk_X11_placeOf = true := oksG_ok (by decide +kernel)
set_option maxRecDepth 100000 in
theorem me_X11_placeOf : pm_me 198 = (yX11_placeOf, cX11_placeOf, 3, (some .int), 1, 0) := pm_mq_ok rfl
theorem mt_X11_placeOf {l : Launch} {g : pm_G} {d mc ms : Nat} {as : List Value} {A : pm_H} {Q : Option Value → pm_H → Prop} (hca : pm_cat 3 as = true) (body : ∀ J : pm_J, pm_Cl l g (fun _ => none) d mc ms (pm_Rq mc ms Q) bk_X11_placeOf J → J 0 (pm_l0 3 as) [] A 0 0) : pm_Mt l g 198 d mc ms as A Q := pm_Mt_of (isI := false) 11 bk_X11_placeOf me_X11_placeOf (plainFor_of_name plX11) rfl (fun h => by cases h) ok_X11_placeOf hca body
noncomputable def bk_X11_colour : pm_B := [(0, [(.iload_n 1, 1, 1, 0, 0), (.invokestatic 122, 3, 170, 1, 0), (.ifCond .ne 5, 3, 9, 0, 0), (.iconst (-1), 1, 0, 0, -1), (.ireturn, 1, 0, 0, 0)], 9),
  (9, [(.iload_n 2, 1, 2, 0, 0), (.tableswitch 72 0 4 #[34, 47, 54, 60, 66], 34, 10, 0, 0)], 44),
  (44, [(.aload_n 0, 1, 0, 0, 0), (.iconst 0, 1, 0, 0, 0), (.aload_n 0, 1, 0, 0, 0), (.getfield 70, 3, 11, 7, 0), (.iconst 1, 1, 0, 0, 1), (.isub, 1, 0, 0, 0), (.iload_n 1, 1, 1, 0, 0), (.invokevirtual 148, 3, 200, 3, 11), (.ireturn, 1, 0, 0, 0)], 57),
  (57, [(.aload_n 0, 1, 0, 0, 0), (.getfield 16, 3, 11, 2, 0), (.iload_n 1, 1, 1, 0, 0), (.iaload, 1, 0, 0, 0), (.ireturn, 1, 0, 0, 0)], 64),
  (64, [(.aload_n 0, 1, 0, 0, 0), (.iload_n 1, 1, 1, 0, 0), (.invokevirtual 152, 3, 201, 1, 11), (.ireturn, 1, 0, 0, 0)], 70),
  (70, [(.aload_n 0, 1, 0, 0, 0), (.iload_n 1, 1, 1, 0, 0), (.invokevirtual 155, 3, 202, 1, 11), (.ireturn, 1, 0, 0, 0)], 76),
  (76, [(.aload_n 0, 1, 0, 0, 0), (.iload_n 1, 1, 1, 0, 0), (.invokevirtual 158, 3, 203, 1, 11), (.ireturn, 1, 0, 0, 0)], 82),
  (82, [(.iconst (-1), 1, 0, 0, -1), (.ireturn, 1, 0, 0, 0)], 84)]
set_option maxRecDepth 100000 in
theorem ok_X11_colour : pm_oks 11 false 3 (some .int) cX11_colour bk_X11_colour = true := oksG_ok (by decide +kernel)
set_option maxRecDepth 100000 in
theorem me_X11_colour : pm_me 199 = (yX11_colour, cX11_colour, 3, (some .int), 2, 0) := pm_mq_ok rfl
theorem mt_X11_colour {l : Launch} {g : pm_G} {d mc ms : Nat} {as : List Value} {A : pm_H} {Q : Option Value → pm_H → Prop} (hca : pm_cat 3 as = true) (body : ∀ J : pm_J, pm_Cl l g (fun _ => none) d mc ms (pm_Rq mc ms Q) bk_X11_colour J → J 0 (pm_l0 3 as) [] A 0 0) : pm_Mt l g 199 d mc ms as A Q := pm_Mt_of (isI := false) 11 bk_X11_colour me_X11_colour (plainFor_of_name plX11) rfl (fun h => by cases h) ok_X11_colour hca body
noncomputable def bk_X11_timesIn : pm_B := [(0, [(.iconst 0, 1, 0, 0, 0), (.istore 4, 2, 4, 0, 0), (.iload_n 1, 1, 1, 0, 0), (.istore 5, 2, 5, 0, 0)], 6),
  (6, [(.iload 5, 2, 5, 0, 0), (.iload_n 2, 1, 2, 0, 0), (.if_icmp .gt 30, 3, 39, 0, 0), (.iload 4, 2, 4, 0, 0), (.aload_n 0, 1, 0, 0, 0), (.getfield 7, 3, 11, 0, 0), (.iload 5, 2, 5, 0, 0), (.iaload, 1, 0, 0, 0), (.iload_n 3, 1, 3, 0, 0), (.if_icmp .ne 7, 3, 29, 0, 0), (.iconst 1, 1, 0, 0, 1), (.goto 4, 3, 30, 0, 0)], 29),
  (29, [(.iconst 0, 1, 0, 0, 0)], 30),
  (30, [(.iadd, 1, 0, 0, 0), (.istore 4, 2, 4, 0, 0), (.iinc 5 1, 3, 5, 0, 1), (.goto (-30), 3, 6, 0, 0)], 39),
  (39, [(.iload 4, 2, 4, 0, 0), (.ireturn, 1, 0, 0, 0)], 42)]
set_option maxRecDepth 100000 in
theorem ok_X11_timesIn : pm_oks 11 false 6 (some .int) cX11_timesIn bk_X11_timesIn = true := oksG_ok (by decide +kernel)
set_option maxRecDepth 100000 in
theorem me_X11_timesIn : pm_me 200 = (yX11_timesIn, cX11_timesIn, 6, (some .int), 3, 0) := pm_mq_ok rfl
theorem mt_X11_timesIn {l : Launch} {g : pm_G} {d mc ms : Nat} {as : List Value} {A : pm_H} {Q : Option Value → pm_H → Prop} (hca : pm_cat 6 as = true) (body : ∀ J : pm_J, pm_Cl l g (fun _ => none) d mc ms (pm_Rq mc ms Q) bk_X11_timesIn J → J 0 (pm_l0 6 as) [] A 0 0) : pm_Mt l g 200 d mc ms as A Q := pm_Mt_of (isI := false) 11 bk_X11_timesIn me_X11_timesIn (plainFor_of_name plX11) rfl (fun h => by cases h) ok_X11_timesIn hca body
noncomputable def bk_X11_first : pm_B := [(0, [(.iconst 0, 1, 0, 0, 0), (.istore_n 2, 1, 2, 0, 0)], 2),
  (2, [(.iload_n 2, 1, 2, 0, 0), (.aload_n 0, 1, 0, 0, 0), (.getfield 70, 3, 11, 7, 0), (.if_icmp .ge 21, 3, 28, 0, 0), (.aload_n 0, 1, 0, 0, 0), (.getfield 7, 3, 11, 0, 0), (.iload_n 2, 1, 2, 0, 0), (.iaload, 1, 0, 0, 0), (.iload_n 1, 1, 1, 0, 0), (.if_icmp .ne 5, 3, 22, 0, 0), (.iload_n 2, 1, 2, 0, 0), (.ireturn, 1, 0, 0, 0)], 22),
  (22, [(.iinc 2 1, 3, 2, 0, 1), (.goto (-23), 3, 2, 0, 0)], 28),
  (28, [(.iconst (-1), 1, 0, 0, -1), (.ireturn, 1, 0, 0, 0)], 30)]
set_option maxRecDepth 100000 in
theorem ok_X11_first : pm_oks 11 false 3 (some .int) cX11_first bk_X11_first = true := oksG_ok (by decide +kernel)
set_option maxRecDepth 100000 in
theorem me_X11_first : pm_me 201 = (yX11_first, cX11_first, 3, (some .int), 1, 0) := pm_mq_ok rfl
theorem mt_X11_first {l : Launch} {g : pm_G} {d mc ms : Nat} {as : List Value} {A : pm_H} {Q : Option Value → pm_H → Prop} (hca : pm_cat 3 as = true) (body : ∀ J : pm_J, pm_Cl l g (fun _ => none) d mc ms (pm_Rq mc ms Q) bk_X11_first J → J 0 (pm_l0 3 as) [] A 0 0) : pm_Mt l g 201 d mc ms as A Q := pm_Mt_of (isI := false) 11 bk_X11_first me_X11_first (plainFor_of_name plX11) rfl (fun h => by cases h) ok_X11_first hca body
noncomputable def bk_X11_last : pm_B := [(0, [(.aload_n 0, 1, 0, 0, 0), (.getfield 70, 3, 11, 7, 0), (.iconst 1, 1, 0, 0, 1), (.isub, 1, 0, 0, 0), (.istore_n 2, 1, 2, 0, 0)], 7),
  (7, [(.iload_n 2, 1, 2, 0, 0), (.ifCond .lt 21, 3, 29, 0, 0), (.aload_n 0, 1, 0, 0, 0), (.getfield 7, 3, 11, 0, 0), (.iload_n 2, 1, 2, 0, 0), (.iaload, 1, 0, 0, 0), (.iload_n 1, 1, 1, 0, 0), (.if_icmp .ne 5, 3, 23, 0, 0), (.iload_n 2, 1, 2, 0, 0), (.ireturn, 1, 0, 0, 0)], 23),
  (23, [(.iinc 2 (-1), 3, 2, 0, -1), (.goto (-19), 3, 7, 0, 0)], 29),
  (29, [(.iconst (-1), 1, 0, 0, -1), (.ireturn, 1, 0, 0, 0)], 31)]
set_option maxRecDepth 100000 in
theorem ok_X11_last : pm_oks 11 false 3 (some .int) cX11_last bk_X11_last = true := oksG_ok (by decide +kernel)
set_option maxRecDepth 100000 in
theorem me_X11_last : pm_me 202 = (yX11_last, cX11_last, 3, (some .int), 1, 0) := pm_mq_ok rfl
theorem mt_X11_last {l : Launch} {g : pm_G} {d mc ms : Nat} {as : List Value} {A : pm_H} {Q : Option Value → pm_H → Prop} (hca : pm_cat 3 as = true) (body : ∀ J : pm_J, pm_Cl l g (fun _ => none) d mc ms (pm_Rq mc ms Q) bk_X11_last J → J 0 (pm_l0 3 as) [] A 0 0) : pm_Mt l g 202 d mc ms as A Q := pm_Mt_of (isI := false) 11 bk_X11_last me_X11_last (plainFor_of_name plX11) rfl (fun h => by cases h) ok_X11_last hca body
noncomputable def bk_X11_widest : pm_B := [(0, [(.iconst (-1), 1, 0, 0, -1), (.istore_n 2, 1, 2, 0, 0), (.iconst 0, 1, 0, 0, 0), (.istore_n 3, 1, 3, 0, 0)], 4),
  (4, [(.iload_n 3, 1, 3, 0, 0), (.aload_n 0, 1, 0, 0, 0), (.getfield 70, 3, 11, 7, 0), (.if_icmp .ge 50, 3, 59, 0, 0), (.aload_n 0, 1, 0, 0, 0), (.getfield 7, 3, 11, 0, 0), (.iload_n 3, 1, 3, 0, 0), (.iaload, 1, 0, 0, 0), (.iload_n 1, 1, 1, 0, 0), (.if_icmp .ne 34, 3, 53, 0, 0), (.aload_n 0, 1, 0, 0, 0), (.iload_n 3, 1, 3, 0, 0), (.invokevirtual 78, 3, 174, 1, 11), (.ifCond .lt 26, 3, 53, 0, 0), (.iload_n 3, 1, 3, 0, 0), (.aload_n 0, 1, 0, 0, 0), (.iload_n 3, 1, 3, 0, 0), (.invokevirtual 78, 3, 174, 1, 11), (.isub, 1, 0, 0, 0), (.iconst 1, 1, 0, 0, 1), (.isub, 1, 0, 0, 0), (.iload_n 2, 1, 2, 0, 0), (.if_icmp .le 13, 3, 53, 0, 0), (.iload_n 3, 1, 3, 0, 0), (.aload_n 0, 1, 0, 0, 0), (.iload_n 3, 1, 3, 0, 0), (.invokevirtual 78, 3, 174, 1, 11), (.isub, 1, 0, 0, 0), (.iconst 1, 1, 0, 0, 1), (.isub, 1, 0, 0, 0), (.istore_n 2, 1, 2, 0, 0)], 53),
  (53, [(.iinc 3 1, 3, 3, 0, 1), (.goto (-52), 3, 4, 0, 0)], 59),
  (59, [(.iload_n 2, 1, 2, 0, 0), (.ireturn, 1, 0, 0, 0)], 61)]
set_option maxRecDepth 100000 in
theorem ok_X11_widest : pm_oks 11 false 4 (some .int) cX11_widest bk_X11_widest = true := oksG_ok (by decide +kernel)
set_option maxRecDepth 100000 in
theorem me_X11_widest : pm_me 203 = (yX11_widest, cX11_widest, 4, (some .int), 1, 0) := pm_mq_ok rfl
theorem mt_X11_widest {l : Launch} {g : pm_G} {d mc ms : Nat} {as : List Value} {A : pm_H} {Q : Option Value → pm_H → Prop} (hca : pm_cat 4 as = true) (body : ∀ J : pm_J, pm_Cl l g (fun _ => none) d mc ms (pm_Rq mc ms Q) bk_X11_widest J → J 0 (pm_l0 4 as) [] A 0 0) : pm_Mt l g 203 d mc ms as A Q := pm_Mt_of (isI := false) 11 bk_X11_widest me_X11_widest (plainFor_of_name plX11) rfl (fun h => by cases h) ok_X11_widest hca body
noncomputable def bk_X11_nth : pm_B := [(0, [(.iload_n 2, 1, 2, 0, 0), (.istore_n 3, 1, 3, 0, 0), (.iconst 0, 1, 0, 0, 0), (.istore 4, 2, 4, 0, 0)], 5),
  (5, [(.iload 4, 2, 4, 0, 0), (.aload_n 0, 1, 0, 0, 0), (.getfield 70, 3, 11, 7, 0), (.if_icmp .ge 37, 3, 48, 0, 0), (.iload_n 2, 1, 2, 0, 0), (.ifCond .lt 33, 3, 48, 0, 0), (.aload_n 0, 1, 0, 0, 0), (.getfield 7, 3, 11, 0, 0), (.iload 4, 2, 4, 0, 0), (.iaload, 1, 0, 0, 0), (.iload_n 1, 1, 1, 0, 0), (.if_icmp .eq 6, 3, 32, 0, 0), (.goto 13, 3, 42, 0, 0)], 32),
  (32, [(.iload_n 3, 1, 3, 0, 0), (.ifCond .ne 6, 3, 39, 0, 0), (.iload 4, 2, 4, 0, 0), (.ireturn, 1, 0, 0, 0)], 39),
  (39, [(.iinc 3 (-1), 3, 3, 0, -1)], 42),
  (42, [(.iinc 4 1, 3, 4, 0, 1), (.goto (-40), 3, 5, 0, 0)], 48),
  (48, [(.iconst (-1), 1, 0, 0, -1), (.ireturn, 1, 0, 0, 0)], 50)]
set_option maxRecDepth 100000 in
theorem ok_X11_nth : pm_oks 11 false 5 (some .int) cX11_nth bk_X11_nth = true := oksG_ok (by decide +kernel)
set_option maxRecDepth 100000 in
theorem me_X11_nth : pm_me 204 = (yX11_nth, cX11_nth, 5, (some .int), 2, 0) := pm_mq_ok rfl
theorem mt_X11_nth {l : Launch} {g : pm_G} {d mc ms : Nat} {as : List Value} {A : pm_H} {Q : Option Value → pm_H → Prop} (hca : pm_cat 5 as = true) (body : ∀ J : pm_J, pm_Cl l g (fun _ => none) d mc ms (pm_Rq mc ms Q) bk_X11_nth J → J 0 (pm_l0 5 as) [] A 0 0) : pm_Mt l g 204 d mc ms as A Q := pm_Mt_of (isI := false) 11 bk_X11_nth me_X11_nth (plainFor_of_name plX11) rfl (fun h => by cases h) ok_X11_nth hca body
noncomputable def bk_X11_about : pm_B := [(0, [(.iload_n 1, 1, 1, 0, 0), (.tableswitch 79 0 5 #[39, 44, 59, 64, 69, 74], 39, 1, 0, 0)], 40),
  (40, [(.aload_n 0, 1, 0, 0, 0), (.getfield 70, 3, 11, 7, 0), (.ireturn, 1, 0, 0, 0)], 45),
  (45, [(.aload_n 0, 1, 0, 0, 0), (.iconst 0, 1, 0, 0, 0), (.aload_n 0, 1, 0, 0, 0), (.getfield 70, 3, 11, 7, 0), (.iconst 1, 1, 0, 0, 1), (.isub, 1, 0, 0, 0), (.invokevirtual 161, 3, 206, 2, 11), (.invokestatic 165, 3, 207, 1, 0), (.ireturn, 1, 0, 0, 0)], 60),
  (60, [(.aload_n 0, 1, 0, 0, 0), (.getfield 95, 3, 11, 10, 0), (.ireturn, 1, 0, 0, 0)], 65),
  (65, [(.aload_n 0, 1, 0, 0, 0), (.getfield 102, 3, 11, 11, 0), (.ireturn, 1, 0, 0, 0)], 70),
  (70, [(.aload_n 0, 1, 0, 0, 0), (.getfield 105, 3, 11, 12, 0), (.ireturn, 1, 0, 0, 0)], 75),
  (75, [(.aload_n 0, 1, 0, 0, 0), (.getfield 168, 3, 11, 17, 0), (.ireturn, 1, 0, 0, 0)], 80),
  (80, [(.iconst (-1), 1, 0, 0, -1), (.ireturn, 1, 0, 0, 0)], 82)]
set_option maxRecDepth 100000 in
theorem ok_X11_about : pm_oks 11 false 2 (some .int) cX11_about bk_X11_about = true := oksG_ok (by decide +kernel)
set_option maxRecDepth 100000 in
theorem me_X11_about : pm_me 205 = (yX11_about, cX11_about, 2, (some .int), 1, 0) := pm_mq_ok rfl
theorem mt_X11_about {l : Launch} {g : pm_G} {d mc ms : Nat} {as : List Value} {A : pm_H} {Q : Option Value → pm_H → Prop} (hca : pm_cat 2 as = true) (body : ∀ J : pm_J, pm_Cl l g (fun _ => none) d mc ms (pm_Rq mc ms Q) bk_X11_about J → J 0 (pm_l0 2 as) [] A 0 0) : pm_Mt l g 205 d mc ms as A Q := pm_Mt_of (isI := false) 11 bk_X11_about me_X11_about (plainFor_of_name plX11) rfl (fun h => by cases h) ok_X11_about hca body
noncomputable def bk_X11_setOf : pm_B := [(0, [(.iconst 0, 1, 0, 0, 0), (.istore_n 3, 1, 3, 0, 0), (.iload_n 1, 1, 1, 0, 0), (.istore 4, 2, 4, 0, 0)], 5),
  (5, [(.iload 4, 2, 4, 0, 0), (.iload_n 2, 1, 2, 0, 0), (.if_icmp .gt 21, 3, 29, 0, 0), (.iload_n 3, 1, 3, 0, 0), (.iconst 1, 1, 0, 0, 1), (.aload_n 0, 1, 0, 0, 0), (.getfield 7, 3, 11, 0, 0), (.iload 4, 2, 4, 0, 0), (.iaload, 1, 0, 0, 0), (.ishl, 1, 0, 0, 0), (.ior, 1, 0, 0, 0), (.istore_n 3, 1, 3, 0, 0), (.iinc 4 1, 3, 4, 0, 1), (.goto (-21), 3, 5, 0, 0)], 29),
  (29, [(.iload_n 3, 1, 3, 0, 0), (.ireturn, 1, 0, 0, 0)], 31)]
set_option maxRecDepth 100000 in
theorem ok_X11_setOf : pm_oks 11 false 5 (some .int) cX11_setOf bk_X11_setOf = true := oksG_ok (by decide +kernel)
set_option maxRecDepth 100000 in
theorem me_X11_setOf : pm_me 206 = (yX11_setOf, cX11_setOf, 5, (some .int), 2, 0) := pm_mq_ok rfl
theorem mt_X11_setOf {l : Launch} {g : pm_G} {d mc ms : Nat} {as : List Value} {A : pm_H} {Q : Option Value → pm_H → Prop} (hca : pm_cat 5 as = true) (body : ∀ J : pm_J, pm_Cl l g (fun _ => none) d mc ms (pm_Rq mc ms Q) bk_X11_setOf J → J 0 (pm_l0 5 as) [] A 0 0) : pm_Mt l g 206 d mc ms as A Q := pm_Mt_of (isI := false) 11 bk_X11_setOf me_X11_setOf (plainFor_of_name plX11) rfl (fun h => by cases h) ok_X11_setOf hca body
noncomputable def bk_X11_bits : pm_B := [(0, [(.iconst 0, 1, 0, 0, 0), (.istore_n 1, 1, 1, 0, 0), (.iload_n 0, 1, 0, 0, 0), (.istore_n 2, 1, 2, 0, 0)], 4),
  (4, [(.iload_n 2, 1, 2, 0, 0), (.ifCond .eq 15, 3, 20, 0, 0), (.iinc 1 1, 3, 1, 0, 1), (.iload_n 2, 1, 2, 0, 0), (.iload_n 2, 1, 2, 0, 0), (.iconst 1, 1, 0, 0, 1), (.isub, 1, 0, 0, 0), (.iand, 1, 0, 0, 0), (.istore_n 2, 1, 2, 0, 0), (.goto (-13), 3, 4, 0, 0)], 20),
  (20, [(.iload_n 1, 1, 1, 0, 0), (.ireturn, 1, 0, 0, 0)], 22)]
set_option maxRecDepth 100000 in
theorem ok_X11_bits : pm_oks 11 false 3 (some .int) cX11_bits bk_X11_bits = true := oksG_ok (by decide +kernel)
set_option maxRecDepth 100000 in
theorem me_X11_bits : pm_me 207 = (yX11_bits, cX11_bits, 3, (some .int), 1, 1) := pm_mq_ok rfl
theorem mt_X11_bits {l : Launch} {g : pm_G} {d mc ms : Nat} {as : List Value} {A : pm_H} {Q : Option Value → pm_H → Prop} (hca : pm_cat 3 as = true) (body : ∀ J : pm_J, pm_Cl l g (fun _ => none) d mc ms (pm_Rq mc ms Q) bk_X11_bits J → J 0 (pm_l0 3 as) [] A 0 0) : pm_Mt l g 207 d mc ms as A Q := pm_Mt_of (isI := false) 11 bk_X11_bits me_X11_bits (plainFor_of_name plX11) rfl (fun h => by cases h) ok_X11_bits hca body
noncomputable def bk_X11_count : pm_B := [(0, [(.aload_n 0, 1, 0, 0, 0), (.iload_n 1, 1, 1, 0, 0), (.iload_n 2, 1, 2, 0, 0), (.invokevirtual 129, 3, 180, 2, 11), (.ifCond .eq 12, 3, 18, 0, 0), (.aload_n 0, 1, 0, 0, 0), (.iload_n 1, 1, 1, 0, 0), (.iload_n 2, 1, 2, 0, 0), (.invokevirtual 171, 3, 209, 2, 11), (.goto 4, 3, 19, 0, 0)], 18),
  (18, [(.iconst (-1), 1, 0, 0, -1)], 19),
  (19, [(.ireturn, 1, 0, 0, 0)], 20)]
set_option maxRecDepth 100000 in
theorem ok_X11_count : pm_oks 11 false 3 (some .int) cX11_count bk_X11_count = true := oksG_ok (by decide +kernel)
set_option maxRecDepth 100000 in
theorem me_X11_count : pm_me 208 = (yX11_count, cX11_count, 3, (some .int), 2, 0) := pm_mq_ok rfl
theorem mt_X11_count {l : Launch} {g : pm_G} {d mc ms : Nat} {as : List Value} {A : pm_H} {Q : Option Value → pm_H → Prop} (hca : pm_cat 3 as = true) (body : ∀ J : pm_J, pm_Cl l g (fun _ => none) d mc ms (pm_Rq mc ms Q) bk_X11_count J → J 0 (pm_l0 3 as) [] A 0 0) : pm_Mt l g 208 d mc ms as A Q := pm_Mt_of (isI := false) 11 bk_X11_count me_X11_count (plainFor_of_name plX11) rfl (fun h => by cases h) ok_X11_count hca body
noncomputable def bk_X11_countOf : pm_B := [(0, [(.aload_n 0, 1, 0, 0, 0), (.iload_n 1, 1, 1, 0, 0), (.iload_n 2, 1, 2, 0, 0), (.invokevirtual 161, 3, 206, 2, 11), (.invokestatic 165, 3, 207, 1, 0), (.ireturn, 1, 0, 0, 0)], 10)]
set_option maxRecDepth 100000 in
theorem ok_X11_countOf : pm_oks 11 false 3 (some .int) cX11_countOf bk_X11_countOf = true := oksG_ok (by decide +kernel)
set_option maxRecDepth 100000 in
theorem me_X11_countOf : pm_me 209 = (yX11_countOf, cX11_countOf, 3, (some .int), 2, 0) := pm_mq_ok rfl
theorem mt_X11_countOf {l : Launch} {g : pm_G} {d mc ms : Nat} {as : List Value} {A : pm_H} {Q : Option Value → pm_H → Prop} (hca : pm_cat 3 as = true) (body : ∀ J : pm_J, pm_Cl l g (fun _ => none) d mc ms (pm_Rq mc ms Q) bk_X11_countOf J → J 0 (pm_l0 3 as) [] A 0 0) : pm_Mt l g 209 d mc ms as A Q := pm_Mt_of (isI := false) 11 bk_X11_countOf me_X11_countOf (plainFor_of_name plX11) rfl (fun h => by cases h) ok_X11_countOf hca body
noncomputable def bk_X11_weight : pm_B := [(0, [(.aload_n 0, 1, 0, 0, 0), (.iload_n 1, 1, 1, 0, 0), (.iload_n 2, 1, 2, 0, 0), (.invokevirtual 129, 3, 180, 2, 11), (.ifCond .eq 16, 3, 22, 0, 0), (.aload_n 0, 1, 0, 0, 0), (.aload_n 0, 1, 0, 0, 0), (.iload_n 1, 1, 1, 0, 0), (.iload_n 2, 1, 2, 0, 0), (.invokevirtual 161, 3, 206, 2, 11), (.invokevirtual 174, 3, 211, 1, 11), (.goto 4, 3, 23, 0, 0)], 22),
  (22, [(.iconst (-1), 1, 0, 0, -1)], 23),
  (23, [(.ireturn, 1, 0, 0, 0)], 24)]
set_option maxRecDepth 100000 in
theorem ok_X11_weight : pm_oks 11 false 3 (some .int) cX11_weight bk_X11_weight = true := oksG_ok (by decide +kernel)
set_option maxRecDepth 100000 in
theorem me_X11_weight : pm_me 210 = (yX11_weight, cX11_weight, 3, (some .int), 2, 0) := pm_mq_ok rfl
theorem mt_X11_weight {l : Launch} {g : pm_G} {d mc ms : Nat} {as : List Value} {A : pm_H} {Q : Option Value → pm_H → Prop} (hca : pm_cat 3 as = true) (body : ∀ J : pm_J, pm_Cl l g (fun _ => none) d mc ms (pm_Rq mc ms Q) bk_X11_weight J → J 0 (pm_l0 3 as) [] A 0 0) : pm_Mt l g 210 d mc ms as A Q := pm_Mt_of (isI := false) 11 bk_X11_weight me_X11_weight (plainFor_of_name plX11) rfl (fun h => by cases h) ok_X11_weight hca body
noncomputable def bk_X11_weightOf : pm_B := [(0, [(.iconst 0, 1, 0, 0, 0), (.istore_n 2, 1, 2, 0, 0), (.iconst 0, 1, 0, 0, 0), (.istore_n 3, 1, 3, 0, 0)], 4),
  (4, [(.iload_n 3, 1, 3, 0, 0), (.bipush 24, 2, 0, 0, 24), (.if_icmp .ge 31, 3, 38, 0, 0), (.iload_n 2, 1, 2, 0, 0), (.iload_n 1, 1, 1, 0, 0), (.iload_n 3, 1, 3, 0, 0), (.ishr, 1, 0, 0, 0), (.iconst 1, 1, 0, 0, 1), (.iand, 1, 0, 0, 0), (.iconst 1, 1, 0, 0, 1), (.if_icmp .ne 12, 3, 29, 0, 0), (.aload_n 0, 1, 0, 0, 0), (.getfield 16, 3, 11, 2, 0), (.iload_n 3, 1, 3, 0, 0), (.iaload, 1, 0, 0, 0), (.goto 4, 3, 30, 0, 0)], 29),
  (29, [(.iconst 0, 1, 0, 0, 0)], 30),
  (30, [(.iadd, 1, 0, 0, 0), (.istore_n 2, 1, 2, 0, 0), (.iinc 3 1, 3, 3, 0, 1), (.goto (-31), 3, 4, 0, 0)], 38),
  (38, [(.iload_n 2, 1, 2, 0, 0), (.ireturn, 1, 0, 0, 0)], 40)]
set_option maxRecDepth 100000 in
theorem ok_X11_weightOf : pm_oks 11 false 4 (some .int) cX11_weightOf bk_X11_weightOf = true := oksG_ok (by decide +kernel)
set_option maxRecDepth 100000 in
theorem me_X11_weightOf : pm_me 211 = (yX11_weightOf, cX11_weightOf, 4, (some .int), 1, 0) := pm_mq_ok rfl
theorem mt_X11_weightOf {l : Launch} {g : pm_G} {d mc ms : Nat} {as : List Value} {A : pm_H} {Q : Option Value → pm_H → Prop} (hca : pm_cat 4 as = true) (body : ∀ J : pm_J, pm_Cl l g (fun _ => none) d mc ms (pm_Rq mc ms Q) bk_X11_weightOf J → J 0 (pm_l0 4 as) [] A 0 0) : pm_Mt l g 211 d mc ms as A Q := pm_Mt_of (isI := false) 11 bk_X11_weightOf me_X11_weightOf (plainFor_of_name plX11) rfl (fun h => by cases h) ok_X11_weightOf hca body
noncomputable def bk_X11_set : pm_B := [(0, [(.aload_n 0, 1, 0, 0, 0), (.iload_n 1, 1, 1, 0, 0), (.iload_n 2, 1, 2, 0, 0), (.invokevirtual 129, 3, 180, 2, 11), (.ifCond .eq 12, 3, 18, 0, 0), (.aload_n 0, 1, 0, 0, 0), (.iload_n 1, 1, 1, 0, 0), (.iload_n 2, 1, 2, 0, 0), (.invokevirtual 161, 3, 206, 2, 11), (.goto 4, 3, 19, 0, 0)], 18),
  (18, [(.iconst (-1), 1, 0, 0, -1)], 19),
  (19, [(.ireturn, 1, 0, 0, 0)], 20)]
set_option maxRecDepth 100000 in
theorem ok_X11_set : pm_oks 11 false 3 (some .int) cX11_set bk_X11_set = true := oksG_ok (by decide +kernel)
set_option maxRecDepth 100000 in
theorem me_X11_set : pm_me 212 = (yX11_set, cX11_set, 3, (some .int), 2, 0) := pm_mq_ok rfl
theorem mt_X11_set {l : Launch} {g : pm_G} {d mc ms : Nat} {as : List Value} {A : pm_H} {Q : Option Value → pm_H → Prop} (hca : pm_cat 3 as = true) (body : ∀ J : pm_J, pm_Cl l g (fun _ => none) d mc ms (pm_Rq mc ms Q) bk_X11_set J → J 0 (pm_l0 3 as) [] A 0 0) : pm_Mt l g 212 d mc ms as A Q := pm_Mt_of (isI := false) 11 bk_X11_set me_X11_set (plainFor_of_name plX11) rfl (fun h => by cases h) ok_X11_set hca body
noncomputable def bk_X11_times : pm_B := [(0, [(.aload_n 0, 1, 0, 0, 0), (.iload_n 1, 1, 1, 0, 0), (.iload_n 2, 1, 2, 0, 0), (.invokevirtual 129, 3, 180, 2, 11), (.ifCond .eq 20, 3, 26, 0, 0), (.iload_n 3, 1, 3, 0, 0), (.invokestatic 122, 3, 170, 1, 0), (.ifCond .eq 13, 3, 26, 0, 0), (.aload_n 0, 1, 0, 0, 0), (.iload_n 1, 1, 1, 0, 0), (.iload_n 2, 1, 2, 0, 0), (.iload_n 3, 1, 3, 0, 0), (.invokevirtual 148, 3, 200, 3, 11), (.goto 4, 3, 27, 0, 0)], 26),
  (26, [(.iconst (-1), 1, 0, 0, -1)], 27),
  (27, [(.ireturn, 1, 0, 0, 0)], 28)]
set_option maxRecDepth 100000 in
theorem ok_X11_times : pm_oks 11 false 4 (some .int) cX11_times bk_X11_times = true := oksG_ok (by decide +kernel)
set_option maxRecDepth 100000 in
theorem me_X11_times : pm_me 213 = (yX11_times, cX11_times, 4, (some .int), 3, 0) := pm_mq_ok rfl
theorem mt_X11_times {l : Launch} {g : pm_G} {d mc ms : Nat} {as : List Value} {A : pm_H} {Q : Option Value → pm_H → Prop} (hca : pm_cat 4 as = true) (body : ∀ J : pm_J, pm_Cl l g (fun _ => none) d mc ms (pm_Rq mc ms Q) bk_X11_times J → J 0 (pm_l0 4 as) [] A 0 0) : pm_Mt l g 213 d mc ms as A Q := pm_Mt_of (isI := false) 11 bk_X11_times me_X11_times (plainFor_of_name plX11) rfl (fun h => by cases h) ok_X11_times hca body
noncomputable def bk_X11_often : pm_B := [(0, [(.aload_n 0, 1, 0, 0, 0), (.iload_n 1, 1, 1, 0, 0), (.iload_n 2, 1, 2, 0, 0), (.invokevirtual 129, 3, 180, 2, 11), (.ifCond .eq 8, 3, 14, 0, 0), (.iload_n 3, 1, 3, 0, 0), (.iconst 1, 1, 0, 0, 1), (.if_icmp .ge 5, 3, 16, 0, 0)], 14),
  (14, [(.iconst (-1), 1, 0, 0, -1), (.ireturn, 1, 0, 0, 0)], 16),
  (16, [(.iconst 0, 1, 0, 0, 0), (.istore 4, 2, 4, 0, 0), (.iconst 0, 1, 0, 0, 0), (.istore 5, 2, 5, 0, 0)], 22),
  (22, [(.iload 5, 2, 5, 0, 0), (.bipush 24, 2, 0, 0, 24), (.if_icmp .ge 31, 3, 57, 0, 0), (.iload 4, 2, 4, 0, 0), (.aload_n 0, 1, 0, 0, 0), (.iload_n 1, 1, 1, 0, 0), (.iload_n 2, 1, 2, 0, 0), (.iload 5, 2, 5, 0, 0), (.invokevirtual 148, 3, 200, 3, 11), (.iload_n 3, 1, 3, 0, 0), (.if_icmp .lt 7, 3, 47, 0, 0), (.iconst 1, 1, 0, 0, 1), (.goto 4, 3, 48, 0, 0)], 47),
  (47, [(.iconst 0, 1, 0, 0, 0)], 48),
  (48, [(.iadd, 1, 0, 0, 0), (.istore 4, 2, 4, 0, 0), (.iinc 5 1, 3, 5, 0, 1), (.goto (-32), 3, 22, 0, 0)], 57),
  (57, [(.iload 4, 2, 4, 0, 0), (.ireturn, 1, 0, 0, 0)], 60)]
set_option maxRecDepth 100000 in
theorem ok_X11_often : pm_oks 11 false 6 (some .int) cX11_often bk_X11_often = true := oksG_ok (by decide +kernel)
set_option maxRecDepth 100000 in
theorem me_X11_often : pm_me 214 = (yX11_often, cX11_often, 6, (some .int), 3, 0) := pm_mq_ok rfl
theorem mt_X11_often {l : Launch} {g : pm_G} {d mc ms : Nat} {as : List Value} {A : pm_H} {Q : Option Value → pm_H → Prop} (hca : pm_cat 6 as = true) (body : ∀ J : pm_J, pm_Cl l g (fun _ => none) d mc ms (pm_Rq mc ms Q) bk_X11_often J → J 0 (pm_l0 6 as) [] A 0 0) : pm_Mt l g 214 d mc ms as A Q := pm_Mt_of (isI := false) 11 bk_X11_often me_X11_often (plainFor_of_name plX11) rfl (fun h => by cases h) ok_X11_often hca body
noncomputable def bk_X11_tally : pm_B := [(0, [(.aload_n 0, 1, 0, 0, 0), (.iload_n 1, 1, 1, 0, 0), (.iload_n 2, 1, 2, 0, 0), (.invokevirtual 129, 3, 180, 2, 11), (.ifCond .eq 8, 3, 14, 0, 0), (.iload_n 3, 1, 3, 0, 0), (.iconst 1, 1, 0, 0, 1), (.if_icmp .ge 5, 3, 16, 0, 0)], 14),
  (14, [(.iconst (-1), 1, 0, 0, -1), (.ireturn, 1, 0, 0, 0)], 16),
  (16, [(.iconst 0, 1, 0, 0, 0), (.istore 4, 2, 4, 0, 0), (.iconst 0, 1, 0, 0, 0), (.istore 5, 2, 5, 0, 0)], 22),
  (22, [(.iload 5, 2, 5, 0, 0), (.bipush 24, 2, 0, 0, 24), (.if_icmp .ge 31, 3, 57, 0, 0), (.iload 4, 2, 4, 0, 0), (.aload_n 0, 1, 0, 0, 0), (.iload_n 1, 1, 1, 0, 0), (.iload_n 2, 1, 2, 0, 0), (.iload 5, 2, 5, 0, 0), (.invokevirtual 148, 3, 200, 3, 11), (.iload_n 3, 1, 3, 0, 0), (.if_icmp .ne 7, 3, 47, 0, 0), (.iconst 1, 1, 0, 0, 1), (.goto 4, 3, 48, 0, 0)], 47),
  (47, [(.iconst 0, 1, 0, 0, 0)], 48),
  (48, [(.iadd, 1, 0, 0, 0), (.istore 4, 2, 4, 0, 0), (.iinc 5 1, 3, 5, 0, 1), (.goto (-32), 3, 22, 0, 0)], 57),
  (57, [(.iload 4, 2, 4, 0, 0), (.ireturn, 1, 0, 0, 0)], 60)]
set_option maxRecDepth 100000 in
theorem ok_X11_tally : pm_oks 11 false 6 (some .int) cX11_tally bk_X11_tally = true := oksG_ok (by decide +kernel)
set_option maxRecDepth 100000 in
theorem me_X11_tally : pm_me 215 = (yX11_tally, cX11_tally, 6, (some .int), 3, 0) := pm_mq_ok rfl
theorem mt_X11_tally {l : Launch} {g : pm_G} {d mc ms : Nat} {as : List Value} {A : pm_H} {Q : Option Value → pm_H → Prop} (hca : pm_cat 6 as = true) (body : ∀ J : pm_J, pm_Cl l g (fun _ => none) d mc ms (pm_Rq mc ms Q) bk_X11_tally J → J 0 (pm_l0 6 as) [] A 0 0) : pm_Mt l g 215 d mc ms as A Q := pm_Mt_of (isI := false) 11 bk_X11_tally me_X11_tally (plainFor_of_name plX11) rfl (fun h => by cases h) ok_X11_tally hca body
noncomputable def bk_X11_major : pm_B := [(0, [(.aload_n 0, 1, 0, 0, 0), (.iload_n 1, 1, 1, 0, 0), (.iload_n 2, 1, 2, 0, 0), (.invokevirtual 129, 3, 180, 2, 11), (.ifCond .ne 5, 3, 11, 0, 0), (.iconst (-1), 1, 0, 0, -1), (.ireturn, 1, 0, 0, 0)], 11),
  (11, [(.iconst 0, 1, 0, 0, 0), (.istore_n 3, 1, 3, 0, 0)], 13),
  (13, [(.iload_n 3, 1, 3, 0, 0), (.bipush 24, 2, 0, 0, 24), (.if_icmp .ge 28, 3, 44, 0, 0), (.iconst 2, 1, 0, 0, 2), (.aload_n 0, 1, 0, 0, 0), (.iload_n 1, 1, 1, 0, 0), (.iload_n 2, 1, 2, 0, 0), (.iload_n 3, 1, 3, 0, 0), (.invokevirtual 148, 3, 200, 3, 11), (.imul, 1, 0, 0, 0), (.iload_n 2, 1, 2, 0, 0), (.iload_n 1, 1, 1, 0, 0), (.isub, 1, 0, 0, 0), (.iconst 1, 1, 0, 0, 1), (.iadd, 1, 0, 0, 0), (.if_icmp .le 5, 3, 38, 0, 0), (.iload_n 3, 1, 3, 0, 0), (.ireturn, 1, 0, 0, 0)], 38),
  (38, [(.iinc 3 1, 3, 3, 0, 1), (.goto (-28), 3, 13, 0, 0)], 44),
  (44, [(.iconst (-1), 1, 0, 0, -1), (.ireturn, 1, 0, 0, 0)], 46)]
set_option maxRecDepth 100000 in
theorem ok_X11_major : pm_oks 11 false 4 (some .int) cX11_major bk_X11_major = true := oksG_ok (by decide +kernel)
set_option maxRecDepth 100000 in
theorem me_X11_major : pm_me 216 = (yX11_major, cX11_major, 4, (some .int), 2, 0) := pm_mq_ok rfl
theorem mt_X11_major {l : Launch} {g : pm_G} {d mc ms : Nat} {as : List Value} {A : pm_H} {Q : Option Value → pm_H → Prop} (hca : pm_cat 4 as = true) (body : ∀ J : pm_J, pm_Cl l g (fun _ => none) d mc ms (pm_Rq mc ms Q) bk_X11_major J → J 0 (pm_l0 4 as) [] A 0 0) : pm_Mt l g 216 d mc ms as A Q := pm_Mt_of (isI := false) 11 bk_X11_major me_X11_major (plainFor_of_name plX11) rfl (fun h => by cases h) ok_X11_major hca body
noncomputable def bk_X11_report : pm_B := [(0, [(.aload_n 0, 1, 0, 0, 0), (.iload_n 1, 1, 1, 0, 0), (.iload_n 2, 1, 2, 0, 0), (.invokevirtual 129, 3, 180, 2, 11), (.ifCond .eq 23, 3, 29, 0, 0), (.iload_n 3, 1, 3, 0, 0), (.iconst 0, 1, 0, 0, 0), (.bipush 24, 2, 0, 0, 24), (.invokestatic 74, 3, 169, 3, 0), (.ifCond .eq 13, 3, 29, 0, 0), (.iload 4, 2, 4, 0, 0), (.iconst 0, 1, 0, 0, 0), (.iconst 2, 1, 0, 0, 2), (.invokestatic 74, 3, 169, 3, 0), (.ifCond .ne 5, 3, 31, 0, 0)], 29),
  (29, [(.iconst (-1), 1, 0, 0, -1), (.ireturn, 1, 0, 0, 0)], 31),
  (31, [(.aload_n 0, 1, 0, 0, 0), (.iload_n 1, 1, 1, 0, 0), (.iload_n 2, 1, 2, 0, 0), (.iload_n 3, 1, 3, 0, 0), (.invokevirtual 181, 3, 218, 3, 11), (.istore 5, 2, 5, 0, 0), (.iload 5, 2, 5, 0, 0), (.ifCond .ge 5, 3, 47, 0, 0), (.iconst (-1), 1, 0, 0, -1), (.ireturn, 1, 0, 0, 0)], 47),
  (47, [(.iload 4, 2, 4, 0, 0), (.ifCond .ne 8, 3, 57, 0, 0), (.iload 5, 2, 5, 0, 0), (.goto 25, 3, 79, 0, 0)], 57),
  (57, [(.iload 4, 2, 4, 0, 0), (.iconst 1, 1, 0, 0, 1), (.if_icmp .ne 13, 3, 73, 0, 0), (.aload_n 0, 1, 0, 0, 0), (.getfield 7, 3, 11, 0, 0), (.iload 5, 2, 5, 0, 0), (.iaload, 1, 0, 0, 0), (.goto 9, 3, 79, 0, 0)], 73),
  (73, [(.aload_n 0, 1, 0, 0, 0), (.iload 5, 2, 5, 0, 0), (.invokevirtual 85, 3, 173, 1, 11)], 79),
  (79, [(.ireturn, 1, 0, 0, 0)], 80)]
set_option maxRecDepth 100000 in
theorem ok_X11_report : pm_oks 11 false 6 (some .int) cX11_report bk_X11_report = true := oksG_ok (by decide +kernel)
set_option maxRecDepth 100000 in
theorem me_X11_report : pm_me 217 = (yX11_report, cX11_report, 6, (some .int), 4, 0) := pm_mq_ok rfl
theorem mt_X11_report {l : Launch} {g : pm_G} {d mc ms : Nat} {as : List Value} {A : pm_H} {Q : Option Value → pm_H → Prop} (hca : pm_cat 6 as = true) (body : ∀ J : pm_J, pm_Cl l g (fun _ => none) d mc ms (pm_Rq mc ms Q) bk_X11_report J → J 0 (pm_l0 6 as) [] A 0 0) : pm_Mt l g 217 d mc ms as A Q := pm_Mt_of (isI := false) 11 bk_X11_report me_X11_report (plainFor_of_name plX11) rfl (fun h => by cases h) ok_X11_report hca body
noncomputable def bk_X11_reported : pm_B := [(0, [(.ldc 177, 2, 0, 0, -268435456), (.istore 4, 2, 4, 0, 0), (.iconst (-1), 1, 0, 0, -1), (.istore 5, 2, 5, 0, 0), (.iconst 0, 1, 0, 0, 0), (.istore 6, 2, 6, 0, 0)], 10),
  (10, [(.iload 6, 2, 6, 0, 0), (.iload_n 3, 1, 3, 0, 0), (.if_icmp .gt 91, 3, 104, 0, 0), (.iconst (-1), 1, 0, 0, -1), (.istore 7, 2, 7, 0, 0), (.iload_n 1, 1, 1, 0, 0), (.istore 8, 2, 8, 0, 0)], 22),
  (22, [(.iload 8, 2, 8, 0, 0), (.iload_n 2, 1, 2, 0, 0), (.if_icmp .gt 54, 3, 79, 0, 0), (.aload_n 0, 1, 0, 0, 0), (.iload 8, 2, 8, 0, 0), (.invokevirtual 78, 3, 174, 1, 11), (.iload_n 1, 1, 1, 0, 0), (.if_icmp .ge 38, 3, 73, 0, 0), (.aload_n 0, 1, 0, 0, 0), (.iload 8, 2, 8, 0, 0), (.invokevirtual 178, 3, 219, 1, 11), (.iload 4, 2, 4, 0, 0), (.if_icmp .le 27, 3, 73, 0, 0), (.iload 7, 2, 7, 0, 0), (.ifCond .lt 18, 3, 69, 0, 0), (.aload_n 0, 1, 0, 0, 0), (.iload 8, 2, 8, 0, 0), (.invokevirtual 178, 3, 219, 1, 11), (.aload_n 0, 1, 0, 0, 0), (.iload 7, 2, 7, 0, 0), (.invokevirtual 178, 3, 219, 1, 11), (.if_icmp .ge 7, 3, 73, 0, 0)], 69),
  (69, [(.iload 8, 2, 8, 0, 0), (.istore 7, 2, 7, 0, 0)], 73),
  (73, [(.iinc 8 1, 3, 8, 0, 1), (.goto (-54), 3, 22, 0, 0)], 79),
  (79, [(.iload 7, 2, 7, 0, 0), (.ifCond .ge 5, 3, 86, 0, 0), (.iconst (-1), 1, 0, 0, -1), (.ireturn, 1, 0, 0, 0)], 86),
  (86, [(.aload_n 0, 1, 0, 0, 0), (.iload 7, 2, 7, 0, 0), (.invokevirtual 178, 3, 219, 1, 11), (.istore 4, 2, 4, 0, 0), (.iload 7, 2, 7, 0, 0), (.istore 5, 2, 5, 0, 0), (.iinc 6 1, 3, 6, 0, 1), (.goto (-91), 3, 10, 0, 0)], 104),
  (104, [(.iload 5, 2, 5, 0, 0), (.ireturn, 1, 0, 0, 0)], 107)]
set_option maxRecDepth 100000 in
theorem ok_X11_reported : pm_oks 11 false 9 (some .int) cX11_reported bk_X11_reported = true := oksG_ok (by decide +kernel)
set_option maxRecDepth 100000 in
theorem me_X11_reported : pm_me 218 = (yX11_reported, cX11_reported, 9, (some .int), 3, 0) := pm_mq_ok rfl
theorem mt_X11_reported {l : Launch} {g : pm_G} {d mc ms : Nat} {as : List Value} {A : pm_H} {Q : Option Value → pm_H → Prop} (hca : pm_cat 9 as = true) (body : ∀ J : pm_J, pm_Cl l g (fun _ => none) d mc ms (pm_Rq mc ms Q) bk_X11_reported J → J 0 (pm_l0 9 as) [] A 0 0) : pm_Mt l g 218 d mc ms as A Q := pm_Mt_of (isI := false) 11 bk_X11_reported me_X11_reported (plainFor_of_name plX11) rfl (fun h => by cases h) ok_X11_reported hca body
noncomputable def bk_X11_reportKey : pm_B := [(0, [(.aload_n 0, 1, 0, 0, 0), (.iload_n 1, 1, 1, 0, 0), (.invokevirtual 78, 3, 174, 1, 11), (.ifCond .ge 11, 3, 16, 0, 0), (.iload_n 1, 1, 1, 0, 0), (.sipush 160, 3, 0, 0, 160), (.isub, 1, 0, 0, 0), (.goto 8, 3, 21, 0, 0)], 16),
  (16, [(.aload_n 0, 1, 0, 0, 0), (.iload_n 1, 1, 1, 0, 0), (.invokevirtual 78, 3, 174, 1, 11)], 21),
  (21, [(.ireturn, 1, 0, 0, 0)], 22)]
set_option maxRecDepth 100000 in
theorem ok_X11_reportKey : pm_oks 11 false 2 (some .int) cX11_reportKey bk_X11_reportKey = true := oksG_ok (by decide +kernel)
set_option maxRecDepth 100000 in
theorem me_X11_reportKey : pm_me 219 = (yX11_reportKey, cX11_reportKey, 2, (some .int), 1, 0) := pm_mq_ok rfl
theorem mt_X11_reportKey {l : Launch} {g : pm_G} {d mc ms : Nat} {as : List Value} {A : pm_H} {Q : Option Value → pm_H → Prop} (hca : pm_cat 2 as = true) (body : ∀ J : pm_J, pm_Cl l g (fun _ => none) d mc ms (pm_Rq mc ms Q) bk_X11_reportKey J → J 0 (pm_l0 2 as) [] A 0 0) : pm_Mt l g 219 d mc ms as A Q := pm_Mt_of (isI := false) 11 bk_X11_reportKey me_X11_reportKey (plainFor_of_name plX11) rfl (fun h => by cases h) ok_X11_reportKey hca body
noncomputable def bk_X11_kth : pm_B := [(0, [(.aload_n 0, 1, 0, 0, 0), (.iload_n 1, 1, 1, 0, 0), (.iload_n 2, 1, 2, 0, 0), (.invokevirtual 129, 3, 180, 2, 11), (.ifCond .eq 13, 3, 19, 0, 0), (.iload 4, 2, 4, 0, 0), (.iconst 0, 1, 0, 0, 0), (.iconst 4, 1, 0, 0, 4), (.invokestatic 74, 3, 169, 3, 0), (.ifCond .ne 5, 3, 21, 0, 0)], 19),
  (19, [(.iconst (-1), 1, 0, 0, -1), (.ireturn, 1, 0, 0, 0)], 21),
  (21, [(.aload_n 0, 1, 0, 0, 0), (.iload_n 1, 1, 1, 0, 0), (.iload_n 2, 1, 2, 0, 0), (.iload 4, 2, 4, 0, 0), (.invokevirtual 188, 3, 221, 3, 11), (.istore 5, 2, 5, 0, 0), (.iload_n 3, 1, 3, 0, 0), (.iconst 0, 1, 0, 0, 0), (.iload 5, 2, 5, 0, 0), (.iconst 1, 1, 0, 0, 1), (.isub, 1, 0, 0, 0), (.invokestatic 74, 3, 169, 3, 0), (.ifCond .eq 12, 3, 52, 0, 0), (.aload_n 0, 1, 0, 0, 0), (.getfield 58, 3, 11, 23, 0), (.iload_n 3, 1, 3, 0, 0), (.iaload, 1, 0, 0, 0), (.goto 4, 3, 53, 0, 0)], 52),
  (52, [(.iconst (-1), 1, 0, 0, -1)], 53),
  (53, [(.ireturn, 1, 0, 0, 0)], 54)]
set_option maxRecDepth 100000 in
theorem ok_X11_kth : pm_oks 11 false 6 (some .int) cX11_kth bk_X11_kth = true := oksG_ok (by decide +kernel)
set_option maxRecDepth 100000 in
theorem me_X11_kth : pm_me 220 = (yX11_kth, cX11_kth, 6, (some .int), 4, 0) := pm_mq_ok rfl
theorem mt_X11_kth {l : Launch} {g : pm_G} {d mc ms : Nat} {as : List Value} {A : pm_H} {Q : Option Value → pm_H → Prop} (hca : pm_cat 6 as = true) (body : ∀ J : pm_J, pm_Cl l g (fun _ => none) d mc ms (pm_Rq mc ms Q) bk_X11_kth J → J 0 (pm_l0 6 as) [] A 0 0) : pm_Mt l g 220 d mc ms as A Q := pm_Mt_of (isI := false) 11 bk_X11_kth me_X11_kth (plainFor_of_name plX11) rfl (fun h => by cases h) ok_X11_kth hca body
end
