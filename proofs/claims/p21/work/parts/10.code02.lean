/-! blocks, by a program -/
def bk_X10_solve : pm_B := [(0, [(.iconst 0, 1, 0, 0, 0), (.istore_n 1, 1, 1, 0, 0), (.iconst 0, 1, 0, 0, 0), (.istore_n 2, 1, 2, 0, 0)], 4),
  (4, [(.iload_n 2, 1, 2, 0, 0), (.aload_n 0, 1, 0, 0, 0), (.getfield 68, 3, 10, 8, 0), (.getfield 172, 3, 5, 5, 0), (.if_icmp .ge 64, 3, 76, 0, 0), (.aload_n 0, 1, 0, 0, 0), (.getfield 68, 3, 10, 8, 0), (.getfield 351, 3, 5, 4, 0), (.iload_n 2, 1, 2, 0, 0), (.iaload, 1, 0, 0, 0), (.istore_n 3, 1, 3, 0, 0), (.iload_n 3, 1, 3, 0, 0), (.iconst (-1), 1, 0, 0, -1), (.if_icmp .ne 13, 3, 40, 0, 0), (.aload_n 0, 1, 0, 0, 0), (.getfield 12, 3, 10, 0, 0), (.getfield 80, 3, 9, 4, 0), (.goto 11, 3, 48, 0, 0)], 40),
  (40, [(.aload_n 0, 1, 0, 0, 0), (.getfield 12, 3, 10, 0, 0), (.iload_n 3, 1, 3, 0, 0), (.invokevirtual 332, 3, 149, 1, 9)], 48),
  (48, [(.astore 4, 2, 4, 0, 0), (.aload_n 0, 1, 0, 0, 0), (.getfield 68, 3, 10, 8, 0), (.iload_n 2, 1, 2, 0, 0), (.aload 4, 2, 4, 0, 0), (.aload_n 0, 1, 0, 0, 0), (.getfield 19, 3, 10, 1, 0), (.invokevirtual 353, 3, 162, 3, 5), (.ifCond .eq 6, 3, 70, 0, 0), (.iinc 1 1, 3, 1, 0, 1)], 70),
  (70, [(.iinc 2 1, 3, 2, 0, 1), (.goto (-69), 3, 4, 0, 0)], 76),
  (76, [(.iload_n 1, 1, 1, 0, 0), (.ireturn, 1, 0, 0, 0)], 78)]
set_option maxRecDepth 100000 in
theorem ok_X10_solve : pm_oks 10 false 5 (some .int) cX10_solve bk_X10_solve = true := oksF_ok (by decide +kernel)
set_option maxRecDepth 100000 in
theorem me_X10_solve : pm_me 161 = (yX10_solve, cX10_solve, 5, (some .int), 0, 0) := rfl
theorem mt_X10_solve {l : Launch} {g : pm_G} {d mc ms : Nat} {as : List Value} {A : pm_H} {Q : Option Value → pm_H → Prop} (hca : pm_cat 5 as = true) (body : ∀ J : pm_J, pm_Cl l g (fun _ => none) d mc ms (pm_Rq mc ms Q) bk_X10_solve J → J 0 (pm_l0 5 as) [] A 0 0) : pm_Mt l g 161 d mc ms as A Q := pm_Mt_of (isI := false) 10 bk_X10_solve me_X10_solve (plainFor_of_name (by decide +kernel)) (by decide +kernel) (fun h => by cases h) ok_X10_solve hca body
def bk_X10_asked : pm_B := [(0, [(.aload_n 0, 1, 0, 0, 0), (.getfield 68, 3, 10, 8, 0), (.iload_n 1, 1, 1, 0, 0), (.iload_n 2, 1, 2, 0, 0), (.invokevirtual 357, 3, 164, 2, 5), (.ireturn, 1, 0, 0, 0)], 10)]
set_option maxRecDepth 100000 in
theorem ok_X10_asked : pm_oks 10 false 3 (some .int) cX10_asked bk_X10_asked = true := oksF_ok (by decide +kernel)
set_option maxRecDepth 100000 in
theorem me_X10_asked : pm_me 163 = (yX10_asked, cX10_asked, 3, (some .int), 2, 0) := rfl
theorem mt_X10_asked {l : Launch} {g : pm_G} {d mc ms : Nat} {as : List Value} {A : pm_H} {Q : Option Value → pm_H → Prop} (hca : pm_cat 3 as = true) (body : ∀ J : pm_J, pm_Cl l g (fun _ => none) d mc ms (pm_Rq mc ms Q) bk_X10_asked J → J 0 (pm_l0 3 as) [] A 0 0) : pm_Mt l g 163 d mc ms as A Q := pm_Mt_of (isI := false) 10 bk_X10_asked me_X10_asked (plainFor_of_name (by decide +kernel)) (by decide +kernel) (fun h => by cases h) ok_X10_asked hca body
def bk_X10_forget : pm_B := [(0, [(.aload_n 0, 1, 0, 0, 0), (.getfield 68, 3, 10, 8, 0), (.getfield 172, 3, 5, 5, 0), (.istore_n 1, 1, 1, 0, 0), (.aload_n 0, 1, 0, 0, 0), (.getfield 68, 3, 10, 8, 0), (.iconst 0, 1, 0, 0, 0), (.putfield 172, 3, 5, 5, 0), (.iload_n 1, 1, 1, 0, 0), (.ireturn, 1, 0, 0, 0)], 18)]
set_option maxRecDepth 100000 in
theorem ok_X10_forget : pm_oks 10 false 2 (some .int) cX10_forget bk_X10_forget = true := oksF_ok (by decide +kernel)
set_option maxRecDepth 100000 in
theorem me_X10_forget : pm_me 165 = (yX10_forget, cX10_forget, 2, (some .int), 0, 0) := rfl
theorem mt_X10_forget {l : Launch} {g : pm_G} {d mc ms : Nat} {as : List Value} {A : pm_H} {Q : Option Value → pm_H → Prop} (hca : pm_cat 2 as = true) (body : ∀ J : pm_J, pm_Cl l g (fun _ => none) d mc ms (pm_Rq mc ms Q) bk_X10_forget J → J 0 (pm_l0 2 as) [] A 0 0) : pm_Mt l g 165 d mc ms as A Q := pm_Mt_of (isI := false) 10 bk_X10_forget me_X10_forget (plainFor_of_name (by decide +kernel)) (by decide +kernel) (fun h => by cases h) ok_X10_forget hca body
def bk_X9_init : pm_B := [(0, [(.aload_n 0, 1, 0, 0, 0), (.invokespecial 3, 3, 0, 0, 0), (.aload_n 0, 1, 0, 0, 0), (.bipush 41, 2, 0, 0, 41), (.anewarray 9, 3, 41, 0, 0), (.putfield 11, 3, 9, 0, 1), (.aload_n 0, 1, 0, 0, 0), (.sipush 160, 3, 0, 0, 160), (.newarray .int, 2, 160, 0, 0), (.putfield 17, 3, 9, 1, 1), (.aload_n 0, 1, 0, 0, 0), (.bipush 24, 2, 0, 0, 24), (.newarray .int, 2, 24, 0, 0), (.putfield 21, 3, 9, 2, 1), (.aload_n 0, 1, 0, 0, 0), (.new 9, 3, 7, 5, 0), (.dup, 1, 0, 0, 0), (.invokespecial 24, 3, 2, 0, 2), (.putfield 25, 3, 9, 4, 1), (.aload_n 0, 1, 0, 0, 0), (.aload_n 0, 1, 0, 0, 0), (.getfield 25, 3, 9, 4, 0), (.putfield 29, 3, 9, 3, 1), (.aload_n 0, 1, 0, 0, 0), (.getfield 11, 3, 9, 0, 0), (.iconst 0, 1, 0, 0, 0), (.aload_n 0, 1, 0, 0, 0), (.getfield 25, 3, 9, 4, 0), (.aastore, 1, 0, 0, 0), (.return_, 1, 0, 0, 0)], 60)]
set_option maxRecDepth 100000 in
theorem ok_X9_init : pm_oks 9 true 1 none cX9_init bk_X9_init = true := oksF_ok (by decide +kernel)
set_option maxRecDepth 100000 in
theorem me_X9_init : pm_me 1 = (yX9_init, cX9_init, 1, none, 0, 2) := rfl
theorem mt_X9_init {l : Launch} {g : pm_G} {d mc ms : Nat} {as : List Value} {A : pm_H} {Q : Option Value → pm_H → Prop} (hca : pm_cat 1 as = true) (body : ∀ J : pm_J, pm_Cl l g (fun _ => none) d mc ms (pm_Rq mc ms Q) bk_X9_init J → J 0 (pm_l0 1 as) [] A 0 0) : pm_Mt l g 1 d mc ms as A Q := pm_Mt_of (isI := true) 9 bk_X9_init me_X9_init (plainFor_of_name (by decide +kernel)) (by decide +kernel) (fun _ => by decide +kernel) ok_X9_init hca body
def bk_X9_begin : pm_B := [(0, [(.aload_n 0, 1, 0, 0, 0), (.getfield 32, 3, 9, 5, 0), (.iconst 1, 1, 0, 0, 1), (.iadd, 1, 0, 0, 0), (.bipush 41, 2, 0, 0, 41), (.invokestatic 42, 3, 17, 2, 0), (.istore_n 1, 1, 1, 0, 0), (.aload_n 0, 1, 0, 0, 0), (.getfield 11, 3, 9, 0, 0), (.iload_n 1, 1, 1, 0, 0), (.aaload, 1, 0, 0, 0), (.ifnonnull 16, 3, 34, 0, 0), (.aload_n 0, 1, 0, 0, 0), (.getfield 11, 3, 9, 0, 0), (.iload_n 1, 1, 1, 0, 0), (.new 9, 3, 7, 5, 0), (.dup, 1, 0, 0, 0), (.invokespecial 24, 3, 2, 0, 2), (.aastore, 1, 0, 0, 0)], 34),
  (34, [(.aload_n 0, 1, 0, 0, 0), (.aload_n 0, 1, 0, 0, 0), (.getfield 11, 3, 9, 0, 0), (.iload_n 1, 1, 1, 0, 0), (.aaload, 1, 0, 0, 0), (.putfield 29, 3, 9, 3, 1), (.aload_n 0, 1, 0, 0, 0), (.getfield 29, 3, 9, 3, 0), (.iconst 0, 1, 0, 0, 0), (.putfield 36, 3, 7, 3, 0), (.return_, 1, 0, 0, 0)], 53)]
set_option maxRecDepth 100000 in
theorem ok_X9_begin : pm_oks 9 false 2 none cX9_begin bk_X9_begin = true := oksF_ok (by decide +kernel)
set_option maxRecDepth 100000 in
theorem me_X9_begin : pm_me 16 = (yX9_begin, cX9_begin, 2, none, 0, 0) := rfl
theorem mt_X9_begin {l : Launch} {g : pm_G} {d mc ms : Nat} {as : List Value} {A : pm_H} {Q : Option Value → pm_H → Prop} (hca : pm_cat 2 as = true) (body : ∀ J : pm_J, pm_Cl l g (fun _ => none) d mc ms (pm_Rq mc ms Q) bk_X9_begin J → J 0 (pm_l0 2 as) [] A 0 0) : pm_Mt l g 16 d mc ms as A Q := pm_Mt_of (isI := false) 9 bk_X9_begin me_X9_begin (plainFor_of_name (by decide +kernel)) (by decide +kernel) (fun h => by cases h) ok_X9_begin hca body
def bk_X9_keep : pm_B := [(0, [(.iload_n 1, 1, 1, 0, 0), (.istore_n 3, 1, 3, 0, 0)], 2),
  (2, [(.iload_n 3, 1, 3, 0, 0), (.iload_n 2, 1, 2, 0, 0), (.if_icmp .gt 50, 3, 54, 0, 0), (.aload_n 0, 1, 0, 0, 0), (.getfield 25, 3, 9, 4, 0), (.iload_n 3, 1, 3, 0, 0), (.invokevirtual 48, 3, 19, 1, 7), (.ifCond .eq 39, 3, 54, 0, 0), (.aload_n 0, 1, 0, 0, 0), (.aload_n 0, 1, 0, 0, 0), (.getfield 25, 3, 9, 4, 0), (.getfield 52, 3, 7, 0, 0), (.iload_n 3, 1, 3, 0, 0), (.iaload, 1, 0, 0, 0), (.aload_n 0, 1, 0, 0, 0), (.getfield 25, 3, 9, 4, 0), (.getfield 55, 3, 7, 1, 0), (.iload_n 3, 1, 3, 0, 0), (.iaload, 1, 0, 0, 0), (.aload_n 0, 1, 0, 0, 0), (.getfield 25, 3, 9, 4, 0), (.iload_n 3, 1, 3, 0, 0), (.invokevirtual 58, 3, 20, 1, 7), (.invokevirtual 62, 3, 22, 3, 9), (.iinc 3 1, 3, 3, 0, 1), (.goto (-49), 3, 2, 0, 0)], 54),
  (54, [(.return_, 1, 0, 0, 0)], 55)]
set_option maxRecDepth 100000 in
theorem ok_X9_keep : pm_oks 9 false 4 none cX9_keep bk_X9_keep = true := oksF_ok (by decide +kernel)
set_option maxRecDepth 100000 in
theorem me_X9_keep : pm_me 18 = (yX9_keep, cX9_keep, 4, none, 2, 0) := rfl
theorem mt_X9_keep {l : Launch} {g : pm_G} {d mc ms : Nat} {as : List Value} {A : pm_H} {Q : Option Value → pm_H → Prop} (hca : pm_cat 4 as = true) (body : ∀ J : pm_J, pm_Cl l g (fun _ => none) d mc ms (pm_Rq mc ms Q) bk_X9_keep J → J 0 (pm_l0 4 as) [] A 0 0) : pm_Mt l g 18 d mc ms as A Q := pm_Mt_of (isI := false) 9 bk_X9_keep me_X9_keep (plainFor_of_name (by decide +kernel)) (by decide +kernel) (fun h => by cases h) ok_X9_keep hca body
def bk_X9_append : pm_B := [(0, [(.aload_n 0, 1, 0, 0, 0), (.getfield 29, 3, 9, 3, 0), (.getfield 36, 3, 7, 3, 0), (.istore 4, 2, 4, 0, 0), (.iload 4, 2, 4, 0, 0), (.ifCond .lt 11, 3, 22, 0, 0), (.iload 4, 2, 4, 0, 0), (.sipush 160, 3, 0, 0, 160), (.if_icmp .lt 4, 3, 23, 0, 0)], 22),
  (22, [(.return_, 1, 0, 0, 0)], 23),
  (23, [(.aload_n 0, 1, 0, 0, 0), (.getfield 29, 3, 9, 3, 0), (.getfield 52, 3, 7, 0, 0), (.iload 4, 2, 4, 0, 0), (.iload_n 1, 1, 1, 0, 0), (.iastore, 1, 0, 0, 0), (.aload_n 0, 1, 0, 0, 0), (.getfield 29, 3, 9, 3, 0), (.getfield 55, 3, 7, 1, 0), (.iload 4, 2, 4, 0, 0), (.iload_n 2, 1, 2, 0, 0), (.iastore, 1, 0, 0, 0), (.aload_n 0, 1, 0, 0, 0), (.getfield 17, 3, 9, 1, 0), (.iload 4, 2, 4, 0, 0), (.iload_n 3, 1, 3, 0, 0), (.iastore, 1, 0, 0, 0), (.aload_n 0, 1, 0, 0, 0), (.getfield 29, 3, 9, 3, 0), (.iload 4, 2, 4, 0, 0), (.iconst 1, 1, 0, 0, 1), (.iadd, 1, 0, 0, 0), (.putfield 36, 3, 7, 3, 0), (.return_, 1, 0, 0, 0)], 65)]
set_option maxRecDepth 100000 in
theorem ok_X9_append : pm_oks 9 false 5 none cX9_append bk_X9_append = true := oksF_ok (by decide +kernel)
set_option maxRecDepth 100000 in
theorem me_X9_append : pm_me 22 = (yX9_append, cX9_append, 5, none, 3, 0) := rfl
theorem mt_X9_append {l : Launch} {g : pm_G} {d mc ms : Nat} {as : List Value} {A : pm_H} {Q : Option Value → pm_H → Prop} (hca : pm_cat 5 as = true) (body : ∀ J : pm_J, pm_Cl l g (fun _ => none) d mc ms (pm_Rq mc ms Q) bk_X9_append J → J 0 (pm_l0 5 as) [] A 0 0) : pm_Mt l g 22 d mc ms as A Q := pm_Mt_of (isI := false) 9 bk_X9_append me_X9_append (plainFor_of_name (by decide +kernel)) (by decide +kernel) (fun h => by cases h) ok_X9_append hca body
def bk_X9_keepAs : pm_B := [(0, [(.aload_n 0, 1, 0, 0, 0), (.getfield 25, 3, 9, 4, 0), (.iload_n 1, 1, 1, 0, 0), (.invokevirtual 48, 3, 19, 1, 7), (.ifCond .eq 25, 3, 33, 0, 0), (.aload_n 0, 1, 0, 0, 0), (.iload_n 2, 1, 2, 0, 0), (.aload_n 0, 1, 0, 0, 0), (.getfield 25, 3, 9, 4, 0), (.getfield 55, 3, 7, 1, 0), (.iload_n 1, 1, 1, 0, 0), (.iaload, 1, 0, 0, 0), (.aload_n 0, 1, 0, 0, 0), (.getfield 25, 3, 9, 4, 0), (.iload_n 1, 1, 1, 0, 0), (.invokevirtual 58, 3, 20, 1, 7), (.invokevirtual 62, 3, 22, 3, 9)], 33),
  (33, [(.return_, 1, 0, 0, 0)], 34)]
set_option maxRecDepth 100000 in
theorem ok_X9_keepAs : pm_oks 9 false 3 none cX9_keepAs bk_X9_keepAs = true := oksF_ok (by decide +kernel)
set_option maxRecDepth 100000 in
theorem me_X9_keepAs : pm_me 23 = (yX9_keepAs, cX9_keepAs, 3, none, 2, 0) := rfl
theorem mt_X9_keepAs {l : Launch} {g : pm_G} {d mc ms : Nat} {as : List Value} {A : pm_H} {Q : Option Value → pm_H → Prop} (hca : pm_cat 3 as = true) (body : ∀ J : pm_J, pm_Cl l g (fun _ => none) d mc ms (pm_Rq mc ms Q) bk_X9_keepAs J → J 0 (pm_l0 3 as) [] A 0 0) : pm_Mt l g 23 d mc ms as A Q := pm_Mt_of (isI := false) 9 bk_X9_keepAs me_X9_keepAs (plainFor_of_name (by decide +kernel)) (by decide +kernel) (fun h => by cases h) ok_X9_keepAs hca body
def bk_X9_finish : pm_B := [(0, [(.aload_n 0, 1, 0, 0, 0), (.getfield 21, 3, 9, 2, 0), (.iconst (-1), 1, 0, 0, -1), (.invokestatic 70, 3, 4, 2, 0), (.iconst 0, 1, 0, 0, 0), (.istore_n 1, 1, 1, 0, 0), (.iconst 0, 1, 0, 0, 0), (.istore_n 2, 1, 2, 0, 0)], 12),
  (12, [(.iload_n 2, 1, 2, 0, 0), (.aload_n 0, 1, 0, 0, 0), (.getfield 29, 3, 9, 3, 0), (.getfield 36, 3, 7, 3, 0), (.if_icmp .ge 72, 3, 92, 0, 0), (.aload_n 0, 1, 0, 0, 0), (.getfield 29, 3, 9, 3, 0), (.getfield 52, 3, 7, 0, 0), (.iload_n 2, 1, 2, 0, 0), (.iaload, 1, 0, 0, 0), (.istore_n 3, 1, 3, 0, 0), (.aload_n 0, 1, 0, 0, 0), (.getfield 29, 3, 9, 3, 0), (.getfield 76, 3, 7, 2, 0), (.iload_n 2, 1, 2, 0, 0), (.aload_n 0, 1, 0, 0, 0), (.getfield 21, 3, 9, 2, 0), (.iload_n 3, 1, 3, 0, 0), (.iaload, 1, 0, 0, 0), (.iastore, 1, 0, 0, 0), (.aload_n 0, 1, 0, 0, 0), (.getfield 21, 3, 9, 2, 0), (.iload_n 3, 1, 3, 0, 0), (.iload_n 2, 1, 2, 0, 0), (.iastore, 1, 0, 0, 0), (.aload_n 0, 1, 0, 0, 0), (.getfield 17, 3, 9, 1, 0), (.iload_n 2, 1, 2, 0, 0), (.iaload, 1, 0, 0, 0), (.bipush (-2), 2, 0, 0, -2), (.if_icmp .eq 23, 3, 86, 0, 0), (.aload_n 0, 1, 0, 0, 0), (.getfield 17, 3, 9, 1, 0), (.iload_n 2, 1, 2, 0, 0), (.iaload, 1, 0, 0, 0), (.aload_n 0, 1, 0, 0, 0), (.getfield 29, 3, 9, 3, 0), (.iload_n 2, 1, 2, 0, 0), (.invokevirtual 58, 3, 20, 1, 7), (.if_icmp .eq 6, 3, 86, 0, 0), (.iinc 1 1, 3, 1, 0, 1)], 86),
  (86, [(.iinc 2 1, 3, 2, 0, 1), (.goto (-77), 3, 12, 0, 0)], 92),
  (92, [(.aload_n 0, 1, 0, 0, 0), (.getfield 29, 3, 9, 3, 0), (.iload_n 1, 1, 1, 0, 0), (.putfield 79, 3, 7, 4, 0), (.aload_n 0, 1, 0, 0, 0), (.aload_n 0, 1, 0, 0, 0), (.getfield 29, 3, 9, 3, 0), (.putfield 25, 3, 9, 4, 1), (.aload_n 0, 1, 0, 0, 0), (.dup, 1, 0, 0, 0), (.getfield 32, 3, 9, 5, 0), (.iconst 1, 1, 0, 0, 1), (.iadd, 1, 0, 0, 0), (.putfield 32, 3, 9, 5, 0), (.aload_n 0, 1, 0, 0, 0), (.dup, 1, 0, 0, 0), (.getfield 82, 3, 9, 7, 0), (.iload_n 1, 1, 1, 0, 0), (.iadd, 1, 0, 0, 0), (.putfield 82, 3, 9, 7, 0), (.iload_n 1, 1, 1, 0, 0), (.ireturn, 1, 0, 0, 0)], 130)]
set_option maxRecDepth 100000 in
theorem ok_X9_finish : pm_oks 9 false 4 (some .int) cX9_finish bk_X9_finish = true := oksF_ok (by decide +kernel)
set_option maxRecDepth 100000 in
theorem me_X9_finish : pm_me 24 = (yX9_finish, cX9_finish, 4, (some .int), 0, 0) := rfl
theorem mt_X9_finish {l : Launch} {g : pm_G} {d mc ms : Nat} {as : List Value} {A : pm_H} {Q : Option Value → pm_H → Prop} (hca : pm_cat 4 as = true) (body : ∀ J : pm_J, pm_Cl l g (fun _ => none) d mc ms (pm_Rq mc ms Q) bk_X9_finish J → J 0 (pm_l0 4 as) [] A 0 0) : pm_Mt l g 24 d mc ms as A Q := pm_Mt_of (isI := false) 9 bk_X9_finish me_X9_finish (plainFor_of_name (by decide +kernel)) (by decide +kernel) (fun h => by cases h) ok_X9_finish hca body
def bk_X9_hasRoomFor : pm_B := [(0, [(.aload_n 0, 1, 0, 0, 0), (.getfield 25, 3, 9, 4, 0), (.getfield 36, 3, 7, 3, 0), (.iload_n 1, 1, 1, 0, 0), (.iadd, 1, 0, 0, 0), (.sipush 160, 3, 0, 0, 160), (.if_icmp .gt 19, 3, 31, 0, 0), (.aload_n 0, 1, 0, 0, 0), (.getfield 39, 3, 9, 6, 0), (.iload_n 1, 1, 1, 0, 0), (.iadd, 1, 0, 0, 0), (.sipush 10000, 3, 0, 0, 10000), (.if_icmp .gt 7, 3, 31, 0, 0), (.iconst 1, 1, 0, 0, 1), (.goto 4, 3, 32, 0, 0)], 31),
  (31, [(.iconst 0, 1, 0, 0, 0)], 32),
  (32, [(.ireturn, 1, 1, 0, 0)], 33)]
set_option maxRecDepth 100000 in
theorem ok_X9_hasRoomFor : pm_oks 9 false 2 (some .boolean) cX9_hasRoomFor bk_X9_hasRoomFor = true := oksF_ok (by decide +kernel)
set_option maxRecDepth 100000 in
theorem me_X9_hasRoomFor : pm_me 27 = (yX9_hasRoomFor, cX9_hasRoomFor, 2, (some .boolean), 1, 0) := rfl
theorem mt_X9_hasRoomFor {l : Launch} {g : pm_G} {d mc ms : Nat} {as : List Value} {A : pm_H} {Q : Option Value → pm_H → Prop} (hca : pm_cat 2 as = true) (body : ∀ J : pm_J, pm_Cl l g (fun _ => none) d mc ms (pm_Rq mc ms Q) bk_X9_hasRoomFor J → J 0 (pm_l0 2 as) [] A 0 0) : pm_Mt l g 27 d mc ms as A Q := pm_Mt_of (isI := false) 9 bk_X9_hasRoomFor me_X9_hasRoomFor (plainFor_of_name (by decide +kernel)) (by decide +kernel) (fun h => by cases h) ok_X9_hasRoomFor hca body
def bk_X9_add : pm_B := [(0, [(.aload_n 0, 1, 0, 0, 0), (.iload_n 1, 1, 1, 0, 0), (.aload_n 0, 1, 0, 0, 0), (.getfield 39, 3, 9, 6, 0), (.bipush (-2), 2, 0, 0, -2), (.invokevirtual 62, 3, 22, 3, 9), (.aload_n 0, 1, 0, 0, 0), (.dup, 1, 0, 0, 0), (.getfield 39, 3, 9, 6, 0), (.iconst 1, 1, 0, 0, 1), (.iadd, 1, 0, 0, 0), (.putfield 39, 3, 9, 6, 0), (.return_, 1, 0, 0, 0)], 22)]
set_option maxRecDepth 100000 in
theorem ok_X9_add : pm_oks 9 false 2 none cX9_add bk_X9_add = true := oksF_ok (by decide +kernel)
set_option maxRecDepth 100000 in
theorem me_X9_add : pm_me 28 = (yX9_add, cX9_add, 2, none, 1, 0) := rfl
theorem mt_X9_add {l : Launch} {g : pm_G} {d mc ms : Nat} {as : List Value} {A : pm_H} {Q : Option Value → pm_H → Prop} (hca : pm_cat 2 as = true) (body : ∀ J : pm_J, pm_Cl l g (fun _ => none) d mc ms (pm_Rq mc ms Q) bk_X9_add J → J 0 (pm_l0 2 as) [] A 0 0) : pm_Mt l g 28 d mc ms as A Q := pm_Mt_of (isI := false) 9 bk_X9_add me_X9_add (plainFor_of_name (by decide +kernel)) (by decide +kernel) (fun h => by cases h) ok_X9_add hca body
def bk_X9_keepThoseOf : pm_B := [(0, [(.iload_n 2, 1, 2, 0, 0), (.istore 4, 2, 4, 0, 0)], 3),
  (3, [(.iload 4, 2, 4, 0, 0), (.iload_n 3, 1, 3, 0, 0), (.if_icmp .gt 42, 3, 48, 0, 0), (.aload_n 0, 1, 0, 0, 0), (.getfield 25, 3, 9, 4, 0), (.iload 4, 2, 4, 0, 0), (.invokevirtual 48, 3, 19, 1, 7), (.ifCond .eq 30, 3, 48, 0, 0), (.aload_n 0, 1, 0, 0, 0), (.getfield 25, 3, 9, 4, 0), (.getfield 52, 3, 7, 0, 0), (.iload 4, 2, 4, 0, 0), (.iaload, 1, 0, 0, 0), (.iload_n 1, 1, 1, 0, 0), (.if_icmp .ne 10, 3, 42, 0, 0), (.aload_n 0, 1, 0, 0, 0), (.iload 4, 2, 4, 0, 0), (.iload_n 1, 1, 1, 0, 0), (.invokevirtual 66, 3, 23, 2, 9)], 42),
  (42, [(.iinc 4 1, 3, 4, 0, 1), (.goto (-42), 3, 3, 0, 0)], 48),
  (48, [(.return_, 1, 0, 0, 0)], 49)]
set_option maxRecDepth 100000 in
theorem ok_X9_keepThoseOf : pm_oks 9 false 5 none cX9_keepThoseOf bk_X9_keepThoseOf = true := oksF_ok (by decide +kernel)
set_option maxRecDepth 100000 in
theorem me_X9_keepThoseOf : pm_me 33 = (yX9_keepThoseOf, cX9_keepThoseOf, 5, none, 3, 0) := rfl
theorem mt_X9_keepThoseOf {l : Launch} {g : pm_G} {d mc ms : Nat} {as : List Value} {A : pm_H} {Q : Option Value → pm_H → Prop} (hca : pm_cat 5 as = true) (body : ∀ J : pm_J, pm_Cl l g (fun _ => none) d mc ms (pm_Rq mc ms Q) bk_X9_keepThoseOf J → J 0 (pm_l0 5 as) [] A 0 0) : pm_Mt l g 33 d mc ms as A Q := pm_Mt_of (isI := false) 9 bk_X9_keepThoseOf me_X9_keepThoseOf (plainFor_of_name (by decide +kernel)) (by decide +kernel) (fun h => by cases h) ok_X9_keepThoseOf hca body
def bk_X9_behind : pm_B := [(0, [(.iload_n 1, 1, 1, 0, 0), (.ifCond .lt 26, 3, 27, 0, 0), (.iload_n 1, 1, 1, 0, 0), (.aload_n 0, 1, 0, 0, 0), (.getfield 32, 3, 9, 5, 0), (.if_icmp .gt 18, 3, 27, 0, 0), (.iload_n 1, 1, 1, 0, 0), (.aload_n 0, 1, 0, 0, 0), (.getfield 32, 3, 9, 5, 0), (.bipush 40, 2, 0, 0, 40), (.isub, 1, 0, 0, 0), (.if_icmp .le 7, 3, 27, 0, 0), (.iconst 1, 1, 0, 0, 1), (.goto 4, 3, 28, 0, 0)], 27),
  (27, [(.iconst 0, 1, 0, 0, 0)], 28),
  (28, [(.istore_n 2, 1, 2, 0, 0), (.iload_n 2, 1, 2, 0, 0), (.ifCond .eq 15, 3, 45, 0, 0), (.aload_n 0, 1, 0, 0, 0), (.getfield 11, 3, 9, 0, 0), (.iload_n 1, 1, 1, 0, 0), (.bipush 41, 2, 0, 0, 41), (.irem, 1, 0, 0, 0), (.aaload, 1, 0, 0, 0), (.goto 4, 3, 46, 0, 0)], 45),
  (45, [(.aconst_null, 1, 0, 0, 0)], 46),
  (46, [(.areturn, 1, 0, 0, 0)], 47)]
set_option maxRecDepth 100000 in
theorem ok_X9_behind : pm_oks 9 false 3 (some (.object "SpanColours$Row")) cX9_behind bk_X9_behind = true := oksF_ok (by decide +kernel)
set_option maxRecDepth 100000 in
theorem me_X9_behind : pm_me 149 = (yX9_behind, cX9_behind, 3, (some (.object "SpanColours$Row")), 1, 0) := rfl
theorem mt_X9_behind {l : Launch} {g : pm_G} {d mc ms : Nat} {as : List Value} {A : pm_H} {Q : Option Value → pm_H → Prop} (hca : pm_cat 3 as = true) (body : ∀ J : pm_J, pm_Cl l g (fun _ => none) d mc ms (pm_Rq mc ms Q) bk_X9_behind J → J 0 (pm_l0 3 as) [] A 0 0) : pm_Mt l g 149 d mc ms as A Q := pm_Mt_of (isI := false) 9 bk_X9_behind me_X9_behind (plainFor_of_name (by decide +kernel)) (by decide +kernel) (fun h => by cases h) ok_X9_behind hca body
def bk_X9_steadySince : pm_B := [(0, [(.aload_n 0, 1, 0, 0, 0), (.getfield 25, 3, 9, 4, 0), (.iload_n 1, 1, 1, 0, 0), (.invokevirtual 85, 3, 46, 1, 7), (.istore_n 2, 1, 2, 0, 0), (.iload_n 2, 1, 2, 0, 0), (.iconst (-1), 1, 0, 0, -1), (.if_icmp .ne 5, 3, 16, 0, 0), (.iconst (-1), 1, 0, 0, -1), (.ireturn, 1, 0, 0, 0)], 16),
  (16, [(.aload_n 0, 1, 0, 0, 0), (.getfield 25, 3, 9, 4, 0), (.iload_n 2, 1, 2, 0, 0), (.invokevirtual 58, 3, 20, 1, 7), (.istore_n 3, 1, 3, 0, 0), (.aload_n 0, 1, 0, 0, 0), (.getfield 32, 3, 9, 5, 0), (.iconst 1, 1, 0, 0, 1), (.isub, 1, 0, 0, 0), (.istore 4, 2, 4, 0, 0)], 33),
  (33, [(.iload 4, 2, 4, 0, 0), (.ifCond .lt 51, 3, 86, 0, 0), (.aload_n 0, 1, 0, 0, 0), (.iload 4, 2, 4, 0, 0), (.invokevirtual 88, 3, 149, 1, 9), (.astore 5, 2, 5, 0, 0), (.aload 5, 2, 5, 0, 0), (.ifnull 27, 3, 75, 0, 0), (.aload 5, 2, 5, 0, 0), (.iload_n 1, 1, 1, 0, 0), (.invokevirtual 92, 3, 154, 1, 7), (.ifCond .eq 18, 3, 75, 0, 0), (.aload 5, 2, 5, 0, 0), (.aload 5, 2, 5, 0, 0), (.iload_n 1, 1, 1, 0, 0), (.invokevirtual 85, 3, 46, 1, 7), (.invokevirtual 58, 3, 20, 1, 7), (.iload_n 3, 1, 3, 0, 0), (.if_icmp .eq 8, 3, 80, 0, 0)], 75),
  (75, [(.iload 4, 2, 4, 0, 0), (.iconst 1, 1, 0, 0, 1), (.iadd, 1, 0, 0, 0), (.ireturn, 1, 0, 0, 0)], 80),
  (80, [(.iinc 4 (-1), 3, 4, 0, -1), (.goto (-50), 3, 33, 0, 0)], 86),
  (86, [(.iconst 0, 1, 0, 0, 0), (.ireturn, 1, 0, 0, 0)], 88)]
set_option maxRecDepth 100000 in
theorem ok_X9_steadySince : pm_oks 9 false 6 (some .int) cX9_steadySince bk_X9_steadySince = true := oksF_ok (by decide +kernel)
set_option maxRecDepth 100000 in
theorem me_X9_steadySince : pm_me 153 = (yX9_steadySince, cX9_steadySince, 6, (some .int), 1, 0) := rfl
theorem mt_X9_steadySince {l : Launch} {g : pm_G} {d mc ms : Nat} {as : List Value} {A : pm_H} {Q : Option Value → pm_H → Prop} (hca : pm_cat 6 as = true) (body : ∀ J : pm_J, pm_Cl l g (fun _ => none) d mc ms (pm_Rq mc ms Q) bk_X9_steadySince J → J 0 (pm_l0 6 as) [] A 0 0) : pm_Mt l g 153 d mc ms as A Q := pm_Mt_of (isI := false) 9 bk_X9_steadySince me_X9_steadySince (plainFor_of_name (by decide +kernel)) (by decide +kernel) (fun h => by cases h) ok_X9_steadySince hca body
def bk_X9_unlikeNow : pm_B := [(0, [(.iconst 0, 1, 0, 0, 0), (.istore_n 3, 1, 3, 0, 0), (.iconst 0, 1, 0, 0, 0), (.istore 4, 2, 4, 0, 0)], 5),
  (5, [(.iload 4, 2, 4, 0, 0), (.aload_n 0, 1, 0, 0, 0), (.getfield 25, 3, 9, 4, 0), (.getfield 36, 3, 7, 3, 0), (.if_icmp .ge 47, 3, 61, 0, 0), (.aload_n 1, 1, 1, 0, 0), (.aload_n 0, 1, 0, 0, 0), (.getfield 25, 3, 9, 4, 0), (.getfield 55, 3, 7, 1, 0), (.iload 4, 2, 4, 0, 0), (.iaload, 1, 0, 0, 0), (.invokevirtual 85, 3, 46, 1, 7), (.istore 5, 2, 5, 0, 0), (.iload 5, 2, 5, 0, 0), (.iconst (-1), 1, 0, 0, -1), (.if_icmp .eq 19, 3, 55, 0, 0), (.aload_n 0, 1, 0, 0, 0), (.aload_n 1, 1, 1, 0, 0), (.iload 5, 2, 5, 0, 0), (.iload 4, 2, 4, 0, 0), (.iload_n 2, 1, 2, 0, 0), (.invokevirtual 95, 3, 157, 4, 9), (.ifCond .eq 6, 3, 55, 0, 0), (.iinc 3 1, 3, 3, 0, 1)], 55),
  (55, [(.iinc 4 1, 3, 4, 0, 1), (.goto (-53), 3, 5, 0, 0)], 61),
  (61, [(.iload_n 3, 1, 3, 0, 0), (.ireturn, 1, 0, 0, 0)], 63)]
set_option maxRecDepth 100000 in
theorem ok_X9_unlikeNow : pm_oks 9 false 6 (some .int) cX9_unlikeNow bk_X9_unlikeNow = true := oksF_ok (by decide +kernel)
set_option maxRecDepth 100000 in
theorem me_X9_unlikeNow : pm_me 156 = (yX9_unlikeNow, cX9_unlikeNow, 6, (some .int), 2, 0) := rfl
theorem mt_X9_unlikeNow {l : Launch} {g : pm_G} {d mc ms : Nat} {as : List Value} {A : pm_H} {Q : Option Value → pm_H → Prop} (hca : pm_cat 6 as = true) (body : ∀ J : pm_J, pm_Cl l g (fun _ => none) d mc ms (pm_Rq mc ms Q) bk_X9_unlikeNow J → J 0 (pm_l0 6 as) [] A 0 0) : pm_Mt l g 156 d mc ms as A Q := pm_Mt_of (isI := false) 9 bk_X9_unlikeNow me_X9_unlikeNow (plainFor_of_name (by decide +kernel)) (by decide +kernel) (fun h => by cases h) ok_X9_unlikeNow hca body
def bk_X9_isUnlike : pm_B := [(0, [(.iload 4, 2, 4, 0, 0), (.tableswitch 63 0 2 #[26, 28, 39], 26, 2, 0, 0)], 28),
  (28, [(.iconst 1, 1, 0, 0, 1), (.ireturn, 1, 1, 0, 0)], 30),
  (30, [(.iload_n 2, 1, 2, 0, 0), (.iload_n 3, 1, 3, 0, 0), (.if_icmp .eq 7, 3, 39, 0, 0), (.iconst 1, 1, 0, 0, 1), (.goto 4, 3, 40, 0, 0)], 39),
  (39, [(.iconst 0, 1, 0, 0, 0)], 40),
  (40, [(.ireturn, 1, 1, 0, 0)], 41),
  (41, [(.aload_n 1, 1, 1, 0, 0), (.iload_n 2, 1, 2, 0, 0), (.iconst 0, 1, 0, 0, 0), (.invokevirtual 99, 3, 44, 2, 7), (.aload_n 0, 1, 0, 0, 0), (.getfield 25, 3, 9, 4, 0), (.iload_n 3, 1, 3, 0, 0), (.iconst 0, 1, 0, 0, 0), (.invokevirtual 99, 3, 44, 2, 7), (.if_icmp .eq 7, 3, 63, 0, 0), (.iconst 1, 1, 0, 0, 1), (.goto 4, 3, 64, 0, 0)], 63),
  (63, [(.iconst 0, 1, 0, 0, 0)], 64),
  (64, [(.ireturn, 1, 1, 0, 0)], 65),
  (65, [(.aload_n 1, 1, 1, 0, 0), (.iload_n 2, 1, 2, 0, 0), (.invokevirtual 58, 3, 20, 1, 7), (.aload_n 0, 1, 0, 0, 0), (.getfield 25, 3, 9, 4, 0), (.iload_n 3, 1, 3, 0, 0), (.invokevirtual 58, 3, 20, 1, 7), (.if_icmp .eq 7, 3, 85, 0, 0), (.iconst 1, 1, 0, 0, 1), (.goto 4, 3, 86, 0, 0)], 85),
  (85, [(.iconst 0, 1, 0, 0, 0)], 86),
  (86, [(.ireturn, 1, 1, 0, 0)], 87)]
set_option maxRecDepth 100000 in
theorem ok_X9_isUnlike : pm_oks 9 false 5 (some .boolean) cX9_isUnlike bk_X9_isUnlike = true := oksF_ok (by decide +kernel)
set_option maxRecDepth 100000 in
theorem me_X9_isUnlike : pm_me 157 = (yX9_isUnlike, cX9_isUnlike, 5, (some .boolean), 4, 0) := rfl
theorem mt_X9_isUnlike {l : Launch} {g : pm_G} {d mc ms : Nat} {as : List Value} {A : pm_H} {Q : Option Value → pm_H → Prop} (hca : pm_cat 5 as = true) (body : ∀ J : pm_J, pm_Cl l g (fun _ => none) d mc ms (pm_Rq mc ms Q) bk_X9_isUnlike J → J 0 (pm_l0 5 as) [] A 0 0) : pm_Mt l g 157 d mc ms as A Q := pm_Mt_of (isI := false) 9 bk_X9_isUnlike me_X9_isUnlike (plainFor_of_name (by decide +kernel)) (by decide +kernel) (fun h => by cases h) ok_X9_isUnlike hca body
def bk_X7_init : pm_B := [(0, [(.aload_n 0, 1, 0, 0, 0), (.invokespecial 3, 3, 0, 0, 0), (.aload_n 0, 1, 0, 0, 0), (.sipush 160, 3, 0, 0, 160), (.newarray .int, 2, 160, 0, 0), (.putfield 9, 3, 7, 0, 1), (.aload_n 0, 1, 0, 0, 0), (.sipush 160, 3, 0, 0, 160), (.newarray .int, 2, 160, 0, 0), (.putfield 15, 3, 7, 1, 1), (.aload_n 0, 1, 0, 0, 0), (.sipush 160, 3, 0, 0, 160), (.newarray .int, 2, 160, 0, 0), (.putfield 18, 3, 7, 2, 1), (.return_, 1, 0, 0, 0)], 32)]
set_option maxRecDepth 100000 in
theorem ok_X7_init : pm_oks 7 true 1 none cX7_init bk_X7_init = true := oksF_ok (by decide +kernel)
set_option maxRecDepth 100000 in
theorem me_X7_init : pm_me 2 = (yX7_init, cX7_init, 1, none, 0, 2) := rfl
theorem mt_X7_init {l : Launch} {g : pm_G} {d mc ms : Nat} {as : List Value} {A : pm_H} {Q : Option Value → pm_H → Prop} (hca : pm_cat 1 as = true) (body : ∀ J : pm_J, pm_Cl l g (fun _ => none) d mc ms (pm_Rq mc ms Q) bk_X7_init J → J 0 (pm_l0 1 as) [] A 0 0) : pm_Mt l g 2 d mc ms as A Q := pm_Mt_of (isI := true) 7 bk_X7_init me_X7_init (plainFor_of_name (by decide +kernel)) (by decide +kernel) (fun _ => by decide +kernel) ok_X7_init hca body
def bk_X7_isSpan : pm_B := [(0, [(.iload_n 1, 1, 1, 0, 0), (.ifCond .lt 20, 3, 21, 0, 0), (.iload_n 1, 1, 1, 0, 0), (.iload_n 2, 1, 2, 0, 0), (.if_icmp .gt 15, 3, 21, 0, 0), (.iload_n 2, 1, 2, 0, 0), (.aload_n 0, 1, 0, 0, 0), (.getfield 21, 3, 7, 3, 0), (.if_icmp .ge 7, 3, 21, 0, 0), (.iconst 1, 1, 0, 0, 1), (.goto 4, 3, 22, 0, 0)], 21),
  (21, [(.iconst 0, 1, 0, 0, 0)], 22),
  (22, [(.ireturn, 1, 1, 0, 0)], 23)]
set_option maxRecDepth 100000 in
theorem ok_X7_isSpan : pm_oks 7 false 3 (some .boolean) cX7_isSpan bk_X7_isSpan = true := oksF_ok (by decide +kernel)
set_option maxRecDepth 100000 in
theorem me_X7_isSpan : pm_me 14 = (yX7_isSpan, cX7_isSpan, 3, (some .boolean), 2, 0) := rfl
theorem mt_X7_isSpan {l : Launch} {g : pm_G} {d mc ms : Nat} {as : List Value} {A : pm_H} {Q : Option Value → pm_H → Prop} (hca : pm_cat 3 as = true) (body : ∀ J : pm_J, pm_Cl l g (fun _ => none) d mc ms (pm_Rq mc ms Q) bk_X7_isSpan J → J 0 (pm_l0 3 as) [] A 0 0) : pm_Mt l g 14 d mc ms as A Q := pm_Mt_of (isI := false) 7 bk_X7_isSpan me_X7_isSpan (plainFor_of_name (by decide +kernel)) (by decide +kernel) (fun h => by cases h) ok_X7_isSpan hca body
def bk_X7_has : pm_B := [(0, [(.iload_n 1, 1, 1, 0, 0), (.ifCond .lt 15, 3, 16, 0, 0), (.iload_n 1, 1, 1, 0, 0), (.aload_n 0, 1, 0, 0, 0), (.getfield 21, 3, 7, 3, 0), (.if_icmp .ge 7, 3, 16, 0, 0), (.iconst 1, 1, 0, 0, 1), (.goto 4, 3, 17, 0, 0)], 16),
  (16, [(.iconst 0, 1, 0, 0, 0)], 17),
  (17, [(.ireturn, 1, 1, 0, 0)], 18)]
set_option maxRecDepth 100000 in
theorem ok_X7_has : pm_oks 7 false 2 (some .boolean) cX7_has bk_X7_has = true := oksF_ok (by decide +kernel)
set_option maxRecDepth 100000 in
theorem me_X7_has : pm_me 19 = (yX7_has, cX7_has, 2, (some .boolean), 1, 0) := rfl
theorem mt_X7_has {l : Launch} {g : pm_G} {d mc ms : Nat} {as : List Value} {A : pm_H} {Q : Option Value → pm_H → Prop} (hca : pm_cat 2 as = true) (body : ∀ J : pm_J, pm_Cl l g (fun _ => none) d mc ms (pm_Rq mc ms Q) bk_X7_has J → J 0 (pm_l0 2 as) [] A 0 0) : pm_Mt l g 19 d mc ms as A Q := pm_Mt_of (isI := false) 7 bk_X7_has me_X7_has (plainFor_of_name (by decide +kernel)) (by decide +kernel) (fun h => by cases h) ok_X7_has hca body
def bk_X7_bondAt : pm_B := [(0, [(.aload_n 0, 1, 0, 0, 0), (.iload_n 1, 1, 1, 0, 0), (.invokevirtual 25, 3, 19, 1, 7), (.ifCond .eq 16, 3, 21, 0, 0), (.aload_n 0, 1, 0, 0, 0), (.aload_n 0, 1, 0, 0, 0), (.getfield 18, 3, 7, 2, 0), (.iload_n 1, 1, 1, 0, 0), (.iaload, 1, 0, 0, 0), (.invokevirtual 29, 3, 21, 1, 7), (.goto 4, 3, 22, 0, 0)], 21),
  (21, [(.iconst (-1), 1, 0, 0, -1)], 22),
  (22, [(.ireturn, 1, 0, 0, 0)], 23)]
set_option maxRecDepth 100000 in
theorem ok_X7_bondAt : pm_oks 7 false 2 (some .int) cX7_bondAt bk_X7_bondAt = true := oksF_ok (by decide +kernel)
set_option maxRecDepth 100000 in
theorem me_X7_bondAt : pm_me 20 = (yX7_bondAt, cX7_bondAt, 2, (some .int), 1, 0) := rfl
theorem mt_X7_bondAt {l : Launch} {g : pm_G} {d mc ms : Nat} {as : List Value} {A : pm_H} {Q : Option Value → pm_H → Prop} (hca : pm_cat 2 as = true) (body : ∀ J : pm_J, pm_Cl l g (fun _ => none) d mc ms (pm_Rq mc ms Q) bk_X7_bondAt J → J 0 (pm_l0 2 as) [] A 0 0) : pm_Mt l g 20 d mc ms as A Q := pm_Mt_of (isI := false) 7 bk_X7_bondAt me_X7_bondAt (plainFor_of_name (by decide +kernel)) (by decide +kernel) (fun h => by cases h) ok_X7_bondAt hca body
def bk_X7_nameAt : pm_B := [(0, [(.aload_n 0, 1, 0, 0, 0), (.iload_n 1, 1, 1, 0, 0), (.invokevirtual 25, 3, 19, 1, 7), (.ifCond .eq 12, 3, 17, 0, 0), (.aload_n 0, 1, 0, 0, 0), (.getfield 15, 3, 7, 1, 0), (.iload_n 1, 1, 1, 0, 0), (.iaload, 1, 0, 0, 0), (.goto 4, 3, 18, 0, 0)], 17),
  (17, [(.iconst (-1), 1, 0, 0, -1)], 18),
  (18, [(.ireturn, 1, 0, 0, 0)], 19)]
set_option maxRecDepth 100000 in
theorem ok_X7_nameAt : pm_oks 7 false 2 (some .int) cX7_nameAt bk_X7_nameAt = true := oksF_ok (by decide +kernel)
set_option maxRecDepth 100000 in
theorem me_X7_nameAt : pm_me 21 = (yX7_nameAt, cX7_nameAt, 2, (some .int), 1, 0) := rfl
theorem mt_X7_nameAt {l : Launch} {g : pm_G} {d mc ms : Nat} {as : List Value} {A : pm_H} {Q : Option Value → pm_H → Prop} (hca : pm_cat 2 as = true) (body : ∀ J : pm_J, pm_Cl l g (fun _ => none) d mc ms (pm_Rq mc ms Q) bk_X7_nameAt J → J 0 (pm_l0 2 as) [] A 0 0) : pm_Mt l g 21 d mc ms as A Q := pm_Mt_of (isI := false) 7 bk_X7_nameAt me_X7_nameAt (plainFor_of_name (by decide +kernel)) (by decide +kernel) (fun h => by cases h) ok_X7_nameAt hca body
def bk_X7_isGap : pm_B := [(0, [(.iload_n 1, 1, 1, 0, 0), (.ifCond .lt 15, 3, 16, 0, 0), (.iload_n 1, 1, 1, 0, 0), (.aload_n 0, 1, 0, 0, 0), (.getfield 21, 3, 7, 3, 0), (.if_icmp .gt 7, 3, 16, 0, 0), (.iconst 1, 1, 0, 0, 1), (.goto 4, 3, 17, 0, 0)], 16),
  (16, [(.iconst 0, 1, 0, 0, 0)], 17),
  (17, [(.ireturn, 1, 1, 0, 0)], 18)]
set_option maxRecDepth 100000 in
theorem ok_X7_isGap : pm_oks 7 false 2 (some .boolean) cX7_isGap bk_X7_isGap = true := oksF_ok (by decide +kernel)
set_option maxRecDepth 100000 in
theorem me_X7_isGap : pm_me 26 = (yX7_isGap, cX7_isGap, 2, (some .boolean), 1, 0) := rfl
theorem mt_X7_isGap {l : Launch} {g : pm_G} {d mc ms : Nat} {as : List Value} {A : pm_H} {Q : Option Value → pm_H → Prop} (hca : pm_cat 2 as = true) (body : ∀ J : pm_J, pm_Cl l g (fun _ => none) d mc ms (pm_Rq mc ms Q) bk_X7_isGap J → J 0 (pm_l0 2 as) [] A 0 0) : pm_Mt l g 26 d mc ms as A Q := pm_Mt_of (isI := false) 7 bk_X7_isGap me_X7_isGap (plainFor_of_name (by decide +kernel)) (by decide +kernel) (fun h => by cases h) ok_X7_isGap hca body
def bk_X7_nextAlike : pm_B := [(0, [(.aload_n 0, 1, 0, 0, 0), (.iload_n 1, 1, 1, 0, 0), (.invokevirtual 25, 3, 19, 1, 7), (.ifCond .ne 5, 3, 10, 0, 0), (.iconst (-1), 1, 0, 0, -1), (.ireturn, 1, 0, 0, 0)], 10),
  (10, [(.iload_n 1, 1, 1, 0, 0), (.iconst 1, 1, 0, 0, 1), (.iadd, 1, 0, 0, 0), (.istore_n 2, 1, 2, 0, 0)], 14),
  (14, [(.iload_n 2, 1, 2, 0, 0), (.aload_n 0, 1, 0, 0, 0), (.getfield 21, 3, 7, 3, 0), (.if_icmp .ge 26, 3, 45, 0, 0), (.aload_n 0, 1, 0, 0, 0), (.getfield 9, 3, 7, 0, 0), (.iload_n 2, 1, 2, 0, 0), (.iaload, 1, 0, 0, 0), (.aload_n 0, 1, 0, 0, 0), (.getfield 9, 3, 7, 0, 0), (.iload_n 1, 1, 1, 0, 0), (.iaload, 1, 0, 0, 0), (.if_icmp .ne 5, 3, 39, 0, 0), (.iload_n 2, 1, 2, 0, 0), (.ireturn, 1, 0, 0, 0)], 39),
  (39, [(.iinc 2 1, 3, 2, 0, 1), (.goto (-28), 3, 14, 0, 0)], 45),
  (45, [(.iconst (-1), 1, 0, 0, -1), (.ireturn, 1, 0, 0, 0)], 47)]
set_option maxRecDepth 100000 in
theorem ok_X7_nextAlike : pm_oks 7 false 3 (some .int) cX7_nextAlike bk_X7_nextAlike = true := oksF_ok (by decide +kernel)
set_option maxRecDepth 100000 in
theorem me_X7_nextAlike : pm_me 43 = (yX7_nextAlike, cX7_nextAlike, 3, (some .int), 1, 0) := rfl
theorem mt_X7_nextAlike {l : Launch} {g : pm_G} {d mc ms : Nat} {as : List Value} {A : pm_H} {Q : Option Value → pm_H → Prop} (hca : pm_cat 3 as = true) (body : ∀ J : pm_J, pm_Cl l g (fun _ => none) d mc ms (pm_Rq mc ms Q) bk_X7_nextAlike J → J 0 (pm_l0 3 as) [] A 0 0) : pm_Mt l g 43 d mc ms as A Q := pm_Mt_of (isI := false) 7 bk_X7_nextAlike me_X7_nextAlike (plainFor_of_name (by decide +kernel)) (by decide +kernel) (fun h => by cases h) ok_X7_nextAlike hca body
def bk_X7_tell : pm_B := [(0, [(.aload_n 0, 1, 0, 0, 0), (.iload_n 1, 1, 1, 0, 0), (.invokevirtual 25, 3, 19, 1, 7), (.ifCond .ne 5, 3, 10, 0, 0), (.iconst (-1), 1, 0, 0, -1), (.ireturn, 1, 0, 0, 0)], 10),
  (10, [(.iload_n 2, 1, 2, 0, 0), (.tableswitch 45 0 2 #[25, 32, 39], 25, 11, 0, 0)], 36),
  (36, [(.aload_n 0, 1, 0, 0, 0), (.getfield 9, 3, 7, 0, 0), (.iload_n 1, 1, 1, 0, 0), (.iaload, 1, 0, 0, 0), (.ireturn, 1, 0, 0, 0)], 43),
  (43, [(.aload_n 0, 1, 0, 0, 0), (.getfield 15, 3, 7, 1, 0), (.iload_n 1, 1, 1, 0, 0), (.iaload, 1, 0, 0, 0), (.ireturn, 1, 0, 0, 0)], 50),
  (50, [(.aload_n 0, 1, 0, 0, 0), (.iload_n 1, 1, 1, 0, 0), (.invokevirtual 33, 3, 20, 1, 7), (.ireturn, 1, 0, 0, 0)], 56),
  (56, [(.iconst (-1), 1, 0, 0, -1), (.ireturn, 1, 0, 0, 0)], 58)]
set_option maxRecDepth 100000 in
theorem ok_X7_tell : pm_oks 7 false 3 (some .int) cX7_tell bk_X7_tell = true := oksF_ok (by decide +kernel)
set_option maxRecDepth 100000 in
theorem me_X7_tell : pm_me 44 = (yX7_tell, cX7_tell, 3, (some .int), 2, 0) := rfl
theorem mt_X7_tell {l : Launch} {g : pm_G} {d mc ms : Nat} {as : List Value} {A : pm_H} {Q : Option Value → pm_H → Prop} (hca : pm_cat 3 as = true) (body : ∀ J : pm_J, pm_Cl l g (fun _ => none) d mc ms (pm_Rq mc ms Q) bk_X7_tell J → J 0 (pm_l0 3 as) [] A 0 0) : pm_Mt l g 44 d mc ms as A Q := pm_Mt_of (isI := false) 7 bk_X7_tell me_X7_tell (plainFor_of_name (by decide +kernel)) (by decide +kernel) (fun h => by cases h) ok_X7_tell hca body
def bk_X7_placeOf : pm_B := [(0, [(.iconst 0, 1, 0, 0, 0), (.istore_n 2, 1, 2, 0, 0)], 2),
  (2, [(.iload_n 2, 1, 2, 0, 0), (.aload_n 0, 1, 0, 0, 0), (.getfield 21, 3, 7, 3, 0), (.if_icmp .ge 21, 3, 28, 0, 0), (.aload_n 0, 1, 0, 0, 0), (.getfield 15, 3, 7, 1, 0), (.iload_n 2, 1, 2, 0, 0), (.iaload, 1, 0, 0, 0), (.iload_n 1, 1, 1, 0, 0), (.if_icmp .ne 5, 3, 22, 0, 0), (.iload_n 2, 1, 2, 0, 0), (.ireturn, 1, 0, 0, 0)], 22),
  (22, [(.iinc 2 1, 3, 2, 0, 1), (.goto (-23), 3, 2, 0, 0)], 28),
  (28, [(.iconst (-1), 1, 0, 0, -1), (.ireturn, 1, 0, 0, 0)], 30)]
set_option maxRecDepth 100000 in
theorem ok_X7_placeOf : pm_oks 7 false 3 (some .int) cX7_placeOf bk_X7_placeOf = true := oksF_ok (by decide +kernel)
set_option maxRecDepth 100000 in
theorem me_X7_placeOf : pm_me 46 = (yX7_placeOf, cX7_placeOf, 3, (some .int), 1, 0) := rfl
theorem mt_X7_placeOf {l : Launch} {g : pm_G} {d mc ms : Nat} {as : List Value} {A : pm_H} {Q : Option Value → pm_H → Prop} (hca : pm_cat 3 as = true) (body : ∀ J : pm_J, pm_Cl l g (fun _ => none) d mc ms (pm_Rq mc ms Q) bk_X7_placeOf J → J 0 (pm_l0 3 as) [] A 0 0) : pm_Mt l g 46 d mc ms as A Q := pm_Mt_of (isI := false) 7 bk_X7_placeOf me_X7_placeOf (plainFor_of_name (by decide +kernel)) (by decide +kernel) (fun h => by cases h) ok_X7_placeOf hca body
def bk_X7_howMany : pm_B := [(0, [(.iconst 0, 1, 0, 0, 0), (.istore_n 2, 1, 2, 0, 0), (.iconst 0, 1, 0, 0, 0), (.istore_n 3, 1, 3, 0, 0)], 4),
  (4, [(.iload_n 3, 1, 3, 0, 0), (.aload_n 0, 1, 0, 0, 0), (.getfield 21, 3, 7, 3, 0), (.if_icmp .ge 22, 3, 31, 0, 0), (.aload_n 0, 1, 0, 0, 0), (.getfield 9, 3, 7, 0, 0), (.iload_n 3, 1, 3, 0, 0), (.iaload, 1, 0, 0, 0), (.iload_n 1, 1, 1, 0, 0), (.if_icmp .ne 6, 3, 25, 0, 0), (.iinc 2 1, 3, 2, 0, 1)], 25),
  (25, [(.iinc 3 1, 3, 3, 0, 1), (.goto (-24), 3, 4, 0, 0)], 31),
  (31, [(.iload_n 2, 1, 2, 0, 0), (.ireturn, 1, 0, 0, 0)], 33)]
set_option maxRecDepth 100000 in
theorem ok_X7_howMany : pm_oks 7 false 4 (some .int) cX7_howMany bk_X7_howMany = true := oksF_ok (by decide +kernel)
set_option maxRecDepth 100000 in
theorem me_X7_howMany : pm_me 48 = (yX7_howMany, cX7_howMany, 4, (some .int), 1, 0) := rfl
theorem mt_X7_howMany {l : Launch} {g : pm_G} {d mc ms : Nat} {as : List Value} {A : pm_H} {Q : Option Value → pm_H → Prop} (hca : pm_cat 4 as = true) (body : ∀ J : pm_J, pm_Cl l g (fun _ => none) d mc ms (pm_Rq mc ms Q) bk_X7_howMany J → J 0 (pm_l0 4 as) [] A 0 0) : pm_Mt l g 48 d mc ms as A Q := pm_Mt_of (isI := false) 7 bk_X7_howMany me_X7_howMany (plainFor_of_name (by decide +kernel)) (by decide +kernel) (fun h => by cases h) ok_X7_howMany hca body
def bk_X7_placeOfNth : pm_B := [(0, [(.iconst 0, 1, 0, 0, 0), (.istore_n 3, 1, 3, 0, 0), (.iconst 0, 1, 0, 0, 0), (.istore 4, 2, 4, 0, 0)], 5),
  (5, [(.iload 4, 2, 4, 0, 0), (.aload_n 0, 1, 0, 0, 0), (.getfield 21, 3, 7, 3, 0), (.if_icmp .ge 31, 3, 42, 0, 0), (.aload_n 0, 1, 0, 0, 0), (.getfield 9, 3, 7, 0, 0), (.iload 4, 2, 4, 0, 0), (.iaload, 1, 0, 0, 0), (.iload_n 1, 1, 1, 0, 0), (.if_icmp .ne 14, 3, 36, 0, 0), (.iload_n 3, 1, 3, 0, 0), (.iload_n 2, 1, 2, 0, 0), (.if_icmp .ne 6, 3, 33, 0, 0), (.iload 4, 2, 4, 0, 0), (.ireturn, 1, 0, 0, 0)], 33),
  (33, [(.iinc 3 1, 3, 3, 0, 1)], 36),
  (36, [(.iinc 4 1, 3, 4, 0, 1), (.goto (-34), 3, 5, 0, 0)], 42),
  (42, [(.iconst (-1), 1, 0, 0, -1), (.ireturn, 1, 0, 0, 0)], 44)]
set_option maxRecDepth 100000 in
theorem ok_X7_placeOfNth : pm_oks 7 false 5 (some .int) cX7_placeOfNth bk_X7_placeOfNth = true := oksF_ok (by decide +kernel)
set_option maxRecDepth 100000 in
theorem me_X7_placeOfNth : pm_me 49 = (yX7_placeOfNth, cX7_placeOfNth, 5, (some .int), 2, 0) := rfl
theorem mt_X7_placeOfNth {l : Launch} {g : pm_G} {d mc ms : Nat} {as : List Value} {A : pm_H} {Q : Option Value → pm_H → Prop} (hca : pm_cat 5 as = true) (body : ∀ J : pm_J, pm_Cl l g (fun _ => none) d mc ms (pm_Rq mc ms Q) bk_X7_placeOfNth J → J 0 (pm_l0 5 as) [] A 0 0) : pm_Mt l g 49 d mc ms as A Q := pm_Mt_of (isI := false) 7 bk_X7_placeOfNth me_X7_placeOfNth (plainFor_of_name (by decide +kernel)) (by decide +kernel) (fun h => by cases h) ok_X7_placeOfNth hca body
def bk_X7_widestGap : pm_B := [(0, [(.iconst (-1), 1, 0, 0, -1), (.istore_n 2, 1, 2, 0, 0), (.iconst 0, 1, 0, 0, 0), (.istore_n 3, 1, 3, 0, 0)], 4),
  (4, [(.iload_n 3, 1, 3, 0, 0), (.aload_n 0, 1, 0, 0, 0), (.getfield 21, 3, 7, 3, 0), (.if_icmp .ge 44, 3, 53, 0, 0), (.aload_n 0, 1, 0, 0, 0), (.getfield 9, 3, 7, 0, 0), (.iload_n 3, 1, 3, 0, 0), (.iaload, 1, 0, 0, 0), (.iload_n 1, 1, 1, 0, 0), (.if_icmp .ne 28, 3, 47, 0, 0), (.aload_n 0, 1, 0, 0, 0), (.getfield 18, 3, 7, 2, 0), (.iload_n 3, 1, 3, 0, 0), (.iaload, 1, 0, 0, 0), (.iconst (-1), 1, 0, 0, -1), (.if_icmp .eq 18, 3, 47, 0, 0), (.iload_n 2, 1, 2, 0, 0), (.iload_n 3, 1, 3, 0, 0), (.aload_n 0, 1, 0, 0, 0), (.getfield 18, 3, 7, 2, 0), (.iload_n 3, 1, 3, 0, 0), (.iaload, 1, 0, 0, 0), (.isub, 1, 0, 0, 0), (.iconst 1, 1, 0, 0, 1), (.isub, 1, 0, 0, 0), (.invokestatic 39, 3, 51, 2, 0), (.istore_n 2, 1, 2, 0, 0)], 47),
  (47, [(.iinc 3 1, 3, 3, 0, 1), (.goto (-46), 3, 4, 0, 0)], 53),
  (53, [(.iload_n 2, 1, 2, 0, 0), (.ireturn, 1, 0, 0, 0)], 55)]
set_option maxRecDepth 100000 in
theorem ok_X7_widestGap : pm_oks 7 false 4 (some .int) cX7_widestGap bk_X7_widestGap = true := oksF_ok (by decide +kernel)
set_option maxRecDepth 100000 in
theorem me_X7_widestGap : pm_me 50 = (yX7_widestGap, cX7_widestGap, 4, (some .int), 1, 0) := rfl
theorem mt_X7_widestGap {l : Launch} {g : pm_G} {d mc ms : Nat} {as : List Value} {A : pm_H} {Q : Option Value → pm_H → Prop} (hca : pm_cat 4 as = true) (body : ∀ J : pm_J, pm_Cl l g (fun _ => none) d mc ms (pm_Rq mc ms Q) bk_X7_widestGap J → J 0 (pm_l0 4 as) [] A 0 0) : pm_Mt l g 50 d mc ms as A Q := pm_Mt_of (isI := false) 7 bk_X7_widestGap me_X7_widestGap (plainFor_of_name (by decide +kernel)) (by decide +kernel) (fun h => by cases h) ok_X7_widestGap hca body
def bk_X7_hasName : pm_B := [(0, [(.aload_n 0, 1, 0, 0, 0), (.iload_n 1, 1, 1, 0, 0), (.invokevirtual 36, 3, 46, 1, 7), (.iconst (-1), 1, 0, 0, -1), (.if_icmp .eq 7, 3, 13, 0, 0), (.iconst 1, 1, 0, 0, 1), (.goto 4, 3, 14, 0, 0)], 13),
  (13, [(.iconst 0, 1, 0, 0, 0)], 14),
  (14, [(.ireturn, 1, 1, 0, 0)], 15)]
set_option maxRecDepth 100000 in
theorem ok_X7_hasName : pm_oks 7 false 2 (some .boolean) cX7_hasName bk_X7_hasName = true := oksF_ok (by decide +kernel)
set_option maxRecDepth 100000 in
theorem me_X7_hasName : pm_me 154 = (yX7_hasName, cX7_hasName, 2, (some .boolean), 1, 0) := rfl
theorem mt_X7_hasName {l : Launch} {g : pm_G} {d mc ms : Nat} {as : List Value} {A : pm_H} {Q : Option Value → pm_H → Prop} (hca : pm_cat 2 as = true) (body : ∀ J : pm_J, pm_Cl l g (fun _ => none) d mc ms (pm_Rq mc ms Q) bk_X7_hasName J → J 0 (pm_l0 2 as) [] A 0 0) : pm_Mt l g 154 d mc ms as A Q := pm_Mt_of (isI := false) 7 bk_X7_hasName me_X7_hasName (plainFor_of_name (by decide +kernel)) (by decide +kernel) (fun h => by cases h) ok_X7_hasName hca body
def bk_X2_init : pm_B := [(0, [(.aload_n 0, 1, 0, 0, 0), (.invokespecial 3, 3, 0, 0, 0), (.aload_n 0, 1, 0, 0, 0), (.bipush 24, 2, 0, 0, 24), (.newarray .int, 2, 24, 0, 0), (.putfield 9, 3, 2, 0, 1), (.aload_n 0, 1, 0, 0, 0), (.bipush 24, 2, 0, 0, 24), (.newarray .int, 2, 24, 0, 0), (.putfield 15, 3, 2, 1, 1), (.aload_n 0, 1, 0, 0, 0), (.getfield 15, 3, 2, 1, 0), (.iconst 1, 1, 0, 0, 1), (.invokestatic 18, 3, 4, 2, 0), (.return_, 1, 0, 0, 0)], 29)]
set_option maxRecDepth 100000 in
theorem ok_X2_init : pm_oks 2 true 1 none cX2_init bk_X2_init = true := oksF_ok (by decide +kernel)
set_option maxRecDepth 100000 in
theorem me_X2_init : pm_me 3 = (yX2_init, cX2_init, 1, none, 0, 2) := rfl
theorem mt_X2_init {l : Launch} {g : pm_G} {d mc ms : Nat} {as : List Value} {A : pm_H} {Q : Option Value → pm_H → Prop} (hca : pm_cat 1 as = true) (body : ∀ J : pm_J, pm_Cl l g (fun _ => none) d mc ms (pm_Rq mc ms Q) bk_X2_init J → J 0 (pm_l0 1 as) [] A 0 0) : pm_Mt l g 3 d mc ms as A Q := pm_Mt_of (isI := true) 2 bk_X2_init me_X2_init (plainFor_of_name (by decide +kernel)) (by decide +kernel) (fun _ => by decide +kernel) ok_X2_init hca body
def bk_X2_read : pm_B := [(0, [(.aload_n 0, 1, 0, 0, 0), (.invokevirtual 37, 3, 56, 0, 2), (.iload_n 2, 1, 2, 0, 0), (.istore 4, 2, 4, 0, 0)], 7),
  (7, [(.iload 4, 2, 4, 0, 0), (.iload_n 3, 1, 3, 0, 0), (.if_icmp .gt 29, 3, 39, 0, 0), (.aload_n 1, 1, 1, 0, 0), (.iload 4, 2, 4, 0, 0), (.invokevirtual 40, 3, 19, 1, 7), (.ifCond .eq 20, 3, 39, 0, 0), (.aload_n 0, 1, 0, 0, 0), (.aload_n 1, 1, 1, 0, 0), (.getfield 46, 3, 7, 0, 0), (.iload 4, 2, 4, 0, 0), (.iaload, 1, 0, 0, 0), (.invokevirtual 49, 3, 57, 1, 2), (.iinc 4 1, 3, 4, 0, 1), (.goto (-29), 3, 7, 0, 0)], 39),
  (39, [(.return_, 1, 0, 0, 0)], 40)]
set_option maxRecDepth 100000 in
theorem ok_X2_read : pm_oks 2 false 5 none cX2_read bk_X2_read = true := oksF_ok (by decide +kernel)
set_option maxRecDepth 100000 in
theorem me_X2_read : pm_me 55 = (yX2_read, cX2_read, 5, none, 3, 0) := rfl
theorem mt_X2_read {l : Launch} {g : pm_G} {d mc ms : Nat} {as : List Value} {A : pm_H} {Q : Option Value → pm_H → Prop} (hca : pm_cat 5 as = true) (body : ∀ J : pm_J, pm_Cl l g (fun _ => none) d mc ms (pm_Rq mc ms Q) bk_X2_read J → J 0 (pm_l0 5 as) [] A 0 0) : pm_Mt l g 55 d mc ms as A Q := pm_Mt_of (isI := false) 2 bk_X2_read me_X2_read (plainFor_of_name (by decide +kernel)) (by decide +kernel) (fun h => by cases h) ok_X2_read hca body
def bk_X2_clear : pm_B := [(0, [(.aload_n 0, 1, 0, 0, 0), (.getfield 9, 3, 2, 0, 0), (.iconst 0, 1, 0, 0, 0), (.invokestatic 18, 3, 4, 2, 0), (.aload_n 0, 1, 0, 0, 0), (.iconst 0, 1, 0, 0, 0), (.putfield 24, 3, 2, 2, 0), (.aload_n 0, 1, 0, 0, 0), (.iconst 0, 1, 0, 0, 0), (.putfield 28, 3, 2, 3, 0), (.aload_n 0, 1, 0, 0, 0), (.iconst 0, 1, 0, 0, 0), (.putfield 31, 3, 2, 4, 0), (.aload_n 0, 1, 0, 0, 0), (.iconst 0, 1, 0, 0, 0), (.putfield 34, 3, 2, 5, 0), (.return_, 1, 0, 0, 0)], 29)]
set_option maxRecDepth 100000 in
theorem ok_X2_clear : pm_oks 2 false 1 none cX2_clear bk_X2_clear = true := oksF_ok (by decide +kernel)
set_option maxRecDepth 100000 in
theorem me_X2_clear : pm_me 56 = (yX2_clear, cX2_clear, 1, none, 0, 0) := rfl
theorem mt_X2_clear {l : Launch} {g : pm_G} {d mc ms : Nat} {as : List Value} {A : pm_H} {Q : Option Value → pm_H → Prop} (hca : pm_cat 1 as = true) (body : ∀ J : pm_J, pm_Cl l g (fun _ => none) d mc ms (pm_Rq mc ms Q) bk_X2_clear J → J 0 (pm_l0 1 as) [] A 0 0) : pm_Mt l g 56 d mc ms as A Q := pm_Mt_of (isI := false) 2 bk_X2_clear me_X2_clear (plainFor_of_name (by decide +kernel)) (by decide +kernel) (fun h => by cases h) ok_X2_clear hca body
def bk_X2_take : pm_B := [(0, [(.aload_n 0, 1, 0, 0, 0), (.dup, 1, 0, 0, 0), (.getfield 24, 3, 2, 2, 0), (.iconst 1, 1, 0, 0, 1), (.iadd, 1, 0, 0, 0), (.putfield 24, 3, 2, 2, 0), (.aload_n 0, 1, 0, 0, 0), (.getfield 9, 3, 2, 0, 0), (.iload_n 1, 1, 1, 0, 0), (.dup2, 1, 0, 0, 0), (.iaload, 1, 0, 0, 0), (.iconst 1, 1, 0, 0, 1), (.iadd, 1, 0, 0, 0), (.iastore, 1, 0, 0, 0), (.aload_n 0, 1, 0, 0, 0), (.getfield 9, 3, 2, 0, 0), (.iload_n 1, 1, 1, 0, 0), (.iaload, 1, 0, 0, 0), (.iconst 1, 1, 0, 0, 1), (.if_icmp .ne 40, 3, 67, 0, 0), (.aload_n 0, 1, 0, 0, 0), (.dup, 1, 0, 0, 0), (.getfield 28, 3, 2, 3, 0), (.iconst 1, 1, 0, 0, 1), (.iadd, 1, 0, 0, 0), (.putfield 28, 3, 2, 3, 0), (.aload_n 0, 1, 0, 0, 0), (.dup, 1, 0, 0, 0), (.getfield 31, 3, 2, 4, 0), (.iconst 1, 1, 0, 0, 1), (.iload_n 1, 1, 1, 0, 0), (.ishl, 1, 0, 0, 0), (.ior, 1, 0, 0, 0), (.putfield 31, 3, 2, 4, 0), (.aload_n 0, 1, 0, 0, 0), (.dup, 1, 0, 0, 0), (.getfield 34, 3, 2, 5, 0), (.aload_n 0, 1, 0, 0, 0), (.getfield 15, 3, 2, 1, 0), (.iload_n 1, 1, 1, 0, 0), (.iaload, 1, 0, 0, 0), (.iadd, 1, 0, 0, 0), (.putfield 34, 3, 2, 5, 0)], 67),
  (67, [(.return_, 1, 0, 0, 0)], 68)]
set_option maxRecDepth 100000 in
theorem ok_X2_take : pm_oks 2 false 2 none cX2_take bk_X2_take = true := oksF_ok (by decide +kernel)
set_option maxRecDepth 100000 in
theorem me_X2_take : pm_me 57 = (yX2_take, cX2_take, 2, none, 1, 0) := rfl
theorem mt_X2_take {l : Launch} {g : pm_G} {d mc ms : Nat} {as : List Value} {A : pm_H} {Q : Option Value → pm_H → Prop} (hca : pm_cat 2 as = true) (body : ∀ J : pm_J, pm_Cl l g (fun _ => none) d mc ms (pm_Rq mc ms Q) bk_X2_take J → J 0 (pm_l0 2 as) [] A 0 0) : pm_Mt l g 57 d mc ms as A Q := pm_Mt_of (isI := false) 2 bk_X2_take me_X2_take (plainFor_of_name (by decide +kernel)) (by decide +kernel) (fun h => by cases h) ok_X2_take hca body
def bk_X2_kindsFrom : pm_B := [(0, [(.iconst 0, 1, 0, 0, 0), (.istore_n 2, 1, 2, 0, 0), (.iconst 0, 1, 0, 0, 0), (.istore_n 3, 1, 3, 0, 0)], 4),
  (4, [(.iload_n 3, 1, 3, 0, 0), (.bipush 24, 2, 0, 0, 24), (.if_icmp .ge 22, 3, 29, 0, 0), (.aload_n 0, 1, 0, 0, 0), (.getfield 9, 3, 2, 0, 0), (.iload_n 3, 1, 3, 0, 0), (.iaload, 1, 0, 0, 0), (.iload_n 1, 1, 1, 0, 0), (.if_icmp .lt 6, 3, 23, 0, 0), (.iinc 2 1, 3, 2, 0, 1)], 23),
  (23, [(.iinc 3 1, 3, 3, 0, 1), (.goto (-22), 3, 4, 0, 0)], 29),
  (29, [(.iload_n 2, 1, 2, 0, 0), (.ireturn, 1, 0, 0, 0)], 31)]
set_option maxRecDepth 100000 in
theorem ok_X2_kindsFrom : pm_oks 2 false 4 (some .int) cX2_kindsFrom bk_X2_kindsFrom = true := oksF_ok (by decide +kernel)
set_option maxRecDepth 100000 in
theorem me_X2_kindsFrom : pm_me 64 = (yX2_kindsFrom, cX2_kindsFrom, 4, (some .int), 1, 0) := rfl
theorem mt_X2_kindsFrom {l : Launch} {g : pm_G} {d mc ms : Nat} {as : List Value} {A : pm_H} {Q : Option Value → pm_H → Prop} (hca : pm_cat 4 as = true) (body : ∀ J : pm_J, pm_Cl l g (fun _ => none) d mc ms (pm_Rq mc ms Q) bk_X2_kindsFrom J → J 0 (pm_l0 4 as) [] A 0 0) : pm_Mt l g 64 d mc ms as A Q := pm_Mt_of (isI := false) 2 bk_X2_kindsFrom me_X2_kindsFrom (plainFor_of_name (by decide +kernel)) (by decide +kernel) (fun h => by cases h) ok_X2_kindsFrom hca body
def bk_X2_kindsOfJust : pm_B := [(0, [(.iconst 0, 1, 0, 0, 0), (.istore_n 2, 1, 2, 0, 0), (.iconst 0, 1, 0, 0, 0), (.istore_n 3, 1, 3, 0, 0)], 4),
  (4, [(.iload_n 3, 1, 3, 0, 0), (.bipush 24, 2, 0, 0, 24), (.if_icmp .ge 22, 3, 29, 0, 0), (.aload_n 0, 1, 0, 0, 0), (.getfield 9, 3, 2, 0, 0), (.iload_n 3, 1, 3, 0, 0), (.iaload, 1, 0, 0, 0), (.iload_n 1, 1, 1, 0, 0), (.if_icmp .ne 6, 3, 23, 0, 0), (.iinc 2 1, 3, 2, 0, 1)], 23),
  (23, [(.iinc 3 1, 3, 3, 0, 1), (.goto (-22), 3, 4, 0, 0)], 29),
  (29, [(.iload_n 2, 1, 2, 0, 0), (.ireturn, 1, 0, 0, 0)], 31)]
set_option maxRecDepth 100000 in
theorem ok_X2_kindsOfJust : pm_oks 2 false 4 (some .int) cX2_kindsOfJust bk_X2_kindsOfJust = true := oksF_ok (by decide +kernel)
set_option maxRecDepth 100000 in
theorem me_X2_kindsOfJust : pm_me 77 = (yX2_kindsOfJust, cX2_kindsOfJust, 4, (some .int), 1, 0) := rfl
theorem mt_X2_kindsOfJust {l : Launch} {g : pm_G} {d mc ms : Nat} {as : List Value} {A : pm_H} {Q : Option Value → pm_H → Prop} (hca : pm_cat 4 as = true) (body : ∀ J : pm_J, pm_Cl l g (fun _ => none) d mc ms (pm_Rq mc ms Q) bk_X2_kindsOfJust J → J 0 (pm_l0 4 as) [] A 0 0) : pm_Mt l g 77 d mc ms as A Q := pm_Mt_of (isI := false) 2 bk_X2_kindsOfJust me_X2_kindsOfJust (plainFor_of_name (by decide +kernel)) (by decide +kernel) (fun h => by cases h) ok_X2_kindsOfJust hca body
def bk_X2_largerThanPart : pm_B := [(0, [(.iconst 0, 1, 0, 0, 0), (.istore_n 2, 1, 2, 0, 0), (.iconst 0, 1, 0, 0, 0), (.istore_n 3, 1, 3, 0, 0)], 4),
  (4, [(.iload_n 3, 1, 3, 0, 0), (.bipush 24, 2, 0, 0, 24), (.if_icmp .ge 34, 3, 41, 0, 0), (.aload_n 0, 1, 0, 0, 0), (.getfield 9, 3, 2, 0, 0), (.iload_n 3, 1, 3, 0, 0), (.iaload, 1, 0, 0, 0), (.i2l, 1, 0, 0, 0), (.iload_n 1, 1, 1, 0, 0), (.i2l, 1, 0, 0, 0), (.lmul, 1, 0, 0, 0), (.aload_n 0, 1, 0, 0, 0), (.getfield 24, 3, 2, 2, 0), (.i2l, 1, 0, 0, 0), (.lcmp, 1, 0, 0, 0), (.ifCond .le 9, 3, 35, 0, 0), (.iload_n 2, 1, 2, 0, 0), (.iconst 1, 1, 0, 0, 1), (.iload_n 3, 1, 3, 0, 0), (.ishl, 1, 0, 0, 0), (.ior, 1, 0, 0, 0), (.istore_n 2, 1, 2, 0, 0)], 35),
  (35, [(.iinc 3 1, 3, 3, 0, 1), (.goto (-34), 3, 4, 0, 0)], 41),
  (41, [(.iload_n 2, 1, 2, 0, 0), (.ireturn, 1, 0, 0, 0)], 43)]
set_option maxRecDepth 100000 in
theorem ok_X2_largerThanPart : pm_oks 2 false 4 (some .int) cX2_largerThanPart bk_X2_largerThanPart = true := oksF_ok (by decide +kernel)
set_option maxRecDepth 100000 in
theorem me_X2_largerThanPart : pm_me 79 = (yX2_largerThanPart, cX2_largerThanPart, 4, (some .int), 1, 0) := rfl
theorem mt_X2_largerThanPart {l : Launch} {g : pm_G} {d mc ms : Nat} {as : List Value} {A : pm_H} {Q : Option Value → pm_H → Prop} (hca : pm_cat 4 as = true) (body : ∀ J : pm_J, pm_Cl l g (fun _ => none) d mc ms (pm_Rq mc ms Q) bk_X2_largerThanPart J → J 0 (pm_l0 4 as) [] A 0 0) : pm_Mt l g 79 d mc ms as A Q := pm_Mt_of (isI := false) 2 bk_X2_largerThanPart me_X2_largerThanPart (plainFor_of_name (by decide +kernel)) (by decide +kernel) (fun h => by cases h) ok_X2_largerThanPart hca body
def bk_X2_placesOfLargest : pm_B := [(0, [(.iconst 0, 1, 0, 0, 0), (.istore_n 2, 1, 2, 0, 0), (.iconst 0, 1, 0, 0, 0), (.istore_n 3, 1, 3, 0, 0), (.iconst 0, 1, 0, 0, 0), (.istore 4, 2, 4, 0, 0)], 7),
  (7, [(.iload 4, 2, 4, 0, 0), (.iload_n 1, 1, 1, 0, 0), (.if_icmp .ge 48, 3, 58, 0, 0), (.iload 4, 2, 4, 0, 0), (.bipush 24, 2, 0, 0, 24), (.if_icmp .ge 41, 3, 58, 0, 0), (.aload_n 0, 1, 0, 0, 0), (.iload_n 2, 1, 2, 0, 0), (.invokevirtual 53, 3, 92, 1, 2), (.istore 5, 2, 5, 0, 0), (.iload 5, 2, 5, 0, 0), (.iconst (-1), 1, 0, 0, -1), (.if_icmp .ne 5, 3, 35, 0, 0), (.iload_n 3, 1, 3, 0, 0), (.ireturn, 1, 0, 0, 0)], 35),
  (35, [(.iload_n 2, 1, 2, 0, 0), (.iconst 1, 1, 0, 0, 1), (.iload 5, 2, 5, 0, 0), (.ishl, 1, 0, 0, 0), (.ior, 1, 0, 0, 0), (.istore_n 2, 1, 2, 0, 0), (.iload_n 3, 1, 3, 0, 0), (.aload_n 0, 1, 0, 0, 0), (.getfield 9, 3, 2, 0, 0), (.iload 5, 2, 5, 0, 0), (.iaload, 1, 0, 0, 0), (.iadd, 1, 0, 0, 0), (.istore_n 3, 1, 3, 0, 0), (.iinc 4 1, 3, 4, 0, 1), (.goto (-48), 3, 7, 0, 0)], 58),
  (58, [(.iload_n 3, 1, 3, 0, 0), (.ireturn, 1, 0, 0, 0)], 60)]
set_option maxRecDepth 100000 in
theorem ok_X2_placesOfLargest : pm_oks 2 false 6 (some .int) cX2_placesOfLargest bk_X2_placesOfLargest = true := oksF_ok (by decide +kernel)
set_option maxRecDepth 100000 in
theorem me_X2_placesOfLargest : pm_me 91 = (yX2_placesOfLargest, cX2_placesOfLargest, 6, (some .int), 1, 0) := rfl
theorem mt_X2_placesOfLargest {l : Launch} {g : pm_G} {d mc ms : Nat} {as : List Value} {A : pm_H} {Q : Option Value → pm_H → Prop} (hca : pm_cat 6 as = true) (body : ∀ J : pm_J, pm_Cl l g (fun _ => none) d mc ms (pm_Rq mc ms Q) bk_X2_placesOfLargest J → J 0 (pm_l0 6 as) [] A 0 0) : pm_Mt l g 91 d mc ms as A Q := pm_Mt_of (isI := false) 2 bk_X2_placesOfLargest me_X2_placesOfLargest (plainFor_of_name (by decide +kernel)) (by decide +kernel) (fun h => by cases h) ok_X2_placesOfLargest hca body
