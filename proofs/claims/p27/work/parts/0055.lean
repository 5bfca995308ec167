
def bk_X10_solve : pm_B := [(0, [(.iconst 0, 1, 0, 0, 0), (.istore_n 1, 1, 1, 0, 0), (.iconst 0, 1, 0, 0, 0), (.istore_n 2, 1, 2, 0, 0)], 4),
  (4, [(.iload_n 2, 1, 2, 0, 0), (.aload_n 0, 1, 0, 0, 0), (.getfield 68, 3, 10, 8, 0), (.getfield 172, 3, 5, 5, 0), (.if_icmp .ge 64, 3, 76, 0, 0), (.aload_n 0, 1, 0, 0, 0), (.getfield 68, 3, 10, 8, 0), (.getfield 351, 3, 5, 4, 0), (.iload_n 2, 1, 2, 0, 0), (.iaload, 1, 0, 0, 0), (.istore_n 3, 1, 3, 0, 0), (.iload_n 3, 1, 3, 0, 0), (.iconst (-1), 1, 0, 0, -1), (.if_icmp .ne 13, 3, 40, 0, 0), (.aload_n 0, 1, 0, 0, 0), (.getfield 12, 3, 10, 0, 0), (.getfield 80, 3, 9, 4, 0), (.goto 11, 3, 48, 0, 0)], 40),
  (40, [(.aload_n 0, 1, 0, 0, 0), (.getfield 12, 3, 10, 0, 0), (.iload_n 3, 1, 3, 0, 0), (.invokevirtual 332, 3, 149, 1, 9)], 48),
  (48, [(.astore 4, 2, 4, 0, 0), (.aload_n 0, 1, 0, 0, 0), (.getfield 68, 3, 10, 8, 0), (.iload_n 2, 1, 2, 0, 0), (.aload 4, 2, 4, 0, 0), (.aload_n 0, 1, 0, 0, 0), (.getfield 19, 3, 10, 1, 0), (.invokevirtual 353, 3, 162, 3, 5), (.ifCond .eq 6, 3, 70, 0, 0), (.iinc 1 1, 3, 1, 0, 1)], 70),
  (70, [(.iinc 2 1, 3, 2, 0, 1), (.goto (-69), 3, 4, 0, 0)], 76),
  (76, [(.iload_n 1, 1, 1, 0, 0), (.ireturn, 1, 0, 0, 0)], 78)]
set_option maxRecDepth 100000 in
theorem ok_X10_solve : pm_oks 10 false 5 (some .int) cX10_solve bk_X10_solve = true := oksF_ok (by decide +kernel)
set_option maxRecDepth 100000 in
theorem me_X10_solve : pm_me 161 = (yX10_solve, cX10_solve, 5, (some .int), 0, 0) := rfl
theorem mt_X10_solve {l : Launch} {g : pm_G} {d mc ms : Nat} {as : List Value} {A : pm_H} {Q : Option Value → pm_H → Prop} (hca : pm_cat 5 as = true) (body : ∀ J : pm_J, pm_Cl l g (fun _ => none) d mc ms (pm_Rq mc ms Q) bk_X10_solve J → J 0 (pm_l0 5 as) [] A 0 0) : pm_Mt l g 161 d mc ms as A Q := pm_Mt_of (isI := false) 10 bk_X10_solve me_X10_solve (plainFor_of_name (by decide +kernel)) (by decide +kernel) (fun h => by cases h) ok_X10_solve hca body
def bk_X10_asked : pm_B := [(0, [(.aload_n 0, 1, 0, 0, 0), (.getfield 68, 3, 10, 8, 0), (.iload_n 1, 1, 1, 0, 0), (.iload_n 2, 1, 2, 0, 0), (.invokevirtual 357, 3, 164, 2, 5), (.ireturn, 1, 0, 0, 0)], 10)]
set_option maxRecDepth 100000 in
theorem ok_X10_asked : pm_oks 10 false 3 (some .int) cX10_asked bk_X10_asked = true := oksF_ok (by decide +kernel)
set_option maxRecDepth 100000 in
theorem me_X10_asked : pm_me 163 = (yX10_asked, cX10_asked, 3, (some .int), 2, 0) := rfl
theorem mt_X10_asked {l : Launch} {g : pm_G} {d mc ms : Nat} {as : List Value} {A : pm_H} {Q : Option Value → pm_H → Prop} (hca : pm_cat 3 as = true) (body : ∀ J : pm_J, pm_Cl l g (fun _ => none) d mc ms (pm_Rq mc ms Q) bk_X10_asked J → J 0 (pm_l0 3 as) [] A 0 0) : pm_Mt l g 163 d mc ms as A Q := pm_Mt_of (isI := false) 10 bk_X10_asked me_X10_asked (plainFor_of_name (by decide +kernel)) (by decide +kernel) (fun h => by cases h) ok_X10_asked hca body
def bk_X10_forget : pm_B := [(0, [(.aload_n 0, 1, 0, 0, 0), (.getfield 68, 3, 10, 8, 0), (.getfield 172, 3, 5, 5, 0), (.istore_n 1, 1, 1, 0, 0), (.aload_n 0, 1, 0, 0, 0), (.getfield 68, 3, 10, 8, 0), (.iconst 0, 1, 0, 0, 0), (.putfield 172, 3, 5, 5, 0), (.iload_n 1, 1, 1, 0, 0), (.ireturn, 1, 0, 0, 0)], 18)]
set_option maxRecDepth 100000 in
theorem ok_X10_forget : pm_oks 10 false 2 (some .int) cX10_forget bk_X10_forget = true := oksF_ok (by decide +kernel)
set_option maxRecDepth 100000 in
theorem me_X10_forget : pm_me 165 = (yX10_forget, cX10_forget, 2, (some .int), 0, 0) := rfl
theorem mt_X10_forget {l : Launch} {g : pm_G} {d mc ms : Nat} {as : List Value} {A : pm_H} {Q : Option Value → pm_H → Prop} (hca : pm_cat 2 as = true) (body : ∀ J : pm_J, pm_Cl l g (fun _ => none) d mc ms (pm_Rq mc ms Q) bk_X10_forget J → J 0 (pm_l0 2 as) [] A 0 0) : pm_Mt l g 165 d mc ms as A Q := pm_Mt_of (isI := false) 10 bk_X10_forget me_X10_forget (plainFor_of_name (by decide +kernel)) (by decide +kernel) (fun h => by cases h) ok_X10_forget hca body
def bk_X9_init : pm_B := [(0, [(.aload_n 0, 1, 0, 0, 0), (.invokespecial 3, 3, 0, 0, 0), (.aload_n 0, 1, 0, 0, 0), (.bipush 41, 2, 0, 0, 41), (.anewarray 9, 3, 41, 0, 0), (.putfield 11, 3, 9, 0, 1), (.aload_n 0, 1, 0, 0, 0), (.sipush 160, 3, 0, 0, 160), (.newarray .int, 2, 160, 0, 0), (.putfield 17, 3, 9, 1, 1), (.aload_n 0, 1, 0, 0, 0), (.bipush 24, 2, 0, 0, 24), (.newarray .int, 2, 24, 0, 0), (.putfield 21, 3, 9, 2, 1), (.aload_n 0, 1, 0, 0, 0), (.new 9, 3, 7, 5, 0), (.dup, 1, 0, 0, 0), (.invokespecial 24, 3, 2, 0, 2), (.putfield 25, 3, 9, 4, 1), (.aload_n 0, 1, 0, 0, 0), (.aload_n 0, 1, 0, 0, 0), (.getfield 25, 3, 9, 4, 0), (.putfield 29, 3, 9, 3, 1), (.aload_n 0, 1, 0, 0, 0), (.getfield 11, 3, 9, 0, 0), (.iconst 0, 1, 0, 0, 0), (.aload_n 0, 1, 0, 0, 0), (.getfield 25, 3, 9, 4, 0), (.aastore, 1, 0, 0, 0), (.return_, 1, 0, 0, 0)], 60)]
set_option maxRecDepth 100000 in
theorem ok_X9_init : pm_oks 9 true 1 none cX9_init bk_X9_init = true := oksF_ok (by decide +kernel)
set_option maxRecDepth 100000 in
theorem me_X9_init : pm_me 1 = (yX9_init, cX9_init, 1, none, 0, 2) := rfl
theorem mt_X9_init {l : Launch} {g : pm_G} {d mc ms : Nat} {as : List Value} {A : pm_H} {Q : Option Value → pm_H → Prop} (hca : pm_cat 1 as = true) (body : ∀ J : pm_J, pm_Cl l g (fun _ => none) d mc ms (pm_Rq mc ms Q) bk_X9_init J → J 0 (pm_l0 1 as) [] A 0 0) : pm_Mt l g 1 d mc ms as A Q := pm_Mt_of (isI := true) 9 bk_X9_init me_X9_init (plainFor_of_name (by decide +kernel)) (by decide +kernel) (fun _ => by decide +kernel) ok_X9_init hca body
def bk_X9_begin : pm_B := [(0, [(.aload_n 0, 1, 0, 0, 0), (.getfield 32, 3, 9, 5, 0), (.iconst 1, 1, 0, 0, 1), (.iadd, 1, 0, 0, 0), (.bipush 41, 2, 0, 0, 41), (.invokestatic 42, 3, 17, 2, 0), (.istore_n 1, 1, 1, 0, 0), (.aload_n 0, 1, 0, 0, 0), (.getfield 11, 3, 9, 0, 0), (.iload_n 1, 1, 1, 0, 0), (.aaload, 1, 0, 0, 0), (.ifnonnull 16, 3, 34, 0, 0), (.aload_n 0, 1, 0, 0, 0), (.getfield 11, 3, 9, 0, 0), (.iload_n 1, 1, 1, 0, 0), (.new 9, 3, 7, 5, 0), (.dup, 1, 0, 0, 0), (.invokespecial 24, 3, 2, 0, 2), (.aastore, 1, 0, 0, 0)], 34),
  (34, [(.aload_n 0, 1, 0, 0, 0), (.aload_n 0, 1, 0, 0, 0), (.getfield 11, 3, 9, 0, 0), (.iload_n 1, 1, 1, 0, 0), (.aaload, 1, 0, 0, 0), (.putfield 29, 3, 9, 3, 1), (.aload_n 0, 1, 0, 0, 0), (.getfield 29, 3, 9, 3, 0), (.iconst 0, 1, 0, 0, 0), (.putfield 36, 3, 7, 3, 0), (.return_, 1, 0, 0, 0)], 53)]
set_option maxRecDepth 100000 in
theorem ok_X9_begin : pm_oks 9 false 2 none cX9_begin bk_X9_begin = true := oksF_ok (by decide +kernel)
set_option maxRecDepth 100000 in
theorem me_X9_begin : pm_me 16 = (yX9_begin, cX9_begin, 2, none, 0, 0) := rfl
theorem mt_X9_begin {l : Launch} {g : pm_G} {d mc ms : Nat} {as : List Value} {A : pm_H} {Q : Option Value → pm_H → Prop} (hca : pm_cat 2 as = true) (body : ∀ J : pm_J, pm_Cl l g (fun _ => none) d mc ms (pm_Rq mc ms Q) bk_X9_begin J → J 0 (pm_l0 2 as) [] A 0 0) : pm_Mt l g 16 d mc ms as A Q := pm_Mt_of (isI := false) 9 bk_X9_begin me_X9_begin (plainFor_of_name (by decide +kernel)) (by decide +kernel) (fun h => by cases h) ok_X9_begin hca body
def bk_X9_keep : pm_B := [(0, [(.iload_n 1, 1, 1, 0, 0), (.istore_n 3, 1, 3, 0, 0)], 2),
  (2, [(.iload_n 3, 1, 3, 0, 0), (.iload_n 2, 1, 2, 0, 0), (.if_icmp .gt 50, 3, 54, 0, 0), (.aload_n 0, 1, 0, 0, 0), (.getfield 25, 3, 9, 4, 0), (.iload_n 3, 1, 3, 0, 0), (.invokevirtual 48, 3, 19, 1, 7), (.ifCond .eq 39, 3, 54, 0, 0), (.aload_n 0, 1, 0, 0, 0), (.aload_n 0, 1, 0, 0, 0), (.getfield 25, 3, 9, 4, 0), (.getfield 52, 3, 7, 0, 0), (.iload_n 3, 1, 3, 0, 0), (.iaload, 1, 0, 0, 0), (.aload_n 0, 1, 0, 0, 0), (.getfield 25, 3, 9, 4, 0), (.getfield 55, 3, 7, 1, 0), (.iload_n 3, 1, 3, 0, 0), (.iaload, 1, 0, 0, 0), (.aload_n 0, 1, 0, 0, 0), (.getfield 25, 3, 9, 4, 0), (.iload_n 3, 1, 3, 0, 0), (.invokevirtual 58, 3, 20, 1, 7), (.invokevirtual 62, 3, 22, 3, 9), (.iinc 3 1, 3, 3, 0, 1), (.goto (-49), 3, 2, 0, 0)], 54),
  (54, [(.return_, 1, 0, 0, 0)], 55)]
set_option maxRecDepth 100000 in
theorem ok_X9_keep : pm_oks 9 false 4 none cX9_keep bk_X9_keep = true := oksF_ok (by decide +kernel)
