
def bk_X4_findTwinApart : pm_B := [(0, [(.iconst 0, 1, 0, 0, 0), (.istore_n 3, 1, 3, 0, 0), (.iconst 0, 1, 0, 0, 0), (.istore 4, 2, 4, 0, 0)], 5),
  (5, [(.iload 4, 2, 4, 0, 0), (.iload_n 2, 1, 2, 0, 0), (.iadd, 1, 0, 0, 0), (.aload_n 1, 1, 1, 0, 0), (.getfield 20, 3, 7, 3, 0), (.if_icmp .ge 98, 3, 111, 0, 0), (.iload_n 3, 1, 3, 0, 0), (.iload 4, 2, 4, 0, 0), (.invokestatic 71, 3, 51, 2, 0), (.istore_n 3, 1, 3, 0, 0)], 23),
  (23, [(.iload_n 3, 1, 3, 0, 0), (.iload_n 2, 1, 2, 0, 0), (.iadd, 1, 0, 0, 0), (.aload_n 1, 1, 1, 0, 0), (.getfield 20, 3, 7, 3, 0), (.if_icmp .ge 30, 3, 60, 0, 0), (.aload_n 1, 1, 1, 0, 0), (.iload 4, 2, 4, 0, 0), (.iload_n 3, 1, 3, 0, 0), (.invokestatic 57, 3, 137, 3, 0), (.aload_n 1, 1, 1, 0, 0), (.iload 4, 2, 4, 0, 0), (.iload_n 2, 1, 2, 0, 0), (.iadd, 1, 0, 0, 0), (.iload_n 3, 1, 3, 0, 0), (.iload_n 2, 1, 2, 0, 0), (.iadd, 1, 0, 0, 0), (.invokestatic 57, 3, 137, 3, 0), (.if_icmp .ne 9, 3, 60, 0, 0), (.iinc 3 1, 3, 3, 0, 1), (.goto (-34), 3, 23, 0, 0)], 60),
  (60, [(.iload_n 3, 1, 3, 0, 0), (.iload 4, 2, 4, 0, 0), (.isub, 1, 0, 0, 0), (.istore 5, 2, 5, 0, 0), (.iload 5, 2, 5, 0, 0), (.aload_n 0, 1, 0, 0, 0), (.getfield 64, 3, 4, 2, 0), (.if_icmp .gt 21, 3, 93, 0, 0), (.iload 5, 2, 5, 0, 0), (.aload_n 0, 1, 0, 0, 0), (.getfield 64, 3, 4, 2, 0), (.if_icmp .ne 24, 3, 105, 0, 0), (.iload 4, 2, 4, 0, 0), (.aload_n 0, 1, 0, 0, 0), (.getfield 61, 3, 4, 1, 0), (.if_icmp .ge 15, 3, 105, 0, 0)], 93),
  (93, [(.aload_n 0, 1, 0, 0, 0), (.iload 4, 2, 4, 0, 0), (.putfield 61, 3, 4, 1, 0), (.aload_n 0, 1, 0, 0, 0), (.iload 5, 2, 5, 0, 0), (.putfield 64, 3, 4, 2, 0)], 105),
  (105, [(.iinc 4 1, 3, 4, 0, 1), (.goto (-103), 3, 5, 0, 0)], 111),
  (111, [(.return_, 1, 0, 0, 0)], 112)]
set_option maxRecDepth 100000 in
theorem ok_X4_findTwinApart : pm_oks 4 false 6 none cX4_findTwinApart bk_X4_findTwinApart = true := oksF_ok (by decide +kernel)
set_option maxRecDepth 100000 in
theorem me_X4_findTwinApart : pm_me 140 = (yX4_findTwinApart, cX4_findTwinApart, 6, none, 2, 0) := rfl
theorem mt_X4_findTwinApart {l : Launch} {g : pm_G} {d mc ms : Nat} {as : List Value} {A : pm_H} {Q : Option Value → pm_H → Prop} (hca : pm_cat 6 as = true) (body : ∀ J : pm_J, pm_Cl l g (fun _ => none) d mc ms (pm_Rq mc ms Q) bk_X4_findTwinApart J → J 0 (pm_l0 6 as) [] A 0 0) : pm_Mt l g 140 d mc ms as A Q := pm_Mt_of (isI := false) 4 bk_X4_findTwinApart me_X4_findTwinApart (plainFor_of_name (by decide +kernel)) (by decide +kernel) (fun h => by cases h) ok_X4_findTwinApart hca body
def bk_X3_init : pm_B := [(0, [(.aload_n 0, 1, 0, 0, 0), (.invokespecial 3, 3, 0, 0, 0), (.aload_n 0, 1, 0, 0, 0), (.bipush 9, 2, 0, 0, 9), (.sipush 161, 3, 0, 0, 161), (.multianewarray 9 2, 4, 9, 161, 0), (.putfield 11, 3, 3, 0, 1), (.return_, 1, 0, 0, 0)], 18)]
set_option maxRecDepth 100000 in
theorem ok_X3_init : pm_oks 3 true 1 none cX3_init bk_X3_init = true := oksF_ok (by decide +kernel)
set_option maxRecDepth 100000 in
theorem me_X3_init : pm_me 10 = (yX3_init, cX3_init, 1, none, 0, 2) := rfl
theorem mt_X3_init {l : Launch} {g : pm_G} {d mc ms : Nat} {as : List Value} {A : pm_H} {Q : Option Value → pm_H → Prop} (hca : pm_cat 1 as = true) (body : ∀ J : pm_J, pm_Cl l g (fun _ => none) d mc ms (pm_Rq mc ms Q) bk_X3_init J → J 0 (pm_l0 1 as) [] A 0 0) : pm_Mt l g 10 d mc ms as A Q := pm_Mt_of (isI := true) 3 bk_X3_init me_X3_init (plainFor_of_name (by decide +kernel)) (by decide +kernel) (fun _ => by decide +kernel) ok_X3_init hca body
def bk_X3_greedy : pm_B := [(0, [(.aload_n 2, 1, 2, 0, 0), (.invokevirtual 16, 3, 56, 0, 2), (.iconst 0, 1, 0, 0, 0), (.istore 5, 2, 5, 0, 0), (.iconst 0, 1, 0, 0, 0), (.istore 6, 2, 6, 0, 0)], 10),
  (10, [(.iload 6, 2, 6, 0, 0), (.aload_n 1, 1, 1, 0, 0), (.getfield 21, 3, 7, 3, 0), (.if_icmp .ge 58, 3, 74, 0, 0), (.aload_n 2, 1, 2, 0, 0), (.aload_n 1, 1, 1, 0, 0), (.getfield 27, 3, 7, 0, 0), (.iload 6, 2, 6, 0, 0), (.iaload, 1, 0, 0, 0), (.invokevirtual 31, 3, 57, 1, 2), (.aload_n 2, 1, 2, 0, 0), (.getfield 35, 3, 2, 3, 0), (.iload_n 3, 1, 3, 0, 0), (.if_icmp .le 33, 3, 68, 0, 0), (.iload 5, 2, 5, 0, 0), (.iload 4, 2, 4, 0, 0), (.if_icmp .ne 8, 3, 50, 0, 0), (.iload 6, 2, 6, 0, 0), (.iconst 1, 1, 0, 0, 1), (.isub, 1, 0, 0, 0), (.ireturn, 1, 0, 0, 0)], 50),
  (50, [(.iinc 5 1, 3, 5, 0, 1), (.aload_n 2, 1, 2, 0, 0), (.invokevirtual 16, 3, 56, 0, 2), (.aload_n 2, 1, 2, 0, 0), (.aload_n 1, 1, 1, 0, 0), (.getfield 27, 3, 7, 0, 0), (.iload 6, 2, 6, 0, 0), (.iaload, 1, 0, 0, 0), (.invokevirtual 31, 3, 57, 1, 2)], 68),
  (68, [(.iinc 6 1, 3, 6, 0, 1), (.goto (-61), 3, 10, 0, 0)], 74),
  (74, [(.iload 4, 2, 4, 0, 0), (.iconst (-1), 1, 0, 0, -1), (.if_icmp .ne 19, 3, 96, 0, 0), (.aload_n 1, 1, 1, 0, 0), (.getfield 21, 3, 7, 3, 0), (.ifCond .ne 7, 3, 91, 0, 0), (.iconst 0, 1, 0, 0, 0), (.goto 7, 3, 95, 0, 0)], 91),
  (91, [(.iload 5, 2, 5, 0, 0), (.iconst 1, 1, 0, 0, 1), (.iadd, 1, 0, 0, 0)], 95),
  (95, [(.ireturn, 1, 0, 0, 0)], 96),
  (96, [(.iload 5, 2, 5, 0, 0), (.iload 4, 2, 4, 0, 0), (.if_icmp .ne 12, 3, 112, 0, 0), (.aload_n 1, 1, 1, 0, 0), (.getfield 21, 3, 7, 3, 0), (.iconst 1, 1, 0, 0, 1), (.isub, 1, 0, 0, 0), (.goto 4, 3, 113, 0, 0)], 112),
  (112, [(.iconst (-1), 1, 0, 0, -1)], 113),
  (113, [(.ireturn, 1, 0, 0, 0)], 114)]
set_option maxRecDepth 100000 in
theorem ok_X3_greedy : pm_oks 3 false 7 (some .int) cX3_greedy bk_X3_greedy = true := oksF_ok (by decide +kernel)
set_option maxRecDepth 100000 in
theorem me_X3_greedy : pm_me 142 = (yX3_greedy, cX3_greedy, 7, (some .int), 4, 0) := rfl
theorem mt_X3_greedy {l : Launch} {g : pm_G} {d mc ms : Nat} {as : List Value} {A : pm_H} {Q : Option Value → pm_H → Prop} (hca : pm_cat 7 as = true) (body : ∀ J : pm_J, pm_Cl l g (fun _ => none) d mc ms (pm_Rq mc ms Q) bk_X3_greedy J → J 0 (pm_l0 7 as) [] A 0 0) : pm_Mt l g 142 d mc ms as A Q := pm_Mt_of (isI := false) 3 bk_X3_greedy me_X3_greedy (plainFor_of_name (by decide +kernel)) (by decide +kernel) (fun h => by cases h) ok_X3_greedy hca body
