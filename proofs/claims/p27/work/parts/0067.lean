
theorem mt_X6_forMass {l : Launch} {g : pm_G} {d mc ms : Nat} {as : List Value} {A : pm_H} {Q : Option Value → pm_H → Prop} (hca : pm_cat 6 as = true) (body : ∀ J : pm_J, pm_Cl l g (fun _ => none) d mc ms (pm_Rq mc ms Q) bk_X6_forMass J → J 0 (pm_l0 6 as) [] A 0 0) : pm_Mt l g 105 d mc ms as A Q := pm_Mt_of (isI := false) 6 bk_X6_forMass me_X6_forMass (plainFor_of_name (by decide +kernel)) (by decide +kernel) (fun h => by cases h) ok_X6_forMass hca body
def bk_X6_findShortestWith : pm_B := [(0, [(.aload_n 0, 1, 0, 0, 0), (.invokevirtual 45, 3, 108, 0, 6), (.aload_n 0, 1, 0, 0, 0), (.iconst 0, 1, 0, 0, 0), (.putfield 48, 3, 6, 4, 0), (.aload_n 0, 1, 0, 0, 0), (.getfield 9, 3, 6, 0, 0), (.iconst (-1), 1, 0, 0, -1), (.invokestatic 51, 3, 4, 2, 0), (.iconst 0, 1, 0, 0, 0), (.istore_n 3, 1, 3, 0, 0)], 19),
  (19, [(.iload_n 3, 1, 3, 0, 0), (.aload_n 1, 1, 1, 0, 0), (.getfield 27, 3, 7, 3, 0), (.if_icmp .ge 83, 3, 107, 0, 0), (.aload_n 0, 1, 0, 0, 0), (.getfield 9, 3, 6, 0, 0), (.aload_n 1, 1, 1, 0, 0), (.getfield 32, 3, 7, 0, 0), (.iload_n 3, 1, 3, 0, 0), (.iaload, 1, 0, 0, 0), (.iload_n 3, 1, 3, 0, 0), (.iastore, 1, 0, 0, 0), (.aload_n 0, 1, 0, 0, 0), (.iload_n 2, 1, 2, 0, 0), (.iload_n 3, 1, 3, 0, 0), (.invokevirtual 57, 3, 109, 2, 6), (.istore 4, 2, 4, 0, 0), (.aload_n 0, 1, 0, 0, 0), (.dup, 1, 0, 0, 0), (.getfield 48, 3, 6, 4, 0), (.iload 4, 2, 4, 0, 0), (.iconst 1, 1, 0, 0, 1), (.iadd, 1, 0, 0, 0), (.iadd, 1, 0, 0, 0), (.putfield 48, 3, 6, 4, 0), (.iload 4, 2, 4, 0, 0), (.iconst (-1), 1, 0, 0, -1), (.if_icmp .eq 38, 3, 101, 0, 0), (.aload_n 0, 1, 0, 0, 0), (.getfield 15, 3, 6, 1, 0), (.iconst (-1), 1, 0, 0, -1), (.if_icmp .eq 19, 3, 90, 0, 0), (.iload_n 3, 1, 3, 0, 0), (.iload 4, 2, 4, 0, 0), (.isub, 1, 0, 0, 0), (.aload_n 0, 1, 0, 0, 0), (.getfield 19, 3, 6, 2, 0), (.aload_n 0, 1, 0, 0, 0), (.getfield 15, 3, 6, 1, 0), (.isub, 1, 0, 0, 0), (.if_icmp .ge 14, 3, 101, 0, 0)], 90),
  (90, [(.aload_n 0, 1, 0, 0, 0), (.iload 4, 2, 4, 0, 0), (.putfield 15, 3, 6, 1, 0), (.aload_n 0, 1, 0, 0, 0), (.iload_n 3, 1, 3, 0, 0), (.putfield 19, 3, 6, 2, 0)], 101),
  (101, [(.iinc 3 1, 3, 3, 0, 1), (.goto (-85), 3, 19, 0, 0)], 107),
  (107, [(.return_, 1, 0, 0, 0)], 108)]
set_option maxRecDepth 100000 in
theorem ok_X6_findShortestWith : pm_oks 6 false 5 none cX6_findShortestWith bk_X6_findShortestWith = true := oksF_ok (by decide +kernel)
set_option maxRecDepth 100000 in
theorem me_X6_findShortestWith : pm_me 107 = (yX6_findShortestWith, cX6_findShortestWith, 5, none, 2, 0) := rfl
theorem mt_X6_findShortestWith {l : Launch} {g : pm_G} {d mc ms : Nat} {as : List Value} {A : pm_H} {Q : Option Value → pm_H → Prop} (hca : pm_cat 5 as = true) (body : ∀ J : pm_J, pm_Cl l g (fun _ => none) d mc ms (pm_Rq mc ms Q) bk_X6_findShortestWith J → J 0 (pm_l0 5 as) [] A 0 0) : pm_Mt l g 107 d mc ms as A Q := pm_Mt_of (isI := false) 6 bk_X6_findShortestWith me_X6_findShortestWith (plainFor_of_name (by decide +kernel)) (by decide +kernel) (fun h => by cases h) ok_X6_findShortestWith hca body
def bk_X6_clearFound : pm_B := [(0, [(.aload_n 0, 1, 0, 0, 0), (.iconst (-1), 1, 0, 0, -1), (.putfield 15, 3, 6, 1, 0), (.aload_n 0, 1, 0, 0, 0), (.iconst (-1), 1, 0, 0, -1), (.putfield 19, 3, 6, 2, 0), (.return_, 1, 0, 0, 0)], 11)]
set_option maxRecDepth 100000 in
theorem ok_X6_clearFound : pm_oks 6 false 1 none cX6_clearFound bk_X6_clearFound = true := oksF_ok (by decide +kernel)
set_option maxRecDepth 100000 in
theorem me_X6_clearFound : pm_me 108 = (yX6_clearFound, cX6_clearFound, 1, none, 0, 0) := rfl
theorem mt_X6_clearFound {l : Launch} {g : pm_G} {d mc ms : Nat} {as : List Value} {A : pm_H} {Q : Option Value → pm_H → Prop} (hca : pm_cat 1 as = true) (body : ∀ J : pm_J, pm_Cl l g (fun _ => none) d mc ms (pm_Rq mc ms Q) bk_X6_clearFound J → J 0 (pm_l0 1 as) [] A 0 0) : pm_Mt l g 108 d mc ms as A Q := pm_Mt_of (isI := false) 6 bk_X6_clearFound me_X6_clearFound (plainFor_of_name (by decide +kernel)) (by decide +kernel) (fun h => by cases h) ok_X6_clearFound hca body
def bk_X6_earliestLatest : pm_B := [(0, [(.iload_n 2, 1, 2, 0, 0), (.istore_n 3, 1, 3, 0, 0), (.iconst 0, 1, 0, 0, 0), (.istore 4, 2, 4, 0, 0)], 5),
  (5, [(.iload 4, 2, 4, 0, 0), (.bipush 24, 2, 0, 0, 24), (.if_icmp .ge 30, 3, 39, 0, 0), (.iload_n 1, 1, 1, 0, 0), (.iconst 1, 1, 0, 0, 1), (.iload 4, 2, 4, 0, 0), (.ishl, 1, 0, 0, 0), (.iand, 1, 0, 0, 0), (.ifCond .eq 15, 3, 33, 0, 0), (.iload_n 3, 1, 3, 0, 0), (.aload_n 0, 1, 0, 0, 0), (.getfield 9, 3, 6, 0, 0), (.iload 4, 2, 4, 0, 0), (.iaload, 1, 0, 0, 0), (.invokestatic 61, 3, 87, 2, 0), (.istore_n 3, 1, 3, 0, 0)], 33),
  (33, [(.iinc 4 1, 3, 4, 0, 1), (.goto (-31), 3, 5, 0, 0)], 39),
  (39, [(.iload_n 3, 1, 3, 0, 0), (.ireturn, 1, 0, 0, 0)], 41)]
set_option maxRecDepth 100000 in
theorem ok_X6_earliestLatest : pm_oks 6 false 5 (some .int) cX6_earliestLatest bk_X6_earliestLatest = true := oksF_ok (by decide +kernel)
set_option maxRecDepth 100000 in
theorem me_X6_earliestLatest : pm_me 109 = (yX6_earliestLatest, cX6_earliestLatest, 5, (some .int), 2, 0) := rfl
theorem mt_X6_earliestLatest {l : Launch} {g : pm_G} {d mc ms : Nat} {as : List Value} {A : pm_H} {Q : Option Value → pm_H → Prop} (hca : pm_cat 5 as = true) (body : ∀ J : pm_J, pm_Cl l g (fun _ => none) d mc ms (pm_Rq mc ms Q) bk_X6_earliestLatest J → J 0 (pm_l0 5 as) [] A 0 0) : pm_Mt l g 109 d mc ms as A Q := pm_Mt_of (isI := false) 6 bk_X6_earliestLatest me_X6_earliestLatest (plainFor_of_name (by decide +kernel)) (by decide +kernel) (fun h => by cases h) ok_X6_earliestLatest hca body
def bk_X6_endFound : pm_B := [(0, [(.iload_n 1, 1, 1, 0, 0), (.ifCond .ne 10, 3, 11, 0, 0), (.aload_n 0, 1, 0, 0, 0), (.getfield 15, 3, 6, 1, 0), (.goto 16, 3, 24, 0, 0)], 11),
  (11, [(.iload_n 1, 1, 1, 0, 0), (.iconst 1, 1, 0, 0, 1), (.if_icmp .ne 10, 3, 23, 0, 0), (.aload_n 0, 1, 0, 0, 0), (.getfield 19, 3, 6, 2, 0), (.goto 4, 3, 24, 0, 0)], 23),
  (23, [(.iconst (-1), 1, 0, 0, -1)], 24),
  (24, [(.ireturn, 1, 0, 0, 0)], 25)]
set_option maxRecDepth 100000 in
theorem ok_X6_endFound : pm_oks 6 false 2 (some .int) cX6_endFound bk_X6_endFound = true := oksF_ok (by decide +kernel)
set_option maxRecDepth 100000 in
theorem me_X6_endFound : pm_me 110 = (yX6_endFound, cX6_endFound, 2, (some .int), 1, 0) := rfl
theorem mt_X6_endFound {l : Launch} {g : pm_G} {d mc ms : Nat} {as : List Value} {A : pm_H} {Q : Option Value → pm_H → Prop} (hca : pm_cat 2 as = true) (body : ∀ J : pm_J, pm_Cl l g (fun _ => none) d mc ms (pm_Rq mc ms Q) bk_X6_endFound J → J 0 (pm_l0 2 as) [] A 0 0) : pm_Mt l g 110 d mc ms as A Q := pm_Mt_of (isI := false) 6 bk_X6_endFound me_X6_endFound (plainFor_of_name (by decide +kernel)) (by decide +kernel) (fun h => by cases h) ok_X6_endFound hca body

