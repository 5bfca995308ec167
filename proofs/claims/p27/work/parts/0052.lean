
def bk_X10_sets : pm_B := [(0, [(.iload_n 1, 1, 1, 0, 0), (.iconst 1, 1, 0, 0, 1), (.if_icmp .lt 39, 3, 41, 0, 0), (.iload_n 1, 1, 1, 0, 0), (.aload_n 0, 1, 0, 0, 0), (.getfield 12, 3, 10, 0, 0), (.getfield 80, 3, 9, 4, 0), (.getfield 103, 3, 7, 3, 0), (.if_icmp .gt 25, 3, 41, 0, 0), (.aload_n 0, 1, 0, 0, 0), (.getfield 54, 3, 10, 6, 0), (.aload_n 0, 1, 0, 0, 0), (.getfield 12, 3, 10, 0, 0), (.getfield 80, 3, 9, 4, 0), (.aload_n 0, 1, 0, 0, 0), (.getfield 19, 3, 10, 1, 0), (.iload_n 1, 1, 1, 0, 0), (.invokevirtual 305, 3, 132, 3, 4), (.goto 4, 3, 42, 0, 0)], 41),
  (41, [(.iconst 0, 1, 0, 0, 0)], 42),
  (42, [(.ireturn, 1, 0, 0, 0)], 43)]
set_option maxRecDepth 100000 in
theorem ok_X10_sets : pm_oks 10 false 2 (some .int) cX10_sets bk_X10_sets = true := oksF_ok (by decide +kernel)
set_option maxRecDepth 100000 in
theorem me_X10_sets : pm_me 131 = (yX10_sets, cX10_sets, 2, (some .int), 1, 0) := rfl
theorem mt_X10_sets {l : Launch} {g : pm_G} {d mc ms : Nat} {as : List Value} {A : pm_H} {Q : Option Value → pm_H → Prop} (hca : pm_cat 2 as = true) (body : ∀ J : pm_J, pm_Cl l g (fun _ => none) d mc ms (pm_Rq mc ms Q) bk_X10_sets J → J 0 (pm_l0 2 as) [] A 0 0) : pm_Mt l g 131 d mc ms as A Q := pm_Mt_of (isI := false) 10 bk_X10_sets me_X10_sets (plainFor_of_name (by decide +kernel)) (by decide +kernel) (fun h => by cases h) ok_X10_sets hca body
def bk_X10_match : pm_B := [(0, [(.aload_n 0, 1, 0, 0, 0), (.getfield 12, 3, 10, 0, 0), (.getfield 80, 3, 9, 4, 0), (.iload_n 1, 1, 1, 0, 0), (.iload_n 2, 1, 2, 0, 0), (.invokevirtual 111, 3, 14, 2, 7), (.ifCond .eq 8, 3, 20, 0, 0), (.iload_n 3, 1, 3, 0, 0), (.iconst (-1), 1, 0, 0, -1), (.if_icmp .ge 5, 3, 22, 0, 0)], 20),
  (20, [(.iconst (-1), 1, 0, 0, -1), (.ireturn, 1, 0, 0, 0)], 22),
  (22, [(.aload_n 0, 1, 0, 0, 0), (.getfield 54, 3, 10, 6, 0), (.aload_n 0, 1, 0, 0, 0), (.getfield 12, 3, 10, 0, 0), (.getfield 80, 3, 9, 4, 0), (.iload_n 1, 1, 1, 0, 0), (.iload_n 2, 1, 2, 0, 0), (.iload_n 3, 1, 3, 0, 0), (.invokevirtual 308, 3, 135, 4, 4), (.ireturn, 1, 0, 0, 0)], 40)]
set_option maxRecDepth 100000 in
theorem ok_X10_match : pm_oks 10 false 4 (some .int) cX10_match bk_X10_match = true := oksF_ok (by decide +kernel)
set_option maxRecDepth 100000 in
theorem me_X10_match : pm_me 134 = (yX10_match, cX10_match, 4, (some .int), 3, 0) := rfl
theorem mt_X10_match {l : Launch} {g : pm_G} {d mc ms : Nat} {as : List Value} {A : pm_H} {Q : Option Value → pm_H → Prop} (hca : pm_cat 4 as = true) (body : ∀ J : pm_J, pm_Cl l g (fun _ => none) d mc ms (pm_Rq mc ms Q) bk_X10_match J → J 0 (pm_l0 4 as) [] A 0 0) : pm_Mt l g 134 d mc ms as A Q := pm_Mt_of (isI := false) 10 bk_X10_match me_X10_match (plainFor_of_name (by decide +kernel)) (by decide +kernel) (fun h => by cases h) ok_X10_match hca body
def bk_X10_twin : pm_B := [(0, [(.aload_n 0, 1, 0, 0, 0), (.getfield 54, 3, 10, 6, 0), (.aload_n 0, 1, 0, 0, 0), (.getfield 12, 3, 10, 0, 0), (.getfield 80, 3, 9, 4, 0), (.invokevirtual 311, 3, 139, 1, 4), (.aload_n 0, 1, 0, 0, 0), (.getfield 54, 3, 10, 6, 0), (.getfield 314, 3, 4, 2, 0), (.ifCond .ne 5, 3, 26, 0, 0), (.iconst (-1), 1, 0, 0, -1), (.ireturn, 1, 0, 0, 0)], 26),
  (26, [(.iload_n 1, 1, 1, 0, 0), (.ifCond .ne 13, 3, 40, 0, 0), (.aload_n 0, 1, 0, 0, 0), (.getfield 54, 3, 10, 6, 0), (.getfield 317, 3, 4, 1, 0), (.goto 19, 3, 56, 0, 0)], 40),
  (40, [(.iload_n 1, 1, 1, 0, 0), (.iconst 1, 1, 0, 0, 1), (.if_icmp .ne 13, 3, 55, 0, 0), (.aload_n 0, 1, 0, 0, 0), (.getfield 54, 3, 10, 6, 0), (.getfield 314, 3, 4, 2, 0), (.goto 4, 3, 56, 0, 0)], 55),
  (55, [(.iconst (-1), 1, 0, 0, -1)], 56),
  (56, [(.ireturn, 1, 0, 0, 0)], 57)]
set_option maxRecDepth 100000 in
theorem ok_X10_twin : pm_oks 10 false 2 (some .int) cX10_twin bk_X10_twin = true := oksF_ok (by decide +kernel)
set_option maxRecDepth 100000 in
theorem me_X10_twin : pm_me 138 = (yX10_twin, cX10_twin, 2, (some .int), 1, 0) := rfl
theorem mt_X10_twin {l : Launch} {g : pm_G} {d mc ms : Nat} {as : List Value} {A : pm_H} {Q : Option Value → pm_H → Prop} (hca : pm_cat 2 as = true) (body : ∀ J : pm_J, pm_Cl l g (fun _ => none) d mc ms (pm_Rq mc ms Q) bk_X10_twin J → J 0 (pm_l0 2 as) [] A 0 0) : pm_Mt l g 138 d mc ms as A Q := pm_Mt_of (isI := false) 10 bk_X10_twin me_X10_twin (plainFor_of_name (by decide +kernel)) (by decide +kernel) (fun h => by cases h) ok_X10_twin hca body
def bk_X10_parts : pm_B := [(0, [(.iload_n 1, 1, 1, 0, 0), (.iconst 1, 1, 0, 0, 1), (.if_icmp .lt 31, 3, 33, 0, 0), (.iload_n 2, 1, 2, 0, 0), (.iconst (-1), 1, 0, 0, -1), (.if_icmp .lt 26, 3, 33, 0, 0), (.aload_n 0, 1, 0, 0, 0), (.getfield 61, 3, 10, 7, 0), (.aload_n 0, 1, 0, 0, 0), (.getfield 12, 3, 10, 0, 0), (.getfield 80, 3, 9, 4, 0), (.aload_n 0, 1, 0, 0, 0), (.getfield 19, 3, 10, 1, 0), (.iload_n 1, 1, 1, 0, 0), (.iload_n 2, 1, 2, 0, 0), (.invokevirtual 320, 3, 142, 4, 3), (.goto 4, 3, 34, 0, 0)], 33),
  (33, [(.iconst (-1), 1, 0, 0, -1)], 34),
  (34, [(.ireturn, 1, 0, 0, 0)], 35)]
set_option maxRecDepth 100000 in
theorem ok_X10_parts : pm_oks 10 false 3 (some .int) cX10_parts bk_X10_parts = true := oksF_ok (by decide +kernel)
set_option maxRecDepth 100000 in
theorem me_X10_parts : pm_me 141 = (yX10_parts, cX10_parts, 3, (some .int), 2, 0) := rfl
theorem mt_X10_parts {l : Launch} {g : pm_G} {d mc ms : Nat} {as : List Value} {A : pm_H} {Q : Option Value → pm_H → Prop} (hca : pm_cat 3 as = true) (body : ∀ J : pm_J, pm_Cl l g (fun _ => none) d mc ms (pm_Rq mc ms Q) bk_X10_parts J → J 0 (pm_l0 3 as) [] A 0 0) : pm_Mt l g 141 d mc ms as A Q := pm_Mt_of (isI := false) 10 bk_X10_parts me_X10_parts (plainFor_of_name (by decide +kernel)) (by decide +kernel) (fun h => by cases h) ok_X10_parts hca body
def bk_X10_best : pm_B := [(0, [(.iload_n 1, 1, 1, 0, 0), (.iconst 1, 1, 0, 0, 1), (.if_icmp .lt 33, 3, 35, 0, 0), (.iload_n 1, 1, 1, 0, 0), (.bipush 8, 2, 0, 0, 8), (.if_icmp .gt 27, 3, 35, 0, 0), (.iload_n 1, 1, 1, 0, 0), (.aload_n 0, 1, 0, 0, 0), (.getfield 12, 3, 10, 0, 0), (.getfield 80, 3, 9, 4, 0), (.getfield 103, 3, 7, 3, 0), (.if_icmp .gt 13, 3, 35, 0, 0), (.iload_n 2, 1, 2, 0, 0), (.iconst (-1), 1, 0, 0, -1), (.if_icmp .lt 8, 3, 35, 0, 0), (.iload_n 2, 1, 2, 0, 0), (.iload_n 1, 1, 1, 0, 0), (.if_icmp .lt 5, 3, 37, 0, 0)], 35),
  (35, [(.iconst (-1), 1, 0, 0, -1), (.ireturn, 1, 0, 0, 0)], 37),
  (37, [(.aload_n 0, 1, 0, 0, 0), (.getfield 61, 3, 10, 7, 0), (.aload_n 0, 1, 0, 0, 0), (.getfield 12, 3, 10, 0, 0), (.getfield 80, 3, 9, 4, 0), (.aload_n 0, 1, 0, 0, 0), (.getfield 19, 3, 10, 1, 0), (.iload_n 1, 1, 1, 0, 0), (.invokevirtual 323, 3, 144, 3, 3), (.iload_n 2, 1, 2, 0, 0), (.iconst (-1), 1, 0, 0, -1), (.if_icmp .ne 15, 3, 73, 0, 0), (.aload_n 0, 1, 0, 0, 0), (.getfield 61, 3, 10, 7, 0), (.iload_n 1, 1, 1, 0, 0), (.iconst 0, 1, 0, 0, 0), (.invokevirtual 326, 3, 145, 2, 3), (.goto 23, 3, 93, 0, 0)], 73),
  (73, [(.aload_n 0, 1, 0, 0, 0), (.getfield 61, 3, 10, 7, 0), (.aload_n 0, 1, 0, 0, 0), (.getfield 12, 3, 10, 0, 0), (.getfield 80, 3, 9, 4, 0), (.aload_n 0, 1, 0, 0, 0), (.getfield 19, 3, 10, 1, 0), (.iload_n 1, 1, 1, 0, 0), (.iload_n 2, 1, 2, 0, 0), (.invokevirtual 329, 3, 146, 4, 3)], 93),
  (93, [(.ireturn, 1, 0, 0, 0)], 94)]
set_option maxRecDepth 100000 in
theorem ok_X10_best : pm_oks 10 false 3 (some .int) cX10_best bk_X10_best = true := oksF_ok (by decide +kernel)
set_option maxRecDepth 100000 in
theorem me_X10_best : pm_me 143 = (yX10_best, cX10_best, 3, (some .int), 2, 0) := rfl
theorem mt_X10_best {l : Launch} {g : pm_G} {d mc ms : Nat} {as : List Value} {A : pm_H} {Q : Option Value → pm_H → Prop} (hca : pm_cat 3 as = true) (body : ∀ J : pm_J, pm_Cl l g (fun _ => none) d mc ms (pm_Rq mc ms Q) bk_X10_best J → J 0 (pm_l0 3 as) [] A 0 0) : pm_Mt l g 143 d mc ms as A Q := pm_Mt_of (isI := false) 10 bk_X10_best me_X10_best (plainFor_of_name (by decide +kernel)) (by decide +kernel) (fun h => by cases h) ok_X10_best hca body
