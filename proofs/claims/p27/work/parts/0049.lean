
def bk_X10_alike : pm_B := [(0, [(.aload_n 0, 1, 0, 0, 0), (.iload_n 1, 1, 1, 0, 0), (.iload_n 2, 1, 2, 0, 0), (.invokevirtual 182, 3, 59, 2, 10), (.ifCond .eq 13, 3, 19, 0, 0), (.aload_n 0, 1, 0, 0, 0), (.getfield 19, 3, 10, 1, 0), (.invokevirtual 239, 3, 95, 0, 2), (.goto 4, 3, 20, 0, 0)], 19),
  (19, [(.iconst (-1), 1, 0, 0, -1)], 20),
  (20, [(.ireturn, 1, 0, 0, 0)], 21)]
set_option maxRecDepth 100000 in
theorem ok_X10_alike : pm_oks 10 false 3 (some .int) cX10_alike bk_X10_alike = true := oksF_ok (by decide +kernel)
set_option maxRecDepth 100000 in
theorem me_X10_alike : pm_me 94 = (yX10_alike, cX10_alike, 3, (some .int), 2, 0) := rfl
theorem mt_X10_alike {l : Launch} {g : pm_G} {d mc ms : Nat} {as : List Value} {A : pm_H} {Q : Option Value → pm_H → Prop} (hca : pm_cat 3 as = true) (body : ∀ J : pm_J, pm_Cl l g (fun _ => none) d mc ms (pm_Rq mc ms Q) bk_X10_alike J → J 0 (pm_l0 3 as) [] A 0 0) : pm_Mt l g 94 d mc ms as A Q := pm_Mt_of (isI := false) 10 bk_X10_alike me_X10_alike (plainFor_of_name (by decide +kernel)) (by decide +kernel) (fun h => by cases h) ok_X10_alike hca body
def bk_X10_even : pm_B := [(0, [(.aload_n 0, 1, 0, 0, 0), (.getfield 12, 3, 10, 0, 0), (.getfield 80, 3, 9, 4, 0), (.astore_n 3, 1, 3, 0, 0), (.aload_n 3, 1, 3, 0, 0), (.iload_n 1, 1, 1, 0, 0), (.iload_n 2, 1, 2, 0, 0), (.invokevirtual 111, 3, 14, 2, 7), (.ifCond .eq 20, 3, 34, 0, 0), (.aload_n 0, 1, 0, 0, 0), (.getfield 33, 3, 10, 3, 0), (.aload_n 3, 1, 3, 0, 0), (.aload_n 0, 1, 0, 0, 0), (.getfield 19, 3, 10, 1, 0), (.iload_n 1, 1, 1, 0, 0), (.iload_n 2, 1, 2, 0, 0), (.invokevirtual 242, 3, 97, 4, 1), (.goto 4, 3, 35, 0, 0)], 34),
  (34, [(.iconst (-1), 1, 0, 0, -1)], 35),
  (35, [(.ireturn, 1, 0, 0, 0)], 36)]
set_option maxRecDepth 100000 in
theorem ok_X10_even : pm_oks 10 false 4 (some .int) cX10_even bk_X10_even = true := oksF_ok (by decide +kernel)
set_option maxRecDepth 100000 in
theorem me_X10_even : pm_me 96 = (yX10_even, cX10_even, 4, (some .int), 2, 0) := rfl
theorem mt_X10_even {l : Launch} {g : pm_G} {d mc ms : Nat} {as : List Value} {A : pm_H} {Q : Option Value → pm_H → Prop} (hca : pm_cat 4 as = true) (body : ∀ J : pm_J, pm_Cl l g (fun _ => none) d mc ms (pm_Rq mc ms Q) bk_X10_even J → J 0 (pm_l0 4 as) [] A 0 0) : pm_Mt l g 96 d mc ms as A Q := pm_Mt_of (isI := false) 10 bk_X10_even me_X10_even (plainFor_of_name (by decide +kernel)) (by decide +kernel) (fun h => by cases h) ok_X10_even hca body
def bk_X10_apart : pm_B := [(0, [(.iload_n 1, 1, 1, 0, 0), (.iload_n 2, 1, 2, 0, 0), (.invokestatic 130, 3, 38, 2, 0), (.ifCond .ne 5, 3, 10, 0, 0), (.iconst (-1), 1, 0, 0, -1), (.ireturn, 1, 0, 0, 0)], 10),
  (10, [(.aload_n 0, 1, 0, 0, 0), (.getfield 33, 3, 10, 3, 0), (.aload_n 0, 1, 0, 0, 0), (.getfield 12, 3, 10, 0, 0), (.getfield 80, 3, 9, 4, 0), (.iload_n 1, 1, 1, 0, 0), (.iload_n 2, 1, 2, 0, 0), (.invokevirtual 245, 3, 99, 3, 1), (.aload_n 0, 1, 0, 0, 0), (.getfield 33, 3, 10, 3, 0), (.iload_n 3, 1, 3, 0, 0), (.invokevirtual 223, 3, 84, 1, 1), (.ireturn, 1, 0, 0, 0)], 35)]
set_option maxRecDepth 100000 in
theorem ok_X10_apart : pm_oks 10 false 4 (some .int) cX10_apart bk_X10_apart = true := oksF_ok (by decide +kernel)
set_option maxRecDepth 100000 in
theorem me_X10_apart : pm_me 98 = (yX10_apart, cX10_apart, 4, (some .int), 3, 0) := rfl
theorem mt_X10_apart {l : Launch} {g : pm_G} {d mc ms : Nat} {as : List Value} {A : pm_H} {Q : Option Value → pm_H → Prop} (hca : pm_cat 4 as = true) (body : ∀ J : pm_J, pm_Cl l g (fun _ => none) d mc ms (pm_Rq mc ms Q) bk_X10_apart J → J 0 (pm_l0 4 as) [] A 0 0) : pm_Mt l g 98 d mc ms as A Q := pm_Mt_of (isI := false) 10 bk_X10_apart me_X10_apart (plainFor_of_name (by decide +kernel)) (by decide +kernel) (fun h => by cases h) ok_X10_apart hca body
def bk_X10_reach : pm_B := [(0, [(.aload_n 0, 1, 0, 0, 0), (.getfield 12, 3, 10, 0, 0), (.getfield 80, 3, 9, 4, 0), (.astore_n 3, 1, 3, 0, 0), (.iload_n 2, 1, 2, 0, 0), (.iconst 1, 1, 0, 0, 1), (.if_icmp .lt 28, 3, 38, 0, 0), (.aload_n 3, 1, 3, 0, 0), (.iload_n 1, 1, 1, 0, 0), (.invokevirtual 248, 3, 19, 1, 7), (.ifCond .eq 20, 3, 38, 0, 0), (.aload_n 0, 1, 0, 0, 0), (.getfield 40, 3, 10, 4, 0), (.aload_n 3, 1, 3, 0, 0), (.aload_n 0, 1, 0, 0, 0), (.getfield 19, 3, 10, 1, 0), (.iload_n 1, 1, 1, 0, 0), (.iload_n 2, 1, 2, 0, 0), (.invokevirtual 251, 3, 101, 4, 6), (.goto 4, 3, 39, 0, 0)], 38),
  (38, [(.iconst (-1), 1, 0, 0, -1)], 39),
  (39, [(.ireturn, 1, 0, 0, 0)], 40)]
set_option maxRecDepth 100000 in
theorem ok_X10_reach : pm_oks 10 false 4 (some .int) cX10_reach bk_X10_reach = true := oksF_ok (by decide +kernel)
set_option maxRecDepth 100000 in
theorem me_X10_reach : pm_me 100 = (yX10_reach, cX10_reach, 4, (some .int), 2, 0) := rfl
theorem mt_X10_reach {l : Launch} {g : pm_G} {d mc ms : Nat} {as : List Value} {A : pm_H} {Q : Option Value → pm_H → Prop} (hca : pm_cat 4 as = true) (body : ∀ J : pm_J, pm_Cl l g (fun _ => none) d mc ms (pm_Rq mc ms Q) bk_X10_reach J → J 0 (pm_l0 4 as) [] A 0 0) : pm_Mt l g 100 d mc ms as A Q := pm_Mt_of (isI := false) 10 bk_X10_reach me_X10_reach (plainFor_of_name (by decide +kernel)) (by decide +kernel) (fun h => by cases h) ok_X10_reach hca body
def bk_X10_reachBack : pm_B := [(0, [(.aload_n 0, 1, 0, 0, 0), (.getfield 12, 3, 10, 0, 0), (.getfield 80, 3, 9, 4, 0), (.astore_n 3, 1, 3, 0, 0), (.iload_n 2, 1, 2, 0, 0), (.iconst 1, 1, 0, 0, 1), (.if_icmp .lt 28, 3, 38, 0, 0), (.aload_n 3, 1, 3, 0, 0), (.iload_n 1, 1, 1, 0, 0), (.invokevirtual 248, 3, 19, 1, 7), (.ifCond .eq 20, 3, 38, 0, 0), (.aload_n 0, 1, 0, 0, 0), (.getfield 40, 3, 10, 4, 0), (.aload_n 3, 1, 3, 0, 0), (.aload_n 0, 1, 0, 0, 0), (.getfield 19, 3, 10, 1, 0), (.iload_n 1, 1, 1, 0, 0), (.iload_n 2, 1, 2, 0, 0), (.invokevirtual 254, 3, 103, 4, 6), (.goto 4, 3, 39, 0, 0)], 38),
  (38, [(.iconst (-1), 1, 0, 0, -1)], 39),
  (39, [(.ireturn, 1, 0, 0, 0)], 40)]
set_option maxRecDepth 100000 in
theorem ok_X10_reachBack : pm_oks 10 false 4 (some .int) cX10_reachBack bk_X10_reachBack = true := oksF_ok (by decide +kernel)
set_option maxRecDepth 100000 in
theorem me_X10_reachBack : pm_me 102 = (yX10_reachBack, cX10_reachBack, 4, (some .int), 2, 0) := rfl
theorem mt_X10_reachBack {l : Launch} {g : pm_G} {d mc ms : Nat} {as : List Value} {A : pm_H} {Q : Option Value → pm_H → Prop} (hca : pm_cat 4 as = true) (body : ∀ J : pm_J, pm_Cl l g (fun _ => none) d mc ms (pm_Rq mc ms Q) bk_X10_reachBack J → J 0 (pm_l0 4 as) [] A 0 0) : pm_Mt l g 102 d mc ms as A Q := pm_Mt_of (isI := false) 10 bk_X10_reachBack me_X10_reachBack (plainFor_of_name (by decide +kernel)) (by decide +kernel) (fun h => by cases h) ok_X10_reachBack hca body
def bk_X10_load : pm_B := [(0, [(.aload_n 0, 1, 0, 0, 0), (.getfield 12, 3, 10, 0, 0), (.getfield 80, 3, 9, 4, 0), (.astore_n 3, 1, 3, 0, 0), (.iload_n 2, 1, 2, 0, 0), (.iconst 1, 1, 0, 0, 1), (.if_icmp .lt 28, 3, 38, 0, 0), (.aload_n 3, 1, 3, 0, 0), (.iload_n 1, 1, 1, 0, 0), (.invokevirtual 248, 3, 19, 1, 7), (.ifCond .eq 20, 3, 38, 0, 0), (.aload_n 0, 1, 0, 0, 0), (.getfield 40, 3, 10, 4, 0), (.aload_n 3, 1, 3, 0, 0), (.aload_n 0, 1, 0, 0, 0), (.getfield 19, 3, 10, 1, 0), (.iload_n 1, 1, 1, 0, 0), (.iload_n 2, 1, 2, 0, 0), (.invokevirtual 257, 3, 105, 4, 6), (.goto 4, 3, 39, 0, 0)], 38),
  (38, [(.iconst (-1), 1, 0, 0, -1)], 39),
  (39, [(.ireturn, 1, 0, 0, 0)], 40)]
set_option maxRecDepth 100000 in
theorem ok_X10_load : pm_oks 10 false 4 (some .int) cX10_load bk_X10_load = true := oksF_ok (by decide +kernel)
set_option maxRecDepth 100000 in
theorem me_X10_load : pm_me 104 = (yX10_load, cX10_load, 4, (some .int), 2, 0) := rfl
theorem mt_X10_load {l : Launch} {g : pm_G} {d mc ms : Nat} {as : List Value} {A : pm_H} {Q : Option Value → pm_H → Prop} (hca : pm_cat 4 as = true) (body : ∀ J : pm_J, pm_Cl l g (fun _ => none) d mc ms (pm_Rq mc ms Q) bk_X10_load J → J 0 (pm_l0 4 as) [] A 0 0) : pm_Mt l g 104 d mc ms as A Q := pm_Mt_of (isI := false) 10 bk_X10_load me_X10_load (plainFor_of_name (by decide +kernel)) (by decide +kernel) (fun h => by cases h) ok_X10_load hca body
