
def bk_X10_times : pm_B := [(0, [(.iload_n 3, 1, 3, 0, 0), (.invokestatic 72, 3, 15, 1, 0), (.ifCond .eq 24, 3, 28, 0, 0), (.aload_n 0, 1, 0, 0, 0), (.iload_n 1, 1, 1, 0, 0), (.iload_n 2, 1, 2, 0, 0), (.invokevirtual 182, 3, 59, 2, 10), (.ifCond .eq 15, 3, 28, 0, 0), (.aload_n 0, 1, 0, 0, 0), (.getfield 19, 3, 10, 1, 0), (.getfield 191, 3, 2, 0, 0), (.iload_n 3, 1, 3, 0, 0), (.iaload, 1, 0, 0, 0), (.goto 4, 3, 29, 0, 0)], 28),
  (28, [(.iconst (-1), 1, 0, 0, -1)], 29),
  (29, [(.ireturn, 1, 0, 0, 0)], 30)]
set_option maxRecDepth 100000 in
theorem ok_X10_times : pm_oks 10 false 4 (some .int) cX10_times bk_X10_times = true := oksF_ok (by decide +kernel)
set_option maxRecDepth 100000 in
theorem me_X10_times : pm_me 62 = (yX10_times, cX10_times, 4, (some .int), 3, 0) := rfl
theorem mt_X10_times {l : Launch} {g : pm_G} {d mc ms : Nat} {as : List Value} {A : pm_H} {Q : Option Value → pm_H → Prop} (hca : pm_cat 4 as = true) (body : ∀ J : pm_J, pm_Cl l g (fun _ => none) d mc ms (pm_Rq mc ms Q) bk_X10_times J → J 0 (pm_l0 4 as) [] A 0 0) : pm_Mt l g 62 d mc ms as A Q := pm_Mt_of (isI := false) 10 bk_X10_times me_X10_times (plainFor_of_name (by decide +kernel)) (by decide +kernel) (fun h => by cases h) ok_X10_times hca body
def bk_X10_often : pm_B := [(0, [(.iload_n 3, 1, 3, 0, 0), (.iconst 1, 1, 0, 0, 1), (.if_icmp .lt 23, 3, 25, 0, 0), (.aload_n 0, 1, 0, 0, 0), (.iload_n 1, 1, 1, 0, 0), (.iload_n 2, 1, 2, 0, 0), (.invokevirtual 182, 3, 59, 2, 10), (.ifCond .eq 14, 3, 25, 0, 0), (.aload_n 0, 1, 0, 0, 0), (.getfield 19, 3, 10, 1, 0), (.iload_n 3, 1, 3, 0, 0), (.invokevirtual 194, 3, 64, 1, 2), (.goto 4, 3, 26, 0, 0)], 25),
  (25, [(.iconst (-1), 1, 0, 0, -1)], 26),
  (26, [(.ireturn, 1, 0, 0, 0)], 27)]
set_option maxRecDepth 100000 in
theorem ok_X10_often : pm_oks 10 false 4 (some .int) cX10_often bk_X10_often = true := oksF_ok (by decide +kernel)
set_option maxRecDepth 100000 in
theorem me_X10_often : pm_me 63 = (yX10_often, cX10_often, 4, (some .int), 3, 0) := rfl
theorem mt_X10_often {l : Launch} {g : pm_G} {d mc ms : Nat} {as : List Value} {A : pm_H} {Q : Option Value → pm_H → Prop} (hca : pm_cat 4 as = true) (body : ∀ J : pm_J, pm_Cl l g (fun _ => none) d mc ms (pm_Rq mc ms Q) bk_X10_often J → J 0 (pm_l0 4 as) [] A 0 0) : pm_Mt l g 63 d mc ms as A Q := pm_Mt_of (isI := false) 10 bk_X10_often me_X10_often (plainFor_of_name (by decide +kernel)) (by decide +kernel) (fun h => by cases h) ok_X10_often hca body

