
def bk_X10_askOf : pm_B := [(0, [(.aload_n 0, 1, 0, 0, 0), (.getfield 12, 3, 10, 0, 0), (.iload_n 1, 1, 1, 0, 0), (.invokevirtual 332, 3, 149, 1, 9), (.astore 4, 2, 4, 0, 0), (.aload 4, 2, 4, 0, 0), (.ifnull 21, 3, 33, 0, 0), (.aload 4, 2, 4, 0, 0), (.iload_n 2, 1, 2, 0, 0), (.invokevirtual 346, 3, 154, 1, 7), (.ifCond .eq 12, 3, 33, 0, 0), (.aload 4, 2, 4, 0, 0), (.iload_n 3, 1, 3, 0, 0), (.invokevirtual 346, 3, 154, 1, 7), (.ifCond .ne 5, 3, 35, 0, 0)], 33),
  (33, [(.iconst (-1), 1, 0, 0, -1), (.ireturn, 1, 0, 0, 0)], 35),
  (35, [(.aload_n 0, 1, 0, 0, 0), (.getfield 68, 3, 10, 8, 0), (.iload_n 1, 1, 1, 0, 0), (.iload_n 2, 1, 2, 0, 0), (.iload_n 3, 1, 3, 0, 0), (.invokevirtual 349, 3, 159, 3, 5), (.ireturn, 1, 0, 0, 0)], 46)]
set_option maxRecDepth 100000 in
theorem ok_X10_askOf : pm_oks 10 false 5 (some .int) cX10_askOf bk_X10_askOf = true := oksF_ok (by decide +kernel)
set_option maxRecDepth 100000 in
theorem me_X10_askOf : pm_me 160 = (yX10_askOf, cX10_askOf, 5, (some .int), 3, 0) := rfl
theorem mt_X10_askOf {l : Launch} {g : pm_G} {d mc ms : Nat} {as : List Value} {A : pm_H} {Q : Option Value → pm_H → Prop} (hca : pm_cat 5 as = true) (body : ∀ J : pm_J, pm_Cl l g (fun _ => none) d mc ms (pm_Rq mc ms Q) bk_X10_askOf J → J 0 (pm_l0 5 as) [] A 0 0) : pm_Mt l g 160 d mc ms as A Q := pm_Mt_of (isI := false) 10 bk_X10_askOf me_X10_askOf (plainFor_of_name (by decide +kernel)) (by decide +kernel) (fun h => by cases h) ok_X10_askOf hca body

