
theorem mt_X11_nextBehind {l : Launch} {g : pm_G} {d mc ms : Nat} {as : List Value} {A : pm_H} {Q : Option Value → pm_H → Prop} (hca : pm_cat 4 as = true) (body : ∀ J : pm_J, pm_Cl l g (fun _ => none) d mc ms (pm_Rq mc ms Q) bk_X11_nextBehind J → J 0 (pm_l0 4 as) [] A 0 0) : pm_Mt l g 247 d mc ms as A Q := pm_Mt_of (isI := false) 11 bk_X11_nextBehind me_X11_nextBehind (plainFor_of_name (by decide +kernel)) (by decide +kernel) (fun h => by cases h) ok_X11_nextBehind hca body
def bk_X11_reach : pm_B := [(0, [(.aload_n 0, 1, 0, 0, 0), (.iload_n 1, 1, 1, 0, 0), (.invokevirtual 119, 3, 168, 1, 11), (.ifCond .eq 8, 3, 13, 0, 0), (.iload_n 2, 1, 2, 0, 0), (.iconst 1, 1, 0, 0, 1), (.if_icmp .ge 5, 3, 15, 0, 0)], 13),
  (13, [(.iconst (-1), 1, 0, 0, -1), (.ireturn, 1, 0, 0, 0)], 15),
  (15, [(.iload_n 1, 1, 1, 0, 0), (.istore_n 3, 1, 3, 0, 0)], 17),
  (17, [(.iload_n 3, 1, 3, 0, 0), (.aload_n 0, 1, 0, 0, 0), (.getfield 70, 3, 11, 7, 0), (.if_icmp .ge 21, 3, 43, 0, 0), (.aload_n 0, 1, 0, 0, 0), (.iload_n 1, 1, 1, 0, 0), (.iload_n 3, 1, 3, 0, 0), (.invokevirtual 171, 3, 209, 2, 11), (.iload_n 2, 1, 2, 0, 0), (.if_icmp .lt 5, 3, 37, 0, 0), (.iload_n 3, 1, 3, 0, 0), (.ireturn, 1, 0, 0, 0)], 37),
  (37, [(.iinc 3 1, 3, 3, 0, 1), (.goto (-23), 3, 17, 0, 0)], 43),
  (43, [(.iconst (-1), 1, 0, 0, -1), (.ireturn, 1, 0, 0, 0)], 45)]
set_option maxRecDepth 100000 in
theorem ok_X11_reach : pm_oks 11 false 4 (some .int) cX11_reach bk_X11_reach = true := oksF_ok (by decide +kernel)
set_option maxRecDepth 100000 in
theorem me_X11_reach : pm_me 248 = (yX11_reach, cX11_reach, 4, (some .int), 2, 0) := rfl
theorem mt_X11_reach {l : Launch} {g : pm_G} {d mc ms : Nat} {as : List Value} {A : pm_H} {Q : Option Value → pm_H → Prop} (hca : pm_cat 4 as = true) (body : ∀ J : pm_J, pm_Cl l g (fun _ => none) d mc ms (pm_Rq mc ms Q) bk_X11_reach J → J 0 (pm_l0 4 as) [] A 0 0) : pm_Mt l g 248 d mc ms as A Q := pm_Mt_of (isI := false) 11 bk_X11_reach me_X11_reach (plainFor_of_name (by decide +kernel)) (by decide +kernel) (fun h => by cases h) ok_X11_reach hca body
def bk_X11_reachBack : pm_B := [(0, [(.aload_n 0, 1, 0, 0, 0), (.iload_n 1, 1, 1, 0, 0), (.invokevirtual 119, 3, 168, 1, 11), (.ifCond .eq 8, 3, 13, 0, 0), (.iload_n 2, 1, 2, 0, 0), (.iconst 1, 1, 0, 0, 1), (.if_icmp .ge 5, 3, 15, 0, 0)], 13),
  (13, [(.iconst (-1), 1, 0, 0, -1), (.ireturn, 1, 0, 0, 0)], 15),
  (15, [(.iload_n 1, 1, 1, 0, 0), (.istore_n 3, 1, 3, 0, 0)], 17),
  (17, [(.iload_n 3, 1, 3, 0, 0), (.ifCond .lt 21, 3, 39, 0, 0), (.aload_n 0, 1, 0, 0, 0), (.iload_n 3, 1, 3, 0, 0), (.iload_n 1, 1, 1, 0, 0), (.invokevirtual 171, 3, 209, 2, 11), (.iload_n 2, 1, 2, 0, 0), (.if_icmp .lt 5, 3, 33, 0, 0), (.iload_n 3, 1, 3, 0, 0), (.ireturn, 1, 0, 0, 0)], 33),
  (33, [(.iinc 3 (-1), 3, 3, 0, -1), (.goto (-19), 3, 17, 0, 0)], 39),
  (39, [(.iconst (-1), 1, 0, 0, -1), (.ireturn, 1, 0, 0, 0)], 41)]
set_option maxRecDepth 100000 in
theorem ok_X11_reachBack : pm_oks 11 false 4 (some .int) cX11_reachBack bk_X11_reachBack = true := oksF_ok (by decide +kernel)
set_option maxRecDepth 100000 in
theorem me_X11_reachBack : pm_me 249 = (yX11_reachBack, cX11_reachBack, 4, (some .int), 2, 0) := rfl
theorem mt_X11_reachBack {l : Launch} {g : pm_G} {d mc ms : Nat} {as : List Value} {A : pm_H} {Q : Option Value → pm_H → Prop} (hca : pm_cat 4 as = true) (body : ∀ J : pm_J, pm_Cl l g (fun _ => none) d mc ms (pm_Rq mc ms Q) bk_X11_reachBack J → J 0 (pm_l0 4 as) [] A 0 0) : pm_Mt l g 249 d mc ms as A Q := pm_Mt_of (isI := false) 11 bk_X11_reachBack me_X11_reachBack (plainFor_of_name (by decide +kernel)) (by decide +kernel) (fun h => by cases h) ok_X11_reachBack hca body
def bk_X11_load : pm_B := [(0, [(.aload_n 0, 1, 0, 0, 0), (.iload_n 1, 1, 1, 0, 0), (.invokevirtual 119, 3, 168, 1, 11), (.ifCond .eq 8, 3, 13, 0, 0), (.iload_n 2, 1, 2, 0, 0), (.iconst 1, 1, 0, 0, 1), (.if_icmp .ge 5, 3, 15, 0, 0)], 13),
  (13, [(.iconst (-1), 1, 0, 0, -1), (.ireturn, 1, 0, 0, 0)], 15),
  (15, [(.iload_n 1, 1, 1, 0, 0), (.istore_n 3, 1, 3, 0, 0)], 17),
  (17, [(.iload_n 3, 1, 3, 0, 0), (.aload_n 0, 1, 0, 0, 0), (.getfield 70, 3, 11, 7, 0), (.if_icmp .ge 25, 3, 47, 0, 0), (.aload_n 0, 1, 0, 0, 0), (.aload_n 0, 1, 0, 0, 0), (.iload_n 1, 1, 1, 0, 0), (.iload_n 3, 1, 3, 0, 0), (.invokevirtual 161, 3, 206, 2, 11), (.invokevirtual 174, 3, 211, 1, 11), (.iload_n 2, 1, 2, 0, 0), (.if_icmp .lt 5, 3, 41, 0, 0), (.iload_n 3, 1, 3, 0, 0), (.ireturn, 1, 0, 0, 0)], 41),
  (41, [(.iinc 3 1, 3, 3, 0, 1), (.goto (-27), 3, 17, 0, 0)], 47),
  (47, [(.iconst (-1), 1, 0, 0, -1), (.ireturn, 1, 0, 0, 0)], 49)]
set_option maxRecDepth 100000 in
theorem ok_X11_load : pm_oks 11 false 4 (some .int) cX11_load bk_X11_load = true := oksF_ok (by decide +kernel)
set_option maxRecDepth 100000 in
theorem me_X11_load : pm_me 250 = (yX11_load, cX11_load, 4, (some .int), 2, 0) := rfl
theorem mt_X11_load {l : Launch} {g : pm_G} {d mc ms : Nat} {as : List Value} {A : pm_H} {Q : Option Value → pm_H → Prop} (hca : pm_cat 4 as = true) (body : ∀ J : pm_J, pm_Cl l g (fun _ => none) d mc ms (pm_Rq mc ms Q) bk_X11_load J → J 0 (pm_l0 4 as) [] A 0 0) : pm_Mt l g 250 d mc ms as A Q := pm_Mt_of (isI := false) 11 bk_X11_load me_X11_load (plainFor_of_name (by decide +kernel)) (by decide +kernel) (fun h => by cases h) ok_X11_load hca body
