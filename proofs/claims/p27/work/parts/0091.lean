
set_option maxRecDepth 100000 in
theorem ok_X11_laysOrder : pm_oks 11 false 9 (some .int) cX11_laysOrder bk_X11_laysOrder = true := oksF_ok (by decide +kernel)
set_option maxRecDepth 100000 in
theorem me_X11_laysOrder : pm_me 221 = (yX11_laysOrder, cX11_laysOrder, 9, (some .int), 3, 0) := rfl
theorem mt_X11_laysOrder {l : Launch} {g : pm_G} {d mc ms : Nat} {as : List Value} {A : pm_H} {Q : Option Value → pm_H → Prop} (hca : pm_cat 9 as = true) (body : ∀ J : pm_J, pm_Cl l g (fun _ => none) d mc ms (pm_Rq mc ms Q) bk_X11_laysOrder J → J 0 (pm_l0 9 as) [] A 0 0) : pm_Mt l g 221 d mc ms as A Q := pm_Mt_of (isI := false) 11 bk_X11_laysOrder me_X11_laysOrder (plainFor_of_name (by decide +kernel)) (by decide +kernel) (fun h => by cases h) ok_X11_laysOrder hca body
def bk_X11_isAhead : pm_B := [(0, [(.iload 5, 2, 5, 0, 0), (.iconst 3, 1, 0, 0, 3), (.if_icmp .ne 12, 3, 15, 0, 0), (.aload_n 0, 1, 0, 0, 0), (.getfield 16, 3, 11, 2, 0), (.iload_n 1, 1, 1, 0, 0), (.iaload, 1, 0, 0, 0), (.goto 21, 3, 33, 0, 0)], 15),
  (15, [(.iload 5, 2, 5, 0, 0), (.iconst 4, 1, 0, 0, 4), (.if_icmp .ne 14, 3, 32, 0, 0), (.aload_n 0, 1, 0, 0, 0), (.iload_n 3, 1, 3, 0, 0), (.iload 4, 2, 4, 0, 0), (.iload_n 1, 1, 1, 0, 0), (.invokevirtual 148, 3, 200, 3, 11), (.goto 4, 3, 33, 0, 0)], 32),
  (32, [(.iconst 0, 1, 0, 0, 0)], 33),
  (33, [(.istore 6, 2, 6, 0, 0), (.iload 5, 2, 5, 0, 0), (.iconst 3, 1, 0, 0, 3), (.if_icmp .ne 12, 3, 50, 0, 0), (.aload_n 0, 1, 0, 0, 0), (.getfield 16, 3, 11, 2, 0), (.iload_n 2, 1, 2, 0, 0), (.iaload, 1, 0, 0, 0), (.goto 21, 3, 68, 0, 0)], 50),
  (50, [(.iload 5, 2, 5, 0, 0), (.iconst 4, 1, 0, 0, 4), (.if_icmp .ne 14, 3, 67, 0, 0), (.aload_n 0, 1, 0, 0, 0), (.iload_n 3, 1, 3, 0, 0), (.iload 4, 2, 4, 0, 0), (.iload_n 2, 1, 2, 0, 0), (.invokevirtual 148, 3, 200, 3, 11), (.goto 4, 3, 68, 0, 0)], 67),
  (67, [(.iconst 0, 1, 0, 0, 0)], 68),
  (68, [(.istore 7, 2, 7, 0, 0), (.iload 6, 2, 6, 0, 0), (.iload 7, 2, 7, 0, 0), (.if_icmp .eq 18, 3, 92, 0, 0), (.iload 6, 2, 6, 0, 0), (.iload 7, 2, 7, 0, 0), (.if_icmp .le 7, 3, 88, 0, 0), (.iconst 1, 1, 0, 0, 1), (.goto 17, 3, 102, 0, 0)], 88),
  (88, [(.iconst 0, 1, 0, 0, 0), (.goto 13, 3, 102, 0, 0)], 92),
  (92, [(.iload_n 1, 1, 1, 0, 0), (.iload_n 2, 1, 2, 0, 0), (.if_icmp .ge 7, 3, 101, 0, 0), (.iconst 1, 1, 0, 0, 1), (.goto 4, 3, 102, 0, 0)], 101),
  (101, [(.iconst 0, 1, 0, 0, 0)], 102),
  (102, [(.ireturn, 1, 1, 0, 0)], 103)]
set_option maxRecDepth 100000 in
theorem ok_X11_isAhead : pm_oks 11 false 8 (some .boolean) cX11_isAhead bk_X11_isAhead = true := oksF_ok (by decide +kernel)
set_option maxRecDepth 100000 in
theorem me_X11_isAhead : pm_me 222 = (yX11_isAhead, cX11_isAhead, 8, (some .boolean), 5, 0) := rfl
theorem mt_X11_isAhead {l : Launch} {g : pm_G} {d mc ms : Nat} {as : List Value} {A : pm_H} {Q : Option Value → pm_H → Prop} (hca : pm_cat 8 as = true) (body : ∀ J : pm_J, pm_Cl l g (fun _ => none) d mc ms (pm_Rq mc ms Q) bk_X11_isAhead J → J 0 (pm_l0 8 as) [] A 0 0) : pm_Mt l g 222 d mc ms as A Q := pm_Mt_of (isI := false) 11 bk_X11_isAhead me_X11_isAhead (plainFor_of_name (by decide +kernel)) (by decide +kernel) (fun h => by cases h) ok_X11_isAhead hca body
def bk_X11_absent : pm_B := [(0, [(.aload_n 0, 1, 0, 0, 0), (.iload_n 1, 1, 1, 0, 0), (.iload_n 2, 1, 2, 0, 0), (.invokevirtual 129, 3, 180, 2, 11), (.ifCond .eq 7, 3, 13, 0, 0), (.iload_n 3, 1, 3, 0, 0), (.ifCond .ge 5, 3, 15, 0, 0)], 13),
  (13, [(.iconst (-1), 1, 0, 0, -1), (.ireturn, 1, 0, 0, 0)], 15),
  (15, [(.aload_n 0, 1, 0, 0, 0), (.iload_n 1, 1, 1, 0, 0), (.iload_n 2, 1, 2, 0, 0), (.invokevirtual 161, 3, 206, 2, 11), (.istore 4, 2, 4, 0, 0), (.iload_n 3, 1, 3, 0, 0), (.istore 5, 2, 5, 0, 0), (.iconst 0, 1, 0, 0, 0), (.istore 6, 2, 6, 0, 0)], 29),
  (29, [(.iload 6, 2, 6, 0, 0), (.bipush 24, 2, 0, 0, 24), (.if_icmp .ge 34, 3, 67, 0, 0), (.iload 4, 2, 4, 0, 0), (.iload 6, 2, 6, 0, 0), (.ishr, 1, 0, 0, 0), (.iconst 1, 1, 0, 0, 1), (.iand, 1, 0, 0, 0), (.iconst 1, 1, 0, 0, 1), (.if_icmp .ne 6, 3, 50, 0, 0), (.goto 14, 3, 61, 0, 0)], 50),
  (50, [(.iload 5, 2, 5, 0, 0), (.ifCond .ne 6, 3, 58, 0, 0), (.iload 6, 2, 6, 0, 0), (.ireturn, 1, 0, 0, 0)], 58),
  (58, [(.iinc 5 (-1), 3, 5, 0, -1)], 61),
  (61, [(.iinc 6 1, 3, 6, 0, 1), (.goto (-35), 3, 29, 0, 0)], 67),
  (67, [(.iconst (-1), 1, 0, 0, -1), (.ireturn, 1, 0, 0, 0)], 69)]
set_option maxRecDepth 100000 in
theorem ok_X11_absent : pm_oks 11 false 7 (some .int) cX11_absent bk_X11_absent = true := oksF_ok (by decide +kernel)
set_option maxRecDepth 100000 in
theorem me_X11_absent : pm_me 223 = (yX11_absent, cX11_absent, 7, (some .int), 3, 0) := rfl
theorem mt_X11_absent {l : Launch} {g : pm_G} {d mc ms : Nat} {as : List Value} {A : pm_H} {Q : Option Value → pm_H → Prop} (hca : pm_cat 7 as = true) (body : ∀ J : pm_J, pm_Cl l g (fun _ => none) d mc ms (pm_Rq mc ms Q) bk_X11_absent J → J 0 (pm_l0 7 as) [] A 0 0) : pm_Mt l g 223 d mc ms as A Q := pm_Mt_of (isI := false) 11 bk_X11_absent me_X11_absent (plainFor_of_name (by decide +kernel)) (by decide +kernel) (fun h => by cases h) ok_X11_absent hca body
def bk_X11_both : pm_B := [(0, [(.aload_n 0, 1, 0, 0, 0), (.iload_n 1, 1, 1, 0, 0), (.iload_n 2, 1, 2, 0, 0), (.invokevirtual 129, 3, 180, 2, 11), (.ifCond .eq 13, 3, 19, 0, 0), (.aload_n 0, 1, 0, 0, 0), (.iload_n 3, 1, 3, 0, 0), (.iload 4, 2, 4, 0, 0), (.invokevirtual 129, 3, 180, 2, 11), (.ifCond .ne 5, 3, 21, 0, 0)], 19),
  (19, [(.iconst (-1), 1, 0, 0, -1), (.ireturn, 1, 0, 0, 0)], 21),
  (21, [(.aload_n 0, 1, 0, 0, 0), (.iload_n 1, 1, 1, 0, 0), (.iload_n 2, 1, 2, 0, 0), (.invokevirtual 161, 3, 206, 2, 11), (.istore 6, 2, 6, 0, 0), (.aload_n 0, 1, 0, 0, 0), (.iload_n 3, 1, 3, 0, 0), (.iload 4, 2, 4, 0, 0), (.invokevirtual 161, 3, 206, 2, 11), (.istore 7, 2, 7, 0, 0), (.iload 5, 2, 5, 0, 0), (.ifCond .ne 14, 3, 54, 0, 0), (.iload 6, 2, 6, 0, 0), (.iload 7, 2, 7, 0, 0), (.iand, 1, 0, 0, 0), (.invokestatic 165, 3, 207, 1, 0), (.goto 40, 3, 91, 0, 0)], 54),
  (54, [(.iload 5, 2, 5, 0, 0), (.iconst 1, 1, 0, 0, 1), (.if_icmp .ne 16, 3, 73, 0, 0), (.iload 6, 2, 6, 0, 0), (.iload 7, 2, 7, 0, 0), (.iconst (-1), 1, 0, 0, -1), (.ixor, 1, 0, 0, 0), (.iand, 1, 0, 0, 0), (.invokestatic 165, 3, 207, 1, 0), (.goto 21, 3, 91, 0, 0)], 73),
  (73, [(.iload 5, 2, 5, 0, 0), (.iconst 2, 1, 0, 0, 2), (.if_icmp .ne 14, 3, 90, 0, 0), (.iload 6, 2, 6, 0, 0), (.iload 7, 2, 7, 0, 0), (.ior, 1, 0, 0, 0), (.invokestatic 165, 3, 207, 1, 0), (.goto 4, 3, 91, 0, 0)], 90),
  (90, [(.iconst (-1), 1, 0, 0, -1)], 91),
  (91, [(.ireturn, 1, 0, 0, 0)], 92)]
set_option maxRecDepth 100000 in
theorem ok_X11_both : pm_oks 11 false 8 (some .int) cX11_both bk_X11_both = true := oksF_ok (by decide +kernel)
set_option maxRecDepth 100000 in
theorem me_X11_both : pm_me 224 = (yX11_both, cX11_both, 8, (some .int), 5, 0) := rfl
theorem mt_X11_both {l : Launch} {g : pm_G} {d mc ms : Nat} {as : List Value} {A : pm_H} {Q : Option Value → pm_H → Prop} (hca : pm_cat 8 as = true) (body : ∀ J : pm_J, pm_Cl l g (fun _ => none) d mc ms (pm_Rq mc ms Q) bk_X11_both J → J 0 (pm_l0 8 as) [] A 0 0) : pm_Mt l g 224 d mc ms as A Q := pm_Mt_of (isI := false) 11 bk_X11_both me_X11_both (plainFor_of_name (by decide +kernel)) (by decide +kernel) (fun h => by cases h) ok_X11_both hca body
