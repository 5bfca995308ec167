/-! blocks, by a program -/
def bk_X11_laysOrder : pm_B := [(0, [(.iconst 0, 1, 0, 0, 0), (.istore 4, 2, 4, 0, 0), (.iconst 0, 1, 0, 0, 0), (.istore 5, 2, 5, 0, 0), (.iconst 0, 1, 0, 0, 0), (.istore 6, 2, 6, 0, 0)], 9),
  (9, [(.iload 6, 2, 6, 0, 0), (.iload_n 2, 1, 2, 0, 0), (.iload_n 1, 1, 1, 0, 0), (.isub, 1, 0, 0, 0), (.if_icmp .gt 71, 3, 85, 0, 0), (.iload_n 3, 1, 3, 0, 0), (.iconst 2, 1, 0, 0, 2), (.if_icmp .ge 66, 3, 85, 0, 0), (.aload_n 0, 1, 0, 0, 0), (.getfield 7, 3, 11, 0, 0), (.iload_n 3, 1, 3, 0, 0), (.ifCond .ne 10, 3, 37, 0, 0), (.iload_n 1, 1, 1, 0, 0), (.iload 6, 2, 6, 0, 0), (.iadd, 1, 0, 0, 0), (.goto 7, 3, 41, 0, 0)], 37),
  (37, [(.iload_n 2, 1, 2, 0, 0), (.iload 6, 2, 6, 0, 0), (.isub, 1, 0, 0, 0)], 41),
  (41, [(.iaload, 1, 0, 0, 0), (.istore 7, 2, 7, 0, 0), (.iload 5, 2, 5, 0, 0), (.iload 7, 2, 7, 0, 0), (.ishr, 1, 0, 0, 0), (.iconst 1, 1, 0, 0, 1), (.iand, 1, 0, 0, 0), (.iconst 1, 1, 0, 0, 1), (.if_icmp .ne 6, 3, 58, 0, 0), (.goto 24, 3, 79, 0, 0)], 58),
  (58, [(.iload 5, 2, 5, 0, 0), (.iconst 1, 1, 0, 0, 1), (.iload 7, 2, 7, 0, 0), (.ishl, 1, 0, 0, 0), (.ior, 1, 0, 0, 0), (.istore 5, 2, 5, 0, 0), (.aload_n 0, 1, 0, 0, 0), (.getfield 58, 3, 11, 23, 0), (.iload 4, 2, 4, 0, 0), (.iload 7, 2, 7, 0, 0), (.iastore, 1, 0, 0, 0), (.iinc 4 1, 3, 4, 0, 1)], 79),
  (79, [(.iinc 6 1, 3, 6, 0, 1), (.goto (-73), 3, 9, 0, 0)], 85),
  (85, [(.iload_n 3, 1, 3, 0, 0), (.iconst 2, 1, 0, 0, 2), (.if_icmp .ge 6, 3, 93, 0, 0), (.iload 4, 2, 4, 0, 0), (.ireturn, 1, 0, 0, 0)], 93),
  (93, [(.aload_n 0, 1, 0, 0, 0), (.iload_n 1, 1, 1, 0, 0), (.iload_n 2, 1, 2, 0, 0), (.invokevirtual 161, 3, 206, 2, 11), (.istore 6, 2, 6, 0, 0), (.iconst 0, 1, 0, 0, 0), (.istore 7, 2, 7, 0, 0)], 104),
  (104, [(.iload 7, 2, 7, 0, 0), (.bipush 24, 2, 0, 0, 24), (.if_icmp .ge 86, 3, 194, 0, 0), (.iload 6, 2, 6, 0, 0), (.iload 7, 2, 7, 0, 0), (.ishr, 1, 0, 0, 0), (.iconst 1, 1, 0, 0, 1), (.iand, 1, 0, 0, 0), (.ifCond .ne 6, 3, 124, 0, 0), (.goto 67, 3, 188, 0, 0)], 124),
  (124, [(.iload 4, 2, 4, 0, 0), (.istore 8, 2, 8, 0, 0)], 128),
  (128, [(.iload 8, 2, 8, 0, 0), (.ifCond .le 46, 3, 176, 0, 0), (.aload_n 0, 1, 0, 0, 0), (.iload 7, 2, 7, 0, 0), (.aload_n 0, 1, 0, 0, 0), (.getfield 58, 3, 11, 23, 0), (.iload 8, 2, 8, 0, 0), (.iconst 1, 1, 0, 0, 1), (.isub, 1, 0, 0, 0), (.iaload, 1, 0, 0, 0), (.iload_n 1, 1, 1, 0, 0), (.iload_n 2, 1, 2, 0, 0), (.iload_n 3, 1, 3, 0, 0), (.invokevirtual 184, 3, 222, 5, 11), (.ifCond .eq 25, 3, 176, 0, 0), (.aload_n 0, 1, 0, 0, 0), (.getfield 58, 3, 11, 23, 0), (.iload 8, 2, 8, 0, 0), (.aload_n 0, 1, 0, 0, 0), (.getfield 58, 3, 11, 23, 0), (.iload 8, 2, 8, 0, 0), (.iconst 1, 1, 0, 0, 1), (.isub, 1, 0, 0, 0), (.iaload, 1, 0, 0, 0), (.iastore, 1, 0, 0, 0), (.iinc 8 (-1), 3, 8, 0, -1), (.goto (-45), 3, 128, 0, 0)], 176),
  (176, [(.aload_n 0, 1, 0, 0, 0), (.getfield 58, 3, 11, 23, 0), (.iload 8, 2, 8, 0, 0), (.iload 7, 2, 7, 0, 0), (.iastore, 1, 0, 0, 0), (.iinc 4 1, 3, 4, 0, 1)], 188),
  (188, [(.iinc 7 1, 3, 7, 0, 1), (.goto (-87), 3, 104, 0, 0)], 194),
  (194, [(.iload 4, 2, 4, 0, 0), (.ireturn, 1, 0, 0, 0)], 197)]
set_option maxRecDepth 100000 in
theorem ok_X11_laysOrder : pm_oks 11 false 9 (some .int) cX11_laysOrder bk_X11_laysOrder = true := oksF_ok (by decide +kernel)
set_option maxRecDepth 100000 in
theorem me_X11_laysOrder : pm_me 221 = (yX11_laysOrder, cX11_laysOrder, 9, (some .int), 3, 0) := rfl
theorem mt_X11_laysOrder {l : Launch} {g : pm_G} {d mc ms : Nat} {as : List Value} {A : pm_H} {Q : Option Value → pm_H → Prop} (hca : pm_cat 9 as = true) (body : ∀ J : pm_J, pm_Cl l g (fun _ => none) d mc ms (pm_Rq mc ms Q) bk_X11_laysOrder J → J 0 (pm_l0 9 as) [] A 0 0) : pm_Mt l g 221 d mc ms as A Q := pm_Mt_of (isI := false) 11 bk_X11_laysOrder me_X11_laysOrder (plainFor_of_name (by decide +kernel)) (by decide +kernel) (fun h => by cases h) ok_X11_laysOrder hca body
def bk_X11_isAhead : pm_B := [(0, [(.iload 5, 2, 5, 0, 0), (.iconst 3, 1, 0, 0, 3), (.if_icmp .ne 12, 3, 15, 0, 0), (.aload_n 0, 1, 0, 0, 0), (.getfield 16, 3, 11, 2, 0), (.iload_n 1, 1, 1, 0, 0), (.iaload, 1, 0, 0, 0), (.goto 21, 3, 33, 0, 0)], 15),
  (15, [(.iload 5, 2, 5, 0, 0), (.iconst 4, 1, 0, 0, 4), (.if_icmp .ne 14, 3, 32, 0, 0), (.aload_n 0, 1, 0, 0, 0), (.iload_n 3, 1, 3, 0, 0), (.iload 4, 2, 4, 0, 0), (.iload_n 1, 1, 1, 0, 0), (.invokevirtual 148, 3, 200, 3, 11), (.goto 4, 3, 33, 0, 0)], 32),
  (32, [(.iconst 0, 1, 0, 0, 0)], 33),
  (33, [(.istore 6, 2, 6, 0, 0), (.iload 5, 2, 5, 0, 0), (.iconst 3, 1, 0, 0, 3), (.if_icmp .ne 12, 3, 50, 0, 0), (.aload_n 0, 1, 0, 0, 0), (.getfield 16, 3, 11, 2, 0), (.iload_n 2, 1, 2, 0, 0), (.iaload, 1, 0, 0, 0), (.goto 21, 3, 68, 0, 0)], 50),
  (50, [(.iload 5, 2, 5, 0, 0), (.iconst 4, 1, 0, 0, 4), (.if_icmp .ne 14, 3, 67, 0, 0), (.aload_n 0, 1, 0, 0, 0), (.iload_n 3, 1, 3, 0, 0), (.iload 4, 2, 4, 0, 0), (.iload_n 2, 1, 2, 0, 0), (.invokevirtual 148, 3, 200, 3, 11), (.goto 4, 3, 68, 0, 0)], 67),
  (67, [(.iconst 0, 1, 0, 0, 0)], 68),
  (68, [(.istore 7, 2, 7, 0, 0), (.iload 6, 2, 6, 0, 0), (.iload 7, 2, 7, 0, 0), (.if_icmp .eq 18, 3, 92, 0, 0), (.iload 6, 2, 6, 0, 0), (.iload 7, 2, 7, 0, 0), (.if_icmp .le 7, 3, 88, 0, 0), (.iconst 1, 1, 0, 0, 1), (.goto 17, 3, 102, 0, 0)], 88),
  (88, [(.iconst 0, 1, 0, 0, 0), (.goto 13, 3, 102, 0, 0)], 92),
  (92, [(.iload_n 1, 1, 1, 0, 0), (.iload_n 2, 1, 2, 0, 0), (.if_icmp .ge 7, 3, 101, 0, 0), (.iconst 1, 1, 0, 0, 1), (.goto 4, 3, 102, 0, 0)], 101),
  (101, [(.iconst 0, 1, 0, 0, 0)], 102),
  (102, [(.ireturn, 1, 1, 0, 0)], 103)]
set_option maxRecDepth 100000 in
theorem ok_X11_isAhead : pm_oks 11 false 8 (some .boolean) cX11_isAhead bk_X11_isAhead = true := oksF_ok (by decide +kernel)
set_option maxRecDepth 100000 in
theorem me_X11_isAhead : pm_me 222 = (yX11_isAhead, cX11_isAhead, 8, (some .boolean), 5, 0) := rfl
theorem mt_X11_isAhead {l : Launch} {g : pm_G} {d mc ms : Nat} {as : List Value} {A : pm_H} {Q : Option Value → pm_H → Prop} (hca : pm_cat 8 as = true) (body : ∀ J : pm_J, pm_Cl l g (fun _ => none) d mc ms (pm_Rq mc ms Q) bk_X11_isAhead J → J 0 (pm_l0 8 as) [] A 0 0) : pm_Mt l g 222 d mc ms as A Q := pm_Mt_of (isI := false) 11 bk_X11_isAhead me_X11_isAhead (plainFor_of_name (by decide +kernel)) (by decide +kernel) (fun h => by cases h) ok_X11_isAhead hca body
def bk_X11_absent : pm_B := [(0, [(.aload_n 0, 1, 0, 0, 0), (.iload_n 1, 1, 1, 0, 0), (.iload_n 2, 1, 2, 0, 0), (.invokevirtual 129, 3, 180, 2, 11), (.ifCond .eq 7, 3, 13, 0, 0), (.iload_n 3, 1, 3, 0, 0), (.ifCond .ge 5, 3, 15, 0, 0)], 13),
  (13, [(.iconst (-1), 1, 0, 0, -1), (.ireturn, 1, 0, 0, 0)], 15),
  (15, [(.aload_n 0, 1, 0, 0, 0), (.iload_n 1, 1, 1, 0, 0), (.iload_n 2, 1, 2, 0, 0), (.invokevirtual 161, 3, 206, 2, 11), (.istore 4, 2, 4, 0, 0), (.iload_n 3, 1, 3, 0, 0), (.istore 5, 2, 5, 0, 0), (.iconst 0, 1, 0, 0, 0), (.istore 6, 2, 6, 0, 0)], 29),
  (29, [(.iload 6, 2, 6, 0, 0), (.bipush 24, 2, 0, 0, 24), (.if_icmp .ge 34, 3, 67, 0, 0), (.iload 4, 2, 4, 0, 0), (.iload 6, 2, 6, 0, 0), (.ishr, 1, 0, 0, 0), (.iconst 1, 1, 0, 0, 1), (.iand, 1, 0, 0, 0), (.iconst 1, 1, 0, 0, 1), (.if_icmp .ne 6, 3, 50, 0, 0), (.goto 14, 3, 61, 0, 0)], 50),
  (50, [(.iload 5, 2, 5, 0, 0), (.ifCond .ne 6, 3, 58, 0, 0), (.iload 6, 2, 6, 0, 0), (.ireturn, 1, 0, 0, 0)], 58),
  (58, [(.iinc 5 (-1), 3, 5, 0, -1)], 61),
  (61, [(.iinc 6 1, 3, 6, 0, 1), (.goto (-35), 3, 29, 0, 0)], 67),
  (67, [(.iconst (-1), 1, 0, 0, -1), (.ireturn, 1, 0, 0, 0)], 69)]
set_option maxRecDepth 100000 in
theorem ok_X11_absent : pm_oks 11 false 7 (some .int) cX11_absent bk_X11_absent = true := oksF_ok (by decide +kernel)
set_option maxRecDepth 100000 in
theorem me_X11_absent : pm_me 223 = (yX11_absent, cX11_absent, 7, (some .int), 3, 0) := rfl
theorem mt_X11_absent {l : Launch} {g : pm_G} {d mc ms : Nat} {as : List Value} {A : pm_H} {Q : Option Value → pm_H → Prop} (hca : pm_cat 7 as = true) (body : ∀ J : pm_J, pm_Cl l g (fun _ => none) d mc ms (pm_Rq mc ms Q) bk_X11_absent J → J 0 (pm_l0 7 as) [] A 0 0) : pm_Mt l g 223 d mc ms as A Q := pm_Mt_of (isI := false) 11 bk_X11_absent me_X11_absent (plainFor_of_name (by decide +kernel)) (by decide +kernel) (fun h => by cases h) ok_X11_absent hca body
def bk_X11_both : pm_B := [(0, [(.aload_n 0, 1, 0, 0, 0), (.iload_n 1, 1, 1, 0, 0), (.iload_n 2, 1, 2, 0, 0), (.invokevirtual 129, 3, 180, 2, 11), (.ifCond .eq 13, 3, 19, 0, 0), (.aload_n 0, 1, 0, 0, 0), (.iload_n 3, 1, 3, 0, 0), (.iload 4, 2, 4, 0, 0), (.invokevirtual 129, 3, 180, 2, 11), (.ifCond .ne 5, 3, 21, 0, 0)], 19),
  (19, [(.iconst (-1), 1, 0, 0, -1), (.ireturn, 1, 0, 0, 0)], 21),
  (21, [(.aload_n 0, 1, 0, 0, 0), (.iload_n 1, 1, 1, 0, 0), (.iload_n 2, 1, 2, 0, 0), (.invokevirtual 161, 3, 206, 2, 11), (.istore 6, 2, 6, 0, 0), (.aload_n 0, 1, 0, 0, 0), (.iload_n 3, 1, 3, 0, 0), (.iload 4, 2, 4, 0, 0), (.invokevirtual 161, 3, 206, 2, 11), (.istore 7, 2, 7, 0, 0), (.iload 5, 2, 5, 0, 0), (.ifCond .ne 14, 3, 54, 0, 0), (.iload 6, 2, 6, 0, 0), (.iload 7, 2, 7, 0, 0), (.iand, 1, 0, 0, 0), (.invokestatic 165, 3, 207, 1, 0), (.goto 40, 3, 91, 0, 0)], 54),
  (54, [(.iload 5, 2, 5, 0, 0), (.iconst 1, 1, 0, 0, 1), (.if_icmp .ne 16, 3, 73, 0, 0), (.iload 6, 2, 6, 0, 0), (.iload 7, 2, 7, 0, 0), (.iconst (-1), 1, 0, 0, -1), (.ixor, 1, 0, 0, 0), (.iand, 1, 0, 0, 0), (.invokestatic 165, 3, 207, 1, 0), (.goto 21, 3, 91, 0, 0)], 73),
  (73, [(.iload 5, 2, 5, 0, 0), (.iconst 2, 1, 0, 0, 2), (.if_icmp .ne 14, 3, 90, 0, 0), (.iload 6, 2, 6, 0, 0), (.iload 7, 2, 7, 0, 0), (.ior, 1, 0, 0, 0), (.invokestatic 165, 3, 207, 1, 0), (.goto 4, 3, 91, 0, 0)], 90),
  (90, [(.iconst (-1), 1, 0, 0, -1)], 91),
  (91, [(.ireturn, 1, 0, 0, 0)], 92)]
set_option maxRecDepth 100000 in
theorem ok_X11_both : pm_oks 11 false 8 (some .int) cX11_both bk_X11_both = true := oksF_ok (by decide +kernel)
set_option maxRecDepth 100000 in
theorem me_X11_both : pm_me 224 = (yX11_both, cX11_both, 8, (some .int), 5, 0) := rfl
theorem mt_X11_both {l : Launch} {g : pm_G} {d mc ms : Nat} {as : List Value} {A : pm_H} {Q : Option Value → pm_H → Prop} (hca : pm_cat 8 as = true) (body : ∀ J : pm_J, pm_Cl l g (fun _ => none) d mc ms (pm_Rq mc ms Q) bk_X11_both J → J 0 (pm_l0 8 as) [] A 0 0) : pm_Mt l g 224 d mc ms as A Q := pm_Mt_of (isI := false) 11 bk_X11_both me_X11_both (plainFor_of_name (by decide +kernel)) (by decide +kernel) (fun h => by cases h) ok_X11_both hca body
def bk_X11_close : pm_B := [(0, [(.aload_n 0, 1, 0, 0, 0), (.iload_n 1, 1, 1, 0, 0), (.iload_n 2, 1, 2, 0, 0), (.invokevirtual 129, 3, 180, 2, 11), (.ifCond .eq 12, 3, 18, 0, 0), (.iload_n 3, 1, 3, 0, 0), (.iconst 0, 1, 0, 0, 0), (.iconst 1, 1, 0, 0, 1), (.invokestatic 74, 3, 169, 3, 0), (.ifCond .ne 5, 3, 20, 0, 0)], 18),
  (18, [(.iconst (-1), 1, 0, 0, -1), (.ireturn, 1, 0, 0, 0)], 20),
  (20, [(.iconst (-1), 1, 0, 0, -1), (.istore 4, 2, 4, 0, 0), (.iload_n 1, 1, 1, 0, 0), (.istore 5, 2, 5, 0, 0)], 26),
  (26, [(.iload 5, 2, 5, 0, 0), (.iload_n 2, 1, 2, 0, 0), (.if_icmp .gt 49, 3, 78, 0, 0), (.aload_n 0, 1, 0, 0, 0), (.iload 5, 2, 5, 0, 0), (.invokevirtual 78, 3, 174, 1, 11), (.iload_n 1, 1, 1, 0, 0), (.if_icmp .lt 33, 3, 72, 0, 0), (.iload 4, 2, 4, 0, 0), (.ifCond .lt 24, 3, 68, 0, 0), (.iload 5, 2, 5, 0, 0), (.aload_n 0, 1, 0, 0, 0), (.iload 5, 2, 5, 0, 0), (.invokevirtual 78, 3, 174, 1, 11), (.isub, 1, 0, 0, 0), (.iload 4, 2, 4, 0, 0), (.aload_n 0, 1, 0, 0, 0), (.iload 4, 2, 4, 0, 0), (.invokevirtual 78, 3, 174, 1, 11), (.isub, 1, 0, 0, 0), (.if_icmp .ge 7, 3, 72, 0, 0)], 68),
  (68, [(.iload 5, 2, 5, 0, 0), (.istore 4, 2, 4, 0, 0)], 72),
  (72, [(.iinc 5 1, 3, 5, 0, 1), (.goto (-49), 3, 26, 0, 0)], 78),
  (78, [(.iload 4, 2, 4, 0, 0), (.ifCond .ge 7, 3, 87, 0, 0), (.iconst (-1), 1, 0, 0, -1), (.goto 25, 3, 109, 0, 0)], 87),
  (87, [(.iload_n 3, 1, 3, 0, 0), (.ifCond .ne 15, 3, 103, 0, 0), (.iload 4, 2, 4, 0, 0), (.aload_n 0, 1, 0, 0, 0), (.iload 4, 2, 4, 0, 0), (.invokevirtual 78, 3, 174, 1, 11), (.isub, 1, 0, 0, 0), (.goto 9, 3, 109, 0, 0)], 103),
  (103, [(.aload_n 0, 1, 0, 0, 0), (.iload 4, 2, 4, 0, 0), (.invokevirtual 78, 3, 174, 1, 11)], 109),
  (109, [(.ireturn, 1, 0, 0, 0)], 110)]
set_option maxRecDepth 100000 in
theorem ok_X11_close : pm_oks 11 false 6 (some .int) cX11_close bk_X11_close = true := oksF_ok (by decide +kernel)
set_option maxRecDepth 100000 in
theorem me_X11_close : pm_me 225 = (yX11_close, cX11_close, 6, (some .int), 3, 0) := rfl
theorem mt_X11_close {l : Launch} {g : pm_G} {d mc ms : Nat} {as : List Value} {A : pm_H} {Q : Option Value → pm_H → Prop} (hca : pm_cat 6 as = true) (body : ∀ J : pm_J, pm_Cl l g (fun _ => none) d mc ms (pm_Rq mc ms Q) bk_X11_close J → J 0 (pm_l0 6 as) [] A 0 0) : pm_Mt l g 225 d mc ms as A Q := pm_Mt_of (isI := false) 11 bk_X11_close me_X11_close (plainFor_of_name (by decide +kernel)) (by decide +kernel) (fun h => by cases h) ok_X11_close hca body
def bk_X11_was : pm_B := [(0, [(.aload_n 0, 1, 0, 0, 0), (.iload_n 1, 1, 1, 0, 0), (.invokevirtual 197, 3, 227, 1, 11), (.ifCond .ne 5, 3, 10, 0, 0), (.iconst (-1), 1, 0, 0, -1), (.ireturn, 1, 0, 0, 0)], 10),
  (10, [(.aload_n 0, 1, 0, 0, 0), (.getfield 52, 3, 11, 21, 0), (.iload_n 1, 1, 1, 0, 0), (.bipush 40, 2, 0, 0, 40), (.irem, 1, 0, 0, 0), (.iaload, 1, 0, 0, 0), (.istore 4, 2, 4, 0, 0), (.iload_n 2, 1, 2, 0, 0), (.iconst (-1), 1, 0, 0, -1), (.if_icmp .ne 6, 3, 29, 0, 0), (.iload 4, 2, 4, 0, 0), (.ireturn, 1, 0, 0, 0)], 29),
  (29, [(.iload_n 2, 1, 2, 0, 0), (.iconst 0, 1, 0, 0, 0), (.iload 4, 2, 4, 0, 0), (.iconst 1, 1, 0, 0, 1), (.isub, 1, 0, 0, 0), (.invokestatic 74, 3, 169, 3, 0), (.ifCond .ne 5, 3, 43, 0, 0), (.iconst (-1), 1, 0, 0, -1), (.ireturn, 1, 0, 0, 0)], 43),
  (43, [(.iload_n 3, 1, 3, 0, 0), (.ifCond .ne 12, 3, 56, 0, 0), (.aload_n 0, 1, 0, 0, 0), (.iload_n 1, 1, 1, 0, 0), (.iload_n 2, 1, 2, 0, 0), (.invokevirtual 191, 3, 228, 2, 11), (.goto 32, 3, 85, 0, 0)], 56),
  (56, [(.iload_n 3, 1, 3, 0, 0), (.iconst 1, 1, 0, 0, 1), (.if_icmp .ne 12, 3, 70, 0, 0), (.aload_n 0, 1, 0, 0, 0), (.iload_n 1, 1, 1, 0, 0), (.iload_n 2, 1, 2, 0, 0), (.invokevirtual 194, 3, 229, 2, 11), (.goto 18, 3, 85, 0, 0)], 70),
  (70, [(.iload_n 3, 1, 3, 0, 0), (.iconst 2, 1, 0, 0, 2), (.if_icmp .ne 12, 3, 84, 0, 0), (.aload_n 0, 1, 0, 0, 0), (.iload_n 1, 1, 1, 0, 0), (.iload_n 2, 1, 2, 0, 0), (.invokevirtual 200, 3, 230, 2, 11), (.goto 4, 3, 85, 0, 0)], 84),
  (84, [(.iconst (-1), 1, 0, 0, -1)], 85),
  (85, [(.ireturn, 1, 0, 0, 0)], 86)]
set_option maxRecDepth 100000 in
theorem ok_X11_was : pm_oks 11 false 5 (some .int) cX11_was bk_X11_was = true := oksF_ok (by decide +kernel)
set_option maxRecDepth 100000 in
theorem me_X11_was : pm_me 226 = (yX11_was, cX11_was, 5, (some .int), 3, 0) := rfl
theorem mt_X11_was {l : Launch} {g : pm_G} {d mc ms : Nat} {as : List Value} {A : pm_H} {Q : Option Value → pm_H → Prop} (hca : pm_cat 5 as = true) (body : ∀ J : pm_J, pm_Cl l g (fun _ => none) d mc ms (pm_Rq mc ms Q) bk_X11_was J → J 0 (pm_l0 5 as) [] A 0 0) : pm_Mt l g 226 d mc ms as A Q := pm_Mt_of (isI := false) 11 bk_X11_was me_X11_was (plainFor_of_name (by decide +kernel)) (by decide +kernel) (fun h => by cases h) ok_X11_was hca body
def bk_X11_isKnown : pm_B := [(0, [(.iload_n 1, 1, 1, 0, 0), (.ifCond .lt 26, 3, 27, 0, 0), (.iload_n 1, 1, 1, 0, 0), (.aload_n 0, 1, 0, 0, 0), (.getfield 102, 3, 11, 11, 0), (.if_icmp .gt 18, 3, 27, 0, 0), (.iload_n 1, 1, 1, 0, 0), (.aload_n 0, 1, 0, 0, 0), (.getfield 102, 3, 11, 11, 0), (.bipush 40, 2, 0, 0, 40), (.isub, 1, 0, 0, 0), (.if_icmp .le 7, 3, 27, 0, 0), (.iconst 1, 1, 0, 0, 1), (.goto 4, 3, 28, 0, 0)], 27),
  (27, [(.iconst 0, 1, 0, 0, 0)], 28),
  (28, [(.ireturn, 1, 1, 0, 0)], 29)]
set_option maxRecDepth 100000 in
theorem ok_X11_isKnown : pm_oks 11 false 2 (some .boolean) cX11_isKnown bk_X11_isKnown = true := oksF_ok (by decide +kernel)
set_option maxRecDepth 100000 in
theorem me_X11_isKnown : pm_me 227 = (yX11_isKnown, cX11_isKnown, 2, (some .boolean), 1, 0) := rfl
theorem mt_X11_isKnown {l : Launch} {g : pm_G} {d mc ms : Nat} {as : List Value} {A : pm_H} {Q : Option Value → pm_H → Prop} (hca : pm_cat 2 as = true) (body : ∀ J : pm_J, pm_Cl l g (fun _ => none) d mc ms (pm_Rq mc ms Q) bk_X11_isKnown J → J 0 (pm_l0 2 as) [] A 0 0) : pm_Mt l g 227 d mc ms as A Q := pm_Mt_of (isI := false) 11 bk_X11_isKnown me_X11_isKnown (plainFor_of_name (by decide +kernel)) (by decide +kernel) (fun h => by cases h) ok_X11_isKnown hca body
def bk_X11_wasColour : pm_B := [(0, [(.aload_n 0, 1, 0, 0, 0), (.getfield 46, 3, 11, 19, 0), (.sipush 160, 3, 0, 0, 160), (.iload_n 1, 1, 1, 0, 0), (.bipush 40, 2, 0, 0, 40), (.irem, 1, 0, 0, 0), (.imul, 1, 0, 0, 0), (.iload_n 2, 1, 2, 0, 0), (.iadd, 1, 0, 0, 0), (.iaload, 1, 0, 0, 0), (.ireturn, 1, 0, 0, 0)], 16)]
set_option maxRecDepth 100000 in
theorem ok_X11_wasColour : pm_oks 11 false 3 (some .int) cX11_wasColour bk_X11_wasColour = true := oksF_ok (by decide +kernel)
set_option maxRecDepth 100000 in
theorem me_X11_wasColour : pm_me 228 = (yX11_wasColour, cX11_wasColour, 3, (some .int), 2, 0) := rfl
theorem mt_X11_wasColour {l : Launch} {g : pm_G} {d mc ms : Nat} {as : List Value} {A : pm_H} {Q : Option Value → pm_H → Prop} (hca : pm_cat 3 as = true) (body : ∀ J : pm_J, pm_Cl l g (fun _ => none) d mc ms (pm_Rq mc ms Q) bk_X11_wasColour J → J 0 (pm_l0 3 as) [] A 0 0) : pm_Mt l g 228 d mc ms as A Q := pm_Mt_of (isI := false) 11 bk_X11_wasColour me_X11_wasColour (plainFor_of_name (by decide +kernel)) (by decide +kernel) (fun h => by cases h) ok_X11_wasColour hca body
def bk_X11_wasName : pm_B := [(0, [(.aload_n 0, 1, 0, 0, 0), (.getfield 49, 3, 11, 20, 0), (.sipush 160, 3, 0, 0, 160), (.iload_n 1, 1, 1, 0, 0), (.bipush 40, 2, 0, 0, 40), (.irem, 1, 0, 0, 0), (.imul, 1, 0, 0, 0), (.iload_n 2, 1, 2, 0, 0), (.iadd, 1, 0, 0, 0), (.iaload, 1, 0, 0, 0), (.ireturn, 1, 0, 0, 0)], 16)]
set_option maxRecDepth 100000 in
theorem ok_X11_wasName : pm_oks 11 false 3 (some .int) cX11_wasName bk_X11_wasName = true := oksF_ok (by decide +kernel)
set_option maxRecDepth 100000 in
theorem me_X11_wasName : pm_me 229 = (yX11_wasName, cX11_wasName, 3, (some .int), 2, 0) := rfl
theorem mt_X11_wasName {l : Launch} {g : pm_G} {d mc ms : Nat} {as : List Value} {A : pm_H} {Q : Option Value → pm_H → Prop} (hca : pm_cat 3 as = true) (body : ∀ J : pm_J, pm_Cl l g (fun _ => none) d mc ms (pm_Rq mc ms Q) bk_X11_wasName J → J 0 (pm_l0 3 as) [] A 0 0) : pm_Mt l g 229 d mc ms as A Q := pm_Mt_of (isI := false) 11 bk_X11_wasName me_X11_wasName (plainFor_of_name (by decide +kernel)) (by decide +kernel) (fun h => by cases h) ok_X11_wasName hca body
def bk_X11_wasBond : pm_B := [(0, [(.iload_n 2, 1, 2, 0, 0), (.iconst 1, 1, 0, 0, 1), (.isub, 1, 0, 0, 0), (.istore_n 3, 1, 3, 0, 0)], 4),
  (4, [(.iload_n 3, 1, 3, 0, 0), (.ifCond .lt 31, 3, 36, 0, 0), (.aload_n 0, 1, 0, 0, 0), (.iload_n 1, 1, 1, 0, 0), (.iload_n 3, 1, 3, 0, 0), (.invokevirtual 191, 3, 228, 2, 11), (.aload_n 0, 1, 0, 0, 0), (.iload_n 1, 1, 1, 0, 0), (.iload_n 2, 1, 2, 0, 0), (.invokevirtual 191, 3, 228, 2, 11), (.if_icmp .ne 10, 3, 30, 0, 0), (.aload_n 0, 1, 0, 0, 0), (.iload_n 1, 1, 1, 0, 0), (.iload_n 3, 1, 3, 0, 0), (.invokevirtual 194, 3, 229, 2, 11), (.ireturn, 1, 0, 0, 0)], 30),
  (30, [(.iinc 3 (-1), 3, 3, 0, -1), (.goto (-29), 3, 4, 0, 0)], 36),
  (36, [(.iconst (-1), 1, 0, 0, -1), (.ireturn, 1, 0, 0, 0)], 38)]
set_option maxRecDepth 100000 in
theorem ok_X11_wasBond : pm_oks 11 false 4 (some .int) cX11_wasBond bk_X11_wasBond = true := oksF_ok (by decide +kernel)
set_option maxRecDepth 100000 in
theorem me_X11_wasBond : pm_me 230 = (yX11_wasBond, cX11_wasBond, 4, (some .int), 2, 0) := rfl
theorem mt_X11_wasBond {l : Launch} {g : pm_G} {d mc ms : Nat} {as : List Value} {A : pm_H} {Q : Option Value → pm_H → Prop} (hca : pm_cat 4 as = true) (body : ∀ J : pm_J, pm_Cl l g (fun _ => none) d mc ms (pm_Rq mc ms Q) bk_X11_wasBond J → J 0 (pm_l0 4 as) [] A 0 0) : pm_Mt l g 230 d mc ms as A Q := pm_Mt_of (isI := false) 11 bk_X11_wasBond me_X11_wasBond (plainFor_of_name (by decide +kernel)) (by decide +kernel) (fun h => by cases h) ok_X11_wasBond hca body
def bk_X11_counted : pm_B := [(0, [(.aload_n 0, 1, 0, 0, 0), (.iload_n 1, 1, 1, 0, 0), (.invokevirtual 197, 3, 227, 1, 11), (.ifCond .eq 38, 3, 43, 0, 0), (.iload_n 2, 1, 2, 0, 0), (.ifCond .lt 34, 3, 43, 0, 0), (.iload_n 2, 1, 2, 0, 0), (.iload_n 3, 1, 3, 0, 0), (.if_icmp .gt 29, 3, 43, 0, 0), (.iload_n 3, 1, 3, 0, 0), (.aload_n 0, 1, 0, 0, 0), (.getfield 52, 3, 11, 21, 0), (.iload_n 1, 1, 1, 0, 0), (.bipush 40, 2, 0, 0, 40), (.irem, 1, 0, 0, 0), (.iaload, 1, 0, 0, 0), (.if_icmp .ge 16, 3, 43, 0, 0), (.aload_n 0, 1, 0, 0, 0), (.iload_n 1, 1, 1, 0, 0), (.iload_n 2, 1, 2, 0, 0), (.iload_n 3, 1, 3, 0, 0), (.invokevirtual 203, 3, 232, 3, 11), (.invokestatic 165, 3, 207, 1, 0), (.goto 4, 3, 44, 0, 0)], 43),
  (43, [(.iconst (-1), 1, 0, 0, -1)], 44),
  (44, [(.ireturn, 1, 0, 0, 0)], 45)]
set_option maxRecDepth 100000 in
theorem ok_X11_counted : pm_oks 11 false 4 (some .int) cX11_counted bk_X11_counted = true := oksF_ok (by decide +kernel)
set_option maxRecDepth 100000 in
theorem me_X11_counted : pm_me 231 = (yX11_counted, cX11_counted, 4, (some .int), 3, 0) := rfl
theorem mt_X11_counted {l : Launch} {g : pm_G} {d mc ms : Nat} {as : List Value} {A : pm_H} {Q : Option Value → pm_H → Prop} (hca : pm_cat 4 as = true) (body : ∀ J : pm_J, pm_Cl l g (fun _ => none) d mc ms (pm_Rq mc ms Q) bk_X11_counted J → J 0 (pm_l0 4 as) [] A 0 0) : pm_Mt l g 231 d mc ms as A Q := pm_Mt_of (isI := false) 11 bk_X11_counted me_X11_counted (plainFor_of_name (by decide +kernel)) (by decide +kernel) (fun h => by cases h) ok_X11_counted hca body
def bk_X11_wasSet : pm_B := [(0, [(.iconst 0, 1, 0, 0, 0), (.istore 4, 2, 4, 0, 0), (.iload_n 2, 1, 2, 0, 0), (.istore 5, 2, 5, 0, 0)], 6),
  (6, [(.iload 5, 2, 5, 0, 0), (.iload_n 3, 1, 3, 0, 0), (.if_icmp .gt 23, 3, 32, 0, 0), (.iload 4, 2, 4, 0, 0), (.iconst 1, 1, 0, 0, 1), (.aload_n 0, 1, 0, 0, 0), (.iload_n 1, 1, 1, 0, 0), (.iload 5, 2, 5, 0, 0), (.invokevirtual 191, 3, 228, 2, 11), (.ishl, 1, 0, 0, 0), (.ior, 1, 0, 0, 0), (.istore 4, 2, 4, 0, 0), (.iinc 5 1, 3, 5, 0, 1), (.goto (-23), 3, 6, 0, 0)], 32),
  (32, [(.iload 4, 2, 4, 0, 0), (.ireturn, 1, 0, 0, 0)], 35)]
set_option maxRecDepth 100000 in
theorem ok_X11_wasSet : pm_oks 11 false 6 (some .int) cX11_wasSet bk_X11_wasSet = true := oksF_ok (by decide +kernel)
set_option maxRecDepth 100000 in
theorem me_X11_wasSet : pm_me 232 = (yX11_wasSet, cX11_wasSet, 6, (some .int), 3, 0) := rfl
theorem mt_X11_wasSet {l : Launch} {g : pm_G} {d mc ms : Nat} {as : List Value} {A : pm_H} {Q : Option Value → pm_H → Prop} (hca : pm_cat 6 as = true) (body : ∀ J : pm_J, pm_Cl l g (fun _ => none) d mc ms (pm_Rq mc ms Q) bk_X11_wasSet J → J 0 (pm_l0 6 as) [] A 0 0) : pm_Mt l g 232 d mc ms as A Q := pm_Mt_of (isI := false) 11 bk_X11_wasSet me_X11_wasSet (plainFor_of_name (by decide +kernel)) (by decide +kernel) (fun h => by cases h) ok_X11_wasSet hca body
def bk_X11_touched : pm_B := [(0, [(.iload_n 1, 1, 1, 0, 0), (.ifCond .le 23, 3, 24, 0, 0), (.aload_n 0, 1, 0, 0, 0), (.iload_n 1, 1, 1, 0, 0), (.invokevirtual 197, 3, 227, 1, 11), (.ifCond .eq 15, 3, 24, 0, 0), (.aload_n 0, 1, 0, 0, 0), (.getfield 55, 3, 11, 22, 0), (.iload_n 1, 1, 1, 0, 0), (.bipush 40, 2, 0, 0, 40), (.irem, 1, 0, 0, 0), (.iaload, 1, 0, 0, 0), (.goto 4, 3, 25, 0, 0)], 24),
  (24, [(.iconst (-1), 1, 0, 0, -1)], 25),
  (25, [(.ireturn, 1, 0, 0, 0)], 26)]
set_option maxRecDepth 100000 in
theorem ok_X11_touched : pm_oks 11 false 2 (some .int) cX11_touched bk_X11_touched = true := oksF_ok (by decide +kernel)
set_option maxRecDepth 100000 in
theorem me_X11_touched : pm_me 233 = (yX11_touched, cX11_touched, 2, (some .int), 1, 0) := rfl
theorem mt_X11_touched {l : Launch} {g : pm_G} {d mc ms : Nat} {as : List Value} {A : pm_H} {Q : Option Value → pm_H → Prop} (hca : pm_cat 2 as = true) (body : ∀ J : pm_J, pm_Cl l g (fun _ => none) d mc ms (pm_Rq mc ms Q) bk_X11_touched J → J 0 (pm_l0 2 as) [] A 0 0) : pm_Mt l g 233 d mc ms as A Q := pm_Mt_of (isI := false) 11 bk_X11_touched me_X11_touched (plainFor_of_name (by decide +kernel)) (by decide +kernel) (fun h => by cases h) ok_X11_touched hca body
def bk_X11_since : pm_B := [(0, [(.aload_n 0, 1, 0, 0, 0), (.iload_n 1, 1, 1, 0, 0), (.invokevirtual 206, 3, 197, 1, 11), (.istore_n 2, 1, 2, 0, 0), (.iload_n 2, 1, 2, 0, 0), (.ifCond .ge 5, 3, 12, 0, 0), (.iconst (-1), 1, 0, 0, -1), (.ireturn, 1, 0, 0, 0)], 12),
  (12, [(.aload_n 0, 1, 0, 0, 0), (.iload_n 2, 1, 2, 0, 0), (.invokevirtual 85, 3, 173, 1, 11), (.istore_n 3, 1, 3, 0, 0), (.aload_n 0, 1, 0, 0, 0), (.getfield 102, 3, 11, 11, 0), (.istore 4, 2, 4, 0, 0)], 24),
  (24, [(.aload_n 0, 1, 0, 0, 0), (.iload 4, 2, 4, 0, 0), (.iconst 1, 1, 0, 0, 1), (.isub, 1, 0, 0, 0), (.invokevirtual 197, 3, 227, 1, 11), (.ifCond .eq 22, 3, 54, 0, 0), (.aload_n 0, 1, 0, 0, 0), (.iload 4, 2, 4, 0, 0), (.iconst 1, 1, 0, 0, 1), (.isub, 1, 0, 0, 0), (.iload_n 1, 1, 1, 0, 0), (.iload_n 3, 1, 3, 0, 0), (.invokevirtual 209, 3, 235, 3, 11), (.ifCond .eq 9, 3, 54, 0, 0), (.iinc 4 (-1), 3, 4, 0, -1), (.goto (-27), 3, 24, 0, 0)], 54),
  (54, [(.iload 4, 2, 4, 0, 0), (.ireturn, 1, 0, 0, 0)], 57)]
set_option maxRecDepth 100000 in
theorem ok_X11_since : pm_oks 11 false 5 (some .int) cX11_since bk_X11_since = true := oksF_ok (by decide +kernel)
set_option maxRecDepth 100000 in
theorem me_X11_since : pm_me 234 = (yX11_since, cX11_since, 5, (some .int), 1, 0) := rfl
theorem mt_X11_since {l : Launch} {g : pm_G} {d mc ms : Nat} {as : List Value} {A : pm_H} {Q : Option Value → pm_H → Prop} (hca : pm_cat 5 as = true) (body : ∀ J : pm_J, pm_Cl l g (fun _ => none) d mc ms (pm_Rq mc ms Q) bk_X11_since J → J 0 (pm_l0 5 as) [] A 0 0) : pm_Mt l g 234 d mc ms as A Q := pm_Mt_of (isI := false) 11 bk_X11_since me_X11_since (plainFor_of_name (by decide +kernel)) (by decide +kernel) (fun h => by cases h) ok_X11_since hca body
def bk_X11_hadBond : pm_B := [(0, [(.aload_n 0, 1, 0, 0, 0), (.iload_n 1, 1, 1, 0, 0), (.iload_n 2, 1, 2, 0, 0), (.invokevirtual 212, 3, 236, 2, 11), (.istore 4, 2, 4, 0, 0), (.iload 4, 2, 4, 0, 0), (.ifCond .lt 18, 3, 28, 0, 0), (.aload_n 0, 1, 0, 0, 0), (.iload_n 1, 1, 1, 0, 0), (.iload 4, 2, 4, 0, 0), (.invokevirtual 200, 3, 230, 2, 11), (.iload_n 3, 1, 3, 0, 0), (.if_icmp .ne 7, 3, 28, 0, 0), (.iconst 1, 1, 0, 0, 1), (.goto 4, 3, 29, 0, 0)], 28),
  (28, [(.iconst 0, 1, 0, 0, 0)], 29),
  (29, [(.ireturn, 1, 1, 0, 0)], 30)]
set_option maxRecDepth 100000 in
theorem ok_X11_hadBond : pm_oks 11 false 5 (some .boolean) cX11_hadBond bk_X11_hadBond = true := oksF_ok (by decide +kernel)
set_option maxRecDepth 100000 in
theorem me_X11_hadBond : pm_me 235 = (yX11_hadBond, cX11_hadBond, 5, (some .boolean), 3, 0) := rfl
theorem mt_X11_hadBond {l : Launch} {g : pm_G} {d mc ms : Nat} {as : List Value} {A : pm_H} {Q : Option Value → pm_H → Prop} (hca : pm_cat 5 as = true) (body : ∀ J : pm_J, pm_Cl l g (fun _ => none) d mc ms (pm_Rq mc ms Q) bk_X11_hadBond J → J 0 (pm_l0 5 as) [] A 0 0) : pm_Mt l g 235 d mc ms as A Q := pm_Mt_of (isI := false) 11 bk_X11_hadBond me_X11_hadBond (plainFor_of_name (by decide +kernel)) (by decide +kernel) (fun h => by cases h) ok_X11_hadBond hca body
def bk_X11_wasPlace : pm_B := [(0, [(.iconst 0, 1, 0, 0, 0), (.istore_n 3, 1, 3, 0, 0)], 2),
  (2, [(.iload_n 3, 1, 3, 0, 0), (.aload_n 0, 1, 0, 0, 0), (.getfield 52, 3, 11, 21, 0), (.iload_n 1, 1, 1, 0, 0), (.bipush 40, 2, 0, 0, 40), (.irem, 1, 0, 0, 0), (.iaload, 1, 0, 0, 0), (.if_icmp .ge 21, 3, 33, 0, 0), (.aload_n 0, 1, 0, 0, 0), (.iload_n 1, 1, 1, 0, 0), (.iload_n 3, 1, 3, 0, 0), (.invokevirtual 194, 3, 229, 2, 11), (.iload_n 2, 1, 2, 0, 0), (.if_icmp .ne 5, 3, 27, 0, 0), (.iload_n 3, 1, 3, 0, 0), (.ireturn, 1, 0, 0, 0)], 27),
  (27, [(.iinc 3 1, 3, 3, 0, 1), (.goto (-28), 3, 2, 0, 0)], 33),
  (33, [(.iconst (-1), 1, 0, 0, -1), (.ireturn, 1, 0, 0, 0)], 35)]
set_option maxRecDepth 100000 in
theorem ok_X11_wasPlace : pm_oks 11 false 4 (some .int) cX11_wasPlace bk_X11_wasPlace = true := oksF_ok (by decide +kernel)
set_option maxRecDepth 100000 in
theorem me_X11_wasPlace : pm_me 236 = (yX11_wasPlace, cX11_wasPlace, 4, (some .int), 2, 0) := rfl
theorem mt_X11_wasPlace {l : Launch} {g : pm_G} {d mc ms : Nat} {as : List Value} {A : pm_H} {Q : Option Value → pm_H → Prop} (hca : pm_cat 4 as = true) (body : ∀ J : pm_J, pm_Cl l g (fun _ => none) d mc ms (pm_Rq mc ms Q) bk_X11_wasPlace J → J 0 (pm_l0 4 as) [] A 0 0) : pm_Mt l g 236 d mc ms as A Q := pm_Mt_of (isI := false) 11 bk_X11_wasPlace me_X11_wasPlace (plainFor_of_name (by decide +kernel)) (by decide +kernel) (fun h => by cases h) ok_X11_wasPlace hca body
def bk_X11_changed : pm_B := [(0, [(.aload_n 0, 1, 0, 0, 0), (.iload_n 1, 1, 1, 0, 0), (.invokevirtual 197, 3, 227, 1, 11), (.ifCond .eq 12, 3, 17, 0, 0), (.iload_n 2, 1, 2, 0, 0), (.iconst 0, 1, 0, 0, 0), (.iconst 3, 1, 0, 0, 3), (.invokestatic 74, 3, 169, 3, 0), (.ifCond .ne 5, 3, 19, 0, 0)], 17),
  (17, [(.iconst (-1), 1, 0, 0, -1), (.ireturn, 1, 0, 0, 0)], 19),
  (19, [(.iconst 0, 1, 0, 0, 0), (.istore_n 3, 1, 3, 0, 0), (.iconst 0, 1, 0, 0, 0), (.istore 4, 2, 4, 0, 0)], 24),
  (24, [(.iload 4, 2, 4, 0, 0), (.aload_n 0, 1, 0, 0, 0), (.getfield 70, 3, 11, 7, 0), (.if_icmp .ge 110, 3, 140, 0, 0), (.aload_n 0, 1, 0, 0, 0), (.iload_n 1, 1, 1, 0, 0), (.aload_n 0, 1, 0, 0, 0), (.getfield 13, 3, 11, 1, 0), (.iload 4, 2, 4, 0, 0), (.iaload, 1, 0, 0, 0), (.invokevirtual 212, 3, 236, 2, 11), (.istore 5, 2, 5, 0, 0), (.iload 5, 2, 5, 0, 0), (.ifCond .ge 6, 3, 55, 0, 0), (.goto 82, 3, 134, 0, 0)], 55),
  (55, [(.iload_n 2, 1, 2, 0, 0), (.ifCond .eq 58, 3, 114, 0, 0), (.iload_n 2, 1, 2, 0, 0), (.iconst 1, 1, 0, 0, 1), (.if_icmp .ne 10, 3, 71, 0, 0), (.iload 4, 2, 4, 0, 0), (.iload 5, 2, 5, 0, 0), (.if_icmp .ne 46, 3, 114, 0, 0)], 71),
  (71, [(.iload_n 2, 1, 2, 0, 0), (.iconst 2, 1, 0, 0, 2), (.if_icmp .ne 20, 3, 93, 0, 0), (.aload_n 0, 1, 0, 0, 0), (.getfield 7, 3, 11, 0, 0), (.iload 4, 2, 4, 0, 0), (.iaload, 1, 0, 0, 0), (.aload_n 0, 1, 0, 0, 0), (.iload_n 1, 1, 1, 0, 0), (.iload 5, 2, 5, 0, 0), (.invokevirtual 191, 3, 228, 2, 11), (.if_icmp .ne 24, 3, 114, 0, 0)], 93),
  (93, [(.iload_n 2, 1, 2, 0, 0), (.iconst 3, 1, 0, 0, 3), (.if_icmp .ne 23, 3, 118, 0, 0), (.aload_n 0, 1, 0, 0, 0), (.iload 4, 2, 4, 0, 0), (.invokevirtual 85, 3, 173, 1, 11), (.aload_n 0, 1, 0, 0, 0), (.iload_n 1, 1, 1, 0, 0), (.iload 5, 2, 5, 0, 0), (.invokevirtual 200, 3, 230, 2, 11), (.if_icmp .eq 7, 3, 118, 0, 0)], 114),
  (114, [(.iconst 1, 1, 0, 0, 1), (.goto 4, 3, 119, 0, 0)], 118),
  (118, [(.iconst 0, 1, 0, 0, 0)], 119),
  (119, [(.istore 6, 2, 6, 0, 0), (.iload_n 3, 1, 3, 0, 0), (.iload 6, 2, 6, 0, 0), (.ifCond .eq 7, 3, 131, 0, 0), (.iconst 1, 1, 0, 0, 1), (.goto 4, 3, 132, 0, 0)], 131),
  (131, [(.iconst 0, 1, 0, 0, 0)], 132),
  (132, [(.iadd, 1, 0, 0, 0), (.istore_n 3, 1, 3, 0, 0)], 134),
  (134, [(.iinc 4 1, 3, 4, 0, 1), (.goto (-113), 3, 24, 0, 0)], 140),
  (140, [(.iload_n 3, 1, 3, 0, 0), (.ireturn, 1, 0, 0, 0)], 142)]
set_option maxRecDepth 100000 in
theorem ok_X11_changed : pm_oks 11 false 7 (some .int) cX11_changed bk_X11_changed = true := oksF_ok (by decide +kernel)
set_option maxRecDepth 100000 in
theorem me_X11_changed : pm_me 237 = (yX11_changed, cX11_changed, 7, (some .int), 2, 0) := rfl
theorem mt_X11_changed {l : Launch} {g : pm_G} {d mc ms : Nat} {as : List Value} {A : pm_H} {Q : Option Value → pm_H → Prop} (hca : pm_cat 7 as = true) (body : ∀ J : pm_J, pm_Cl l g (fun _ => none) d mc ms (pm_Rq mc ms Q) bk_X11_changed J → J 0 (pm_l0 7 as) [] A 0 0) : pm_Mt l g 237 d mc ms as A Q := pm_Mt_of (isI := false) 11 bk_X11_changed me_X11_changed (plainFor_of_name (by decide +kernel)) (by decide +kernel) (fun h => by cases h) ok_X11_changed hca body
def bk_X11_sides : pm_B := [(0, [(.aload_n 0, 1, 0, 0, 0), (.iload_n 1, 1, 1, 0, 0), (.iload_n 2, 1, 2, 0, 0), (.invokevirtual 129, 3, 180, 2, 11), (.ifCond .ne 5, 3, 11, 0, 0), (.iconst (-1), 1, 0, 0, -1), (.ireturn, 1, 0, 0, 0)], 11),
  (11, [(.iconst 0, 1, 0, 0, 0), (.istore_n 3, 1, 3, 0, 0), (.iload_n 1, 1, 1, 0, 0), (.iconst 1, 1, 0, 0, 1), (.iadd, 1, 0, 0, 0), (.istore 4, 2, 4, 0, 0)], 18),
  (18, [(.iload 4, 2, 4, 0, 0), (.iload_n 2, 1, 2, 0, 0), (.if_icmp .gt 41, 3, 62, 0, 0), (.aload_n 0, 1, 0, 0, 0), (.getfield 7, 3, 11, 0, 0), (.iload 4, 2, 4, 0, 0), (.iaload, 1, 0, 0, 0), (.aload_n 0, 1, 0, 0, 0), (.getfield 7, 3, 11, 0, 0), (.iload 4, 2, 4, 0, 0), (.iconst 1, 1, 0, 0, 1), (.isub, 1, 0, 0, 0), (.iaload, 1, 0, 0, 0), (.if_icmp .eq 16, 3, 56, 0, 0), (.aload_n 0, 1, 0, 0, 0), (.iload_n 1, 1, 1, 0, 0), (.iload 4, 2, 4, 0, 0), (.invokevirtual 215, 3, 239, 2, 11), (.ifCond .eq 6, 3, 56, 0, 0), (.iinc 3 1, 3, 3, 0, 1)], 56),
  (56, [(.iinc 4 1, 3, 4, 0, 1), (.goto (-41), 3, 18, 0, 0)], 62),
  (62, [(.iload_n 3, 1, 3, 0, 0), (.ireturn, 1, 0, 0, 0)], 64)]
set_option maxRecDepth 100000 in
theorem ok_X11_sides : pm_oks 11 false 5 (some .int) cX11_sides bk_X11_sides = true := oksF_ok (by decide +kernel)
set_option maxRecDepth 100000 in
theorem me_X11_sides : pm_me 238 = (yX11_sides, cX11_sides, 5, (some .int), 2, 0) := rfl
theorem mt_X11_sides {l : Launch} {g : pm_G} {d mc ms : Nat} {as : List Value} {A : pm_H} {Q : Option Value → pm_H → Prop} (hca : pm_cat 5 as = true) (body : ∀ J : pm_J, pm_Cl l g (fun _ => none) d mc ms (pm_Rq mc ms Q) bk_X11_sides J → J 0 (pm_l0 5 as) [] A 0 0) : pm_Mt l g 238 d mc ms as A Q := pm_Mt_of (isI := false) 11 bk_X11_sides me_X11_sides (plainFor_of_name (by decide +kernel)) (by decide +kernel) (fun h => by cases h) ok_X11_sides hca body
def bk_X11_isNewSide : pm_B := [(0, [(.iload_n 1, 1, 1, 0, 0), (.iconst 1, 1, 0, 0, 1), (.iadd, 1, 0, 0, 0), (.istore_n 3, 1, 3, 0, 0)], 4),
  (4, [(.iload_n 3, 1, 3, 0, 0), (.iload_n 2, 1, 2, 0, 0), (.if_icmp .ge 103, 3, 109, 0, 0), (.aload_n 0, 1, 0, 0, 0), (.getfield 7, 3, 11, 0, 0), (.iload_n 3, 1, 3, 0, 0), (.iaload, 1, 0, 0, 0), (.aload_n 0, 1, 0, 0, 0), (.getfield 7, 3, 11, 0, 0), (.iload_n 2, 1, 2, 0, 0), (.iaload, 1, 0, 0, 0), (.if_icmp .ne 26, 3, 47, 0, 0), (.aload_n 0, 1, 0, 0, 0), (.getfield 7, 3, 11, 0, 0), (.iload_n 3, 1, 3, 0, 0), (.iconst 1, 1, 0, 0, 1), (.isub, 1, 0, 0, 0), (.iaload, 1, 0, 0, 0), (.aload_n 0, 1, 0, 0, 0), (.getfield 7, 3, 11, 0, 0), (.iload_n 2, 1, 2, 0, 0), (.iconst 1, 1, 0, 0, 1), (.isub, 1, 0, 0, 0), (.iaload, 1, 0, 0, 0), (.if_icmp .ne 7, 3, 47, 0, 0), (.iconst 1, 1, 0, 0, 1), (.goto 4, 3, 48, 0, 0)], 47),
  (47, [(.iconst 0, 1, 0, 0, 0)], 48),
  (48, [(.istore 4, 2, 4, 0, 0), (.aload_n 0, 1, 0, 0, 0), (.getfield 7, 3, 11, 0, 0), (.iload_n 3, 1, 3, 0, 0), (.iaload, 1, 0, 0, 0), (.aload_n 0, 1, 0, 0, 0), (.getfield 7, 3, 11, 0, 0), (.iload_n 2, 1, 2, 0, 0), (.iconst 1, 1, 0, 0, 1), (.isub, 1, 0, 0, 0), (.iaload, 1, 0, 0, 0), (.if_icmp .ne 24, 3, 88, 0, 0), (.aload_n 0, 1, 0, 0, 0), (.getfield 7, 3, 11, 0, 0), (.iload_n 3, 1, 3, 0, 0), (.iconst 1, 1, 0, 0, 1), (.isub, 1, 0, 0, 0), (.iaload, 1, 0, 0, 0), (.aload_n 0, 1, 0, 0, 0), (.getfield 7, 3, 11, 0, 0), (.iload_n 2, 1, 2, 0, 0), (.iaload, 1, 0, 0, 0), (.if_icmp .ne 7, 3, 88, 0, 0), (.iconst 1, 1, 0, 0, 1), (.goto 4, 3, 89, 0, 0)], 88),
  (88, [(.iconst 0, 1, 0, 0, 0)], 89),
  (89, [(.istore 5, 2, 5, 0, 0), (.iload 4, 2, 4, 0, 0), (.ifCond .ne 8, 3, 101, 0, 0), (.iload 5, 2, 5, 0, 0), (.ifCond .eq 5, 3, 103, 0, 0)], 101),
  (101, [(.iconst 0, 1, 0, 0, 0), (.ireturn, 1, 1, 0, 0)], 103),
  (103, [(.iinc 3 1, 3, 3, 0, 1), (.goto (-102), 3, 4, 0, 0)], 109),
  (109, [(.iconst 1, 1, 0, 0, 1), (.ireturn, 1, 1, 0, 0)], 111)]
set_option maxRecDepth 100000 in
theorem ok_X11_isNewSide : pm_oks 11 false 6 (some .boolean) cX11_isNewSide bk_X11_isNewSide = true := oksF_ok (by decide +kernel)
set_option maxRecDepth 100000 in
theorem me_X11_isNewSide : pm_me 239 = (yX11_isNewSide, cX11_isNewSide, 6, (some .boolean), 2, 0) := rfl
theorem mt_X11_isNewSide {l : Launch} {g : pm_G} {d mc ms : Nat} {as : List Value} {A : pm_H} {Q : Option Value → pm_H → Prop} (hca : pm_cat 6 as = true) (body : ∀ J : pm_J, pm_Cl l g (fun _ => none) d mc ms (pm_Rq mc ms Q) bk_X11_isNewSide J → J 0 (pm_l0 6 as) [] A 0 0) : pm_Mt l g 239 d mc ms as A Q := pm_Mt_of (isI := false) 11 bk_X11_isNewSide me_X11_isNewSide (plainFor_of_name (by decide +kernel)) (by decide +kernel) (fun h => by cases h) ok_X11_isNewSide hca body
def bk_X11_cover : pm_B := [(0, [(.aload_n 0, 1, 0, 0, 0), (.iload_n 1, 1, 1, 0, 0), (.iload_n 2, 1, 2, 0, 0), (.invokevirtual 129, 3, 180, 2, 11), (.ifCond .ne 5, 3, 11, 0, 0), (.iconst (-1), 1, 0, 0, -1), (.ireturn, 1, 0, 0, 0)], 11),
  (11, [(.aload_n 0, 1, 0, 0, 0), (.iload_n 1, 1, 1, 0, 0), (.iload_n 2, 1, 2, 0, 0), (.invokevirtual 161, 3, 206, 2, 11), (.istore_n 3, 1, 3, 0, 0), (.iconst 1, 1, 0, 0, 1), (.istore 4, 2, 4, 0, 0)], 21),
  (21, [(.aload_n 0, 1, 0, 0, 0), (.iload_n 1, 1, 1, 0, 0), (.iload_n 2, 1, 2, 0, 0), (.iload 4, 2, 4, 0, 0), (.iload_n 3, 1, 3, 0, 0), (.invokevirtual 218, 3, 241, 4, 11), (.ifCond .ne 9, 3, 39, 0, 0), (.iinc 4 1, 3, 4, 0, 1), (.goto (-15), 3, 21, 0, 0)], 39),
  (39, [(.iload 4, 2, 4, 0, 0), (.ireturn, 1, 0, 0, 0)], 42)]
set_option maxRecDepth 100000 in
theorem ok_X11_cover : pm_oks 11 false 5 (some .int) cX11_cover bk_X11_cover = true := oksF_ok (by decide +kernel)
set_option maxRecDepth 100000 in
theorem me_X11_cover : pm_me 240 = (yX11_cover, cX11_cover, 5, (some .int), 2, 0) := rfl
theorem mt_X11_cover {l : Launch} {g : pm_G} {d mc ms : Nat} {as : List Value} {A : pm_H} {Q : Option Value → pm_H → Prop} (hca : pm_cat 5 as = true) (body : ∀ J : pm_J, pm_Cl l g (fun _ => none) d mc ms (pm_Rq mc ms Q) bk_X11_cover J → J 0 (pm_l0 5 as) [] A 0 0) : pm_Mt l g 240 d mc ms as A Q := pm_Mt_of (isI := false) 11 bk_X11_cover me_X11_cover (plainFor_of_name (by decide +kernel)) (by decide +kernel) (fun h => by cases h) ok_X11_cover hca body
def bk_X11_haveAll : pm_B := [(0, [(.iload_n 1, 1, 1, 0, 0), (.istore 5, 2, 5, 0, 0)], 3),
  (3, [(.iload 5, 2, 5, 0, 0), (.iload_n 3, 1, 3, 0, 0), (.iadd, 1, 0, 0, 0), (.iconst 1, 1, 0, 0, 1), (.isub, 1, 0, 0, 0), (.iload_n 2, 1, 2, 0, 0), (.if_icmp .gt 28, 3, 38, 0, 0), (.aload_n 0, 1, 0, 0, 0), (.iload 5, 2, 5, 0, 0), (.iload 5, 2, 5, 0, 0), (.iload_n 3, 1, 3, 0, 0), (.iadd, 1, 0, 0, 0), (.iconst 1, 1, 0, 0, 1), (.isub, 1, 0, 0, 0), (.invokevirtual 161, 3, 206, 2, 11), (.iload 4, 2, 4, 0, 0), (.if_icmp .eq 5, 3, 32, 0, 0), (.iconst 0, 1, 0, 0, 0), (.ireturn, 1, 1, 0, 0)], 32),
  (32, [(.iinc 5 1, 3, 5, 0, 1), (.goto (-32), 3, 3, 0, 0)], 38),
  (38, [(.iconst 1, 1, 0, 0, 1), (.ireturn, 1, 1, 0, 0)], 40)]
set_option maxRecDepth 100000 in
theorem ok_X11_haveAll : pm_oks 11 false 6 (some .boolean) cX11_haveAll bk_X11_haveAll = true := oksF_ok (by decide +kernel)
set_option maxRecDepth 100000 in
theorem me_X11_haveAll : pm_me 241 = (yX11_haveAll, cX11_haveAll, 6, (some .boolean), 4, 0) := rfl
theorem mt_X11_haveAll {l : Launch} {g : pm_G} {d mc ms : Nat} {as : List Value} {A : pm_H} {Q : Option Value → pm_H → Prop} (hca : pm_cat 6 as = true) (body : ∀ J : pm_J, pm_Cl l g (fun _ => none) d mc ms (pm_Rq mc ms Q) bk_X11_haveAll J → J 0 (pm_l0 6 as) [] A 0 0) : pm_Mt l g 241 d mc ms as A Q := pm_Mt_of (isI := false) 11 bk_X11_haveAll me_X11_haveAll (plainFor_of_name (by decide +kernel)) (by decide +kernel) (fun h => by cases h) ok_X11_haveAll hca body
def bk_X11_least : pm_B := [(0, [(.aload_n 0, 1, 0, 0, 0), (.iload_n 1, 1, 1, 0, 0), (.iload_n 2, 1, 2, 0, 0), (.invokevirtual 129, 3, 180, 2, 11), (.ifCond .eq 8, 3, 14, 0, 0), (.iload_n 3, 1, 3, 0, 0), (.iconst 1, 1, 0, 0, 1), (.if_icmp .ge 5, 3, 16, 0, 0)], 14),
  (14, [(.iconst (-1), 1, 0, 0, -1), (.ireturn, 1, 0, 0, 0)], 16),
  (16, [(.aload_n 0, 1, 0, 0, 0), (.iload_n 1, 1, 1, 0, 0), (.iload_n 2, 1, 2, 0, 0), (.iconst 4, 1, 0, 0, 4), (.invokevirtual 188, 3, 221, 3, 11), (.istore 4, 2, 4, 0, 0), (.iconst 0, 1, 0, 0, 0), (.istore 5, 2, 5, 0, 0), (.iload_n 3, 1, 3, 0, 0), (.istore 6, 2, 6, 0, 0)], 31),
  (31, [(.iload 6, 2, 6, 0, 0), (.iload 4, 2, 4, 0, 0), (.if_icmp .ge 27, 3, 62, 0, 0), (.iload 5, 2, 5, 0, 0), (.aload_n 0, 1, 0, 0, 0), (.iload_n 1, 1, 1, 0, 0), (.iload_n 2, 1, 2, 0, 0), (.aload_n 0, 1, 0, 0, 0), (.getfield 58, 3, 11, 23, 0), (.iload 6, 2, 6, 0, 0), (.iaload, 1, 0, 0, 0), (.invokevirtual 148, 3, 200, 3, 11), (.iadd, 1, 0, 0, 0), (.istore 5, 2, 5, 0, 0), (.iinc 6 1, 3, 6, 0, 1), (.goto (-28), 3, 31, 0, 0)], 62),
  (62, [(.iload 5, 2, 5, 0, 0), (.ireturn, 1, 0, 0, 0)], 65)]
set_option maxRecDepth 100000 in
theorem ok_X11_least : pm_oks 11 false 7 (some .int) cX11_least bk_X11_least = true := oksF_ok (by decide +kernel)
set_option maxRecDepth 100000 in
theorem me_X11_least : pm_me 242 = (yX11_least, cX11_least, 7, (some .int), 3, 0) := rfl
theorem mt_X11_least {l : Launch} {g : pm_G} {d mc ms : Nat} {as : List Value} {A : pm_H} {Q : Option Value → pm_H → Prop} (hca : pm_cat 7 as = true) (body : ∀ J : pm_J, pm_Cl l g (fun _ => none) d mc ms (pm_Rq mc ms Q) bk_X11_least J → J 0 (pm_l0 7 as) [] A 0 0) : pm_Mt l g 242 d mc ms as A Q := pm_Mt_of (isI := false) 11 bk_X11_least me_X11_least (plainFor_of_name (by decide +kernel)) (by decide +kernel) (fun h => by cases h) ok_X11_least hca body
def bk_X11_fair : pm_B := [(0, [(.aload_n 0, 1, 0, 0, 0), (.iload_n 1, 1, 1, 0, 0), (.iload_n 2, 1, 2, 0, 0), (.invokevirtual 129, 3, 180, 2, 11), (.ifCond .eq 8, 3, 14, 0, 0), (.iload_n 3, 1, 3, 0, 0), (.iconst 1, 1, 0, 0, 1), (.if_icmp .ge 5, 3, 16, 0, 0)], 14),
  (14, [(.iconst (-1), 1, 0, 0, -1), (.ireturn, 1, 0, 0, 0)], 16),
  (16, [(.iconst 0, 1, 0, 0, 0), (.istore 4, 2, 4, 0, 0), (.iconst 0, 1, 0, 0, 0), (.istore 5, 2, 5, 0, 0)], 22),
  (22, [(.iload 5, 2, 5, 0, 0), (.bipush 24, 2, 0, 0, 24), (.if_icmp .ge 44, 3, 70, 0, 0), (.iload 4, 2, 4, 0, 0), (.aload_n 0, 1, 0, 0, 0), (.iload_n 1, 1, 1, 0, 0), (.iload_n 2, 1, 2, 0, 0), (.iload 5, 2, 5, 0, 0), (.invokevirtual 148, 3, 200, 3, 11), (.i2l, 1, 0, 0, 0), (.iload_n 3, 1, 3, 0, 0), (.i2l, 1, 0, 0, 0), (.lmul, 1, 0, 0, 0), (.iload_n 2, 1, 2, 0, 0), (.iload_n 1, 1, 1, 0, 0), (.isub, 1, 0, 0, 0), (.iconst 1, 1, 0, 0, 1), (.iadd, 1, 0, 0, 0), (.i2l, 1, 0, 0, 0), (.lcmp, 1, 0, 0, 0), (.ifCond .le 10, 3, 60, 0, 0), (.iconst 1, 1, 0, 0, 1), (.iload 5, 2, 5, 0, 0), (.ishl, 1, 0, 0, 0), (.goto 4, 3, 61, 0, 0)], 60),
  (60, [(.iconst 0, 1, 0, 0, 0)], 61),
  (61, [(.ior, 1, 0, 0, 0), (.istore 4, 2, 4, 0, 0), (.iinc 5 1, 3, 5, 0, 1), (.goto (-45), 3, 22, 0, 0)], 70),
  (70, [(.iload 4, 2, 4, 0, 0), (.ireturn, 1, 0, 0, 0)], 73)]
set_option maxRecDepth 100000 in
theorem ok_X11_fair : pm_oks 11 false 6 (some .int) cX11_fair bk_X11_fair = true := oksF_ok (by decide +kernel)
set_option maxRecDepth 100000 in
theorem me_X11_fair : pm_me 243 = (yX11_fair, cX11_fair, 6, (some .int), 3, 0) := rfl
theorem mt_X11_fair {l : Launch} {g : pm_G} {d mc ms : Nat} {as : List Value} {A : pm_H} {Q : Option Value → pm_H → Prop} (hca : pm_cat 6 as = true) (body : ∀ J : pm_J, pm_Cl l g (fun _ => none) d mc ms (pm_Rq mc ms Q) bk_X11_fair J → J 0 (pm_l0 6 as) [] A 0 0) : pm_Mt l g 243 d mc ms as A Q := pm_Mt_of (isI := false) 11 bk_X11_fair me_X11_fair (plainFor_of_name (by decide +kernel)) (by decide +kernel) (fun h => by cases h) ok_X11_fair hca body
