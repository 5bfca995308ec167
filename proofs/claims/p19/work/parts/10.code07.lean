section
/-! blocks, by a program -/
noncomputable def bk_X11_laysOrder : pm_B := [(0, [(.iconst 0, 1, 0, 0, 0), (.istore 4, 2, 4, 0, 0), (.iconst 0, 1, 0, 0, 0), (.istore 5, 2, 5, 0, 0), (.iconst 0, 1, 0, 0, 0), (.istore 6, 2, 6, 0, 0)], 9),
  (9, [(.iload 6, 2, 6, 0, 0), (.iload_n 2, 1, 2, 0, 0), (.iload_n 1, 1, 1, 0, 0), (.isub, 1, 0, 0, 0), (.if_icmp .gt 71, 3, 85, 0, 0), (.iload_n 3, 1, 3, 0, 0), (.iconst 2, 1, 0, 0, 2), (.if_icmp .ge 66, 3, 85, 0, 0), (.aload_n 0, 1, 0, 0, 0), (.getfield 7, 3, 11, 0, 0), (.iload_n 3, 1, 3, 0, 0), (.ifCond .ne 10, 3, 37, 0, 0), (.iload_n 1, 1, 1, 0, 0), (.iload 6, 2, 6, 0, 0), (.iadd, 1, 0, 0, 0), (.goto 7, 3, 41, 0, 0)], 37),
  (37, [(.iload_n 2, 1, 2, 0, 0), (.iload 6, 2, 6, 0, 0), (.isub, 1, 0, 0, 0)], 41),
  (41, [(.iaload, 1, 0, 0, 0), (.istore 7, 2, 7, 0, 0), (.iload 5, 2, 5, 0, 0), (.iload 7, 2, 7, 0, 0), (.ishr, 1, 0, 0, 0), (.iconst 1, 1, 0, 0, 1), (.iand, 1, 0, 0, 0), (.iconst 1, 1, 0, 0, 1), (.if_icmp .ne 6, 3, 58, 0, 0), (.goto 24, 3, 79, 0, 0)], 58),
  (58, [(.iload 5, 2, 5, 0, 0), (.iconst 1, 1, 0, 0, 1), (.iload 7, 2, 7, 0, 0), (.ishl, 1, 0, 0, 0), (.ior, 1, 0, 0, 0), (.istore 5, 2, 5, 0, 0), (.aload_n 0, 1, 0, 0, 0), (.getfield 58, 3, 11, 23, 0), (.iload 4, 2, 4, 0, 0), (.iload 7, 2, 7, 0, 0), (.iastore, 1, 0, 0, 0), (.iinc 4 1, 3, 4, 0, 1)], 79),
  (79, [(.iinc 6 1, 3, 6, 0, 1), (.goto (-73), 3, 9, 0, 0)], 85),
  (85, [(.iload_n 3, 1, 3, 0, 0), (.iconst 2, 1, 0, 0, 2), (.if_icmp .ge 6, 3, 93, 0, 0), (.iload 4, 2, 4, 0, 0), (.ireturn, 1, 0, 0, 0)], 93),
  (93, [(.aload_n 0, 1, 0, 0, 0), (.iload_n 1, 1, 1, 0, 0), (.iload_n 2, 1, 2, 0, 0), (.invokevirtual 161, 3, 206, 2, 11), (.istore 6, 2, 6, 0, 0), (.iconst 0, 1, 0, 0, 0), (.istore 7, 2, 7, 0, 0)], 104),
  (104, [(.iload 7, 2, 7, 0, 0), (.bipush 24, 2, 0, 0, 24), (.if_icmp .ge 86, 3, 194, 0, 0), (.iload 6, 2, 6, 0, 0), (.iload 7, 2, 7, 0, 0), (.ishr, 1, 0, 0, 0), (.iconst 1, 1, 0, 0, 1), (.iand, 1, 0, 0, 0), (.ifCond .ne 6, 3, 124, 0, 0), (.goto 67, 3, 188, 0, 0)], 124),
  (124, [(.iload 4, 2, 4, 0, 0), (.istore 8, 2, 8, 0, 0)], 128),
  (128, [(.iload 8, 2, 8, 0, 0), (.ifCond .le 46, 3, 176, 0, 0), (.aload_n 0, 1, 0, 0, 0), (.iload 7, 2, 7, 0, 0), (.aload_n 0, 1, 0, 0, 0), (.getfield 58, 3, 11, 23, 0), (.iload 8, 2, 8, 0, 0), (.iconst 1, 1, 0, 0, 1), (.isub, 1, 0, 0, 0), (.iaload, 1, 0, 0, 0), (.iload_n 1, 1, 1, 0, 0), (.iload_n 2, 1, 2, 0, 0), (.iload_n 3, 1, 3, 0, 0), (.invokevirtual 184, 3, 222, 5, 11), (.ifCond .eq 25, 3, 176, 0, 0), (.aload_n 0, 1, 0, 0, 0), (.getfield 58, 3, 11, 23, 0), (.iload 8, 2, 8, 0, 0), (.aload_n 0, 1, 0, 0, 0), (.getfield 58, 3, 11, 23, 0), (.iload 8, 2, 8, 0, 0), (.iconst 1, 1, 0, 0, 1), (.isub, 1, 0, 0, 0), (.iaload, 1, 0, 0, 0), (.iastore, 1, 0, 0, 0), (.iinc 8 (-1), 3, 8, 0, -1), (.goto (-45), 3, 128, 0, 0)], 176),
  (176, [(.aload_n 0, 1, 0, 0, 0), (.getfield 58, 3, 11, 23, 0), (.iload 8, 2, 8, 0, 0), (.iload 7, 2, 7, 0, 0), (.iastore, 1, 0, 0, 0), (.iinc 4 1, 3, 4, 0, 1)], 188),
  (188, [(.iinc 7 1, 3, 7, 0, 1), (.goto (-87), 3, 104, 0, 0)], 194),
  (194, [(.iload 4, 2, 4, 0, 0), (.ireturn, 1, 0, 0, 0)], 197)]
set_option maxRecDepth 100000 in
theorem ok_X11_laysOrder : pm_oks 11 false 9 (some .int) cX11_laysOrder bk_X11_laysOrder = true := oksG_ok (by decide +kernel)
set_option maxRecDepth 100000 in
theorem me_X11_laysOrder : pm_me 221 = (yX11_laysOrder, cX11_laysOrder, 9, (some .int), 3, 0) := pm_mq_ok rfl
theorem mt_X11_laysOrder {l : Launch} {g : pm_G} {d mc ms : Nat} {as : List Value} {A : pm_H} {Q : Option Value → pm_H → Prop} (hca : pm_cat 9 as = true) (body : ∀ J : pm_J, pm_Cl l g (fun _ => none) d mc ms (pm_Rq mc ms Q) bk_X11_laysOrder J → J 0 (pm_l0 9 as) [] A 0 0) : pm_Mt l g 221 d mc ms as A Q := pm_Mt_of (isI := false) 11 bk_X11_laysOrder me_X11_laysOrder (plainFor_of_name plX11) rfl (fun h => by cases h) ok_X11_laysOrder hca body
noncomputable def bk_X11_isAhead : pm_B := [(0, [(.iload 5, 2, 5, 0, 0), (.iconst 3, 1, 0, 0, 3), (.if_icmp .ne 12, 3, 15, 0, 0), (.aload_n 0, 1, 0, 0, 0), (.getfield 16, 3, 11, 2, 0), (.iload_n 1, 1, 1, 0, 0), (.iaload, 1, 0, 0, 0), (.goto 21, 3, 33, 0, 0)], 15),
  (15, [(.iload 5, 2, 5, 0, 0), (.iconst 4, 1, 0, 0, 4), (.if_icmp .ne 14, 3, 32, 0, 0), (.aload_n 0, 1, 0, 0, 0), (.iload_n 3, 1, 3, 0, 0), (.iload 4, 2, 4, 0, 0), (.iload_n 1, 1, 1, 0, 0), (.invokevirtual 148, 3, 200, 3, 11), (.goto 4, 3, 33, 0, 0)], 32),
  (32, [(.iconst 0, 1, 0, 0, 0)], 33),
  (33, [(.istore 6, 2, 6, 0, 0), (.iload 5, 2, 5, 0, 0), (.iconst 3, 1, 0, 0, 3), (.if_icmp .ne 12, 3, 50, 0, 0), (.aload_n 0, 1, 0, 0, 0), (.getfield 16, 3, 11, 2, 0), (.iload_n 2, 1, 2, 0, 0), (.iaload, 1, 0, 0, 0), (.goto 21, 3, 68, 0, 0)], 50),
  (50, [(.iload 5, 2, 5, 0, 0), (.iconst 4, 1, 0, 0, 4), (.if_icmp .ne 14, 3, 67, 0, 0), (.aload_n 0, 1, 0, 0, 0), (.iload_n 3, 1, 3, 0, 0), (.iload 4, 2, 4, 0, 0), (.iload_n 2, 1, 2, 0, 0), (.invokevirtual 148, 3, 200, 3, 11), (.goto 4, 3, 68, 0, 0)], 67),
  (67, [(.iconst 0, 1, 0, 0, 0)], 68),
  (68, [(.istore 7, 2, 7, 0, 0), (.iload 6, 2, 6, 0, 0), (.iload 7, 2, 7, 0, 0), (.if_icmp .eq 18, 3, 92, 0, 0), (.iload 6, 2, 6, 0, 0), (.iload 7, 2, 7, 0, 0), (.if_icmp .le 7, 3, 88, 0, 0), (.iconst 1, 1, 0, 0, 1), (.goto 17, 3, 102, 0, 0)], 88),
  (88, [(.iconst 0, 1, 0, 0, 0), (.goto 13, 3, 102, 0, 0)], 92),
  (92, [(.iload_n 1, 1, 1, 0, 0), (.iload_n 2, 1, 2, 0, 0), (.if_icmp .ge 7, 3, 101, 0, 0), (.iconst 1, 1, 0, 0, 1), (.goto 4, 3, 102, 0, 0)], 101),
  (101, [(.iconst 0, 1, 0, 0, 0)], 102),
  (102, [(.ireturn, 1, 1, 0, 0)], 103)]
set_option maxRecDepth 100000 in
theorem ok_X11_isAhead : pm_oks 11 false 8 (some .boolean) cX11_isAhead bk_X11_isAhead = true := oksG_ok (by decide +kernel)
set_option maxRecDepth 100000 in
theorem me_X11_isAhead : pm_me 222 = (yX11_isAhead, cX11_isAhead, 8, (some .boolean), 5, 0) := pm_mq_ok rfl
theorem mt_X11_isAhead {l : Launch} {g : pm_G} {d mc ms : Nat} {as : List Value} {A : pm_H} {Q : Option Value → pm_H → Prop} (hca : pm_cat 8 as = true) (body : ∀ J : pm_J, pm_Cl l g (fun _ => none) d mc ms (pm_Rq mc ms Q) bk_X11_isAhead J → J 0 (pm_l0 8 as) [] A 0 0) : pm_Mt l g 222 d mc ms as A Q := pm_Mt_of (isI := false) 11 bk_X11_isAhead me_X11_isAhead (plainFor_of_name plX11) rfl (fun h => by cases h) ok_X11_isAhead hca body
noncomputable def bk_X11_absent : pm_B := [(0, [(.aload_n 0, 1, 0, 0, 0), (.iload_n 1, 1, 1, 0, 0), (.iload_n 2, 1, 2, 0, 0), (.invokevirtual 129, 3, 180, 2, 11), (.ifCond .eq 7, 3, 13, 0, 0), (.iload_n 3, 1, 3, 0, 0), (.ifCond .ge 5, 3, 15, 0, 0)], 13),
  (13, [(.iconst (-1), 1, 0, 0, -1), (.ireturn, 1, 0, 0, 0)], 15),
  (15, [(.aload_n 0, 1, 0, 0, 0), (.iload_n 1, 1, 1, 0, 0), (.iload_n 2, 1, 2, 0, 0), (.invokevirtual 161, 3, 206, 2, 11), (.istore 4, 2, 4, 0, 0), (.iload_n 3, 1, 3, 0, 0), (.istore 5, 2, 5, 0, 0), (.iconst 0, 1, 0, 0, 0), (.istore 6, 2, 6, 0, 0)], 29),
  (29, [(.iload 6, 2, 6, 0, 0), (.bipush 24, 2, 0, 0, 24), (.if_icmp .ge 34, 3, 67, 0, 0), (.iload 4, 2, 4, 0, 0), (.iload 6, 2, 6, 0, 0), (.ishr, 1, 0, 0, 0), (.iconst 1, 1, 0, 0, 1), (.iand, 1, 0, 0, 0), (.iconst 1, 1, 0, 0, 1), (.if_icmp .ne 6, 3, 50, 0, 0), (.goto 14, 3, 61, 0, 0)], 50),
  (50, [(.iload 5, 2, 5, 0, 0), (.ifCond .ne 6, 3, 58, 0, 0), (.iload 6, 2, 6, 0, 0), (.ireturn, 1, 0, 0, 0)], 58),
  (58, [(.iinc 5 (-1), 3, 5, 0, -1)], 61),
  (61, [(.iinc 6 1, 3, 6, 0, 1), (.goto (-35), 3, 29, 0, 0)], 67),
  (67, [(.iconst (-1), 1, 0, 0, -1), (.ireturn, 1, 0, 0, 0)], 69)]
set_option maxRecDepth 100000 in
theorem ok_X11_absent : pm_oks 11 false 7 (some .int) cX11_absent bk_X11_absent = true := oksG_ok (by decide +kernel)
set_option maxRecDepth 100000 in
theorem me_X11_absent : pm_me 223 = (yX11_absent, cX11_absent, 7, (some .int), 3, 0) := pm_mq_ok rfl
theorem mt_X11_absent {l : Launch} {g : pm_G} {d mc ms : Nat} {as : List Value} {A : pm_H} {Q : Option Value → pm_H → Prop} (hca : pm_cat 7 as = true) (body : ∀ J : pm_J, pm_Cl l g (fun _ => none) d mc ms (pm_Rq mc ms Q) bk_X11_absent J → J 0 (pm_l0 7 as) [] A 0 0) : pm_Mt l g 223 d mc ms as A Q := pm_Mt_of (isI := false) 11 bk_X11_absent me_X11_absent (plainFor_of_name plX11) rfl (fun h => by cases h) ok_X11_absent hca body
noncomputable def bk_X11_both : pm_B := [(0, [(.aload_n 0, 1, 0, 0, 0), (.iload_n 1, 1, 1, 0, 0), (.iload_n 2, 1, 2, 0, 0), (.invokevirtual 129, 3, 180, 2, 11), (.ifCond .eq 13, 3, 19, 0, 0), (.aload_n 0, 1, 0, 0, 0), (.iload_n 3, 1, 3, 0, 0), (.iload 4, 2, 4, 0, 0), (.invokevirtual 129, 3, 180, 2, 11), (.ifCond .ne 5, 3, 21, 0, 0)], 19),
  (19, [(.iconst (-1), 1, 0, 0, -1), (.ireturn, 1, 0, 0, 0)], 21),
  (21, [(.aload_n 0, 1, 0, 0, 0), (.iload_n 1, 1, 1, 0, 0), (.iload_n 2, 1, 2, 0, 0), (.invokevirtual 161, 3, 206, 2, 11), (.istore 6, 2, 6, 0, 0), (.aload_n 0, 1, 0, 0, 0), (.iload_n 3, 1, 3, 0, 0), (.iload 4, 2, 4, 0, 0), (.invokevirtual 161, 3, 206, 2, 11), (.istore 7, 2, 7, 0, 0), (.iload 5, 2, 5, 0, 0), (.ifCond .ne 14, 3, 54, 0, 0), (.iload 6, 2, 6, 0, 0), (.iload 7, 2, 7, 0, 0), (.iand, 1, 0, 0, 0), (.invokestatic 165, 3, 207, 1, 0), (.goto 40, 3, 91, 0, 0)], 54),
  (54, [(.iload 5, 2, 5, 0, 0), (.iconst 1, 1, 0, 0, 1), (.if_icmp .ne 16, 3, 73, 0, 0), (.iload 6, 2, 6, 0, 0), (.iload 7, 2, 7, 0, 0), (.iconst (-1), 1, 0, 0, -1), (.ixor, 1, 0, 0, 0), (.iand, 1, 0, 0, 0), (.invokestatic 165, 3, 207, 1, 0), (.goto 21, 3, 91, 0, 0)], 73),
  (73, [(.iload 5, 2, 5, 0, 0), (.iconst 2, 1, 0, 0, 2), (.if_icmp .ne 14, 3, 90, 0, 0), (.iload 6, 2, 6, 0, 0), (.iload 7, 2, 7, 0, 0), (.ior, 1, 0, 0, 0), (.invokestatic 165, 3, 207, 1, 0), (.goto 4, 3, 91, 0, 0)], 90),
  (90, [(.iconst (-1), 1, 0, 0, -1)], 91),
  (91, [(.ireturn, 1, 0, 0, 0)], 92)]
set_option maxRecDepth 100000 in
theorem ok_X11_both : pm_oks 11 false 8 (some .int) cX11_both bk_X11_both = true := oksG_ok (by decide +kernel)
set_option maxRecDepth 100000 in
theorem me_X11_both : pm_me 224 = (yX11_both, cX11_both, 8, (some .int), 5, 0) := pm_mq_ok rfl
theorem mt_X11_both {l : Launch} {g : pm_G} {d mc ms : Nat} {as : List Value} {A : pm_H} {Q : Option Value → pm_H → Prop} (hca : pm_cat 8 as = true) (body : ∀ J : pm_J, pm_Cl l g (fun _ => none) d mc ms (pm_Rq mc ms Q) bk_X11_both J → J 0 (pm_l0 8 as) [] A 0 0) : pm_Mt l g 224 d mc ms as A Q := pm_Mt_of (isI := false) 11 bk_X11_both me_X11_both (plainFor_of_name plX11) rfl (fun h => by cases h) ok_X11_both hca body
noncomputable def bk_X11_close : pm_B := [(0, [(.aload_n 0, 1, 0, 0, 0), (.iload_n 1, 1, 1, 0, 0), (.iload_n 2, 1, 2, 0, 0), (.invokevirtual 129, 3, 180, 2, 11), (.ifCond .eq 12, 3, 18, 0, 0), (.iload_n 3, 1, 3, 0, 0), (.iconst 0, 1, 0, 0, 0), (.iconst 1, 1, 0, 0, 1), (.invokestatic 74, 3, 169, 3, 0), (.ifCond .ne 5, 3, 20, 0, 0)], 18),
  (18, [(.iconst (-1), 1, 0, 0, -1), (.ireturn, 1, 0, 0, 0)], 20),
  (20, [(.iconst (-1), 1, 0, 0, -1), (.istore 4, 2, 4, 0, 0), (.iload_n 1, 1, 1, 0, 0), (.istore 5, 2, 5, 0, 0)], 26),
  (26, [(.iload 5, 2, 5, 0, 0), (.iload_n 2, 1, 2, 0, 0), (.if_icmp .gt 49, 3, 78, 0, 0), (.aload_n 0, 1, 0, 0, 0), (.iload 5, 2, 5, 0, 0), (.invokevirtual 78, 3, 174, 1, 11), (.iload_n 1, 1, 1, 0, 0), (.if_icmp .lt 33, 3, 72, 0, 0), (.iload 4, 2, 4, 0, 0), (.ifCond .lt 24, 3, 68, 0, 0), (.iload 5, 2, 5, 0, 0), (.aload_n 0, 1, 0, 0, 0), (.iload 5, 2, 5, 0, 0), (.invokevirtual 78, 3, 174, 1, 11), (.isub, 1, 0, 0, 0), (.iload 4, 2, 4, 0, 0), (.aload_n 0, 1, 0, 0, 0), (.iload 4, 2, 4, 0, 0), (.invokevirtual 78, 3, 174, 1, 11), (.isub, 1, 0, 0, 0), (.if_icmp .ge 7, 3, 72, 0, 0)], 68),
  (68, [(.iload 5, 2, 5, 0, 0), (.istore 4, 2, 4, 0, 0)], 72),
  (72, [(.iinc 5 1, 3, 5, 0, 1), (.goto (-49), 3, 26, 0, 0)], 78),
  (78, [(.iload 4, 2, 4, 0, 0), (.ifCond .ge 7, 3, 87, 0, 0), (.iconst (-1), 1, 0, 0, -1), (.goto 25, 3, 109, 0, 0)], 87),
  (87, [(.iload_n 3, 1, 3, 0, 0), (.ifCond .ne 15, 3, 103, 0, 0), (.iload 4, 2, 4, 0, 0), (.aload_n 0, 1, 0, 0, 0), (.iload 4, 2, 4, 0, 0), (.invokevirtual 78, 3, 174, 1, 11), (.isub, 1, 0, 0, 0), (.goto 9, 3, 109, 0, 0)], 103),
  (103, [(.aload_n 0, 1, 0, 0, 0), (.iload 4, 2, 4, 0, 0), (.invokevirtual 78, 3, 174, 1, 11)], 109),
  (109, [(.ireturn, 1, 0, 0, 0)], 110)]
set_option maxRecDepth 100000 in
theorem ok_X11_close : pm_oks 11 false 6 (some .int) cX11_close bk_X11_close = true := oksG_ok (by decide +kernel)
set_option maxRecDepth 100000 in
theorem me_X11_close : pm_me 225 = (yX11_close, cX11_close, 6, (some .int), 3, 0) := pm_mq_ok rfl
theorem mt_X11_close {l : Launch} {g : pm_G} {d mc ms : Nat} {as : List Value} {A : pm_H} {Q : Option Value → pm_H → Prop} (hca : pm_cat 6 as = true) (body : ∀ J : pm_J, pm_Cl l g (fun _ => none) d mc ms (pm_Rq mc ms Q) bk_X11_close J → J 0 (pm_l0 6 as) [] A 0 0) : pm_Mt l g 225 d mc ms as A Q := pm_Mt_of (isI := false) 11 bk_X11_close me_X11_close (plainFor_of_name plX11) rfl (fun h => by cases h) ok_X11_close hca body
noncomputable def bk_X11_was : pm_B := [(0, [(.aload_n 0, 1, 0, 0, 0), (.iload_n 1, 1, 1, 0, 0), (.invokevirtual 197, 3, 227, 1, 11), (.ifCond .ne 5, 3, 10, 0, 0), (.iconst (-1), 1, 0, 0, -1), (.ireturn, 1, 0, 0, 0)], 10),
  (10, [(.aload_n 0, 1, 0, 0, 0), (.getfield 52, 3, 11, 21, 0), (.iload_n 1, 1, 1, 0, 0), (.bipush 40, 2, 0, 0, 40), (.irem, 1, 0, 0, 0), (.iaload, 1, 0, 0, 0), (.istore 4, 2, 4, 0, 0), (.iload_n 2, 1, 2, 0, 0), (.iconst (-1), 1, 0, 0, -1), (.if_icmp .ne 6, 3, 29, 0, 0), (.iload 4, 2, 4, 0, 0), (.ireturn, 1, 0, 0, 0)], 29),
  (29, [(.iload_n 2, 1, 2, 0, 0), (.iconst 0, 1, 0, 0, 0), (.iload 4, 2, 4, 0, 0), (.iconst 1, 1, 0, 0, 1), (.isub, 1, 0, 0, 0), (.invokestatic 74, 3, 169, 3, 0), (.ifCond .ne 5, 3, 43, 0, 0), (.iconst (-1), 1, 0, 0, -1), (.ireturn, 1, 0, 0, 0)], 43),
  (43, [(.iload_n 3, 1, 3, 0, 0), (.ifCond .ne 12, 3, 56, 0, 0), (.aload_n 0, 1, 0, 0, 0), (.iload_n 1, 1, 1, 0, 0), (.iload_n 2, 1, 2, 0, 0), (.invokevirtual 191, 3, 228, 2, 11), (.goto 32, 3, 85, 0, 0)], 56),
  (56, [(.iload_n 3, 1, 3, 0, 0), (.iconst 1, 1, 0, 0, 1), (.if_icmp .ne 12, 3, 70, 0, 0), (.aload_n 0, 1, 0, 0, 0), (.iload_n 1, 1, 1, 0, 0), (.iload_n 2, 1, 2, 0, 0), (.invokevirtual 194, 3, 229, 2, 11), (.goto 18, 3, 85, 0, 0)], 70),
  (70, [(.iload_n 3, 1, 3, 0, 0), (.iconst 2, 1, 0, 0, 2), (.if_icmp .ne 12, 3, 84, 0, 0), (.aload_n 0, 1, 0, 0, 0), (.iload_n 1, 1, 1, 0, 0), (.iload_n 2, 1, 2, 0, 0), (.invokevirtual 200, 3, 230, 2, 11), (.goto 4, 3, 85, 0, 0)], 84),
  (84, [(.iconst (-1), 1, 0, 0, -1)], 85),
  (85, [(.ireturn, 1, 0, 0, 0)], 86)]
set_option maxRecDepth 100000 in
theorem ok_X11_was : pm_oks 11 false 5 (some .int) cX11_was bk_X11_was = true := oksG_ok (by decide +kernel)
set_option maxRecDepth 100000 in
theorem me_X11_was : pm_me 226 = (yX11_was, cX11_was, 5, (some .int), 3, 0) := pm_mq_ok rfl
theorem mt_X11_was {l : Launch} {g : pm_G} {d mc ms : Nat} {as : List Value} {A : pm_H} {Q : Option Value → pm_H → Prop} (hca : pm_cat 5 as = true) (body : ∀ J : pm_J, pm_Cl l g (fun _ => none) d mc ms (pm_Rq mc ms Q) bk_X11_was J → J 0 (pm_l0 5 as) [] A 0 0) : pm_Mt l g 226 d mc ms as A Q := pm_Mt_of (isI := false) 11 bk_X11_was me_X11_was (plainFor_of_name plX11) rfl (fun h => by cases h) ok_X11_was hca body
noncomputable def bk_X11_isKnown : pm_B := [(0, [(.iload_n 1, 1, 1, 0, 0), (.ifCond .lt 26, 3, 27, 0, 0), (.iload_n 1, 1, 1, 0, 0), (.aload_n 0, 1, 0, 0, 0), (.getfield 102, 3, 11, 11, 0), (.if_icmp .gt 18, 3, 27, 0, 0), (.iload_n 1, 1, 1, 0, 0), (.aload_n 0, 1, 0, 0, 0), (.getfield 102, 3, 11, 11, 0), (.bipush 40, 2, 0, 0, 40), (.isub, 1, 0, 0, 0), (.if_icmp .le 7, 3, 27, 0, 0), (.iconst 1, 1, 0, 0, 1), (.goto 4, 3, 28, 0, 0)], 27),
  (27, [(.iconst 0, 1, 0, 0, 0)], 28),
  (28, [(.ireturn, 1, 1, 0, 0)], 29)]
set_option maxRecDepth 100000 in
theorem ok_X11_isKnown : pm_oks 11 false 2 (some .boolean) cX11_isKnown bk_X11_isKnown = true := oksG_ok (by decide +kernel)
set_option maxRecDepth 100000 in
theorem me_X11_isKnown : pm_me 227 = (yX11_isKnown, cX11_isKnown, 2, (some .boolean), 1, 0) := pm_mq_ok rfl
theorem mt_X11_isKnown {l : Launch} {g : pm_G} {d mc ms : Nat} {as : List Value} {A : pm_H} {Q : Option Value → pm_H → Prop} (hca : pm_cat 2 as = true) (body : ∀ J : pm_J, pm_Cl l g (fun _ => none) d mc ms (pm_Rq mc ms Q) bk_X11_isKnown J → J 0 (pm_l0 2 as) [] A 0 0) : pm_Mt l g 227 d mc ms as A Q := pm_Mt_of (isI := false) 11 bk_X11_isKnown me_X11_isKnown (plainFor_of_name plX11) rfl (fun h => by cases h) ok_X11_isKnown hca body
noncomputable def bk_X11_wasColour : pm_B := [(0, [(.aload_n 0, 1, 0, 0, 0), (.getfield 46, 3, 11, 19, 0), (.sipush 160, 3, 0, 0, 160), (.iload_n 1, 1, 1, 0, 0), (.bipush 40, 2, 0, 0, 40), (.irem, 1, 0, 0, 0), (.imul, 1, 0, 0, 0), (.iload_n 2, 1, 2, 0, 0), (.iadd, 1, 0, 0, 0), (.iaload, 1, 0, 0, 0), (.ireturn, 1, 0, 0, 0)], 16)]
set_option maxRecDepth 100000 in
theorem ok_X11_wasColour : pm_oks 11 false 3 (some .int) cX11_wasColour bk_X11_wasColour = true := oksG_ok (by decide +kernel)
set_option maxRecDepth 100000 in
theorem me_X11_wasColour : pm_me 228 = (yX11_wasColour, cX11_wasColour, 3, (some .int), 2, 0) := pm_mq_ok rfl
theorem mt_X11_wasColour {l : Launch} {g : pm_G} {d mc ms : Nat} {as : List Value} {A : pm_H} {Q : Option Value → pm_H → Prop} (hca : pm_cat 3 as = true) (body : ∀ J : pm_J, pm_Cl l g (fun _ => none) d mc ms (pm_Rq mc ms Q) bk_X11_wasColour J → J 0 (pm_l0 3 as) [] A 0 0) : pm_Mt l g 228 d mc ms as A Q := pm_Mt_of (isI := false) 11 bk_X11_wasColour me_X11_wasColour (plainFor_of_name plX11) rfl (fun h => by cases h) ok_X11_wasColour hca body
noncomputable def bk_X11_wasName : pm_B := [(0, [(.aload_n 0, 1, 0, 0, 0), (.getfield 49, 3, 11, 20, 0), (.sipush 160, 3, 0, 0, 160), (.iload_n 1, 1, 1, 0, 0), (.bipush 40, 2, 0, 0, 40), (.irem, 1, 0, 0, 0), (.imul, 1, 0, 0, 0), (.iload_n 2, 1, 2, 0, 0), (.iadd, 1, 0, 0, 0), (.iaload, 1, 0, 0, 0), (.ireturn, 1, 0, 0, 0)], 16)]
set_option maxRecDepth 100000 in
theorem ok_X11_wasName : pm_oks 11 false 3 (some .int) cX11_wasName bk_X11_wasName = true := oksG_ok (by decide +kernel)
set_option maxRecDepth 100000 in
theorem me_X11_wasName : pm_me 229 = (yX11_wasName, cX11_wasName, 3, (some .int), 2, 0) := pm_mq_ok rfl
theorem mt_X11_wasName {l : Launch} {g : pm_G} {d mc ms : Nat} {as : List Value} {A : pm_H} {Q : Option Value → pm_H → Prop} (hca : pm_cat 3 as = true) (body : ∀ J : pm_J, pm_Cl l g (fun _ => none) d mc ms (pm_Rq mc ms Q) bk_X11_wasName J → J 0 (pm_l0 3 as) [] A 0 0) : pm_Mt l g 229 d mc ms as A Q := pm_Mt_of (isI := false) 11 bk_X11_wasName me_X11_wasName (plainFor_of_name plX11) rfl (fun h => by cases h) ok_X11_wasName hca body
noncomputable def bk_X11_wasBond : pm_B := [(0, [(.iload_n 2, 1, 2, 0, 0), (.iconst 1, 1, 0, 0, 1), (.isub, 1, 0, 0, 0), (.istore_n 3, 1, 3, 0, 0)], 4),
  (4, [(.iload_n 3, 1, 3, 0, 0), (.ifCond .lt 31, 3, 36, 0, 0), (.aload_n 0, 1, 0, 0, 0), (.iload_n 1, 1, 1, 0, 0), (.iload_n 3, 1, 3, 0, 0), (.invokevirtual 191, 3, 228, 2, 11), (.aload_n 0, 1, 0, 0, 0), (.iload_n 1, 1, 1, 0, 0), (.iload_n 2, 1, 2, 0, 0), (.invokevirtual 191, 3, 228, 2, 11), (.if_icmp .ne 10, 3, 30, 0, 0), (.aload_n 0, 1, 0, 0, 0), (.iload_n 1, 1, 1, 0, 0), (.iload_n 3, 1, 3, 0, 0), (.invokevirtual 194, 3, 229, 2, 11), (.ireturn, 1, 0, 0, 0)], 30),
  (30, [(.iinc 3 (-1), 3, 3, 0, -1), (.goto (-29), 3, 4, 0, 0)], 36),
  (36, [(.iconst (-1), 1, 0, 0, -1), (.ireturn, 1, 0, 0, 0)], 38)]
set_option maxRecDepth 100000 in
theorem ok_X11_wasBond : pm_oks 11 false 4 (some .int) cX11_wasBond bk_X11_wasBond = true := oksG_ok (by decide +kernel)
set_option maxRecDepth 100000 in
theorem me_X11_wasBond : pm_me 230 = (yX11_wasBond, cX11_wasBond, 4, (some .int), 2, 0) := pm_mq_ok rfl
theorem mt_X11_wasBond {l : Launch} {g : pm_G} {d mc ms : Nat} {as : List Value} {A : pm_H} {Q : Option Value → pm_H → Prop} (hca : pm_cat 4 as = true) (body : ∀ J : pm_J, pm_Cl l g (fun _ => none) d mc ms (pm_Rq mc ms Q) bk_X11_wasBond J → J 0 (pm_l0 4 as) [] A 0 0) : pm_Mt l g 230 d mc ms as A Q := pm_Mt_of (isI := false) 11 bk_X11_wasBond me_X11_wasBond (plainFor_of_name plX11) rfl (fun h => by cases h) ok_X11_wasBond hca body
noncomputable def bk_X11_counted : pm_B := [(0, [(.aload_n 0, 1, 0, 0, 0), (.iload_n 1, 1, 1, 0, 0), (.invokevirtual 197, 3, 227, 1, 11), (.ifCond .eq 38, 3, 43, 0, 0), (.iload_n 2, 1, 2, 0, 0), (.ifCond .lt 34, 3, 43, 0, 0), (.iload_n 2, 1, 2, 0, 0), (.iload_n 3, 1, 3, 0, 0), (.if_icmp .gt 29, 3, 43, 0, 0), (.iload_n 3, 1, 3, 0, 0), (.aload_n 0, 1, 0, 0, 0), (.getfield 52, 3, 11, 21, 0), (.iload_n 1, 1, 1, 0, 0), (.bipush 40, 2, 0, 0, 40), (.irem, 1, 0, 0, 0), (.iaload, 1, 0, 0, 0), (.if_icmp .ge 16, 3, 43, 0, 0), (.aload_n 0, 1, 0, 0, 0), (.iload_n 1, 1, 1, 0, 0), (.iload_n 2, 1, 2, 0, 0), (.iload_n 3, 1, 3, 0, 0), (.invokevirtual 203, 3, 232, 3, 11), (.invokestatic 165, 3, 207, 1, 0), (.goto 4, 3, 44, 0, 0)], 43),
  (43, [(.iconst (-1), 1, 0, 0, -1)], 44),
  (44, [(.ireturn, 1, 0, 0, 0)], 45)]
set_option maxRecDepth 100000 in
theorem ok_X11_counted : pm_oks 11 false 4 (some .int) cX11_counted bk_X11_counted = true := oksG_ok (by decide +kernel)
set_option maxRecDepth 100000 in
theorem me_X11_counted : pm_me 231 = (yX11_counted, cX11_counted, 4, (some .int), 3, 0) := pm_mq_ok rfl
theorem mt_X11_counted {l : Launch} {g : pm_G} {d mc ms : Nat} {as : List Value} {A : pm_H} {Q : Option Value → pm_H → Prop} (hca : pm_cat 4 as = true) (body : ∀ J : pm_J, pm_Cl l g (fun _ => none) d mc ms (pm_Rq mc ms Q) bk_X11_counted J → J 0 (pm_l0 4 as) [] A 0 0) : pm_Mt l g 231 d mc ms as A Q := pm_Mt_of (isI := false) 11 bk_X11_counted me_X11_counted (plainFor_of_name plX11) rfl (fun h => by cases h) ok_X11_counted hca body
noncomputable def bk_X11_wasSet : pm_B := [(0, [(.iconst 0, 1, 0, 0, 0), (.istore 4, 2, 4, 0, 0), (.iload_n 2, 1, 2, 0, 0), (.istore 5, 2, 5, 0, 0)], 6),
  (6, [(.iload 5, 2, 5, 0, 0), (.iload_n 3, 1, 3, 0, 0), (.if_icmp .gt 23, 3, 32, 0, 0), (.iload 4, 2, 4, 0, 0), (.iconst 1, 1, 0, 0, 1), (.aload_n 0, 1, 0, 0, 0), (.iload_n 1, 1, 1, 0, 0), (.iload 5, 2, 5, 0, 0), (.invokevirtual 191, 3, 228, 2, 11), (.ishl, 1, 0, 0, 0), (.ior, 1, 0, 0, 0), (.istore 4, 2, 4, 0, 0), (.iinc 5 1, 3, 5, 0, 1), (.goto (-23), 3, 6, 0, 0)], 32),
  (32, [(.iload 4, 2, 4, 0, 0), (.ireturn, 1, 0, 0, 0)], 35)]
set_option maxRecDepth 100000 in
theorem ok_X11_wasSet : pm_oks 11 false 6 (some .int) cX11_wasSet bk_X11_wasSet = true := oksG_ok (by decide +kernel)
set_option maxRecDepth 100000 in
theorem me_X11_wasSet : pm_me 232 = (yX11_wasSet, cX11_wasSet, 6, (some .int), 3, 0) := pm_mq_ok rfl
theorem mt_X11_wasSet {l : Launch} {g : pm_G} {d mc ms : Nat} {as : List Value} {A : pm_H} {Q : Option Value → pm_H → Prop} (hca : pm_cat 6 as = true) (body : ∀ J : pm_J, pm_Cl l g (fun _ => none) d mc ms (pm_Rq mc ms Q) bk_X11_wasSet J → J 0 (pm_l0 6 as) [] A 0 0) : pm_Mt l g 232 d mc ms as A Q := pm_Mt_of (isI := false) 11 bk_X11_wasSet me_X11_wasSet (plainFor_of_name plX11) rfl (fun h => by cases h) ok_X11_wasSet hca body
noncomputable def bk_X11_touched : pm_B := [(0, [(.iload_n 1, 1, 1, 0, 0), (.ifCond .le 23, 3, 24, 0, 0), (.aload_n 0, 1, 0, 0, 0), (.iload_n 1, 1, 1, 0, 0), (.invokevirtual 197, 3, 227, 1, 11), (.ifCond .eq 15, 3, 24, 0, 0), (.aload_n 0, 1, 0, 0, 0), (.getfield 55, 3, 11, 22, 0), (.iload_n 1, 1, 1, 0, 0), (.bipush 40, 2, 0, 0, 40), (.irem, 1, 0, 0, 0), (.iaload, 1, 0, 0, 0), (.goto 4, 3, 25, 0, 0)], 24),
  (24, [(.iconst (-1), 1, 0, 0, -1)], 25),
  (25, [(.ireturn, 1, 0, 0, 0)], 26)]
set_option maxRecDepth 100000 in
theorem ok_X11_touched : pm_oks 11 false 2 (some .int) cX11_touched bk_X11_touched = true := oksG_ok (by decide +kernel)
set_option maxRecDepth 100000 in
theorem me_X11_touched : pm_me 233 = (yX11_touched, cX11_touched, 2, (some .int), 1, 0) := pm_mq_ok rfl
theorem mt_X11_touched {l : Launch} {g : pm_G} {d mc ms : Nat} {as : List Value} {A : pm_H} {Q : Option Value → pm_H → Prop} (hca : pm_cat 2 as = true) (body : ∀ J : pm_J, pm_Cl l g (fun _ => none) d mc ms (pm_Rq mc ms Q) bk_X11_touched J → J 0 (pm_l0 2 as) [] A 0 0) : pm_Mt l g 233 d mc ms as A Q := pm_Mt_of (isI := false) 11 bk_X11_touched me_X11_touched (plainFor_of_name plX11) rfl (fun h => by cases h) ok_X11_touched hca body
noncomputable def bk_X11_since : pm_B := [(0, [(.aload_n 0, 1, 0, 0, 0), (.iload_n 1, 1, 1, 0, 0), (.invokevirtual 206, 3, 197, 1, 11), (.istore_n 2, 1, 2, 0, 0), (.iload_n 2, 1, 2, 0, 0), (.ifCond .ge 5, 3, 12, 0, 0), (.iconst (-1), 1, 0, 0, -1), (.ireturn, 1, 0, 0, 0)], 12),
  (12, [(.aload_n 0, 1, 0, 0, 0), (.iload_n 2, 1, 2, 0, 0), (.invokevirtual 85, 3, 173, 1, 11), (.istore_n 3, 1, 3, 0, 0), (.aload_n 0, 1, 0, 0, 0), (.getfield 102, 3, 11, 11, 0), (.istore 4, 2, 4, 0, 0)], 24),
  (24, [(.aload_n 0, 1, 0, 0, 0), (.iload 4, 2, 4, 0, 0), (.iconst 1, 1, 0, 0, 1), (.isub, 1, 0, 0, 0), (.invokevirtual 197, 3, 227, 1, 11), (.ifCond .eq 22, 3, 54, 0, 0), (.aload_n 0, 1, 0, 0, 0), (.iload 4, 2, 4, 0, 0), (.iconst 1, 1, 0, 0, 1), (.isub, 1, 0, 0, 0), (.iload_n 1, 1, 1, 0, 0), (.iload_n 3, 1, 3, 0, 0), (.invokevirtual 209, 3, 235, 3, 11), (.ifCond .eq 9, 3, 54, 0, 0), (.iinc 4 (-1), 3, 4, 0, -1), (.goto (-27), 3, 24, 0, 0)], 54),
  (54, [(.iload 4, 2, 4, 0, 0), (.ireturn, 1, 0, 0, 0)], 57)]
set_option maxRecDepth 100000 in
theorem ok_X11_since : pm_oks 11 false 5 (some .int) cX11_since bk_X11_since = true := oksG_ok (by decide +kernel)
set_option maxRecDepth 100000 in
theorem me_X11_since : pm_me 234 = (yX11_since, cX11_since, 5, (some .int), 1, 0) := pm_mq_ok rfl
theorem mt_X11_since {l : Launch} {g : pm_G} {d mc ms : Nat} {as : List Value} {A : pm_H} {Q : Option Value → pm_H → Prop} (hca : pm_cat 5 as = true) (body : ∀ J : pm_J, pm_Cl l g (fun _ => none) d mc ms (pm_Rq mc ms Q) bk_X11_since J → J 0 (pm_l0 5 as) [] A 0 0) : pm_Mt l g 234 d mc ms as A Q := pm_Mt_of (isI := false) 11 bk_X11_since me_X11_since (plainFor_of_name plX11) rfl (fun h => by cases h) ok_X11_since hca body
noncomputable def bk_X11_hadBond : pm_B := [(0, [(.aload_n 0, 1, 0, 0, 0), (.iload_n 1, 1, 1, 0, 0), (.iload_n 2, 1, 2, 0, 0), (.invokevirtual 212, 3, 236, 2, 11), (.istore 4, 2, 4, 0, 0), (.iload 4, 2, 4, 0, 0), (.ifCond .lt 18, 3, 28, 0, 0), (.aload_n 0, 1, 0, 0, 0), (.iload_n 1, 1, 1, 0, 0), (.iload 4, 2, 4, 0, 0), (.invokevirtual 200, 3, 230, 2, 11), (.iload_n 3, 1, 3, 0, 0), (.if_icmp .ne 7, 3, 28, 0, 0), (.iconst 1, 1, 0, 0, 1), (.goto 4, 3, 29, 0, 0)], 28),
  (28, [(.iconst 0, 1, 0, 0, 0)], 29),
  (29, [(.ireturn, 1, 1, 0, 0)], 30)]
set_option maxRecDepth 100000 in
theorem ok_X11_hadBond : pm_oks 11 false 5 (some .boolean) cX11_hadBond bk_X11_hadBond = true := oksG_ok (by decide +kernel)
set_option maxRecDepth 100000 in
theorem me_X11_hadBond : pm_me 235 = (yX11_hadBond, cX11_hadBond, 5, (some .boolean), 3, 0) := pm_mq_ok rfl
theorem mt_X11_hadBond {l : Launch} {g : pm_G} {d mc ms : Nat} {as : List Value} {A : pm_H} {Q : Option Value → pm_H → Prop} (hca : pm_cat 5 as = true) (body : ∀ J : pm_J, pm_Cl l g (fun _ => none) d mc ms (pm_Rq mc ms Q) bk_X11_hadBond J → J 0 (pm_l0 5 as) [] A 0 0) : pm_Mt l g 235 d mc ms as A Q := pm_Mt_of (isI := false) 11 bk_X11_hadBond me_X11_hadBond (plainFor_of_name plX11) rfl (fun h => by cases h) ok_X11_hadBond hca body
noncomputable def bk_X11_wasPlace : pm_B := [(0, [(.iconst 0, 1, 0, 0, 0), (.istore_n 3, 1, 3, 0, 0)], 2),
  (2, [(.iload_n 3, 1, 3, 0, 0), (.aload_n 0, 1, 0, 0, 0), (.getfield 52, 3, 11, 21, 0), (.iload_n 1, 1, 1, 0, 0), (.bipush 40, 2, 0, 0, 40), (.irem, 1, 0, 0, 0), (.iaload, 1, 0, 0, 0), (.if_icmp .ge 21, 3, 33, 0, 0), (.aload_n 0, 1, 0, 0, 0), (.iload_n 1, 1, 1, 0, 0), (.iload_n 3, 1, 3, 0, 0), (.invokevirtual 194, 3, 229, 2, 11), (.iload_n 2, 1, 2, 0, 0), (.if_icmp .ne 5, 3, 27, 0, 0), (.iload_n 3, 1, 3, 0, 0), (.ireturn, 1, 0, 0, 0)], 27),
  (27, [(.iinc 3 1, 3, 3, 0, 1), (.goto (-28), 3, 2, 0, 0)], 33),
  (33, [(.iconst (-1), 1, 0, 0, -1), (.ireturn, 1, 0, 0, 0)], 35)]
set_option maxRecDepth 100000 in
theorem ok_X11_wasPlace : pm_oks 11 false 4 (some .int) cX11_wasPlace bk_X11_wasPlace = true := oksG_ok (by decide +kernel)
set_option maxRecDepth 100000 in
theorem me_X11_wasPlace : pm_me 236 = (yX11_wasPlace, cX11_wasPlace, 4, (some .int), 2, 0) := pm_mq_ok rfl
theorem mt_X11_wasPlace {l : Launch} {g : pm_G} {d mc ms : Nat} {as : List Value} {A : pm_H} {Q : Option Value → pm_H → Prop} (hca : pm_cat 4 as = true) (body : ∀ J : pm_J, pm_Cl l g (fun _ => none) d mc ms (pm_Rq mc ms Q) bk_X11_wasPlace J → J 0 (pm_l0 4 as) [] A 0 0) : pm_Mt l g 236 d mc ms as A Q := pm_Mt_of (isI := false) 11 bk_X11_wasPlace me_X11_wasPlace (plainFor_of_name plX11) rfl (fun h => by cases h) ok_X11_wasPlace hca body
noncomputable def bk_X11_changed : pm_B := [(0, [(.aload_n 0, 1, 0, 0, 0), (.iload_n 1, 1, 1, 0, 0), (.invokevirtual 197, 3, 227, 1, 11), (.ifCond .eq 12, 3, 17, 0, 0), (.iload_n 2, 1, 2, 0, 0), (.iconst 0, 1, 0, 0, 0), (.iconst 3, 1, 0, 0, 3), (.invokestatic 74, 3, 169, 3, 0), (.ifCond .ne 5, 3, 19, 0, 0)], 17),
  (17, [(.iconst (-1), 1, 0, 0, -1), (.ireturn, 1, 0, 0, 0)], 19),
  (19, [(.iconst 0, 1, 0, 0, 0), (.istore_n 3, 1, 3, 0, 0), (.iconst 0, 1, 0, 0, 0), (.istore 4, 2, 4, 0, 0)], 24),
  (24, [(.iload 4, 2, 4, 0, 0), (.aload_n 0, 1, 0, 0, 0), (.getfield 70, 3, 11, 7, 0), (.if_icmp .ge 110, 3, 140, 0, 0), (.aload_n 0, 1, 0, 0, 0), (.iload_n 1, 1, 1, 0, 0), (.aload_n 0, 1, 0, 0, 0), (.getfield 13, 3, 11, 1, 0), (.iload 4, 2, 4, 0, 0), (.iaload, 1, 0, 0, 0), (.invokevirtual 212, 3, 236, 2, 11), (.istore 5, 2, 5, 0, 0), (.iload 5, 2, 5, 0, 0), (.ifCond .ge 6, 3, 55, 0, 0), (.goto 82, 3, 134, 0, 0)], 55),
  (55, [(.iload_n 2, 1, 2, 0, 0), (.ifCond .eq 58, 3, 114, 0, 0), (.iload_n 2, 1, 2, 0, 0), (.iconst 1, 1, 0, 0, 1), (.if_icmp .ne 10, 3, 71, 0, 0), (.iload 4, 2, 4, 0, 0), (.iload 5, 2, 5, 0, 0), (.if_icmp .ne 46, 3, 114, 0, 0)], 71),
  (71, [(.iload_n 2, 1, 2, 0, 0), (.iconst 2, 1, 0, 0, 2), (.if_icmp .ne 20, 3, 93, 0, 0), (.aload_n 0, 1, 0, 0, 0), (.getfield 7, 3, 11, 0, 0), (.iload 4, 2, 4, 0, 0), (.iaload, 1, 0, 0, 0), (.aload_n 0, 1, 0, 0, 0), (.iload_n 1, 1, 1, 0, 0), (.iload 5, 2, 5, 0, 0), (.invokevirtual 191, 3, 228, 2, 11), (.if_icmp .ne 24, 3, 114, 0, 0)], 93),
  (93, [(.iload_n 2, 1, 2, 0, 0), (.iconst 3, 1, 0, 0, 3), (.if_icmp .ne 23, 3, 118, 0, 0), (.aload_n 0, 1, 0, 0, 0), (.iload 4, 2, 4, 0, 0), (.invokevirtual 85, 3, 173, 1, 11), (.aload_n 0, 1, 0, 0, 0), (.iload_n 1, 1, 1, 0, 0), (.iload 5, 2, 5, 0, 0), (.invokevirtual 200, 3, 230, 2, 11), (.if_icmp .eq 7, 3, 118, 0, 0)], 114),
  (114, [(.iconst 1, 1, 0, 0, 1), (.goto 4, 3, 119, 0, 0)], 118),
  (118, [(.iconst 0, 1, 0, 0, 0)], 119),
  (119, [(.istore 6, 2, 6, 0, 0), (.iload_n 3, 1, 3, 0, 0), (.iload 6, 2, 6, 0, 0), (.ifCond .eq 7, 3, 131, 0, 0), (.iconst 1, 1, 0, 0, 1), (.goto 4, 3, 132, 0, 0)], 131),
  (131, [(.iconst 0, 1, 0, 0, 0)], 132),
  (132, [(.iadd, 1, 0, 0, 0), (.istore_n 3, 1, 3, 0, 0)], 134),
  (134, [(.iinc 4 1, 3, 4, 0, 1), (.goto (-113), 3, 24, 0, 0)], 140),
  (140, [(.iload_n 3, 1, 3, 0, 0), (.ireturn, 1, 0, 0, 0)], 142)]
set_option maxRecDepth 100000 in
theorem ok_X11_changed : pm_oks 11 false 7 (some .int) cX11_changed bk_X11_changed = true := oksG_ok (by decide +kernel)
set_option maxRecDepth 100000 in
theorem me_X11_changed : pm_me 237 = (yX11_changed, cX11_changed, 7, (some .int), 2, 0) := pm_mq_ok rfl
theorem mt_X11_changed {l : Launch} {g : pm_G} {d mc ms : Nat} {as : List Value} {A : pm_H} {Q : Option Value → pm_H → Prop} (hca : pm_cat 7 as = true) (body : ∀ J : pm_J, pm_Cl l g (fun _ => none) d mc ms (pm_Rq mc ms Q) bk_X11_changed J → J 0 (pm_l0 7 as) [] A 0 0) : pm_Mt l g 237 d mc ms as A Q := pm_Mt_of (isI := false) 11 bk_X11_changed me_X11_changed (plainFor_of_name plX11) rfl (fun h => by cases h) ok_X11_changed hca body
noncomputable def bk_X11_sides : pm_B := [(0, [(.aload_n 0, 1, 0, 0, 0), (.iload_n 1, 1, 1, 0, 0), (.iload_n 2, 1, 2, 0, 0), (.invokevirtual 129, 3, 180, 2, 11), (.ifCond .ne 5, 3, 11, 0, 0), (.iconst (-1), 1, 0, 0, -1), (.ireturn, 1, 0, 0, 0)], 11),
  (11, [(.iconst 0, 1, 0, 0, 0), (.istore_n 3, 1, 3, 0, 0), (.iload_n 1, 1, 1, 0, 0), (.iconst 1, 1, 0, 0, 1), (.iadd, 1, 0, 0, 0), (.istore 4, 2, 4, 0, 0)], 18),
  (18, [(.iload 4, 2, 4, 0, 0), (.iload_n 2, 1, 2, 0, 0), (.if_icmp .gt 41, 3, 62, 0, 0), (.aload_n 0, 1, 0, 0, 0), (.getfield 7, 3, 11, 0, 0), (.iload 4, 2, 4, 0, 0), (.iaload, 1, 0, 0, 0), (.aload_n 0, 1, 0, 0, 0), (.getfield 7, 3, 11, 0, 0), (.iload 4, 2, 4, 0, 0), (.iconst 1, 1, 0, 0, 1), (.isub, 1, 0, 0, 0), (.iaload, 1, 0, 0, 0), (.if_icmp .eq 16, 3, 56, 0, 0), (.aload_n 0, 1, 0, 0, 0), (.iload_n 1, 1, 1, 0, 0), (.iload 4, 2, 4, 0, 0), (.invokevirtual 215, 3, 239, 2, 11), (.ifCond .eq 6, 3, 56, 0, 0), (.iinc 3 1, 3, 3, 0, 1)], 56),
  (56, [(.iinc 4 1, 3, 4, 0, 1), (.goto (-41), 3, 18, 0, 0)], 62),
  (62, [(.iload_n 3, 1, 3, 0, 0), (.ireturn, 1, 0, 0, 0)], 64)]
set_option maxRecDepth 100000 in
theorem ok_X11_sides : pm_oks 11 false 5 (some .int) cX11_sides bk_X11_sides = true := oksG_ok (by decide +kernel)
set_option maxRecDepth 100000 in
theorem me_X11_sides : pm_me 238 = (yX11_sides, cX11_sides, 5, (some .int), 2, 0) := pm_mq_ok rfl
theorem mt_X11_sides {l : Launch} {g : pm_G} {d mc ms : Nat} {as : List Value} {A : pm_H} {Q : Option Value → pm_H → Prop} (hca : pm_cat 5 as = true) (body : ∀ J : pm_J, pm_Cl l g (fun _ => none) d mc ms (pm_Rq mc ms Q) bk_X11_sides J → J 0 (pm_l0 5 as) [] A 0 0) : pm_Mt l g 238 d mc ms as A Q := pm_Mt_of (isI := false) 11 bk_X11_sides me_X11_sides (plainFor_of_name plX11) rfl (fun h => by cases h) ok_X11_sides hca body
noncomputable def bk_X11_isNewSide : pm_B := [(0, [(.iload_n 1, 1, 1, 0, 0), (.iconst 1, 1, 0, 0, 1), (.iadd, 1, 0, 0, 0), (.istore_n 3, 1, 3, 0, 0)], 4),
  (4, [(.iload_n 3, 1, 3, 0, 0), (.iload_n 2, 1, 2, 0, 0), (.if_icmp .ge 103, 3, 109, 0, 0), (.aload_n 0, 1, 0, 0, 0), (.getfield 7, 3, 11, 0, 0), (.iload_n 3, 1, 3, 0, 0), (.iaload, 1, 0, 0, 0), (.aload_n 0, 1, 0, 0, 0), (.getfield 7, 3, 11, 0, 0), (.iload_n 2, 1, 2, 0, 0), (.iaload, 1, 0, 0, 0), (.if_icmp .ne 26, 3, 47, 0, 0), (.aload_n 0, 1, 0, 0, 0), (.getfield 7, 3, 11, 0, 0), (.iload_n 3, 1, 3, 0, 0), (.iconst 1, 1, 0, 0, 1), (.isub, 1, 0, 0, 0), (.iaload, 1, 0, 0, 0), (.aload_n 0, 1, 0, 0, 0), (.getfield 7, 3, 11, 0, 0), (.iload_n 2, 1, 2, 0, 0), (.iconst 1, 1, 0, 0, 1), (.isub, 1, 0, 0, 0), (.iaload, 1, 0, 0, 0), (.if_icmp .ne 7, 3, 47, 0, 0), (.iconst 1, 1, 0, 0, 1), (.goto 4, 3, 48, 0, 0)], 47),
  (47, [(.iconst 0, 1, 0, 0, 0)], 48),
  (48, [(.istore 4, 2, 4, 0, 0), (.aload_n 0, 1, 0, 0, 0), (.getfield 7, 3, 11, 0, 0), (.iload_n 3, 1, 3, 0, 0), (.iaload, 1, 0, 0, 0), (.aload_n 0, 1, 0, 0, 0), (.getfield 7, 3, 11, 0, 0), (.iload_n 2, 1, 2, 0, 0), (.iconst 1, 1, 0, 0, 1), (.isub, 1, 0, 0, 0), (.iaload, 1, 0, 0, 0), (.if_icmp .ne 24, 3, 88, 0, 0), (.aload_n 0, 1, 0, 0, 0), (.getfield 7, 3, 11, 0, 0), (.iload_n 3, 1, 3, 0, 0), (.iconst 1, 1, 0, 0, 1), (.isub, 1, 0, 0, 0), (.iaload, 1, 0, 0, 0), (.aload_n 0, 1, 0, 0, 0), (.getfield 7, 3, 11, 0, 0), (.iload_n 2, 1, 2, 0, 0), (.iaload, 1, 0, 0, 0), (.if_icmp .ne 7, 3, 88, 0, 0), (.iconst 1, 1, 0, 0, 1), (.goto 4, 3, 89, 0, 0)], 88),
  (88, [(.iconst 0, 1, 0, 0, 0)], 89),
  (89, [(.istore 5, 2, 5, 0, 0), (.iload 4, 2, 4, 0, 0), (.ifCond .ne 8, 3, 101, 0, 0), (.iload 5, 2, 5, 0, 0), (.ifCond .eq 5, 3, 103, 0, 0)], 101),
  (101, [(.iconst 0, 1, 0, 0, 0), (.ireturn, 1, 1, 0, 0)], 103),
  (103, [(.iinc 3 1, 3, 3, 0, 1), (.goto (-102), 3, 4, 0, 0)], 109),
  (109, [(.iconst 1, 1, 0, 0, 1), (.ireturn, 1, 1, 0, 0)], 111)]
set_option maxRecDepth 100000 in
theorem ok_X11_isNewSide : pm_oks 11 false 6 (some .boolean) cX11_isNewSide bk_X11_isNewSide = true := oksG_ok (by decide +kernel)
set_option maxRecDepth 100000 in
theorem me_X11_isNewSide : pm_me 239 = (yX11_isNewSide, cX11_isNewSide, 6, (some .boolean), 2, 0) := pm_mq_ok rfl
theorem mt_X11_isNewSide {l : Launch} {g : pm_G} {d mc ms : Nat} {as : List Value} {A : pm_H} {Q : Option Value → pm_H → Prop} (hca : pm_cat 6 as = true) (body : ∀ J : pm_J, pm_Cl l g (fun _ => none) d mc ms (pm_Rq mc ms Q) bk_X11_isNewSide J → J 0 (pm_l0 6 as) [] A 0 0) : pm_Mt l g 239 d mc ms as A Q := pm_Mt_of (isI := false) 11 bk_X11_isNewSide me_X11_isNewSide (plainFor_of_name plX11) rfl (fun h => by cases h) ok_X11_isNewSide hca body
noncomputable def bk_X11_cover : pm_B := [(0, [(.aload_n 0, 1, 0, 0, 0), (.iload_n 1, 1, 1, 0, 0), (.iload_n 2, 1, 2, 0, 0), (.invokevirtual 129, 3, 180, 2, 11), (.ifCond .ne 5, 3, 11, 0, 0), (.iconst (-1), 1, 0, 0, -1), (.ireturn, 1, 0, 0, 0)], 11),
  (11, [(.aload_n 0, 1, 0, 0, 0), (.iload_n 1, 1, 1, 0, 0), (.iload_n 2, 1, 2, 0, 0), (.invokevirtual 161, 3, 206, 2, 11), (.istore_n 3, 1, 3, 0, 0), (.iconst 1, 1, 0, 0, 1), (.istore 4, 2, 4, 0, 0)], 21),
  (21, [(.aload_n 0, 1, 0, 0, 0), (.iload_n 1, 1, 1, 0, 0), (.iload_n 2, 1, 2, 0, 0), (.iload 4, 2, 4, 0, 0), (.iload_n 3, 1, 3, 0, 0), (.invokevirtual 218, 3, 241, 4, 11), (.ifCond .ne 9, 3, 39, 0, 0), (.iinc 4 1, 3, 4, 0, 1), (.goto (-15), 3, 21, 0, 0)], 39),
  (39, [(.iload 4, 2, 4, 0, 0), (.ireturn, 1, 0, 0, 0)], 42)]
set_option maxRecDepth 100000 in
theorem ok_X11_cover : pm_oks 11 false 5 (some .int) cX11_cover bk_X11_cover = true := oksG_ok (by decide +kernel)
set_option maxRecDepth 100000 in
theorem me_X11_cover : pm_me 240 = (yX11_cover, cX11_cover, 5, (some .int), 2, 0) := pm_mq_ok rfl
theorem mt_X11_cover {l : Launch} {g : pm_G} {d mc ms : Nat} {as : List Value} {A : pm_H} {Q : Option Value → pm_H → Prop} (hca : pm_cat 5 as = true) (body : ∀ J : pm_J, pm_Cl l g (fun _ => none) d mc ms (pm_Rq mc ms Q) bk_X11_cover J → J 0 (pm_l0 5 as) [] A 0 0) : pm_Mt l g 240 d mc ms as A Q := pm_Mt_of (isI := false) 11 bk_X11_cover me_X11_cover (plainFor_of_name plX11) rfl (fun h => by cases h) ok_X11_cover hca body
noncomputable def bk_X11_haveAll : pm_B := [(0, [(.iload_n 1, 1, 1, 0, 0), (.istore 5, 2, 5, 0, 0)], 3),
  (3, [(.iload 5, 2, 5, 0, 0), (.iload_n 3, 1, 3, 0, 0), (.iadd, 1, 0, 0, 0), (.iconst 1, 1, 0, 0, 1), (.isub, 1, 0, 0, 0), (.iload_n 2, 1, 2, 0, 0), (.if_icmp .gt 28, 3, 38, 0, 0), (.aload_n 0, 1, 0, 0, 0), (.iload 5, 2, 5, 0, 0), (.iload 5, 2, 5, 0, 0), (.iload_n 3, 1, 3, 0, 0), (.iadd, 1, 0, 0, 0), (.iconst 1, 1, 0, 0, 1), (.isub, 1, 0, 0, 0), (.invokevirtual 161, 3, 206, 2, 11), (.iload 4, 2, 4, 0, 0), (.if_icmp .eq 5, 3, 32, 0, 0), (.iconst 0, 1, 0, 0, 0), (.ireturn, 1, 1, 0, 0)], 32),
  (32, [(.iinc 5 1, 3, 5, 0, 1), (.goto (-32), 3, 3, 0, 0)], 38),
  (38, [(.iconst 1, 1, 0, 0, 1), (.ireturn, 1, 1, 0, 0)], 40)]
set_option maxRecDepth 100000 in
theorem ok_X11_haveAll : pm_oks 11 false 6 (some .boolean) cX11_haveAll bk_X11_haveAll = true := oksG_ok (by decide +kernel)
set_option maxRecDepth 100000 in
theorem me_X11_haveAll : pm_me 241 = (yX11_haveAll, cX11_haveAll, 6, (some .boolean), 4, 0) := pm_mq_ok rfl
theorem mt_X11_haveAll {l : Launch} {g : pm_G} {d mc ms : Nat} {as : List Value} {A : pm_H} {Q : Option Value → pm_H → Prop} (hca : pm_cat 6 as = true) (body : ∀ J : pm_J, pm_Cl l g (fun _ => none) d mc ms (pm_Rq mc ms Q) bk_X11_haveAll J → J 0 (pm_l0 6 as) [] A 0 0) : pm_Mt l g 241 d mc ms as A Q := pm_Mt_of (isI := false) 11 bk_X11_haveAll me_X11_haveAll (plainFor_of_name plX11) rfl (fun h => by cases h) ok_X11_haveAll hca body
noncomputable def bk_X11_least : pm_B := [(0, [(.aload_n 0, 1, 0, 0, 0), (.iload_n 1, 1, 1, 0, 0), (.iload_n 2, 1, 2, 0, 0), (.invokevirtual 129, 3, 180, 2, 11), (.ifCond .eq 8, 3, 14, 0, 0), (.iload_n 3, 1, 3, 0, 0), (.iconst 1, 1, 0, 0, 1), (.if_icmp .ge 5, 3, 16, 0, 0)], 14),
  (14, [(.iconst (-1), 1, 0, 0, -1), (.ireturn, 1, 0, 0, 0)], 16),
  (16, [(.aload_n 0, 1, 0, 0, 0), (.iload_n 1, 1, 1, 0, 0), (.iload_n 2, 1, 2, 0, 0), (.iconst 4, 1, 0, 0, 4), (.invokevirtual 188, 3, 221, 3, 11), (.istore 4, 2, 4, 0, 0), (.iconst 0, 1, 0, 0, 0), (.istore 5, 2, 5, 0, 0), (.iload_n 3, 1, 3, 0, 0), (.istore 6, 2, 6, 0, 0)], 31),
  (31, [(.iload 6, 2, 6, 0, 0), (.iload 4, 2, 4, 0, 0), (.if_icmp .ge 27, 3, 62, 0, 0), (.iload 5, 2, 5, 0, 0), (.aload_n 0, 1, 0, 0, 0), (.iload_n 1, 1, 1, 0, 0), (.iload_n 2, 1, 2, 0, 0), (.aload_n 0, 1, 0, 0, 0), (.getfield 58, 3, 11, 23, 0), (.iload 6, 2, 6, 0, 0), (.iaload, 1, 0, 0, 0), (.invokevirtual 148, 3, 200, 3, 11), (.iadd, 1, 0, 0, 0), (.istore 5, 2, 5, 0, 0), (.iinc 6 1, 3, 6, 0, 1), (.goto (-28), 3, 31, 0, 0)], 62),
  (62, [(.iload 5, 2, 5, 0, 0), (.ireturn, 1, 0, 0, 0)], 65)]
set_option maxRecDepth 100000 in
theorem ok_X11_least : pm_oks 11 false 7 (some .int) cX11_least bk_X11_least = true := oksG_ok (by decide +kernel)
set_option maxRecDepth 100000 in
theorem me_X11_least : pm_me 242 = (yX11_least, cX11_least, 7, (some .int), 3, 0) := pm_mq_ok rfl
theorem mt_X11_least {l : Launch} {g : pm_G} {d mc ms : Nat} {as : List Value} {A : pm_H} {Q : Option Value → pm_H → Prop} (hca : pm_cat 7 as = true) (body : ∀ J : pm_J, pm_Cl l g (fun _ => none) d mc ms (pm_Rq mc ms Q) bk_X11_least J → J 0 (pm_l0 7 as) [] A 0 0) : pm_Mt l g 242 d mc ms as A Q := pm_Mt_of (isI := false) 11 bk_X11_least me_X11_least (plainFor_of_name plX11) rfl (fun h => by cases h) ok_X11_least hca body
noncomputable def bk_X11_fair : pm_B := [(0, [(.aload_n 0, 1, 0, 0, 0), (.iload_n 1, 1, 1, 0, 0), (.iload_n 2, 1, 2, 0, 0), (.invokevirtual 129, 3, 180, 2, 11), (.ifCond .eq 8, 3, 14, 0, 0), (.iload_n 3, 1, 3, 0, 0), (.iconst 1, 1, 0, 0, 1), (.if_icmp .ge 5, 3, 16, 0, 0)], 14),
  (14, [(.iconst (-1), 1, 0, 0, -1), (.ireturn, 1, 0, 0, 0)], 16),
  (16, [(.iconst 0, 1, 0, 0, 0), (.istore 4, 2, 4, 0, 0), (.iconst 0, 1, 0, 0, 0), (.istore 5, 2, 5, 0, 0)], 22),
  (22, [(.iload 5, 2, 5, 0, 0), (.bipush 24, 2, 0, 0, 24), (.if_icmp .ge 44, 3, 70, 0, 0), (.iload 4, 2, 4, 0, 0), (.aload_n 0, 1, 0, 0, 0), (.iload_n 1, 1, 1, 0, 0), (.iload_n 2, 1, 2, 0, 0), (.iload 5, 2, 5, 0, 0), (.invokevirtual 148, 3, 200, 3, 11), (.i2l, 1, 0, 0, 0), (.iload_n 3, 1, 3, 0, 0), (.i2l, 1, 0, 0, 0), (.lmul, 1, 0, 0, 0), (.iload_n 2, 1, 2, 0, 0), (.iload_n 1, 1, 1, 0, 0), (.isub, 1, 0, 0, 0), (.iconst 1, 1, 0, 0, 1), (.iadd, 1, 0, 0, 0), (.i2l, 1, 0, 0, 0), (.lcmp, 1, 0, 0, 0), (.ifCond .le 10, 3, 60, 0, 0), (.iconst 1, 1, 0, 0, 1), (.iload 5, 2, 5, 0, 0), (.ishl, 1, 0, 0, 0), (.goto 4, 3, 61, 0, 0)], 60),
  (60, [(.iconst 0, 1, 0, 0, 0)], 61),
  (61, [(.ior, 1, 0, 0, 0), (.istore 4, 2, 4, 0, 0), (.iinc 5 1, 3, 5, 0, 1), (.goto (-45), 3, 22, 0, 0)], 70),
  (70, [(.iload 4, 2, 4, 0, 0), (.ireturn, 1, 0, 0, 0)], 73)]
set_option maxRecDepth 100000 in
theorem ok_X11_fair : pm_oks 11 false 6 (some .int) cX11_fair bk_X11_fair = true := oksG_ok (by decide +kernel)
set_option maxRecDepth 100000 in
theorem me_X11_fair : pm_me 243 = (yX11_fair, cX11_fair, 6, (some .int), 3, 0) := pm_mq_ok rfl
theorem mt_X11_fair {l : Launch} {g : pm_G} {d mc ms : Nat} {as : List Value} {A : pm_H} {Q : Option Value → pm_H → Prop} (hca : pm_cat 6 as = true) (body : ∀ J : pm_J, pm_Cl l g (fun _ => none) d mc ms (pm_Rq mc ms Q) bk_X11_fair J → J 0 (pm_l0 6 as) [] A 0 0) : pm_Mt l g 243 d mc ms as A Q := pm_Mt_of (isI := false) 11 bk_X11_fair me_X11_fair (plainFor_of_name plX11) rfl (fun h => by cases h) ok_X11_fair hca body
end
section
/-! blocks, by a program -/
noncomputable def bk_X11_alike : pm_B := [(0, [(.aload_n 0, 1, 0, 0, 0), (.iload_n 1, 1, 1, 0, 0), (.iload_n 2, 1, 2, 0, 0), (.invokevirtual 129, 3, 180, 2, 11), (.ifCond .ne 5, 3, 11, 0, 0), (.iconst (-1), 1, 0, 0, -1), (.ireturn, 1, 0, 0, 0)], 11),
  (11, [(.iconst 0, 1, 0, 0, 0), (.istore_n 3, 1, 3, 0, 0), (.iload_n 1, 1, 1, 0, 0), (.istore 4, 2, 4, 0, 0)], 16),
  (16, [(.iload 4, 2, 4, 0, 0), (.iload_n 2, 1, 2, 0, 0), (.if_icmp .gt 28, 3, 47, 0, 0), (.iload_n 3, 1, 3, 0, 0), (.aload_n 0, 1, 0, 0, 0), (.iload_n 1, 1, 1, 0, 0), (.iload 4, 2, 4, 0, 0), (.iconst 1, 1, 0, 0, 1), (.isub, 1, 0, 0, 0), (.aload_n 0, 1, 0, 0, 0), (.getfield 7, 3, 11, 0, 0), (.iload 4, 2, 4, 0, 0), (.iaload, 1, 0, 0, 0), (.invokevirtual 148, 3, 200, 3, 11), (.iadd, 1, 0, 0, 0), (.istore_n 3, 1, 3, 0, 0), (.iinc 4 1, 3, 4, 0, 1), (.goto (-28), 3, 16, 0, 0)], 47),
  (47, [(.iload_n 3, 1, 3, 0, 0), (.ireturn, 1, 0, 0, 0)], 49)]
set_option maxRecDepth 100000 in
theorem ok_X11_alike : pm_oks 11 false 5 (some .int) cX11_alike bk_X11_alike = true := oksG_ok (by decide +kernel)
set_option maxRecDepth 100000 in
theorem me_X11_alike : pm_me 244 = (yX11_alike, cX11_alike, 5, (some .int), 2, 0) := pm_mq_ok rfl
theorem mt_X11_alike {l : Launch} {g : pm_G} {d mc ms : Nat} {as : List Value} {A : pm_H} {Q : Option Value → pm_H → Prop} (hca : pm_cat 5 as = true) (body : ∀ J : pm_J, pm_Cl l g (fun _ => none) d mc ms (pm_Rq mc ms Q) bk_X11_alike J → J 0 (pm_l0 5 as) [] A 0 0) : pm_Mt l g 244 d mc ms as A Q := pm_Mt_of (isI := false) 11 bk_X11_alike me_X11_alike (plainFor_of_name plX11) rfl (fun h => by cases h) ok_X11_alike hca body
noncomputable def bk_X11_even : pm_B := [(0, [(.aload_n 0, 1, 0, 0, 0), (.iload_n 1, 1, 1, 0, 0), (.iload_n 2, 1, 2, 0, 0), (.invokevirtual 129, 3, 180, 2, 11), (.ifCond .ne 5, 3, 11, 0, 0), (.iconst (-1), 1, 0, 0, -1), (.ireturn, 1, 0, 0, 0)], 11),
  (11, [(.iconst (-1), 1, 0, 0, -1), (.istore_n 3, 1, 3, 0, 0), (.ldc 222, 2, 0, 0, 268435456), (.istore 4, 2, 4, 0, 0), (.iload_n 1, 1, 1, 0, 0), (.istore 5, 2, 5, 0, 0)], 20),
  (20, [(.iload 5, 2, 5, 0, 0), (.iload_n 2, 1, 2, 0, 0), (.if_icmp .ge 60, 3, 83, 0, 0), (.aload_n 0, 1, 0, 0, 0), (.iload_n 1, 1, 1, 0, 0), (.iload 5, 2, 5, 0, 0), (.invokevirtual 171, 3, 209, 2, 11), (.aload_n 0, 1, 0, 0, 0), (.iload 5, 2, 5, 0, 0), (.iconst 1, 1, 0, 0, 1), (.iadd, 1, 0, 0, 0), (.iload_n 2, 1, 2, 0, 0), (.invokevirtual 171, 3, 209, 2, 11), (.isub, 1, 0, 0, 0), (.istore 6, 2, 6, 0, 0), (.iload 6, 2, 6, 0, 0), (.ifCond .ge 9, 3, 56, 0, 0), (.iload 6, 2, 6, 0, 0), (.ineg, 1, 0, 0, 0), (.goto 5, 3, 58, 0, 0)], 56),
  (56, [(.iload 6, 2, 6, 0, 0)], 58),
  (58, [(.istore 7, 2, 7, 0, 0), (.iload 7, 2, 7, 0, 0), (.iload 4, 2, 4, 0, 0), (.if_icmp .lt 6, 3, 70, 0, 0), (.goto 10, 3, 77, 0, 0)], 70),
  (70, [(.iload 5, 2, 5, 0, 0), (.istore_n 3, 1, 3, 0, 0), (.iload 7, 2, 7, 0, 0), (.istore 4, 2, 4, 0, 0)], 77),
  (77, [(.iinc 5 1, 3, 5, 0, 1), (.goto (-60), 3, 20, 0, 0)], 83),
  (83, [(.iload_n 3, 1, 3, 0, 0), (.ireturn, 1, 0, 0, 0)], 85)]
set_option maxRecDepth 100000 in
theorem ok_X11_even : pm_oks 11 false 8 (some .int) cX11_even bk_X11_even = true := oksG_ok (by decide +kernel)
set_option maxRecDepth 100000 in
theorem me_X11_even : pm_me 245 = (yX11_even, cX11_even, 8, (some .int), 2, 0) := pm_mq_ok rfl
theorem mt_X11_even {l : Launch} {g : pm_G} {d mc ms : Nat} {as : List Value} {A : pm_H} {Q : Option Value → pm_H → Prop} (hca : pm_cat 8 as = true) (body : ∀ J : pm_J, pm_Cl l g (fun _ => none) d mc ms (pm_Rq mc ms Q) bk_X11_even J → J 0 (pm_l0 8 as) [] A 0 0) : pm_Mt l g 245 d mc ms as A Q := pm_Mt_of (isI := false) 11 bk_X11_even me_X11_even (plainFor_of_name plX11) rfl (fun h => by cases h) ok_X11_even hca body
noncomputable def bk_X11_apart : pm_B := [(0, [(.iload_n 1, 1, 1, 0, 0), (.invokestatic 122, 3, 170, 1, 0), (.ifCond .eq 24, 3, 28, 0, 0), (.iload_n 2, 1, 2, 0, 0), (.invokestatic 122, 3, 170, 1, 0), (.ifCond .eq 17, 3, 28, 0, 0), (.iload_n 1, 1, 1, 0, 0), (.iload_n 2, 1, 2, 0, 0), (.if_icmp .eq 12, 3, 28, 0, 0), (.iload_n 3, 1, 3, 0, 0), (.iconst 0, 1, 0, 0, 0), (.iconst 1, 1, 0, 0, 1), (.invokestatic 74, 3, 169, 3, 0), (.ifCond .ne 5, 3, 30, 0, 0)], 28),
  (28, [(.iconst (-1), 1, 0, 0, -1), (.ireturn, 1, 0, 0, 0)], 30),
  (30, [(.iconst (-1), 1, 0, 0, -1), (.istore 4, 2, 4, 0, 0), (.ldc 222, 2, 0, 0, 268435456), (.istore 5, 2, 5, 0, 0), (.iconst 0, 1, 0, 0, 0), (.istore 6, 2, 6, 0, 0)], 40),
  (40, [(.iload 6, 2, 6, 0, 0), (.aload_n 0, 1, 0, 0, 0), (.getfield 70, 3, 11, 7, 0), (.if_icmp .ge 89, 3, 135, 0, 0), (.aload_n 0, 1, 0, 0, 0), (.getfield 7, 3, 11, 0, 0), (.iload 6, 2, 6, 0, 0), (.iaload, 1, 0, 0, 0), (.iload_n 1, 1, 1, 0, 0), (.if_icmp .eq 17, 3, 74, 0, 0), (.aload_n 0, 1, 0, 0, 0), (.getfield 7, 3, 11, 0, 0), (.iload 6, 2, 6, 0, 0), (.iaload, 1, 0, 0, 0), (.iload_n 2, 1, 2, 0, 0), (.if_icmp .eq 6, 3, 74, 0, 0), (.goto 58, 3, 129, 0, 0)], 74),
  (74, [(.aload_n 0, 1, 0, 0, 0), (.aload_n 0, 1, 0, 0, 0), (.getfield 7, 3, 11, 0, 0), (.iload 6, 2, 6, 0, 0), (.iaload, 1, 0, 0, 0), (.iload_n 1, 1, 1, 0, 0), (.if_icmp .ne 7, 3, 90, 0, 0), (.iload_n 2, 1, 2, 0, 0), (.goto 4, 3, 91, 0, 0)], 90),
  (90, [(.iload_n 1, 1, 1, 0, 0)], 91),
  (91, [(.iload 6, 2, 6, 0, 0), (.invokevirtual 223, 3, 247, 2, 11), (.istore 7, 2, 7, 0, 0), (.iload 7, 2, 7, 0, 0), (.iload 6, 2, 6, 0, 0), (.isub, 1, 0, 0, 0), (.iload 5, 2, 5, 0, 0), (.if_icmp .ge 24, 3, 129, 0, 0), (.iload 7, 2, 7, 0, 0), (.ldc 222, 2, 0, 0, 268435456), (.if_icmp .ne 6, 3, 118, 0, 0), (.goto 14, 3, 129, 0, 0)], 118),
  (118, [(.iload 6, 2, 6, 0, 0), (.istore 4, 2, 4, 0, 0), (.iload 7, 2, 7, 0, 0), (.iload 6, 2, 6, 0, 0), (.isub, 1, 0, 0, 0), (.istore 5, 2, 5, 0, 0)], 129),
  (129, [(.iinc 6 1, 3, 6, 0, 1), (.goto (-92), 3, 40, 0, 0)], 135),
  (135, [(.iload 4, 2, 4, 0, 0), (.ifCond .lt 8, 3, 145, 0, 0), (.iload_n 3, 1, 3, 0, 0), (.iconst 1, 1, 0, 0, 1), (.if_icmp .ne 8, 3, 150, 0, 0)], 145),
  (145, [(.iload 4, 2, 4, 0, 0), (.goto 5, 3, 152, 0, 0)], 150),
  (150, [(.iload 5, 2, 5, 0, 0)], 152),
  (152, [(.ireturn, 1, 0, 0, 0)], 153)]
set_option maxRecDepth 100000 in
theorem ok_X11_apart : pm_oks 11 false 8 (some .int) cX11_apart bk_X11_apart = true := oksG_ok (by decide +kernel)
set_option maxRecDepth 100000 in
theorem me_X11_apart : pm_me 246 = (yX11_apart, cX11_apart, 8, (some .int), 3, 0) := pm_mq_ok rfl
theorem mt_X11_apart {l : Launch} {g : pm_G} {d mc ms : Nat} {as : List Value} {A : pm_H} {Q : Option Value → pm_H → Prop} (hca : pm_cat 8 as = true) (body : ∀ J : pm_J, pm_Cl l g (fun _ => none) d mc ms (pm_Rq mc ms Q) bk_X11_apart J → J 0 (pm_l0 8 as) [] A 0 0) : pm_Mt l g 246 d mc ms as A Q := pm_Mt_of (isI := false) 11 bk_X11_apart me_X11_apart (plainFor_of_name plX11) rfl (fun h => by cases h) ok_X11_apart hca body
noncomputable def bk_X11_nextBehind : pm_B := [(0, [(.iload_n 2, 1, 2, 0, 0), (.iconst 1, 1, 0, 0, 1), (.iadd, 1, 0, 0, 0), (.istore_n 3, 1, 3, 0, 0)], 4),
  (4, [(.iload_n 3, 1, 3, 0, 0), (.aload_n 0, 1, 0, 0, 0), (.getfield 70, 3, 11, 7, 0), (.if_icmp .ge 21, 3, 30, 0, 0), (.aload_n 0, 1, 0, 0, 0), (.getfield 7, 3, 11, 0, 0), (.iload_n 3, 1, 3, 0, 0), (.iaload, 1, 0, 0, 0), (.iload_n 1, 1, 1, 0, 0), (.if_icmp .ne 5, 3, 24, 0, 0), (.iload_n 3, 1, 3, 0, 0), (.ireturn, 1, 0, 0, 0)], 24),
  (24, [(.iinc 3 1, 3, 3, 0, 1), (.goto (-23), 3, 4, 0, 0)], 30),
  (30, [(.ldc 222, 2, 0, 0, 268435456), (.ireturn, 1, 0, 0, 0)], 33)]
set_option maxRecDepth 100000 in
theorem ok_X11_nextBehind : pm_oks 11 false 4 (some .int) cX11_nextBehind bk_X11_nextBehind = true := oksG_ok (by decide +kernel)
set_option maxRecDepth 100000 in
theorem me_X11_nextBehind : pm_me 247 = (yX11_nextBehind, cX11_nextBehind, 4, (some .int), 2, 0) := pm_mq_ok rfl
theorem mt_X11_nextBehind {l : Launch} {g : pm_G} {d mc ms : Nat} {as : List Value} {A : pm_H} {Q : Option Value → pm_H → Prop} (hca : pm_cat 4 as = true) (body : ∀ J : pm_J, pm_Cl l g (fun _ => none) d mc ms (pm_Rq mc ms Q) bk_X11_nextBehind J → J 0 (pm_l0 4 as) [] A 0 0) : pm_Mt l g 247 d mc ms as A Q := pm_Mt_of (isI := false) 11 bk_X11_nextBehind me_X11_nextBehind (plainFor_of_name plX11) rfl (fun h => by cases h) ok_X11_nextBehind hca body
noncomputable def bk_X11_reach : pm_B := [(0, [(.aload_n 0, 1, 0, 0, 0), (.iload_n 1, 1, 1, 0, 0), (.invokevirtual 119, 3, 168, 1, 11), (.ifCond .eq 8, 3, 13, 0, 0), (.iload_n 2, 1, 2, 0, 0), (.iconst 1, 1, 0, 0, 1), (.if_icmp .ge 5, 3, 15, 0, 0)], 13),
  (13, [(.iconst (-1), 1, 0, 0, -1), (.ireturn, 1, 0, 0, 0)], 15),
  (15, [(.iload_n 1, 1, 1, 0, 0), (.istore_n 3, 1, 3, 0, 0)], 17),
  (17, [(.iload_n 3, 1, 3, 0, 0), (.aload_n 0, 1, 0, 0, 0), (.getfield 70, 3, 11, 7, 0), (.if_icmp .ge 21, 3, 43, 0, 0), (.aload_n 0, 1, 0, 0, 0), (.iload_n 1, 1, 1, 0, 0), (.iload_n 3, 1, 3, 0, 0), (.invokevirtual 171, 3, 209, 2, 11), (.iload_n 2, 1, 2, 0, 0), (.if_icmp .lt 5, 3, 37, 0, 0), (.iload_n 3, 1, 3, 0, 0), (.ireturn, 1, 0, 0, 0)], 37),
  (37, [(.iinc 3 1, 3, 3, 0, 1), (.goto (-23), 3, 17, 0, 0)], 43),
  (43, [(.iconst (-1), 1, 0, 0, -1), (.ireturn, 1, 0, 0, 0)], 45)]
set_option maxRecDepth 100000 in
theorem ok_X11_reach : pm_oks 11 false 4 (some .int) cX11_reach bk_X11_reach = true := oksG_ok (by decide +kernel)
set_option maxRecDepth 100000 in
theorem me_X11_reach : pm_me 248 = (yX11_reach, cX11_reach, 4, (some .int), 2, 0) := pm_mq_ok rfl
theorem mt_X11_reach {l : Launch} {g : pm_G} {d mc ms : Nat} {as : List Value} {A : pm_H} {Q : Option Value → pm_H → Prop} (hca : pm_cat 4 as = true) (body : ∀ J : pm_J, pm_Cl l g (fun _ => none) d mc ms (pm_Rq mc ms Q) bk_X11_reach J → J 0 (pm_l0 4 as) [] A 0 0) : pm_Mt l g 248 d mc ms as A Q := pm_Mt_of (isI := false) 11 bk_X11_reach me_X11_reach (plainFor_of_name plX11) rfl (fun h => by cases h) ok_X11_reach hca body
noncomputable def bk_X11_reachBack : pm_B := [(0, [(.aload_n 0, 1, 0, 0, 0), (.iload_n 1, 1, 1, 0, 0), (.invokevirtual 119, 3, 168, 1, 11), (.ifCond .eq 8, 3, 13, 0, 0), (.iload_n 2, 1, 2, 0, 0), (.iconst 1, 1, 0, 0, 1), (.if_icmp .ge 5, 3, 15, 0, 0)], 13),
  (13, [(.iconst (-1), 1, 0, 0, -1), (.ireturn, 1, 0, 0, 0)], 15),
  (15, [(.iload_n 1, 1, 1, 0, 0), (.istore_n 3, 1, 3, 0, 0)], 17),
  (17, [(.iload_n 3, 1, 3, 0, 0), (.ifCond .lt 21, 3, 39, 0, 0), (.aload_n 0, 1, 0, 0, 0), (.iload_n 3, 1, 3, 0, 0), (.iload_n 1, 1, 1, 0, 0), (.invokevirtual 171, 3, 209, 2, 11), (.iload_n 2, 1, 2, 0, 0), (.if_icmp .lt 5, 3, 33, 0, 0), (.iload_n 3, 1, 3, 0, 0), (.ireturn, 1, 0, 0, 0)], 33),
  (33, [(.iinc 3 (-1), 3, 3, 0, -1), (.goto (-19), 3, 17, 0, 0)], 39),
  (39, [(.iconst (-1), 1, 0, 0, -1), (.ireturn, 1, 0, 0, 0)], 41)]
set_option maxRecDepth 100000 in
theorem ok_X11_reachBack : pm_oks 11 false 4 (some .int) cX11_reachBack bk_X11_reachBack = true := oksG_ok (by decide +kernel)
set_option maxRecDepth 100000 in
theorem me_X11_reachBack : pm_me 249 = (yX11_reachBack, cX11_reachBack, 4, (some .int), 2, 0) := pm_mq_ok rfl
theorem mt_X11_reachBack {l : Launch} {g : pm_G} {d mc ms : Nat} {as : List Value} {A : pm_H} {Q : Option Value → pm_H → Prop} (hca : pm_cat 4 as = true) (body : ∀ J : pm_J, pm_Cl l g (fun _ => none) d mc ms (pm_Rq mc ms Q) bk_X11_reachBack J → J 0 (pm_l0 4 as) [] A 0 0) : pm_Mt l g 249 d mc ms as A Q := pm_Mt_of (isI := false) 11 bk_X11_reachBack me_X11_reachBack (plainFor_of_name plX11) rfl (fun h => by cases h) ok_X11_reachBack hca body
noncomputable def bk_X11_load : pm_B := [(0, [(.aload_n 0, 1, 0, 0, 0), (.iload_n 1, 1, 1, 0, 0), (.invokevirtual 119, 3, 168, 1, 11), (.ifCond .eq 8, 3, 13, 0, 0), (.iload_n 2, 1, 2, 0, 0), (.iconst 1, 1, 0, 0, 1), (.if_icmp .ge 5, 3, 15, 0, 0)], 13),
  (13, [(.iconst (-1), 1, 0, 0, -1), (.ireturn, 1, 0, 0, 0)], 15),
  (15, [(.iload_n 1, 1, 1, 0, 0), (.istore_n 3, 1, 3, 0, 0)], 17),
  (17, [(.iload_n 3, 1, 3, 0, 0), (.aload_n 0, 1, 0, 0, 0), (.getfield 70, 3, 11, 7, 0), (.if_icmp .ge 25, 3, 47, 0, 0), (.aload_n 0, 1, 0, 0, 0), (.aload_n 0, 1, 0, 0, 0), (.iload_n 1, 1, 1, 0, 0), (.iload_n 3, 1, 3, 0, 0), (.invokevirtual 161, 3, 206, 2, 11), (.invokevirtual 174, 3, 211, 1, 11), (.iload_n 2, 1, 2, 0, 0), (.if_icmp .lt 5, 3, 41, 0, 0), (.iload_n 3, 1, 3, 0, 0), (.ireturn, 1, 0, 0, 0)], 41),
  (41, [(.iinc 3 1, 3, 3, 0, 1), (.goto (-27), 3, 17, 0, 0)], 47),
  (47, [(.iconst (-1), 1, 0, 0, -1), (.ireturn, 1, 0, 0, 0)], 49)]
set_option maxRecDepth 100000 in
theorem ok_X11_load : pm_oks 11 false 4 (some .int) cX11_load bk_X11_load = true := oksG_ok (by decide +kernel)
set_option maxRecDepth 100000 in
theorem me_X11_load : pm_me 250 = (yX11_load, cX11_load, 4, (some .int), 2, 0) := pm_mq_ok rfl
theorem mt_X11_load {l : Launch} {g : pm_G} {d mc ms : Nat} {as : List Value} {A : pm_H} {Q : Option Value → pm_H → Prop} (hca : pm_cat 4 as = true) (body : ∀ J : pm_J, pm_Cl l g (fun _ => none) d mc ms (pm_Rq mc ms Q) bk_X11_load J → J 0 (pm_l0 4 as) [] A 0 0) : pm_Mt l g 250 d mc ms as A Q := pm_Mt_of (isI := false) 11 bk_X11_load me_X11_load (plainFor_of_name plX11) rfl (fun h => by cases h) ok_X11_load hca body
noncomputable def bk_X11_window : pm_B := [(0, [(.iload_n 1, 1, 1, 0, 0), (.iconst 1, 1, 0, 0, 1), (.ldc 226, 2, 0, 0, 16777215), (.invokestatic 74, 3, 169, 3, 0), (.ifCond .eq 12, 3, 19, 0, 0), (.iload_n 2, 1, 2, 0, 0), (.iconst 0, 1, 0, 0, 0), (.iconst 2, 1, 0, 0, 2), (.invokestatic 74, 3, 169, 3, 0), (.ifCond .ne 5, 3, 21, 0, 0)], 19),
  (19, [(.iconst (-1), 1, 0, 0, -1), (.ireturn, 1, 0, 0, 0)], 21),
  (21, [(.iconst 0, 1, 0, 0, 0), (.istore_n 3, 1, 3, 0, 0), (.iconst (-1), 1, 0, 0, -1), (.istore 4, 2, 4, 0, 0), (.iconst 0, 1, 0, 0, 0), (.istore 5, 2, 5, 0, 0), (.iconst 0, 1, 0, 0, 0), (.istore 6, 2, 6, 0, 0)], 32),
  (32, [(.iload 6, 2, 6, 0, 0), (.aload_n 0, 1, 0, 0, 0), (.getfield 70, 3, 11, 7, 0), (.if_icmp .ge 114, 3, 152, 0, 0), (.iconst 0, 1, 0, 0, 0), (.istore 7, 2, 7, 0, 0), (.iload 6, 2, 6, 0, 0), (.istore 8, 2, 8, 0, 0)], 48),
  (48, [(.iload 8, 2, 8, 0, 0), (.aload_n 0, 1, 0, 0, 0), (.getfield 70, 3, 11, 7, 0), (.if_icmp .ge 41, 3, 95, 0, 0), (.iload 7, 2, 7, 0, 0), (.iconst 1, 1, 0, 0, 1), (.aload_n 0, 1, 0, 0, 0), (.getfield 7, 3, 11, 0, 0), (.iload 8, 2, 8, 0, 0), (.iaload, 1, 0, 0, 0), (.ishl, 1, 0, 0, 0), (.ior, 1, 0, 0, 0), (.iload_n 1, 1, 1, 0, 0), (.iand, 1, 0, 0, 0), (.iload_n 1, 1, 1, 0, 0), (.if_icmp .eq 23, 3, 95, 0, 0), (.iload 7, 2, 7, 0, 0), (.iconst 1, 1, 0, 0, 1), (.aload_n 0, 1, 0, 0, 0), (.getfield 7, 3, 11, 0, 0), (.iload 8, 2, 8, 0, 0), (.iaload, 1, 0, 0, 0), (.ishl, 1, 0, 0, 0), (.ior, 1, 0, 0, 0), (.istore 7, 2, 7, 0, 0), (.iinc 8 1, 3, 8, 0, 1), (.goto (-44), 3, 48, 0, 0)], 95),
  (95, [(.iload 8, 2, 8, 0, 0), (.aload_n 0, 1, 0, 0, 0), (.getfield 70, 3, 11, 7, 0), (.if_icmp .ne 6, 3, 107, 0, 0), (.goto 42, 3, 146, 0, 0)], 107),
  (107, [(.iload_n 3, 1, 3, 0, 0), (.aload_n 0, 1, 0, 0, 0), (.getfield 70, 3, 11, 7, 0), (.iload 8, 2, 8, 0, 0), (.isub, 1, 0, 0, 0), (.iadd, 1, 0, 0, 0), (.istore_n 3, 1, 3, 0, 0), (.iload 4, 2, 4, 0, 0), (.ifCond .lt 19, 3, 138, 0, 0), (.iload 8, 2, 8, 0, 0), (.iload 6, 2, 6, 0, 0), (.isub, 1, 0, 0, 0), (.iload 5, 2, 5, 0, 0), (.iload 4, 2, 4, 0, 0), (.isub, 1, 0, 0, 0), (.if_icmp .lt 6, 3, 138, 0, 0), (.goto 11, 3, 146, 0, 0)], 138),
  (138, [(.iload 6, 2, 6, 0, 0), (.istore 4, 2, 4, 0, 0), (.iload 8, 2, 8, 0, 0), (.istore 5, 2, 5, 0, 0)], 146),
  (146, [(.iinc 6 1, 3, 6, 0, 1), (.goto (-117), 3, 32, 0, 0)], 152),
  (152, [(.iload_n 2, 1, 2, 0, 0), (.iconst 2, 1, 0, 0, 2), (.if_icmp .ne 7, 3, 161, 0, 0), (.iload_n 3, 1, 3, 0, 0), (.goto 23, 3, 181, 0, 0)], 161),
  (161, [(.iload 4, 2, 4, 0, 0), (.ifCond .ge 7, 3, 170, 0, 0), (.iconst (-1), 1, 0, 0, -1), (.goto 14, 3, 181, 0, 0)], 170),
  (170, [(.iload_n 2, 1, 2, 0, 0), (.ifCond .ne 8, 3, 179, 0, 0), (.iload 4, 2, 4, 0, 0), (.goto 5, 3, 181, 0, 0)], 179),
  (179, [(.iload 5, 2, 5, 0, 0)], 181),
  (181, [(.ireturn, 1, 0, 0, 0)], 182)]
set_option maxRecDepth 100000 in
theorem ok_X11_window : pm_oks 11 false 9 (some .int) cX11_window bk_X11_window = true := oksG_ok (by decide +kernel)
set_option maxRecDepth 100000 in
theorem me_X11_window : pm_me 251 = (yX11_window, cX11_window, 9, (some .int), 2, 0) := pm_mq_ok rfl
theorem mt_X11_window {l : Launch} {g : pm_G} {d mc ms : Nat} {as : List Value} {A : pm_H} {Q : Option Value → pm_H → Prop} (hca : pm_cat 9 as = true) (body : ∀ J : pm_J, pm_Cl l g (fun _ => none) d mc ms (pm_Rq mc ms Q) bk_X11_window J → J 0 (pm_l0 9 as) [] A 0 0) : pm_Mt l g 251 d mc ms as A Q := pm_Mt_of (isI := false) 11 bk_X11_window me_X11_window (plainFor_of_name plX11) rfl (fun h => by cases h) ok_X11_window hca body
noncomputable def bk_X11_longest : pm_B := [(0, [(.iload_n 1, 1, 1, 0, 0), (.iconst 1, 1, 0, 0, 1), (.if_icmp .lt 19, 3, 21, 0, 0), (.aload_n 0, 1, 0, 0, 0), (.getfield 70, 3, 11, 7, 0), (.ifCond .eq 12, 3, 21, 0, 0), (.iload_n 2, 1, 2, 0, 0), (.iconst 0, 1, 0, 0, 0), (.iconst 1, 1, 0, 0, 1), (.invokestatic 74, 3, 169, 3, 0), (.ifCond .ne 5, 3, 23, 0, 0)], 21),
  (21, [(.iconst (-1), 1, 0, 0, -1), (.ireturn, 1, 0, 0, 0)], 23),
  (23, [(.iconst 0, 1, 0, 0, 0), (.istore_n 3, 1, 3, 0, 0), (.iconst (-1), 1, 0, 0, -1), (.istore 4, 2, 4, 0, 0), (.iconst 0, 1, 0, 0, 0), (.istore 5, 2, 5, 0, 0)], 31),
  (31, [(.iload 5, 2, 5, 0, 0), (.aload_n 0, 1, 0, 0, 0), (.getfield 70, 3, 11, 7, 0), (.if_icmp .ge 40, 3, 77, 0, 0), (.aload_n 0, 1, 0, 0, 0), (.iload 5, 2, 5, 0, 0), (.iload_n 1, 1, 1, 0, 0), (.invokevirtual 227, 3, 253, 2, 11), (.istore 6, 2, 6, 0, 0), (.iload 6, 2, 6, 0, 0), (.iload 5, 2, 5, 0, 0), (.isub, 1, 0, 0, 0), (.iload 4, 2, 4, 0, 0), (.iload_n 3, 1, 3, 0, 0), (.isub, 1, 0, 0, 0), (.if_icmp .gt 6, 3, 64, 0, 0), (.goto 10, 3, 71, 0, 0)], 64),
  (64, [(.iload 5, 2, 5, 0, 0), (.istore_n 3, 1, 3, 0, 0), (.iload 6, 2, 6, 0, 0), (.istore 4, 2, 4, 0, 0)], 71),
  (71, [(.iinc 5 1, 3, 5, 0, 1), (.goto (-43), 3, 31, 0, 0)], 77),
  (77, [(.iload_n 2, 1, 2, 0, 0), (.ifCond .ne 7, 3, 85, 0, 0), (.iload_n 3, 1, 3, 0, 0), (.goto 5, 3, 87, 0, 0)], 85),
  (85, [(.iload 4, 2, 4, 0, 0)], 87),
  (87, [(.ireturn, 1, 0, 0, 0)], 88)]
set_option maxRecDepth 100000 in
theorem ok_X11_longest : pm_oks 11 false 7 (some .int) cX11_longest bk_X11_longest = true := oksG_ok (by decide +kernel)
set_option maxRecDepth 100000 in
theorem me_X11_longest : pm_me 252 = (yX11_longest, cX11_longest, 7, (some .int), 2, 0) := pm_mq_ok rfl
theorem mt_X11_longest {l : Launch} {g : pm_G} {d mc ms : Nat} {as : List Value} {A : pm_H} {Q : Option Value → pm_H → Prop} (hca : pm_cat 7 as = true) (body : ∀ J : pm_J, pm_Cl l g (fun _ => none) d mc ms (pm_Rq mc ms Q) bk_X11_longest J → J 0 (pm_l0 7 as) [] A 0 0) : pm_Mt l g 252 d mc ms as A Q := pm_Mt_of (isI := false) 11 bk_X11_longest me_X11_longest (plainFor_of_name plX11) rfl (fun h => by cases h) ok_X11_longest hca body
noncomputable def bk_X11_farthest : pm_B := [(0, [(.iconst 0, 1, 0, 0, 0), (.istore_n 3, 1, 3, 0, 0), (.iload_n 1, 1, 1, 0, 0), (.istore 4, 2, 4, 0, 0)], 5),
  (5, [(.iload 4, 2, 4, 0, 0), (.aload_n 0, 1, 0, 0, 0), (.getfield 70, 3, 11, 7, 0), (.if_icmp .ge 39, 3, 50, 0, 0), (.iload_n 3, 1, 3, 0, 0), (.iconst 1, 1, 0, 0, 1), (.aload_n 0, 1, 0, 0, 0), (.getfield 7, 3, 11, 0, 0), (.iload 4, 2, 4, 0, 0), (.iaload, 1, 0, 0, 0), (.ishl, 1, 0, 0, 0), (.ior, 1, 0, 0, 0), (.invokestatic 165, 3, 207, 1, 0), (.iload_n 2, 1, 2, 0, 0), (.if_icmp .gt 21, 3, 50, 0, 0), (.iload_n 3, 1, 3, 0, 0), (.iconst 1, 1, 0, 0, 1), (.aload_n 0, 1, 0, 0, 0), (.getfield 7, 3, 11, 0, 0), (.iload 4, 2, 4, 0, 0), (.iaload, 1, 0, 0, 0), (.ishl, 1, 0, 0, 0), (.ior, 1, 0, 0, 0), (.istore_n 3, 1, 3, 0, 0), (.iinc 4 1, 3, 4, 0, 1), (.goto (-42), 3, 5, 0, 0)], 50),
  (50, [(.iload 4, 2, 4, 0, 0), (.iconst 1, 1, 0, 0, 1), (.isub, 1, 0, 0, 0), (.ireturn, 1, 0, 0, 0)], 55)]
set_option maxRecDepth 100000 in
theorem ok_X11_farthest : pm_oks 11 false 5 (some .int) cX11_farthest bk_X11_farthest = true := oksG_ok (by decide +kernel)
set_option maxRecDepth 100000 in
theorem me_X11_farthest : pm_me 253 = (yX11_farthest, cX11_farthest, 5, (some .int), 2, 0) := pm_mq_ok rfl
theorem mt_X11_farthest {l : Launch} {g : pm_G} {d mc ms : Nat} {as : List Value} {A : pm_H} {Q : Option Value → pm_H → Prop} (hca : pm_cat 5 as = true) (body : ∀ J : pm_J, pm_Cl l g (fun _ => none) d mc ms (pm_Rq mc ms Q) bk_X11_farthest J → J 0 (pm_l0 5 as) [] A 0 0) : pm_Mt l g 253 d mc ms as A Q := pm_Mt_of (isI := false) 11 bk_X11_farthest me_X11_farthest (plainFor_of_name plX11) rfl (fun h => by cases h) ok_X11_farthest hca body
noncomputable def bk_X11_unlike : pm_B := [(0, [(.aload_n 0, 1, 0, 0, 0), (.getfield 70, 3, 11, 7, 0), (.ifCond .eq 12, 3, 16, 0, 0), (.iload_n 1, 1, 1, 0, 0), (.iconst 0, 1, 0, 0, 0), (.iconst 1, 1, 0, 0, 1), (.invokestatic 74, 3, 169, 3, 0), (.ifCond .ne 5, 3, 18, 0, 0)], 16),
  (16, [(.iconst (-1), 1, 0, 0, -1), (.ireturn, 1, 0, 0, 0)], 18),
  (18, [(.iconst 0, 1, 0, 0, 0), (.istore_n 2, 1, 2, 0, 0), (.iconst (-1), 1, 0, 0, -1), (.istore_n 3, 1, 3, 0, 0), (.iconst 0, 1, 0, 0, 0), (.istore 4, 2, 4, 0, 0)], 25),
  (25, [(.iload 4, 2, 4, 0, 0), (.aload_n 0, 1, 0, 0, 0), (.getfield 70, 3, 11, 7, 0), (.if_icmp .ge 63, 3, 94, 0, 0), (.iload 4, 2, 4, 0, 0), (.istore 5, 2, 5, 0, 0)], 38),
  (38, [(.iload 5, 2, 5, 0, 0), (.iconst 1, 1, 0, 0, 1), (.iadd, 1, 0, 0, 0), (.aload_n 0, 1, 0, 0, 0), (.getfield 70, 3, 11, 7, 0), (.if_icmp .ge 22, 3, 68, 0, 0), (.aload_n 0, 1, 0, 0, 0), (.iload 5, 2, 5, 0, 0), (.iconst 1, 1, 0, 0, 1), (.iadd, 1, 0, 0, 0), (.invokevirtual 78, 3, 174, 1, 11), (.iload 4, 2, 4, 0, 0), (.if_icmp .ge 9, 3, 68, 0, 0), (.iinc 5 1, 3, 5, 0, 1), (.goto (-27), 3, 38, 0, 0)], 68),
  (68, [(.iload 5, 2, 5, 0, 0), (.iload 4, 2, 4, 0, 0), (.isub, 1, 0, 0, 0), (.iload_n 3, 1, 3, 0, 0), (.iload_n 2, 1, 2, 0, 0), (.isub, 1, 0, 0, 0), (.if_icmp .gt 6, 3, 82, 0, 0), (.goto 9, 3, 88, 0, 0)], 82),
  (82, [(.iload 4, 2, 4, 0, 0), (.istore_n 2, 1, 2, 0, 0), (.iload 5, 2, 5, 0, 0), (.istore_n 3, 1, 3, 0, 0)], 88),
  (88, [(.iinc 4 1, 3, 4, 0, 1), (.goto (-66), 3, 25, 0, 0)], 94),
  (94, [(.iload_n 1, 1, 1, 0, 0), (.ifCond .ne 7, 3, 102, 0, 0), (.iload_n 2, 1, 2, 0, 0), (.goto 4, 3, 103, 0, 0)], 102),
  (102, [(.iload_n 3, 1, 3, 0, 0)], 103),
  (103, [(.ireturn, 1, 0, 0, 0)], 104)]
set_option maxRecDepth 100000 in
theorem ok_X11_unlike : pm_oks 11 false 6 (some .int) cX11_unlike bk_X11_unlike = true := oksG_ok (by decide +kernel)
set_option maxRecDepth 100000 in
theorem me_X11_unlike : pm_me 254 = (yX11_unlike, cX11_unlike, 6, (some .int), 1, 0) := pm_mq_ok rfl
theorem mt_X11_unlike {l : Launch} {g : pm_G} {d mc ms : Nat} {as : List Value} {A : pm_H} {Q : Option Value → pm_H → Prop} (hca : pm_cat 6 as = true) (body : ∀ J : pm_J, pm_Cl l g (fun _ => none) d mc ms (pm_Rq mc ms Q) bk_X11_unlike J → J 0 (pm_l0 6 as) [] A 0 0) : pm_Mt l g 254 d mc ms as A Q := pm_Mt_of (isI := false) 11 bk_X11_unlike me_X11_unlike (plainFor_of_name plX11) rfl (fun h => by cases h) ok_X11_unlike hca body
noncomputable def bk_X11_heaviest : pm_B := [(0, [(.iload_n 1, 1, 1, 0, 0), (.iconst 1, 1, 0, 0, 1), (.aload_n 0, 1, 0, 0, 0), (.getfield 70, 3, 11, 7, 0), (.invokestatic 74, 3, 169, 3, 0), (.ifCond .eq 12, 3, 21, 0, 0), (.iload_n 2, 1, 2, 0, 0), (.iconst 0, 1, 0, 0, 0), (.iconst 1, 1, 0, 0, 1), (.invokestatic 74, 3, 169, 3, 0), (.ifCond .ne 5, 3, 23, 0, 0)], 21),
  (21, [(.iconst (-1), 1, 0, 0, -1), (.ireturn, 1, 0, 0, 0)], 23),
  (23, [(.iconst (-1), 1, 0, 0, -1), (.istore_n 3, 1, 3, 0, 0), (.iconst (-1), 1, 0, 0, -1), (.istore 4, 2, 4, 0, 0), (.iconst 0, 1, 0, 0, 0), (.istore 5, 2, 5, 0, 0)], 31),
  (31, [(.iload 5, 2, 5, 0, 0), (.iload_n 1, 1, 1, 0, 0), (.iadd, 1, 0, 0, 0), (.aload_n 0, 1, 0, 0, 0), (.getfield 70, 3, 11, 7, 0), (.if_icmp .gt 44, 3, 83, 0, 0), (.aload_n 0, 1, 0, 0, 0), (.aload_n 0, 1, 0, 0, 0), (.iload 5, 2, 5, 0, 0), (.iload 5, 2, 5, 0, 0), (.iload_n 1, 1, 1, 0, 0), (.iadd, 1, 0, 0, 0), (.iconst 1, 1, 0, 0, 1), (.isub, 1, 0, 0, 0), (.invokevirtual 161, 3, 206, 2, 11), (.invokevirtual 174, 3, 211, 1, 11), (.istore 6, 2, 6, 0, 0), (.iload 6, 2, 6, 0, 0), (.iload 4, 2, 4, 0, 0), (.if_icmp .gt 6, 3, 70, 0, 0), (.goto 10, 3, 77, 0, 0)], 70),
  (70, [(.iload 5, 2, 5, 0, 0), (.istore_n 3, 1, 3, 0, 0), (.iload 6, 2, 6, 0, 0), (.istore 4, 2, 4, 0, 0)], 77),
  (77, [(.iinc 5 1, 3, 5, 0, 1), (.goto (-49), 3, 31, 0, 0)], 83),
  (83, [(.iload_n 2, 1, 2, 0, 0), (.ifCond .ne 7, 3, 91, 0, 0), (.iload_n 3, 1, 3, 0, 0), (.goto 5, 3, 93, 0, 0)], 91),
  (91, [(.iload 4, 2, 4, 0, 0)], 93),
  (93, [(.ireturn, 1, 0, 0, 0)], 94)]
set_option maxRecDepth 100000 in
theorem ok_X11_heaviest : pm_oks 11 false 7 (some .int) cX11_heaviest bk_X11_heaviest = true := oksG_ok (by decide +kernel)
set_option maxRecDepth 100000 in
theorem me_X11_heaviest : pm_me 255 = (yX11_heaviest, cX11_heaviest, 7, (some .int), 2, 0) := pm_mq_ok rfl
theorem mt_X11_heaviest {l : Launch} {g : pm_G} {d mc ms : Nat} {as : List Value} {A : pm_H} {Q : Option Value → pm_H → Prop} (hca : pm_cat 7 as = true) (body : ∀ J : pm_J, pm_Cl l g (fun _ => none) d mc ms (pm_Rq mc ms Q) bk_X11_heaviest J → J 0 (pm_l0 7 as) [] A 0 0) : pm_Mt l g 255 d mc ms as A Q := pm_Mt_of (isI := false) 11 bk_X11_heaviest me_X11_heaviest (plainFor_of_name plX11) rfl (fun h => by cases h) ok_X11_heaviest hca body
noncomputable def bk_X11_distance : pm_B := [(0, [(.aload_n 0, 1, 0, 0, 0), (.iload_n 1, 1, 1, 0, 0), (.invokevirtual 119, 3, 168, 1, 11), (.ifCond .eq 31, 3, 36, 0, 0), (.aload_n 0, 1, 0, 0, 0), (.iload_n 1, 1, 1, 0, 0), (.invokevirtual 78, 3, 174, 1, 11), (.ifCond .lt 23, 3, 36, 0, 0), (.aload_n 0, 1, 0, 0, 0), (.aload_n 0, 1, 0, 0, 0), (.iload_n 1, 1, 1, 0, 0), (.invokevirtual 78, 3, 174, 1, 11), (.iconst 1, 1, 0, 0, 1), (.iadd, 1, 0, 0, 0), (.iload_n 1, 1, 1, 0, 0), (.iconst 1, 1, 0, 0, 1), (.isub, 1, 0, 0, 0), (.invokevirtual 161, 3, 206, 2, 11), (.invokestatic 165, 3, 207, 1, 0), (.goto 4, 3, 37, 0, 0)], 36),
  (36, [(.iconst (-1), 1, 0, 0, -1)], 37),
  (37, [(.ireturn, 1, 0, 0, 0)], 38)]
set_option maxRecDepth 100000 in
theorem ok_X11_distance : pm_oks 11 false 2 (some .int) cX11_distance bk_X11_distance = true := oksG_ok (by decide +kernel)
set_option maxRecDepth 100000 in
theorem me_X11_distance : pm_me 256 = (yX11_distance, cX11_distance, 2, (some .int), 1, 0) := pm_mq_ok rfl
theorem mt_X11_distance {l : Launch} {g : pm_G} {d mc ms : Nat} {as : List Value} {A : pm_H} {Q : Option Value → pm_H → Prop} (hca : pm_cat 2 as = true) (body : ∀ J : pm_J, pm_Cl l g (fun _ => none) d mc ms (pm_Rq mc ms Q) bk_X11_distance J → J 0 (pm_l0 2 as) [] A 0 0) : pm_Mt l g 256 d mc ms as A Q := pm_Mt_of (isI := false) 11 bk_X11_distance me_X11_distance (plainFor_of_name plX11) rfl (fun h => by cases h) ok_X11_distance hca body
noncomputable def bk_X11_misses : pm_B := [(0, [(.iload_n 1, 1, 1, 0, 0), (.iload_n 2, 1, 2, 0, 0), (.invokestatic 239, 3, 258, 2, 0), (.ifCond .eq 18, 3, 23, 0, 0), (.aload_n 0, 1, 0, 0, 0), (.aload_n 0, 1, 0, 0, 0), (.getfield 70, 3, 11, 7, 0), (.iconst 1, 1, 0, 0, 1), (.isub, 1, 0, 0, 0), (.iload_n 1, 1, 1, 0, 0), (.iload_n 2, 1, 2, 0, 0), (.invokevirtual 242, 3, 259, 3, 11), (.goto 4, 3, 24, 0, 0)], 23),
  (23, [(.iconst (-1), 1, 0, 0, -1)], 24),
  (24, [(.ireturn, 1, 0, 0, 0)], 25)]
set_option maxRecDepth 100000 in
theorem ok_X11_misses : pm_oks 11 false 3 (some .int) cX11_misses bk_X11_misses = true := oksG_ok (by decide +kernel)
set_option maxRecDepth 100000 in
theorem me_X11_misses : pm_me 257 = (yX11_misses, cX11_misses, 3, (some .int), 2, 0) := pm_mq_ok rfl
theorem mt_X11_misses {l : Launch} {g : pm_G} {d mc ms : Nat} {as : List Value} {A : pm_H} {Q : Option Value → pm_H → Prop} (hca : pm_cat 3 as = true) (body : ∀ J : pm_J, pm_Cl l g (fun _ => none) d mc ms (pm_Rq mc ms Q) bk_X11_misses J → J 0 (pm_l0 3 as) [] A 0 0) : pm_Mt l g 257 d mc ms as A Q := pm_Mt_of (isI := false) 11 bk_X11_misses me_X11_misses (plainFor_of_name plX11) rfl (fun h => by cases h) ok_X11_misses hca body
noncomputable def bk_X11_isShelf : pm_B := [(0, [(.iload_n 0, 1, 0, 0, 0), (.iconst 1, 1, 0, 0, 1), (.bipush 24, 2, 0, 0, 24), (.invokestatic 74, 3, 169, 3, 0), (.ifCond .eq 16, 3, 23, 0, 0), (.iload_n 1, 1, 1, 0, 0), (.iconst 0, 1, 0, 0, 0), (.iconst 1, 1, 0, 0, 1), (.invokestatic 74, 3, 169, 3, 0), (.ifCond .eq 7, 3, 23, 0, 0), (.iconst 1, 1, 0, 0, 1), (.goto 4, 3, 24, 0, 0)], 23),
  (23, [(.iconst 0, 1, 0, 0, 0)], 24),
  (24, [(.ireturn, 1, 1, 0, 0)], 25)]
set_option maxRecDepth 100000 in
theorem ok_X11_isShelf : pm_oks 11 false 2 (some .boolean) cX11_isShelf bk_X11_isShelf = true := oksG_ok (by decide +kernel)
set_option maxRecDepth 100000 in
theorem me_X11_isShelf : pm_me 258 = (yX11_isShelf, cX11_isShelf, 2, (some .boolean), 2, 1) := pm_mq_ok rfl
theorem mt_X11_isShelf {l : Launch} {g : pm_G} {d mc ms : Nat} {as : List Value} {A : pm_H} {Q : Option Value → pm_H → Prop} (hca : pm_cat 2 as = true) (body : ∀ J : pm_J, pm_Cl l g (fun _ => none) d mc ms (pm_Rq mc ms Q) bk_X11_isShelf J → J 0 (pm_l0 2 as) [] A 0 0) : pm_Mt l g 258 d mc ms as A Q := pm_Mt_of (isI := false) 11 bk_X11_isShelf me_X11_isShelf (plainFor_of_name plX11) rfl (fun h => by cases h) ok_X11_isShelf hca body
noncomputable def bk_X11_goOver : pm_B := [(0, [(.iconst 0, 1, 0, 0, 0), (.istore 4, 2, 4, 0, 0), (.aload_n 0, 1, 0, 0, 0), (.iconst 0, 1, 0, 0, 0), (.putfield 230, 3, 11, 24, 0), (.iconst 0, 1, 0, 0, 0), (.istore 5, 2, 5, 0, 0)], 11),
  (11, [(.iload 5, 2, 5, 0, 0), (.iload_n 1, 1, 1, 0, 0), (.if_icmp .gt 82, 3, 96, 0, 0), (.aload_n 0, 1, 0, 0, 0), (.getfield 230, 3, 11, 24, 0), (.aload_n 0, 1, 0, 0, 0), (.getfield 7, 3, 11, 0, 0), (.iload 5, 2, 5, 0, 0), (.iaload, 1, 0, 0, 0), (.ishr, 1, 0, 0, 0), (.iconst 1, 1, 0, 0, 1), (.iand, 1, 0, 0, 0), (.iconst 1, 1, 0, 0, 1), (.if_icmp .ne 6, 3, 38, 0, 0), (.goto 55, 3, 90, 0, 0)], 38),
  (38, [(.iinc 4 1, 3, 4, 0, 1), (.aload_n 0, 1, 0, 0, 0), (.getfield 230, 3, 11, 24, 0), (.invokestatic 165, 3, 207, 1, 0), (.iload_n 2, 1, 2, 0, 0), (.if_icmp .ne 23, 3, 72, 0, 0), (.aload_n 0, 1, 0, 0, 0), (.dup, 1, 0, 0, 0), (.getfield 230, 3, 11, 24, 0), (.iconst 1, 1, 0, 0, 1), (.aload_n 0, 1, 0, 0, 0), (.iload 5, 2, 5, 0, 0), (.iload_n 3, 1, 3, 0, 0), (.invokevirtual 236, 3, 260, 2, 11), (.ishl, 1, 0, 0, 0), (.iconst (-1), 1, 0, 0, -1), (.ixor, 1, 0, 0, 0), (.iand, 1, 0, 0, 0), (.putfield 230, 3, 11, 24, 0)], 72),
  (72, [(.aload_n 0, 1, 0, 0, 0), (.dup, 1, 0, 0, 0), (.getfield 230, 3, 11, 24, 0), (.iconst 1, 1, 0, 0, 1), (.aload_n 0, 1, 0, 0, 0), (.getfield 7, 3, 11, 0, 0), (.iload 5, 2, 5, 0, 0), (.iaload, 1, 0, 0, 0), (.ishl, 1, 0, 0, 0), (.ior, 1, 0, 0, 0), (.putfield 230, 3, 11, 24, 0)], 90),
  (90, [(.iinc 5 1, 3, 5, 0, 1), (.goto (-82), 3, 11, 0, 0)], 96),
  (96, [(.iload 4, 2, 4, 0, 0), (.ireturn, 1, 0, 0, 0)], 99)]
set_option maxRecDepth 100000 in
theorem ok_X11_goOver : pm_oks 11 false 6 (some .int) cX11_goOver bk_X11_goOver = true := oksG_ok (by decide +kernel)
set_option maxRecDepth 100000 in
theorem me_X11_goOver : pm_me 259 = (yX11_goOver, cX11_goOver, 6, (some .int), 3, 0) := pm_mq_ok rfl
theorem mt_X11_goOver {l : Launch} {g : pm_G} {d mc ms : Nat} {as : List Value} {A : pm_H} {Q : Option Value → pm_H → Prop} (hca : pm_cat 6 as = true) (body : ∀ J : pm_J, pm_Cl l g (fun _ => none) d mc ms (pm_Rq mc ms Q) bk_X11_goOver J → J 0 (pm_l0 6 as) [] A 0 0) : pm_Mt l g 259 d mc ms as A Q := pm_Mt_of (isI := false) 11 bk_X11_goOver me_X11_goOver (plainFor_of_name plX11) rfl (fun h => by cases h) ok_X11_goOver hca body
noncomputable def bk_X11_goner : pm_B := [(0, [(.iconst (-1), 1, 0, 0, -1), (.istore_n 3, 1, 3, 0, 0), (.iconst (-1), 1, 0, 0, -1), (.istore 4, 2, 4, 0, 0), (.iconst 0, 1, 0, 0, 0), (.istore 5, 2, 5, 0, 0)], 8),
  (8, [(.iload 5, 2, 5, 0, 0), (.bipush 24, 2, 0, 0, 24), (.if_icmp .ge 66, 3, 78, 0, 0), (.aload_n 0, 1, 0, 0, 0), (.getfield 230, 3, 11, 24, 0), (.iload 5, 2, 5, 0, 0), (.ishr, 1, 0, 0, 0), (.iconst 1, 1, 0, 0, 1), (.iand, 1, 0, 0, 0), (.ifCond .ne 6, 3, 30, 0, 0), (.goto 45, 3, 72, 0, 0)], 30),
  (30, [(.iload_n 2, 1, 2, 0, 0), (.ifCond .ne 15, 3, 46, 0, 0), (.iload_n 1, 1, 1, 0, 0), (.aload_n 0, 1, 0, 0, 0), (.iload 5, 2, 5, 0, 0), (.iload_n 1, 1, 1, 0, 0), (.invokevirtual 233, 3, 261, 2, 11), (.isub, 1, 0, 0, 0), (.goto 10, 3, 53, 0, 0)], 46),
  (46, [(.aload_n 0, 1, 0, 0, 0), (.iload 5, 2, 5, 0, 0), (.iload_n 1, 1, 1, 0, 0), (.invokevirtual 223, 3, 247, 2, 11)], 53),
  (53, [(.istore 6, 2, 6, 0, 0), (.iload 6, 2, 6, 0, 0), (.iload 4, 2, 4, 0, 0), (.if_icmp .gt 6, 3, 65, 0, 0), (.goto 10, 3, 72, 0, 0)], 65),
  (65, [(.iload 5, 2, 5, 0, 0), (.istore_n 3, 1, 3, 0, 0), (.iload 6, 2, 6, 0, 0), (.istore 4, 2, 4, 0, 0)], 72),
  (72, [(.iinc 5 1, 3, 5, 0, 1), (.goto (-67), 3, 8, 0, 0)], 78),
  (78, [(.iload_n 3, 1, 3, 0, 0), (.ireturn, 1, 0, 0, 0)], 80)]
set_option maxRecDepth 100000 in
theorem ok_X11_goner : pm_oks 11 false 7 (some .int) cX11_goner bk_X11_goner = true := oksG_ok (by decide +kernel)
set_option maxRecDepth 100000 in
theorem me_X11_goner : pm_me 260 = (yX11_goner, cX11_goner, 7, (some .int), 2, 0) := pm_mq_ok rfl
theorem mt_X11_goner {l : Launch} {g : pm_G} {d mc ms : Nat} {as : List Value} {A : pm_H} {Q : Option Value → pm_H → Prop} (hca : pm_cat 7 as = true) (body : ∀ J : pm_J, pm_Cl l g (fun _ => none) d mc ms (pm_Rq mc ms Q) bk_X11_goner J → J 0 (pm_l0 7 as) [] A 0 0) : pm_Mt l g 260 d mc ms as A Q := pm_Mt_of (isI := false) 11 bk_X11_goner me_X11_goner (plainFor_of_name plX11) rfl (fun h => by cases h) ok_X11_goner hca body
noncomputable def bk_X11_lastAhead : pm_B := [(0, [(.iload_n 2, 1, 2, 0, 0), (.iconst 1, 1, 0, 0, 1), (.isub, 1, 0, 0, 0), (.istore_n 3, 1, 3, 0, 0)], 4),
  (4, [(.aload_n 0, 1, 0, 0, 0), (.getfield 7, 3, 11, 0, 0), (.iload_n 3, 1, 3, 0, 0), (.iaload, 1, 0, 0, 0), (.iload_n 1, 1, 1, 0, 0), (.if_icmp .eq 9, 3, 20, 0, 0), (.iinc 3 (-1), 3, 3, 0, -1), (.goto (-13), 3, 4, 0, 0)], 20),
  (20, [(.iload_n 3, 1, 3, 0, 0), (.ireturn, 1, 0, 0, 0)], 22)]
set_option maxRecDepth 100000 in
theorem ok_X11_lastAhead : pm_oks 11 false 4 (some .int) cX11_lastAhead bk_X11_lastAhead = true := oksG_ok (by decide +kernel)
set_option maxRecDepth 100000 in
theorem me_X11_lastAhead : pm_me 261 = (yX11_lastAhead, cX11_lastAhead, 4, (some .int), 2, 0) := pm_mq_ok rfl
theorem mt_X11_lastAhead {l : Launch} {g : pm_G} {d mc ms : Nat} {as : List Value} {A : pm_H} {Q : Option Value → pm_H → Prop} (hca : pm_cat 4 as = true) (body : ∀ J : pm_J, pm_Cl l g (fun _ => none) d mc ms (pm_Rq mc ms Q) bk_X11_lastAhead J → J 0 (pm_l0 4 as) [] A 0 0) : pm_Mt l g 261 d mc ms as A Q := pm_Mt_of (isI := false) 11 bk_X11_lastAhead me_X11_lastAhead (plainFor_of_name plX11) rfl (fun h => by cases h) ok_X11_lastAhead hca body
noncomputable def bk_X11_shelf : pm_B := [(0, [(.aload_n 0, 1, 0, 0, 0), (.iload_n 1, 1, 1, 0, 0), (.invokevirtual 119, 3, 168, 1, 11), (.ifCond .eq 11, 3, 16, 0, 0), (.iload_n 2, 1, 2, 0, 0), (.iload_n 3, 1, 3, 0, 0), (.invokestatic 239, 3, 258, 2, 0), (.ifCond .ne 5, 3, 18, 0, 0)], 16),
  (16, [(.iconst (-1), 1, 0, 0, -1), (.ireturn, 1, 0, 0, 0)], 18),
  (18, [(.aload_n 0, 1, 0, 0, 0), (.iload_n 1, 1, 1, 0, 0), (.iload_n 2, 1, 2, 0, 0), (.iload_n 3, 1, 3, 0, 0), (.invokevirtual 242, 3, 259, 3, 11), (.istore 4, 2, 4, 0, 0), (.iload 4, 2, 4, 0, 0), (.ifCond .ge 7, 3, 36, 0, 0), (.iconst (-1), 1, 0, 0, -1), (.goto 7, 3, 40, 0, 0)], 36),
  (36, [(.aload_n 0, 1, 0, 0, 0), (.getfield 230, 3, 11, 24, 0)], 40),
  (40, [(.ireturn, 1, 0, 0, 0)], 41)]
set_option maxRecDepth 100000 in
theorem ok_X11_shelf : pm_oks 11 false 5 (some .int) cX11_shelf bk_X11_shelf = true := oksG_ok (by decide +kernel)
set_option maxRecDepth 100000 in
theorem me_X11_shelf : pm_me 262 = (yX11_shelf, cX11_shelf, 5, (some .int), 3, 0) := pm_mq_ok rfl
theorem mt_X11_shelf {l : Launch} {g : pm_G} {d mc ms : Nat} {as : List Value} {A : pm_H} {Q : Option Value → pm_H → Prop} (hca : pm_cat 5 as = true) (body : ∀ J : pm_J, pm_Cl l g (fun _ => none) d mc ms (pm_Rq mc ms Q) bk_X11_shelf J → J 0 (pm_l0 5 as) [] A 0 0) : pm_Mt l g 262 d mc ms as A Q := pm_Mt_of (isI := false) 11 bk_X11_shelf me_X11_shelf (plainFor_of_name plX11) rfl (fun h => by cases h) ok_X11_shelf hca body
noncomputable def bk_X11_suffices : pm_B := [(0, [(.iload_n 1, 1, 1, 0, 0), (.ifCond .lt 12, 3, 13, 0, 0), (.iload_n 2, 1, 2, 0, 0), (.iconst 0, 1, 0, 0, 0), (.iconst 1, 1, 0, 0, 1), (.invokestatic 74, 3, 169, 3, 0), (.ifCond .ne 5, 3, 15, 0, 0)], 13),
  (13, [(.iconst (-1), 1, 0, 0, -1), (.ireturn, 1, 0, 0, 0)], 15),
  (15, [(.iconst 1, 1, 0, 0, 1), (.istore_n 3, 1, 3, 0, 0)], 17),
  (17, [(.iload_n 3, 1, 3, 0, 0), (.bipush 24, 2, 0, 0, 24), (.if_icmp .gt 27, 3, 47, 0, 0), (.aload_n 0, 1, 0, 0, 0), (.aload_n 0, 1, 0, 0, 0), (.getfield 70, 3, 11, 7, 0), (.iconst 1, 1, 0, 0, 1), (.isub, 1, 0, 0, 0), (.iload_n 3, 1, 3, 0, 0), (.iload_n 2, 1, 2, 0, 0), (.invokevirtual 242, 3, 259, 3, 11), (.iload_n 1, 1, 1, 0, 0), (.if_icmp .gt 5, 3, 41, 0, 0), (.iload_n 3, 1, 3, 0, 0), (.ireturn, 1, 0, 0, 0)], 41),
  (41, [(.iinc 3 1, 3, 3, 0, 1), (.goto (-27), 3, 17, 0, 0)], 47),
  (47, [(.iconst (-1), 1, 0, 0, -1), (.ireturn, 1, 0, 0, 0)], 49)]
set_option maxRecDepth 100000 in
theorem ok_X11_suffices : pm_oks 11 false 4 (some .int) cX11_suffices bk_X11_suffices = true := oksG_ok (by decide +kernel)
set_option maxRecDepth 100000 in
theorem me_X11_suffices : pm_me 263 = (yX11_suffices, cX11_suffices, 4, (some .int), 2, 0) := pm_mq_ok rfl
theorem mt_X11_suffices {l : Launch} {g : pm_G} {d mc ms : Nat} {as : List Value} {A : pm_H} {Q : Option Value → pm_H → Prop} (hca : pm_cat 4 as = true) (body : ∀ J : pm_J, pm_Cl l g (fun _ => none) d mc ms (pm_Rq mc ms Q) bk_X11_suffices J → J 0 (pm_l0 4 as) [] A 0 0) : pm_Mt l g 263 d mc ms as A Q := pm_Mt_of (isI := false) 11 bk_X11_suffices me_X11_suffices (plainFor_of_name plX11) rfl (fun h => by cases h) ok_X11_suffices hca body
noncomputable def bk_X11_just : pm_B := [(0, [(.iconst 0, 1, 0, 0, 0), (.istore_n 2, 1, 2, 0, 0), (.iconst 0, 1, 0, 0, 0), (.istore_n 3, 1, 3, 0, 0)], 4),
  (4, [(.iload_n 3, 1, 3, 0, 0), (.aload_n 0, 1, 0, 0, 0), (.getfield 70, 3, 11, 7, 0), (.if_icmp .ge 61, 3, 70, 0, 0), (.iconst 0, 1, 0, 0, 0), (.istore 4, 2, 4, 0, 0), (.iload_n 3, 1, 3, 0, 0), (.istore 5, 2, 5, 0, 0)], 18),
  (18, [(.iload 5, 2, 5, 0, 0), (.aload_n 0, 1, 0, 0, 0), (.getfield 70, 3, 11, 7, 0), (.if_icmp .ge 40, 3, 64, 0, 0), (.iload 4, 2, 4, 0, 0), (.iconst 1, 1, 0, 0, 1), (.aload_n 0, 1, 0, 0, 0), (.getfield 7, 3, 11, 0, 0), (.iload 5, 2, 5, 0, 0), (.iaload, 1, 0, 0, 0), (.ishl, 1, 0, 0, 0), (.ior, 1, 0, 0, 0), (.istore 4, 2, 4, 0, 0), (.iload_n 2, 1, 2, 0, 0), (.iload 4, 2, 4, 0, 0), (.invokestatic 165, 3, 207, 1, 0), (.iload_n 1, 1, 1, 0, 0), (.if_icmp .ne 7, 3, 55, 0, 0), (.iconst 1, 1, 0, 0, 1), (.goto 4, 3, 56, 0, 0)], 55),
  (55, [(.iconst 0, 1, 0, 0, 0)], 56),
  (56, [(.iadd, 1, 0, 0, 0), (.istore_n 2, 1, 2, 0, 0), (.iinc 5 1, 3, 5, 0, 1), (.goto (-43), 3, 18, 0, 0)], 64),
  (64, [(.iinc 3 1, 3, 3, 0, 1), (.goto (-63), 3, 4, 0, 0)], 70),
  (70, [(.iload_n 2, 1, 2, 0, 0), (.ireturn, 1, 0, 0, 0)], 72)]
set_option maxRecDepth 100000 in
theorem ok_X11_just : pm_oks 11 false 6 (some .int) cX11_just bk_X11_just = true := oksG_ok (by decide +kernel)
set_option maxRecDepth 100000 in
theorem me_X11_just : pm_me 264 = (yX11_just, cX11_just, 6, (some .int), 1, 0) := pm_mq_ok rfl
theorem mt_X11_just {l : Launch} {g : pm_G} {d mc ms : Nat} {as : List Value} {A : pm_H} {Q : Option Value → pm_H → Prop} (hca : pm_cat 6 as = true) (body : ∀ J : pm_J, pm_Cl l g (fun _ => none) d mc ms (pm_Rq mc ms Q) bk_X11_just J → J 0 (pm_l0 6 as) [] A 0 0) : pm_Mt l g 264 d mc ms as A Q := pm_Mt_of (isI := false) 11 bk_X11_just me_X11_just (plainFor_of_name plX11) rfl (fun h => by cases h) ok_X11_just hca body
noncomputable def bk_X11_all : pm_B := [(0, [(.lconst 0, 1, 0, 0, 0), (.lstore_n 1, 1, 1, 0, 0), (.iconst 0, 1, 0, 0, 0), (.istore_n 3, 1, 3, 0, 0)], 4),
  (4, [(.iload_n 3, 1, 3, 0, 0), (.aload_n 0, 1, 0, 0, 0), (.getfield 70, 3, 11, 7, 0), (.if_icmp .ge 53, 3, 62, 0, 0), (.iconst 0, 1, 0, 0, 0), (.istore 4, 2, 4, 0, 0), (.iload_n 3, 1, 3, 0, 0), (.istore 5, 2, 5, 0, 0)], 18),
  (18, [(.iload 5, 2, 5, 0, 0), (.aload_n 0, 1, 0, 0, 0), (.getfield 70, 3, 11, 7, 0), (.if_icmp .ge 32, 3, 56, 0, 0), (.iload 4, 2, 4, 0, 0), (.iconst 1, 1, 0, 0, 1), (.aload_n 0, 1, 0, 0, 0), (.getfield 7, 3, 11, 0, 0), (.iload 5, 2, 5, 0, 0), (.iaload, 1, 0, 0, 0), (.ishl, 1, 0, 0, 0), (.ior, 1, 0, 0, 0), (.istore 4, 2, 4, 0, 0), (.lload_n 1, 1, 1, 0, 0), (.iload 4, 2, 4, 0, 0), (.invokestatic 165, 3, 207, 1, 0), (.i2l, 1, 0, 0, 0), (.ladd, 1, 0, 0, 0), (.lstore_n 1, 1, 1, 0, 0), (.iinc 5 1, 3, 5, 0, 1), (.goto (-35), 3, 18, 0, 0)], 56),
  (56, [(.iinc 3 1, 3, 3, 0, 1), (.goto (-55), 3, 4, 0, 0)], 62),
  (62, [(.lload_n 1, 1, 1, 0, 0), (.lreturn, 1, 0, 0, 0)], 64)]
set_option maxRecDepth 100000 in
theorem ok_X11_all : pm_oks 11 false 6 (some .long) cX11_all bk_X11_all = true := oksG_ok (by decide +kernel)
set_option maxRecDepth 100000 in
theorem me_X11_all : pm_me 265 = (yX11_all, cX11_all, 6, (some .long), 0, 0) := pm_mq_ok rfl
theorem mt_X11_all {l : Launch} {g : pm_G} {d mc ms : Nat} {as : List Value} {A : pm_H} {Q : Option Value → pm_H → Prop} (hca : pm_cat 6 as = true) (body : ∀ J : pm_J, pm_Cl l g (fun _ => none) d mc ms (pm_Rq mc ms Q) bk_X11_all J → J 0 (pm_l0 6 as) [] A 0 0) : pm_Mt l g 265 d mc ms as A Q := pm_Mt_of (isI := false) 11 bk_X11_all me_X11_all (plainFor_of_name plX11) rfl (fun h => by cases h) ok_X11_all hca body
end
section
/-! blocks, by a program -/
noncomputable def bk_X11_sets : pm_B := [(0, [(.iload_n 1, 1, 1, 0, 0), (.iconst 1, 1, 0, 0, 1), (.aload_n 0, 1, 0, 0, 0), (.getfield 70, 3, 11, 7, 0), (.invokestatic 74, 3, 169, 3, 0), (.ifCond .ne 5, 3, 14, 0, 0), (.iconst 0, 1, 0, 0, 0), (.ireturn, 1, 0, 0, 0)], 14),
  (14, [(.iconst 0, 1, 0, 0, 0), (.istore_n 2, 1, 2, 0, 0), (.iconst 0, 1, 0, 0, 0), (.istore_n 3, 1, 3, 0, 0)], 18),
  (18, [(.iload_n 3, 1, 3, 0, 0), (.iload_n 1, 1, 1, 0, 0), (.iadd, 1, 0, 0, 0), (.aload_n 0, 1, 0, 0, 0), (.getfield 70, 3, 11, 7, 0), (.if_icmp .gt 77, 3, 102, 0, 0), (.iconst 1, 1, 0, 0, 1), (.istore 4, 2, 4, 0, 0), (.iconst 0, 1, 0, 0, 0), (.istore 5, 2, 5, 0, 0)], 34),
  (34, [(.iload 5, 2, 5, 0, 0), (.iload_n 3, 1, 3, 0, 0), (.if_icmp .ge 46, 3, 83, 0, 0), (.iload 4, 2, 4, 0, 0), (.ifCond .eq 41, 3, 83, 0, 0), (.aload_n 0, 1, 0, 0, 0), (.iload 5, 2, 5, 0, 0), (.iload 5, 2, 5, 0, 0), (.iload_n 1, 1, 1, 0, 0), (.iadd, 1, 0, 0, 0), (.iconst 1, 1, 0, 0, 1), (.isub, 1, 0, 0, 0), (.invokevirtual 161, 3, 206, 2, 11), (.aload_n 0, 1, 0, 0, 0), (.iload_n 3, 1, 3, 0, 0), (.iload_n 3, 1, 3, 0, 0), (.iload_n 1, 1, 1, 0, 0), (.iadd, 1, 0, 0, 0), (.iconst 1, 1, 0, 0, 1), (.isub, 1, 0, 0, 0), (.invokevirtual 161, 3, 206, 2, 11), (.if_icmp .eq 7, 3, 74, 0, 0), (.iconst 1, 1, 0, 0, 1), (.goto 4, 3, 75, 0, 0)], 74),
  (74, [(.iconst 0, 1, 0, 0, 0)], 75),
  (75, [(.istore 4, 2, 4, 0, 0), (.iinc 5 1, 3, 5, 0, 1), (.goto (-46), 3, 34, 0, 0)], 83),
  (83, [(.iload_n 2, 1, 2, 0, 0), (.iload 4, 2, 4, 0, 0), (.ifCond .eq 7, 3, 93, 0, 0), (.iconst 1, 1, 0, 0, 1), (.goto 4, 3, 94, 0, 0)], 93),
  (93, [(.iconst 0, 1, 0, 0, 0)], 94),
  (94, [(.iadd, 1, 0, 0, 0), (.istore_n 2, 1, 2, 0, 0), (.iinc 3 1, 3, 3, 0, 1), (.goto (-81), 3, 18, 0, 0)], 102),
  (102, [(.iload_n 2, 1, 2, 0, 0), (.ireturn, 1, 0, 0, 0)], 104)]
set_option maxRecDepth 100000 in
theorem ok_X11_sets : pm_oks 11 false 6 (some .int) cX11_sets bk_X11_sets = true := oksG_ok (by decide +kernel)
set_option maxRecDepth 100000 in
theorem me_X11_sets : pm_me 266 = (yX11_sets, cX11_sets, 6, (some .int), 1, 0) := pm_mq_ok rfl
theorem mt_X11_sets {l : Launch} {g : pm_G} {d mc ms : Nat} {as : List Value} {A : pm_H} {Q : Option Value → pm_H → Prop} (hca : pm_cat 6 as = true) (body : ∀ J : pm_J, pm_Cl l g (fun _ => none) d mc ms (pm_Rq mc ms Q) bk_X11_sets J → J 0 (pm_l0 6 as) [] A 0 0) : pm_Mt l g 266 d mc ms as A Q := pm_Mt_of (isI := false) 11 bk_X11_sets me_X11_sets (plainFor_of_name plX11) rfl (fun h => by cases h) ok_X11_sets hca body
noncomputable def bk_X11_match : pm_B := [(0, [(.aload_n 0, 1, 0, 0, 0), (.iload_n 1, 1, 1, 0, 0), (.iload_n 2, 1, 2, 0, 0), (.invokevirtual 129, 3, 180, 2, 11), (.ifCond .eq 8, 3, 14, 0, 0), (.iload_n 3, 1, 3, 0, 0), (.iconst (-1), 1, 0, 0, -1), (.if_icmp .ge 5, 3, 16, 0, 0)], 14),
  (14, [(.iconst (-1), 1, 0, 0, -1), (.ireturn, 1, 0, 0, 0)], 16),
  (16, [(.aload_n 0, 1, 0, 0, 0), (.invokevirtual 245, 3, 268, 0, 11), (.iload_n 2, 1, 2, 0, 0), (.iload_n 1, 1, 1, 0, 0), (.isub, 1, 0, 0, 0), (.iconst 1, 1, 0, 0, 1), (.iadd, 1, 0, 0, 0), (.istore 4, 2, 4, 0, 0), (.iconst 0, 1, 0, 0, 0), (.istore 5, 2, 5, 0, 0), (.iconst 0, 1, 0, 0, 0), (.istore 6, 2, 6, 0, 0)], 33),
  (33, [(.iload 6, 2, 6, 0, 0), (.iload 4, 2, 4, 0, 0), (.iadd, 1, 0, 0, 0), (.aload_n 0, 1, 0, 0, 0), (.getfield 70, 3, 11, 7, 0), (.if_icmp .gt 38, 3, 80, 0, 0), (.aload_n 0, 1, 0, 0, 0), (.iload_n 1, 1, 1, 0, 0), (.iload 6, 2, 6, 0, 0), (.iload 4, 2, 4, 0, 0), (.invokevirtual 248, 3, 269, 3, 11), (.iload 4, 2, 4, 0, 0), (.if_icmp .ge 6, 3, 62, 0, 0), (.goto 15, 3, 74, 0, 0)], 62),
  (62, [(.iload 5, 2, 5, 0, 0), (.iload_n 3, 1, 3, 0, 0), (.if_icmp .ne 6, 3, 71, 0, 0), (.iload 6, 2, 6, 0, 0), (.ireturn, 1, 0, 0, 0)], 71),
  (71, [(.iinc 5 1, 3, 5, 0, 1)], 74),
  (74, [(.iinc 6 1, 3, 6, 0, 1), (.goto (-44), 3, 33, 0, 0)], 80),
  (80, [(.iload_n 3, 1, 3, 0, 0), (.iconst (-1), 1, 0, 0, -1), (.if_icmp .ne 8, 3, 90, 0, 0), (.iload 5, 2, 5, 0, 0), (.goto 4, 3, 91, 0, 0)], 90),
  (90, [(.iconst (-1), 1, 0, 0, -1)], 91),
  (91, [(.ireturn, 1, 0, 0, 0)], 92)]
set_option maxRecDepth 100000 in
theorem ok_X11_match : pm_oks 11 false 7 (some .int) cX11_match bk_X11_match = true := oksG_ok (by decide +kernel)
set_option maxRecDepth 100000 in
theorem me_X11_match : pm_me 267 = (yX11_match, cX11_match, 7, (some .int), 3, 0) := pm_mq_ok rfl
theorem mt_X11_match {l : Launch} {g : pm_G} {d mc ms : Nat} {as : List Value} {A : pm_H} {Q : Option Value → pm_H → Prop} (hca : pm_cat 7 as = true) (body : ∀ J : pm_J, pm_Cl l g (fun _ => none) d mc ms (pm_Rq mc ms Q) bk_X11_match J → J 0 (pm_l0 7 as) [] A 0 0) : pm_Mt l g 267 d mc ms as A Q := pm_Mt_of (isI := false) 11 bk_X11_match me_X11_match (plainFor_of_name plX11) rfl (fun h => by cases h) ok_X11_match hca body
noncomputable def bk_X11_layGaps : pm_B := [(0, [(.iconst 0, 1, 0, 0, 0), (.istore_n 1, 1, 1, 0, 0)], 2),
  (2, [(.iload_n 1, 1, 1, 0, 0), (.aload_n 0, 1, 0, 0, 0), (.getfield 70, 3, 11, 7, 0), (.if_icmp .ge 35, 3, 42, 0, 0), (.aload_n 0, 1, 0, 0, 0), (.getfield 61, 3, 11, 25, 0), (.iload_n 1, 1, 1, 0, 0), (.aload_n 0, 1, 0, 0, 0), (.iload_n 1, 1, 1, 0, 0), (.invokevirtual 78, 3, 174, 1, 11), (.ifCond .ge 8, 3, 28, 0, 0), (.ldc 222, 2, 0, 0, 268435456), (.goto 10, 3, 35, 0, 0)], 28),
  (28, [(.iload_n 1, 1, 1, 0, 0), (.aload_n 0, 1, 0, 0, 0), (.iload_n 1, 1, 1, 0, 0), (.invokevirtual 78, 3, 174, 1, 11), (.isub, 1, 0, 0, 0)], 35),
  (35, [(.iastore, 1, 0, 0, 0), (.iinc 1 1, 3, 1, 0, 1), (.goto (-37), 3, 2, 0, 0)], 42),
  (42, [(.return_, 1, 0, 0, 0)], 43)]
set_option maxRecDepth 100000 in
theorem ok_X11_layGaps : pm_oks 11 false 2 none cX11_layGaps bk_X11_layGaps = true := oksG_ok (by decide +kernel)
set_option maxRecDepth 100000 in
theorem me_X11_layGaps : pm_me 268 = (yX11_layGaps, cX11_layGaps, 2, none, 0, 0) := pm_mq_ok rfl
theorem mt_X11_layGaps {l : Launch} {g : pm_G} {d mc ms : Nat} {as : List Value} {A : pm_H} {Q : Option Value → pm_H → Prop} (hca : pm_cat 2 as = true) (body : ∀ J : pm_J, pm_Cl l g (fun _ => none) d mc ms (pm_Rq mc ms Q) bk_X11_layGaps J → J 0 (pm_l0 2 as) [] A 0 0) : pm_Mt l g 268 d mc ms as A Q := pm_Mt_of (isI := false) 11 bk_X11_layGaps me_X11_layGaps (plainFor_of_name plX11) rfl (fun h => by cases h) ok_X11_layGaps hca body
noncomputable def bk_X11_matched : pm_B := [(0, [(.iconst 0, 1, 0, 0, 0), (.istore 4, 2, 4, 0, 0)], 3),
  (3, [(.iload 4, 2, 4, 0, 0), (.iload_n 3, 1, 3, 0, 0), (.if_icmp .ge 88, 3, 94, 0, 0), (.iload_n 1, 1, 1, 0, 0), (.iload 4, 2, 4, 0, 0), (.iadd, 1, 0, 0, 0), (.aload_n 0, 1, 0, 0, 0), (.getfield 70, 3, 11, 7, 0), (.if_icmp .ge 77, 3, 94, 0, 0), (.iload_n 2, 1, 2, 0, 0), (.iload 4, 2, 4, 0, 0), (.iadd, 1, 0, 0, 0), (.aload_n 0, 1, 0, 0, 0), (.getfield 70, 3, 11, 7, 0), (.if_icmp .ge 66, 3, 94, 0, 0), (.aload_n 0, 1, 0, 0, 0), (.getfield 61, 3, 11, 25, 0), (.iload_n 1, 1, 1, 0, 0), (.iload 4, 2, 4, 0, 0), (.iadd, 1, 0, 0, 0), (.iaload, 1, 0, 0, 0), (.iload 4, 2, 4, 0, 0), (.if_icmp .le 7, 3, 49, 0, 0), (.iconst 0, 1, 0, 0, 0), (.goto 12, 3, 58, 0, 0)], 49),
  (49, [(.aload_n 0, 1, 0, 0, 0), (.getfield 61, 3, 11, 25, 0), (.iload_n 1, 1, 1, 0, 0), (.iload 4, 2, 4, 0, 0), (.iadd, 1, 0, 0, 0), (.iaload, 1, 0, 0, 0)], 58),
  (58, [(.aload_n 0, 1, 0, 0, 0), (.getfield 61, 3, 11, 25, 0), (.iload_n 2, 1, 2, 0, 0), (.iload 4, 2, 4, 0, 0), (.iadd, 1, 0, 0, 0), (.iaload, 1, 0, 0, 0), (.iload 4, 2, 4, 0, 0), (.if_icmp .le 7, 3, 76, 0, 0), (.iconst 0, 1, 0, 0, 0), (.goto 12, 3, 85, 0, 0)], 76),
  (76, [(.aload_n 0, 1, 0, 0, 0), (.getfield 61, 3, 11, 25, 0), (.iload_n 2, 1, 2, 0, 0), (.iload 4, 2, 4, 0, 0), (.iadd, 1, 0, 0, 0), (.iaload, 1, 0, 0, 0)], 85),
  (85, [(.if_icmp .ne 9, 3, 94, 0, 0), (.iinc 4 1, 3, 4, 0, 1), (.goto (-88), 3, 3, 0, 0)], 94),
  (94, [(.iload 4, 2, 4, 0, 0), (.ireturn, 1, 0, 0, 0)], 97)]
set_option maxRecDepth 100000 in
theorem ok_X11_matched : pm_oks 11 false 5 (some .int) cX11_matched bk_X11_matched = true := oksG_ok (by decide +kernel)
set_option maxRecDepth 100000 in
theorem me_X11_matched : pm_me 269 = (yX11_matched, cX11_matched, 5, (some .int), 3, 0) := pm_mq_ok rfl
theorem mt_X11_matched {l : Launch} {g : pm_G} {d mc ms : Nat} {as : List Value} {A : pm_H} {Q : Option Value → pm_H → Prop} (hca : pm_cat 5 as = true) (body : ∀ J : pm_J, pm_Cl l g (fun _ => none) d mc ms (pm_Rq mc ms Q) bk_X11_matched J → J 0 (pm_l0 5 as) [] A 0 0) : pm_Mt l g 269 d mc ms as A Q := pm_Mt_of (isI := false) 11 bk_X11_matched me_X11_matched (plainFor_of_name plX11) rfl (fun h => by cases h) ok_X11_matched hca body
noncomputable def bk_X11_twin : pm_B := [(0, [(.iload_n 1, 1, 1, 0, 0), (.iconst 0, 1, 0, 0, 0), (.iconst 1, 1, 0, 0, 1), (.invokestatic 74, 3, 169, 3, 0), (.ifCond .ne 5, 3, 11, 0, 0), (.iconst (-1), 1, 0, 0, -1), (.ireturn, 1, 0, 0, 0)], 11),
  (11, [(.aload_n 0, 1, 0, 0, 0), (.invokevirtual 245, 3, 268, 0, 11), (.iconst (-1), 1, 0, 0, -1), (.istore_n 2, 1, 2, 0, 0), (.iconst 0, 1, 0, 0, 0), (.istore_n 3, 1, 3, 0, 0), (.iconst 0, 1, 0, 0, 0), (.istore 4, 2, 4, 0, 0)], 22),
  (22, [(.iload 4, 2, 4, 0, 0), (.aload_n 0, 1, 0, 0, 0), (.getfield 70, 3, 11, 7, 0), (.if_icmp .ge 58, 3, 86, 0, 0), (.iload 4, 2, 4, 0, 0), (.iconst 1, 1, 0, 0, 1), (.iadd, 1, 0, 0, 0), (.istore 5, 2, 5, 0, 0)], 37),
  (37, [(.iload 5, 2, 5, 0, 0), (.aload_n 0, 1, 0, 0, 0), (.getfield 70, 3, 11, 7, 0), (.if_icmp .ge 37, 3, 80, 0, 0), (.aload_n 0, 1, 0, 0, 0), (.iload 4, 2, 4, 0, 0), (.iload 5, 2, 5, 0, 0), (.sipush 160, 3, 0, 0, 160), (.invokevirtual 248, 3, 269, 3, 11), (.istore 6, 2, 6, 0, 0), (.iload 6, 2, 6, 0, 0), (.iload_n 3, 1, 3, 0, 0), (.if_icmp .gt 6, 3, 68, 0, 0), (.goto 9, 3, 74, 0, 0)], 68),
  (68, [(.iload 4, 2, 4, 0, 0), (.istore_n 2, 1, 2, 0, 0), (.iload 6, 2, 6, 0, 0), (.istore_n 3, 1, 3, 0, 0)], 74),
  (74, [(.iinc 5 1, 3, 5, 0, 1), (.goto (-40), 3, 37, 0, 0)], 80),
  (80, [(.iinc 4 1, 3, 4, 0, 1), (.goto (-61), 3, 22, 0, 0)], 86),
  (86, [(.iload_n 2, 1, 2, 0, 0), (.ifCond .lt 7, 3, 94, 0, 0), (.iload_n 1, 1, 1, 0, 0), (.ifCond .ne 7, 3, 98, 0, 0)], 94),
  (94, [(.iload_n 2, 1, 2, 0, 0), (.goto 4, 3, 99, 0, 0)], 98),
  (98, [(.iload_n 3, 1, 3, 0, 0)], 99),
  (99, [(.ireturn, 1, 0, 0, 0)], 100)]
set_option maxRecDepth 100000 in
theorem ok_X11_twin : pm_oks 11 false 7 (some .int) cX11_twin bk_X11_twin = true := oksG_ok (by decide +kernel)
set_option maxRecDepth 100000 in
theorem me_X11_twin : pm_me 270 = (yX11_twin, cX11_twin, 7, (some .int), 1, 0) := pm_mq_ok rfl
theorem mt_X11_twin {l : Launch} {g : pm_G} {d mc ms : Nat} {as : List Value} {A : pm_H} {Q : Option Value → pm_H → Prop} (hca : pm_cat 7 as = true) (body : ∀ J : pm_J, pm_Cl l g (fun _ => none) d mc ms (pm_Rq mc ms Q) bk_X11_twin J → J 0 (pm_l0 7 as) [] A 0 0) : pm_Mt l g 270 d mc ms as A Q := pm_Mt_of (isI := false) 11 bk_X11_twin me_X11_twin (plainFor_of_name plX11) rfl (fun h => by cases h) ok_X11_twin hca body
noncomputable def bk_X11_parts : pm_B := [(0, [(.iload_n 1, 1, 1, 0, 0), (.iconst 1, 1, 0, 0, 1), (.if_icmp .lt 8, 3, 10, 0, 0), (.iload_n 2, 1, 2, 0, 0), (.iconst (-1), 1, 0, 0, -1), (.if_icmp .ge 5, 3, 12, 0, 0)], 10),
  (10, [(.iconst (-1), 1, 0, 0, -1), (.ireturn, 1, 0, 0, 0)], 12),
  (12, [(.iconst 0, 1, 0, 0, 0), (.istore_n 3, 1, 3, 0, 0), (.iconst 0, 1, 0, 0, 0), (.istore 4, 2, 4, 0, 0)], 17),
  (17, [(.iload 4, 2, 4, 0, 0), (.aload_n 0, 1, 0, 0, 0), (.getfield 70, 3, 11, 7, 0), (.if_icmp .ge 32, 3, 55, 0, 0), (.aload_n 0, 1, 0, 0, 0), (.iload 4, 2, 4, 0, 0), (.iload_n 1, 1, 1, 0, 0), (.invokevirtual 227, 3, 253, 2, 11), (.istore 5, 2, 5, 0, 0), (.iload_n 3, 1, 3, 0, 0), (.iload_n 2, 1, 2, 0, 0), (.if_icmp .ne 6, 3, 43, 0, 0), (.iload 5, 2, 5, 0, 0), (.ireturn, 1, 0, 0, 0)], 43),
  (43, [(.iinc 3 1, 3, 3, 0, 1), (.iload 5, 2, 5, 0, 0), (.iconst 1, 1, 0, 0, 1), (.iadd, 1, 0, 0, 0), (.istore 4, 2, 4, 0, 0), (.goto (-35), 3, 17, 0, 0)], 55),
  (55, [(.iload_n 2, 1, 2, 0, 0), (.iconst (-1), 1, 0, 0, -1), (.if_icmp .ne 7, 3, 64, 0, 0), (.iload_n 3, 1, 3, 0, 0), (.goto 4, 3, 65, 0, 0)], 64),
  (64, [(.iconst (-1), 1, 0, 0, -1)], 65),
  (65, [(.ireturn, 1, 0, 0, 0)], 66)]
set_option maxRecDepth 100000 in
theorem ok_X11_parts : pm_oks 11 false 6 (some .int) cX11_parts bk_X11_parts = true := oksG_ok (by decide +kernel)
set_option maxRecDepth 100000 in
theorem me_X11_parts : pm_me 271 = (yX11_parts, cX11_parts, 6, (some .int), 2, 0) := pm_mq_ok rfl
theorem mt_X11_parts {l : Launch} {g : pm_G} {d mc ms : Nat} {as : List Value} {A : pm_H} {Q : Option Value → pm_H → Prop} (hca : pm_cat 6 as = true) (body : ∀ J : pm_J, pm_Cl l g (fun _ => none) d mc ms (pm_Rq mc ms Q) bk_X11_parts J → J 0 (pm_l0 6 as) [] A 0 0) : pm_Mt l g 271 d mc ms as A Q := pm_Mt_of (isI := false) 11 bk_X11_parts me_X11_parts (plainFor_of_name plX11) rfl (fun h => by cases h) ok_X11_parts hca body
noncomputable def bk_X11_best : pm_B := [(0, [(.iload_n 1, 1, 1, 0, 0), (.iconst 1, 1, 0, 0, 1), (.bipush 8, 2, 0, 0, 8), (.invokestatic 74, 3, 169, 3, 0), (.ifCond .eq 22, 3, 29, 0, 0), (.iload_n 1, 1, 1, 0, 0), (.aload_n 0, 1, 0, 0, 0), (.getfield 70, 3, 11, 7, 0), (.if_icmp .gt 14, 3, 29, 0, 0), (.iload_n 2, 1, 2, 0, 0), (.iconst (-1), 1, 0, 0, -1), (.iload_n 1, 1, 1, 0, 0), (.iconst 1, 1, 0, 0, 1), (.isub, 1, 0, 0, 0), (.invokestatic 74, 3, 169, 3, 0), (.ifCond .ne 5, 3, 31, 0, 0)], 29),
  (29, [(.iconst (-1), 1, 0, 0, -1), (.ireturn, 1, 0, 0, 0)], 31),
  (31, [(.aload_n 0, 1, 0, 0, 0), (.iload_n 1, 1, 1, 0, 0), (.invokevirtual 255, 3, 273, 1, 11), (.sipush 161, 3, 0, 0, 161), (.istore_n 3, 1, 3, 0, 0), (.iload_n 2, 1, 2, 0, 0), (.iconst (-1), 1, 0, 0, -1), (.if_icmp .ne 12, 3, 54, 0, 0), (.aload_n 0, 1, 0, 0, 0), (.getfield 64, 3, 11, 26, 0), (.iload_n 3, 1, 3, 0, 0), (.iload_n 1, 1, 1, 0, 0), (.imul, 1, 0, 0, 0), (.iaload, 1, 0, 0, 0), (.ireturn, 1, 0, 0, 0)], 54),
  (54, [(.iconst 0, 1, 0, 0, 0), (.istore 4, 2, 4, 0, 0), (.iload_n 1, 1, 1, 0, 0), (.istore 5, 2, 5, 0, 0)], 60),
  (60, [(.iload 5, 2, 5, 0, 0), (.iload_n 1, 1, 1, 0, 0), (.iload_n 2, 1, 2, 0, 0), (.isub, 1, 0, 0, 0), (.if_icmp .le 25, 3, 90, 0, 0), (.aload_n 0, 1, 0, 0, 0), (.getfield 67, 3, 11, 27, 0), (.iload_n 3, 1, 3, 0, 0), (.iload 5, 2, 5, 0, 0), (.imul, 1, 0, 0, 0), (.iload 4, 2, 4, 0, 0), (.iadd, 1, 0, 0, 0), (.iaload, 1, 0, 0, 0), (.iconst 1, 1, 0, 0, 1), (.iadd, 1, 0, 0, 0), (.istore 4, 2, 4, 0, 0), (.iinc 5 (-1), 3, 5, 0, -1), (.goto (-27), 3, 60, 0, 0)], 90),
  (90, [(.aload_n 0, 1, 0, 0, 0), (.getfield 67, 3, 11, 27, 0), (.iload_n 3, 1, 3, 0, 0), (.iload_n 1, 1, 1, 0, 0), (.iload_n 2, 1, 2, 0, 0), (.isub, 1, 0, 0, 0), (.imul, 1, 0, 0, 0), (.iload 4, 2, 4, 0, 0), (.iadd, 1, 0, 0, 0), (.iaload, 1, 0, 0, 0), (.ireturn, 1, 0, 0, 0)], 104)]
set_option maxRecDepth 100000 in
theorem ok_X11_best : pm_oks 11 false 6 (some .int) cX11_best bk_X11_best = true := oksG_ok (by decide +kernel)
set_option maxRecDepth 100000 in
theorem me_X11_best : pm_me 272 = (yX11_best, cX11_best, 6, (some .int), 2, 0) := pm_mq_ok rfl
theorem mt_X11_best {l : Launch} {g : pm_G} {d mc ms : Nat} {as : List Value} {A : pm_H} {Q : Option Value → pm_H → Prop} (hca : pm_cat 6 as = true) (body : ∀ J : pm_J, pm_Cl l g (fun _ => none) d mc ms (pm_Rq mc ms Q) bk_X11_best J → J 0 (pm_l0 6 as) [] A 0 0) : pm_Mt l g 272 d mc ms as A Q := pm_Mt_of (isI := false) 11 bk_X11_best me_X11_best (plainFor_of_name plX11) rfl (fun h => by cases h) ok_X11_best hca body
noncomputable def bk_X11_layBest : pm_B := [(0, [(.sipush 161, 3, 0, 0, 161), (.istore_n 2, 1, 2, 0, 0), (.iconst 0, 1, 0, 0, 0), (.istore_n 3, 1, 3, 0, 0)], 6),
  (6, [(.iload_n 3, 1, 3, 0, 0), (.iload_n 1, 1, 1, 0, 0), (.if_icmp .gt 77, 3, 85, 0, 0), (.aload_n 0, 1, 0, 0, 0), (.getfield 70, 3, 11, 7, 0), (.istore 4, 2, 4, 0, 0)], 17),
  (17, [(.iload 4, 2, 4, 0, 0), (.ifCond .lt 60, 3, 79, 0, 0), (.aload_n 0, 1, 0, 0, 0), (.getfield 64, 3, 11, 26, 0), (.iload_n 2, 1, 2, 0, 0), (.iload_n 3, 1, 3, 0, 0), (.imul, 1, 0, 0, 0), (.iload 4, 2, 4, 0, 0), (.iadd, 1, 0, 0, 0), (.iload_n 3, 1, 3, 0, 0), (.ifCond .ne 16, 3, 49, 0, 0), (.iload 4, 2, 4, 0, 0), (.aload_n 0, 1, 0, 0, 0), (.getfield 70, 3, 11, 7, 0), (.if_icmp .ne 7, 3, 49, 0, 0), (.iconst 0, 1, 0, 0, 0), (.goto 5, 3, 51, 0, 0)], 49),
  (49, [(.ldc 177, 2, 0, 0, -268435456)], 51),
  (51, [(.iastore, 1, 0, 0, 0), (.iload_n 3, 1, 3, 0, 0), (.ifCond .le 20, 3, 73, 0, 0), (.iload 4, 2, 4, 0, 0), (.aload_n 0, 1, 0, 0, 0), (.getfield 70, 3, 11, 7, 0), (.if_icmp .ge 11, 3, 73, 0, 0), (.aload_n 0, 1, 0, 0, 0), (.iload_n 3, 1, 3, 0, 0), (.iload 4, 2, 4, 0, 0), (.iload_n 2, 1, 2, 0, 0), (.invokevirtual 251, 3, 274, 3, 11)], 73),
  (73, [(.iinc 4 (-1), 3, 4, 0, -1), (.goto (-59), 3, 17, 0, 0)], 79),
  (79, [(.iinc 3 1, 3, 3, 0, 1), (.goto (-76), 3, 6, 0, 0)], 85),
  (85, [(.return_, 1, 0, 0, 0)], 86)]
set_option maxRecDepth 100000 in
theorem ok_X11_layBest : pm_oks 11 false 5 none cX11_layBest bk_X11_layBest = true := oksG_ok (by decide +kernel)
set_option maxRecDepth 100000 in
theorem me_X11_layBest : pm_me 273 = (yX11_layBest, cX11_layBest, 5, none, 1, 0) := pm_mq_ok rfl
theorem mt_X11_layBest {l : Launch} {g : pm_G} {d mc ms : Nat} {as : List Value} {A : pm_H} {Q : Option Value → pm_H → Prop} (hca : pm_cat 5 as = true) (body : ∀ J : pm_J, pm_Cl l g (fun _ => none) d mc ms (pm_Rq mc ms Q) bk_X11_layBest J → J 0 (pm_l0 5 as) [] A 0 0) : pm_Mt l g 273 d mc ms as A Q := pm_Mt_of (isI := false) 11 bk_X11_layBest me_X11_layBest (plainFor_of_name plX11) rfl (fun h => by cases h) ok_X11_layBest hca body
noncomputable def bk_X11_layPart : pm_B := [(0, [(.iconst 0, 1, 0, 0, 0), (.istore 4, 2, 4, 0, 0), (.iload_n 2, 1, 2, 0, 0), (.istore 5, 2, 5, 0, 0)], 6),
  (6, [(.iload 5, 2, 5, 0, 0), (.aload_n 0, 1, 0, 0, 0), (.getfield 70, 3, 11, 7, 0), (.if_icmp .ge 93, 3, 105, 0, 0), (.iload 4, 2, 4, 0, 0), (.iconst 1, 1, 0, 0, 1), (.aload_n 0, 1, 0, 0, 0), (.getfield 7, 3, 11, 0, 0), (.iload 5, 2, 5, 0, 0), (.iaload, 1, 0, 0, 0), (.ishl, 1, 0, 0, 0), (.ior, 1, 0, 0, 0), (.istore 4, 2, 4, 0, 0), (.iload 4, 2, 4, 0, 0), (.invokestatic 165, 3, 207, 1, 0), (.aload_n 0, 1, 0, 0, 0), (.getfield 64, 3, 11, 26, 0), (.iload_n 3, 1, 3, 0, 0), (.iload_n 1, 1, 1, 0, 0), (.iconst 1, 1, 0, 0, 1), (.isub, 1, 0, 0, 0), (.imul, 1, 0, 0, 0), (.iload 5, 2, 5, 0, 0), (.iadd, 1, 0, 0, 0), (.iconst 1, 1, 0, 0, 1), (.iadd, 1, 0, 0, 0), (.iaload, 1, 0, 0, 0), (.iadd, 1, 0, 0, 0), (.istore 6, 2, 6, 0, 0), (.iload 6, 2, 6, 0, 0), (.aload_n 0, 1, 0, 0, 0), (.getfield 64, 3, 11, 26, 0), (.iload_n 3, 1, 3, 0, 0), (.iload_n 1, 1, 1, 0, 0), (.imul, 1, 0, 0, 0), (.iload_n 2, 1, 2, 0, 0), (.iadd, 1, 0, 0, 0), (.iaload, 1, 0, 0, 0), (.if_icmp .le 35, 3, 99, 0, 0), (.iload 6, 2, 6, 0, 0), (.ifCond .ge 6, 3, 75, 0, 0), (.goto 27, 3, 99, 0, 0)], 75),
  (75, [(.aload_n 0, 1, 0, 0, 0), (.getfield 64, 3, 11, 26, 0), (.iload_n 3, 1, 3, 0, 0), (.iload_n 1, 1, 1, 0, 0), (.imul, 1, 0, 0, 0), (.iload_n 2, 1, 2, 0, 0), (.iadd, 1, 0, 0, 0), (.iload 6, 2, 6, 0, 0), (.iastore, 1, 0, 0, 0), (.aload_n 0, 1, 0, 0, 0), (.getfield 67, 3, 11, 27, 0), (.iload_n 3, 1, 3, 0, 0), (.iload_n 1, 1, 1, 0, 0), (.imul, 1, 0, 0, 0), (.iload_n 2, 1, 2, 0, 0), (.iadd, 1, 0, 0, 0), (.iload 5, 2, 5, 0, 0), (.iastore, 1, 0, 0, 0)], 99),
  (99, [(.iinc 5 1, 3, 5, 0, 1), (.goto (-96), 3, 6, 0, 0)], 105),
  (105, [(.return_, 1, 0, 0, 0)], 106)]
set_option maxRecDepth 100000 in
theorem ok_X11_layPart : pm_oks 11 false 7 none cX11_layPart bk_X11_layPart = true := oksG_ok (by decide +kernel)
set_option maxRecDepth 100000 in
theorem me_X11_layPart : pm_me 274 = (yX11_layPart, cX11_layPart, 7, none, 3, 0) := pm_mq_ok rfl
theorem mt_X11_layPart {l : Launch} {g : pm_G} {d mc ms : Nat} {as : List Value} {A : pm_H} {Q : Option Value → pm_H → Prop} (hca : pm_cat 7 as = true) (body : ∀ J : pm_J, pm_Cl l g (fun _ => none) d mc ms (pm_Rq mc ms Q) bk_X11_layPart J → J 0 (pm_l0 7 as) [] A 0 0) : pm_Mt l g 274 d mc ms as A Q := pm_Mt_of (isI := false) 11 bk_X11_layPart me_X11_layPart (plainFor_of_name plX11) rfl (fun h => by cases h) ok_X11_layPart hca body
noncomputable def bk_X11_ask : pm_B := [(0, [(.aload_n 0, 1, 0, 0, 0), (.getfield 168, 3, 11, 17, 0), (.bipush 30, 2, 0, 0, 30), (.if_icmp .ge 29, 3, 35, 0, 0), (.aload_n 0, 1, 0, 0, 0), (.iload_n 1, 1, 1, 0, 0), (.invokevirtual 206, 3, 197, 1, 11), (.ifCond .lt 21, 3, 35, 0, 0), (.aload_n 0, 1, 0, 0, 0), (.iload_n 2, 1, 2, 0, 0), (.invokevirtual 206, 3, 197, 1, 11), (.ifCond .lt 13, 3, 35, 0, 0), (.aload_n 0, 1, 0, 0, 0), (.iconst (-1), 1, 0, 0, -1), (.iload_n 1, 1, 1, 0, 0), (.iload_n 2, 1, 2, 0, 0), (.invokevirtual 258, 3, 276, 3, 11), (.goto 4, 3, 36, 0, 0)], 35),
  (35, [(.iconst (-1), 1, 0, 0, -1)], 36),
  (36, [(.ireturn, 1, 0, 0, 0)], 37)]
set_option maxRecDepth 100000 in
theorem ok_X11_ask : pm_oks 11 false 3 (some .int) cX11_ask bk_X11_ask = true := oksG_ok (by decide +kernel)
set_option maxRecDepth 100000 in
theorem me_X11_ask : pm_me 275 = (yX11_ask, cX11_ask, 3, (some .int), 2, 0) := pm_mq_ok rfl
theorem mt_X11_ask {l : Launch} {g : pm_G} {d mc ms : Nat} {as : List Value} {A : pm_H} {Q : Option Value → pm_H → Prop} (hca : pm_cat 3 as = true) (body : ∀ J : pm_J, pm_Cl l g (fun _ => none) d mc ms (pm_Rq mc ms Q) bk_X11_ask J → J 0 (pm_l0 3 as) [] A 0 0) : pm_Mt l g 275 d mc ms as A Q := pm_Mt_of (isI := false) 11 bk_X11_ask me_X11_ask (plainFor_of_name plX11) rfl (fun h => by cases h) ok_X11_ask hca body
noncomputable def bk_X11_asks : pm_B := [(0, [(.aload_n 0, 1, 0, 0, 0), (.getfield 31, 3, 11, 13, 0), (.aload_n 0, 1, 0, 0, 0), (.getfield 168, 3, 11, 17, 0), (.iload_n 2, 1, 2, 0, 0), (.iastore, 1, 0, 0, 0), (.aload_n 0, 1, 0, 0, 0), (.getfield 34, 3, 11, 14, 0), (.aload_n 0, 1, 0, 0, 0), (.getfield 168, 3, 11, 17, 0), (.iload_n 3, 1, 3, 0, 0), (.iastore, 1, 0, 0, 0), (.aload_n 0, 1, 0, 0, 0), (.getfield 43, 3, 11, 18, 0), (.aload_n 0, 1, 0, 0, 0), (.getfield 168, 3, 11, 17, 0), (.iload_n 1, 1, 1, 0, 0), (.iastore, 1, 0, 0, 0), (.aload_n 0, 1, 0, 0, 0), (.getfield 37, 3, 11, 15, 0), (.aload_n 0, 1, 0, 0, 0), (.getfield 168, 3, 11, 17, 0), (.iconst (-1), 1, 0, 0, -1), (.iastore, 1, 0, 0, 0), (.aload_n 0, 1, 0, 0, 0), (.getfield 40, 3, 11, 16, 0), (.aload_n 0, 1, 0, 0, 0), (.getfield 168, 3, 11, 17, 0), (.iconst (-1), 1, 0, 0, -1), (.iastore, 1, 0, 0, 0), (.aload_n 0, 1, 0, 0, 0), (.dup, 1, 0, 0, 0), (.getfield 168, 3, 11, 17, 0), (.iconst 1, 1, 0, 0, 1), (.iadd, 1, 0, 0, 0), (.putfield 168, 3, 11, 17, 0), (.aload_n 0, 1, 0, 0, 0), (.getfield 168, 3, 11, 17, 0), (.iconst 1, 1, 0, 0, 1), (.isub, 1, 0, 0, 0), (.ireturn, 1, 0, 0, 0)], 67)]
set_option maxRecDepth 100000 in
theorem ok_X11_asks : pm_oks 11 false 4 (some .int) cX11_asks bk_X11_asks = true := oksG_ok (by decide +kernel)
set_option maxRecDepth 100000 in
theorem me_X11_asks : pm_me 276 = (yX11_asks, cX11_asks, 4, (some .int), 3, 0) := pm_mq_ok rfl
theorem mt_X11_asks {l : Launch} {g : pm_G} {d mc ms : Nat} {as : List Value} {A : pm_H} {Q : Option Value → pm_H → Prop} (hca : pm_cat 4 as = true) (body : ∀ J : pm_J, pm_Cl l g (fun _ => none) d mc ms (pm_Rq mc ms Q) bk_X11_asks J → J 0 (pm_l0 4 as) [] A 0 0) : pm_Mt l g 276 d mc ms as A Q := pm_Mt_of (isI := false) 11 bk_X11_asks me_X11_asks (plainFor_of_name plX11) rfl (fun h => by cases h) ok_X11_asks hca body
noncomputable def bk_X11_askOf : pm_B := [(0, [(.aload_n 0, 1, 0, 0, 0), (.getfield 168, 3, 11, 17, 0), (.bipush 30, 2, 0, 0, 30), (.if_icmp .eq 37, 3, 43, 0, 0), (.aload_n 0, 1, 0, 0, 0), (.iload_n 1, 1, 1, 0, 0), (.invokevirtual 197, 3, 227, 1, 11), (.ifCond .eq 29, 3, 43, 0, 0), (.iload_n 2, 1, 2, 0, 0), (.ifCond .lt 25, 3, 43, 0, 0), (.iload_n 3, 1, 3, 0, 0), (.ifCond .lt 21, 3, 43, 0, 0), (.aload_n 0, 1, 0, 0, 0), (.iload_n 1, 1, 1, 0, 0), (.iload_n 2, 1, 2, 0, 0), (.invokevirtual 212, 3, 236, 2, 11), (.ifCond .lt 12, 3, 43, 0, 0), (.aload_n 0, 1, 0, 0, 0), (.iload_n 1, 1, 1, 0, 0), (.iload_n 3, 1, 3, 0, 0), (.invokevirtual 212, 3, 236, 2, 11), (.ifCond .ge 5, 3, 45, 0, 0)], 43),
  (43, [(.iconst (-1), 1, 0, 0, -1), (.ireturn, 1, 0, 0, 0)], 45),
  (45, [(.aload_n 0, 1, 0, 0, 0), (.iload_n 1, 1, 1, 0, 0), (.iload_n 2, 1, 2, 0, 0), (.iload_n 3, 1, 3, 0, 0), (.invokevirtual 258, 3, 276, 3, 11), (.ireturn, 1, 0, 0, 0)], 53)]
set_option maxRecDepth 100000 in
theorem ok_X11_askOf : pm_oks 11 false 4 (some .int) cX11_askOf bk_X11_askOf = true := oksG_ok (by decide +kernel)
set_option maxRecDepth 100000 in
theorem me_X11_askOf : pm_me 277 = (yX11_askOf, cX11_askOf, 4, (some .int), 3, 0) := pm_mq_ok rfl
theorem mt_X11_askOf {l : Launch} {g : pm_G} {d mc ms : Nat} {as : List Value} {A : pm_H} {Q : Option Value → pm_H → Prop} (hca : pm_cat 4 as = true) (body : ∀ J : pm_J, pm_Cl l g (fun _ => none) d mc ms (pm_Rq mc ms Q) bk_X11_askOf J → J 0 (pm_l0 4 as) [] A 0 0) : pm_Mt l g 277 d mc ms as A Q := pm_Mt_of (isI := false) 11 bk_X11_askOf me_X11_askOf (plainFor_of_name plX11) rfl (fun h => by cases h) ok_X11_askOf hca body
noncomputable def bk_X11_solve : pm_B := [(0, [(.iconst 0, 1, 0, 0, 0), (.istore_n 1, 1, 1, 0, 0), (.iconst 0, 1, 0, 0, 0), (.istore_n 2, 1, 2, 0, 0)], 4),
  (4, [(.iload_n 2, 1, 2, 0, 0), (.aload_n 0, 1, 0, 0, 0), (.getfield 168, 3, 11, 17, 0), (.if_icmp .ge 160, 3, 169, 0, 0), (.aload_n 0, 1, 0, 0, 0), (.aload_n 0, 1, 0, 0, 0), (.getfield 43, 3, 11, 18, 0), (.iload_n 2, 1, 2, 0, 0), (.iaload, 1, 0, 0, 0), (.aload_n 0, 1, 0, 0, 0), (.getfield 31, 3, 11, 13, 0), (.iload_n 2, 1, 2, 0, 0), (.iaload, 1, 0, 0, 0), (.invokevirtual 261, 3, 279, 2, 11), (.istore_n 3, 1, 3, 0, 0), (.aload_n 0, 1, 0, 0, 0), (.aload_n 0, 1, 0, 0, 0), (.getfield 43, 3, 11, 18, 0), (.iload_n 2, 1, 2, 0, 0), (.iaload, 1, 0, 0, 0), (.aload_n 0, 1, 0, 0, 0), (.getfield 34, 3, 11, 14, 0), (.iload_n 2, 1, 2, 0, 0), (.iaload, 1, 0, 0, 0), (.invokevirtual 261, 3, 279, 2, 11), (.istore 4, 2, 4, 0, 0), (.iload_n 3, 1, 3, 0, 0), (.ifCond .lt 12, 3, 60, 0, 0), (.iload 4, 2, 4, 0, 0), (.ifCond .lt 7, 3, 60, 0, 0), (.iconst 1, 1, 0, 0, 1), (.goto 4, 3, 61, 0, 0)], 60),
  (60, [(.iconst 0, 1, 0, 0, 0)], 61),
  (61, [(.istore 5, 2, 5, 0, 0), (.iload 5, 2, 5, 0, 0), (.ifCond .ne 7, 3, 72, 0, 0), (.iconst 0, 1, 0, 0, 0), (.goto 38, 3, 107, 0, 0)], 72),
  (72, [(.iload_n 3, 1, 3, 0, 0), (.iload 4, 2, 4, 0, 0), (.if_icmp .ge 19, 3, 94, 0, 0), (.aload_n 0, 1, 0, 0, 0), (.aload_n 0, 1, 0, 0, 0), (.getfield 43, 3, 11, 18, 0), (.iload_n 2, 1, 2, 0, 0), (.iaload, 1, 0, 0, 0), (.iload_n 3, 1, 3, 0, 0), (.iload 4, 2, 4, 0, 0), (.invokevirtual 264, 3, 280, 3, 11), (.goto 16, 3, 107, 0, 0)], 94),
  (94, [(.aload_n 0, 1, 0, 0, 0), (.aload_n 0, 1, 0, 0, 0), (.getfield 43, 3, 11, 18, 0), (.iload_n 2, 1, 2, 0, 0), (.iaload, 1, 0, 0, 0), (.iload 4, 2, 4, 0, 0), (.iload_n 3, 1, 3, 0, 0), (.invokevirtual 264, 3, 280, 3, 11)], 107),
  (107, [(.istore 6, 2, 6, 0, 0), (.aload_n 0, 1, 0, 0, 0), (.getfield 37, 3, 11, 15, 0), (.iload_n 2, 1, 2, 0, 0), (.iload 5, 2, 5, 0, 0), (.ifCond .eq 11, 3, 127, 0, 0), (.iload 6, 2, 6, 0, 0), (.invokestatic 165, 3, 207, 1, 0), (.goto 4, 3, 128, 0, 0)], 127),
  (127, [(.iconst (-1), 1, 0, 0, -1)], 128),
  (128, [(.iastore, 1, 0, 0, 0), (.aload_n 0, 1, 0, 0, 0), (.getfield 40, 3, 11, 16, 0), (.iload_n 2, 1, 2, 0, 0), (.iload 5, 2, 5, 0, 0), (.ifCond .eq 12, 3, 148, 0, 0), (.aload_n 0, 1, 0, 0, 0), (.iload 6, 2, 6, 0, 0), (.invokevirtual 174, 3, 211, 1, 11), (.goto 4, 3, 149, 0, 0)], 148),
  (148, [(.iconst (-1), 1, 0, 0, -1)], 149),
  (149, [(.iastore, 1, 0, 0, 0), (.iload_n 1, 1, 1, 0, 0), (.iload 5, 2, 5, 0, 0), (.ifCond .eq 7, 3, 160, 0, 0), (.iconst 1, 1, 0, 0, 1), (.goto 4, 3, 161, 0, 0)], 160),
  (160, [(.iconst 0, 1, 0, 0, 0)], 161),
  (161, [(.iadd, 1, 0, 0, 0), (.istore_n 1, 1, 1, 0, 0), (.iinc 2 1, 3, 2, 0, 1), (.goto (-162), 3, 4, 0, 0)], 169),
  (169, [(.iload_n 1, 1, 1, 0, 0), (.ireturn, 1, 0, 0, 0)], 171)]
set_option maxRecDepth 100000 in
theorem ok_X11_solve : pm_oks 11 false 7 (some .int) cX11_solve bk_X11_solve = true := oksG_ok (by decide +kernel)
set_option maxRecDepth 100000 in
theorem me_X11_solve : pm_me 278 = (yX11_solve, cX11_solve, 7, (some .int), 0, 0) := pm_mq_ok rfl
theorem mt_X11_solve {l : Launch} {g : pm_G} {d mc ms : Nat} {as : List Value} {A : pm_H} {Q : Option Value → pm_H → Prop} (hca : pm_cat 7 as = true) (body : ∀ J : pm_J, pm_Cl l g (fun _ => none) d mc ms (pm_Rq mc ms Q) bk_X11_solve J → J 0 (pm_l0 7 as) [] A 0 0) : pm_Mt l g 278 d mc ms as A Q := pm_Mt_of (isI := false) 11 bk_X11_solve me_X11_solve (plainFor_of_name plX11) rfl (fun h => by cases h) ok_X11_solve hca body
noncomputable def bk_X11_placeBy : pm_B := [(0, [(.iload_n 1, 1, 1, 0, 0), (.iconst (-1), 1, 0, 0, -1), (.if_icmp .ne 11, 3, 13, 0, 0), (.aload_n 0, 1, 0, 0, 0), (.iload_n 2, 1, 2, 0, 0), (.invokevirtual 145, 3, 198, 1, 11), (.goto 21, 3, 31, 0, 0)], 13),
  (13, [(.aload_n 0, 1, 0, 0, 0), (.iload_n 1, 1, 1, 0, 0), (.invokevirtual 197, 3, 227, 1, 11), (.ifCond .eq 12, 3, 30, 0, 0), (.aload_n 0, 1, 0, 0, 0), (.iload_n 1, 1, 1, 0, 0), (.iload_n 2, 1, 2, 0, 0), (.invokevirtual 212, 3, 236, 2, 11), (.goto 4, 3, 31, 0, 0)], 30),
  (30, [(.iconst (-1), 1, 0, 0, -1)], 31),
  (31, [(.ireturn, 1, 0, 0, 0)], 32)]
set_option maxRecDepth 100000 in
theorem ok_X11_placeBy : pm_oks 11 false 3 (some .int) cX11_placeBy bk_X11_placeBy = true := oksG_ok (by decide +kernel)
set_option maxRecDepth 100000 in
theorem me_X11_placeBy : pm_me 279 = (yX11_placeBy, cX11_placeBy, 3, (some .int), 2, 0) := pm_mq_ok rfl
theorem mt_X11_placeBy {l : Launch} {g : pm_G} {d mc ms : Nat} {as : List Value} {A : pm_H} {Q : Option Value → pm_H → Prop} (hca : pm_cat 3 as = true) (body : ∀ J : pm_J, pm_Cl l g (fun _ => none) d mc ms (pm_Rq mc ms Q) bk_X11_placeBy J → J 0 (pm_l0 3 as) [] A 0 0) : pm_Mt l g 279 d mc ms as A Q := pm_Mt_of (isI := false) 11 bk_X11_placeBy me_X11_placeBy (plainFor_of_name plX11) rfl (fun h => by cases h) ok_X11_placeBy hca body
noncomputable def bk_X11_setBy : pm_B := [(0, [(.iload_n 1, 1, 1, 0, 0), (.iconst (-1), 1, 0, 0, -1), (.if_icmp .ne 12, 3, 14, 0, 0), (.aload_n 0, 1, 0, 0, 0), (.iload_n 2, 1, 2, 0, 0), (.iload_n 3, 1, 3, 0, 0), (.invokevirtual 161, 3, 206, 2, 11), (.goto 10, 3, 21, 0, 0)], 14),
  (14, [(.aload_n 0, 1, 0, 0, 0), (.iload_n 1, 1, 1, 0, 0), (.iload_n 2, 1, 2, 0, 0), (.iload_n 3, 1, 3, 0, 0), (.invokevirtual 203, 3, 232, 3, 11)], 21),
  (21, [(.ireturn, 1, 0, 0, 0)], 22)]
set_option maxRecDepth 100000 in
theorem ok_X11_setBy : pm_oks 11 false 4 (some .int) cX11_setBy bk_X11_setBy = true := oksG_ok (by decide +kernel)
set_option maxRecDepth 100000 in
theorem me_X11_setBy : pm_me 280 = (yX11_setBy, cX11_setBy, 4, (some .int), 3, 0) := pm_mq_ok rfl
theorem mt_X11_setBy {l : Launch} {g : pm_G} {d mc ms : Nat} {as : List Value} {A : pm_H} {Q : Option Value → pm_H → Prop} (hca : pm_cat 4 as = true) (body : ∀ J : pm_J, pm_Cl l g (fun _ => none) d mc ms (pm_Rq mc ms Q) bk_X11_setBy J → J 0 (pm_l0 4 as) [] A 0 0) : pm_Mt l g 280 d mc ms as A Q := pm_Mt_of (isI := false) 11 bk_X11_setBy me_X11_setBy (plainFor_of_name plX11) rfl (fun h => by cases h) ok_X11_setBy hca body
noncomputable def bk_X11_asked : pm_B := [(0, [(.iload_n 1, 1, 1, 0, 0), (.iconst 0, 1, 0, 0, 0), (.aload_n 0, 1, 0, 0, 0), (.getfield 168, 3, 11, 17, 0), (.iconst 1, 1, 0, 0, 1), (.isub, 1, 0, 0, 0), (.invokestatic 74, 3, 169, 3, 0), (.ifCond .ne 5, 3, 16, 0, 0), (.iconst (-1), 1, 0, 0, -1), (.ireturn, 1, 0, 0, 0)], 16),
  (16, [(.iload_n 2, 1, 2, 0, 0), (.tableswitch 70 0 4 #[35, 42, 49, 56, 63], 35, 17, 0, 0)], 52),
  (52, [(.aload_n 0, 1, 0, 0, 0), (.getfield 37, 3, 11, 15, 0), (.iload_n 1, 1, 1, 0, 0), (.iaload, 1, 0, 0, 0), (.ireturn, 1, 0, 0, 0)], 59),
  (59, [(.aload_n 0, 1, 0, 0, 0), (.getfield 40, 3, 11, 16, 0), (.iload_n 1, 1, 1, 0, 0), (.iaload, 1, 0, 0, 0), (.ireturn, 1, 0, 0, 0)], 66),
  (66, [(.aload_n 0, 1, 0, 0, 0), (.getfield 31, 3, 11, 13, 0), (.iload_n 1, 1, 1, 0, 0), (.iaload, 1, 0, 0, 0), (.ireturn, 1, 0, 0, 0)], 73),
  (73, [(.aload_n 0, 1, 0, 0, 0), (.getfield 34, 3, 11, 14, 0), (.iload_n 1, 1, 1, 0, 0), (.iaload, 1, 0, 0, 0), (.ireturn, 1, 0, 0, 0)], 80),
  (80, [(.aload_n 0, 1, 0, 0, 0), (.getfield 43, 3, 11, 18, 0), (.iload_n 1, 1, 1, 0, 0), (.iaload, 1, 0, 0, 0), (.ireturn, 1, 0, 0, 0)], 87),
  (87, [(.iconst (-1), 1, 0, 0, -1), (.ireturn, 1, 0, 0, 0)], 89)]
set_option maxRecDepth 100000 in
theorem ok_X11_asked : pm_oks 11 false 3 (some .int) cX11_asked bk_X11_asked = true := oksG_ok (by decide +kernel)
set_option maxRecDepth 100000 in
theorem me_X11_asked : pm_me 281 = (yX11_asked, cX11_asked, 3, (some .int), 2, 0) := pm_mq_ok rfl
theorem mt_X11_asked {l : Launch} {g : pm_G} {d mc ms : Nat} {as : List Value} {A : pm_H} {Q : Option Value → pm_H → Prop} (hca : pm_cat 3 as = true) (body : ∀ J : pm_J, pm_Cl l g (fun _ => none) d mc ms (pm_Rq mc ms Q) bk_X11_asked J → J 0 (pm_l0 3 as) [] A 0 0) : pm_Mt l g 281 d mc ms as A Q := pm_Mt_of (isI := false) 11 bk_X11_asked me_X11_asked (plainFor_of_name plX11) rfl (fun h => by cases h) ok_X11_asked hca body
noncomputable def bk_X11_forget : pm_B := [(0, [(.aload_n 0, 1, 0, 0, 0), (.getfield 168, 3, 11, 17, 0), (.istore_n 1, 1, 1, 0, 0), (.aload_n 0, 1, 0, 0, 0), (.iconst 0, 1, 0, 0, 0), (.putfield 168, 3, 11, 17, 0), (.iload_n 1, 1, 1, 0, 0), (.ireturn, 1, 0, 0, 0)], 12)]
set_option maxRecDepth 100000 in
theorem ok_X11_forget : pm_oks 11 false 2 (some .int) cX11_forget bk_X11_forget = true := oksG_ok (by decide +kernel)
set_option maxRecDepth 100000 in
theorem me_X11_forget : pm_me 282 = (yX11_forget, cX11_forget, 2, (some .int), 0, 0) := pm_mq_ok rfl
theorem mt_X11_forget {l : Launch} {g : pm_G} {d mc ms : Nat} {as : List Value} {A : pm_H} {Q : Option Value → pm_H → Prop} (hca : pm_cat 2 as = true) (body : ∀ J : pm_J, pm_Cl l g (fun _ => none) d mc ms (pm_Rq mc ms Q) bk_X11_forget J → J 0 (pm_l0 2 as) [] A 0 0) : pm_Mt l g 282 d mc ms as A Q := pm_Mt_of (isI := false) 11 bk_X11_forget me_X11_forget (plainFor_of_name plX11) rfl (fun h => by cases h) ok_X11_forget hca body
end
section
/-! the reference: its cells, as a function of its numbers v (0 many, 1 oldMany, 2 nextMany, 3 given, 4 edits, 5 touchedAll, 6 askedMany, 7 shelfSet) and rows f (0 colours, 1 names, 2 weights, 3 oldNames, 4 oldBonds, 5 nextColours, 6 nextNames, 7 askedOne, 8 askedOther, 9 answerCount, 10 answerWeight, 11 askedEdit, 12 wasColours, 13 wasNames, 14 wasMany, 15 wasTouched, 16 row, 17 gaps, 18 worth, 19 ends0) -/
noncomputable def md_fs (q : Nat → Nat) (v : Nat → Int32) : List Value := [.ref (q 0), .ref (q 1), .ref (q 2), .ref (q 3), .ref (q 4), .ref (q 5), .ref (q 6), .int (v 0), .int (v 1), .int (v 2), .int (v 3), .int (v 4), .int (v 5), .ref (q 7), .ref (q 8), .ref (q 9), .ref (q 10), .int (v 6), .ref (q 11), .ref (q 12), .ref (q 13), .ref (q 14), .ref (q 15), .ref (q 16), .int (v 7), .ref (q 17), .ref (q 18), .ref (q 19)]
noncomputable def md_ln (i : Nat) : Nat := ([160, 160, 24, 160, 160, 160, 160, 30, 30, 30, 30, 30, 6400, 6400, 40, 40, 24, 160, 1449, 1449] : List Nat).getD i 0
noncomputable def md (A0 : pm_H) (g : pm_G) (h : Nat) (q : Nat → Nat) (v : Nat → Int32) (f : Nat → Nat → Int32) : pm_H := fun a => if a = h then some (pm_ob 11 (md_fs q v)) else match (List.range 20).find? (fun i => decide (a = q i)) with
  | some i => some (pm_ia g (md_ln i) (f i))
  | none => A0 a
noncomputable def md_D (h : Nat) (q : Nat → Nat) : Prop := (∀ i j, i < 20 → j < 20 → q i = q j → i = j) ∧ ∀ i, i < 20 → q i ≠ h
section MD
variable {A0 : pm_H} {g : pm_G} {h : Nat} {q : Nat → Nat} {v : Nat → Int32} {f : Nat → Nat → Int32}
theorem md_o : md A0 g h q v f h = some (pm_ob 11 (md_fs q v)) := if_pos rfl
theorem md_find (D : md_D h q) {i : Nat} (hi : i < 20) : (List.range 20).find? (fun j => decide (q i = q j)) = some i := by
  cases hx : (List.range 20).find? (fun j => decide (q i = q j)) with
  | none =>
    have := List.find?_eq_none.mp hx i (List.mem_range.mpr hi)
    simp at this
  | some j =>
    have h1 := List.find?_some hx
    have h2 := List.mem_range.mp (List.mem_of_find?_eq_some hx)
    have h3 : q i = q j := by simpa using h1
    rw [D.1 i j hi h2 h3]
theorem md_a (D : md_D h q) {i : Nat} (hi : i < 20) : md A0 g h q v f (q i) = some (pm_ia g (md_ln i) (f i)) := by
  unfold md
  rw [if_neg (D.2 i hi), md_find D hi]
theorem md_st (D : md_D h q) {i : Nat} (hi : i < 20) (x : Nat → Int32) : pm_up (md A0 g h q v f) (q i) (pm_ia g (md_ln i) x) = md A0 g h q v (va_up f i x) := by
  funext a
  by_cases ha : a = q i
  · subst ha
    rw [pm_up_s, md_a D hi]
    simp [va_up]
  · rw [pm_up_n ha]
    unfold md
    by_cases hh : a = h
    · rw [if_pos hh, if_pos hh]
    · rw [if_neg hh, if_neg hh]
      cases hx : (List.range 20).find? (fun j => decide (a = q j)) with
      | none => rfl
      | some j =>
        have h3 : a = q j := by simpa using List.find?_some hx
        have hj : j ≠ i := fun e => ha (by rw [h3, e])
        simp [va_up, hj]
theorem md_pt (D : md_D h q) {v' : Nat → Int32} {fs : List Value} (e : fs = md_fs q v') : pm_up (md A0 g h q v f) h (pm_ob 11 fs) = md A0 g h q v' f := by
  subst e
  funext a
  by_cases ha : a = h
  · subst ha
    rw [pm_up_s, md_o]
  · rw [pm_up_n ha]
    unfold md
    rw [if_neg ha, if_neg ha]
theorem md_a_colours (D : md_D h q) : md A0 g h q v f (q 0) = some (pm_ia g 160 (f 0)) := md_a D (i := 0) (by decide)
theorem md_s_colours (D : md_D h q) (x : Nat → Int32) : pm_up (md A0 g h q v f) (q 0) (pm_ia g 160 x) = md A0 g h q v (va_up f 0 x) := md_st D (i := 0) (by decide) x
theorem md_a_names (D : md_D h q) : md A0 g h q v f (q 1) = some (pm_ia g 160 (f 1)) := md_a D (i := 1) (by decide)
theorem md_s_names (D : md_D h q) (x : Nat → Int32) : pm_up (md A0 g h q v f) (q 1) (pm_ia g 160 x) = md A0 g h q v (va_up f 1 x) := md_st D (i := 1) (by decide) x
theorem md_a_weights (D : md_D h q) : md A0 g h q v f (q 2) = some (pm_ia g 24 (f 2)) := md_a D (i := 2) (by decide)
theorem md_s_weights (D : md_D h q) (x : Nat → Int32) : pm_up (md A0 g h q v f) (q 2) (pm_ia g 24 x) = md A0 g h q v (va_up f 2 x) := md_st D (i := 2) (by decide) x
theorem md_a_oldNames (D : md_D h q) : md A0 g h q v f (q 3) = some (pm_ia g 160 (f 3)) := md_a D (i := 3) (by decide)
theorem md_s_oldNames (D : md_D h q) (x : Nat → Int32) : pm_up (md A0 g h q v f) (q 3) (pm_ia g 160 x) = md A0 g h q v (va_up f 3 x) := md_st D (i := 3) (by decide) x
theorem md_a_oldBonds (D : md_D h q) : md A0 g h q v f (q 4) = some (pm_ia g 160 (f 4)) := md_a D (i := 4) (by decide)
theorem md_s_oldBonds (D : md_D h q) (x : Nat → Int32) : pm_up (md A0 g h q v f) (q 4) (pm_ia g 160 x) = md A0 g h q v (va_up f 4 x) := md_st D (i := 4) (by decide) x
theorem md_a_nextColours (D : md_D h q) : md A0 g h q v f (q 5) = some (pm_ia g 160 (f 5)) := md_a D (i := 5) (by decide)
theorem md_s_nextColours (D : md_D h q) (x : Nat → Int32) : pm_up (md A0 g h q v f) (q 5) (pm_ia g 160 x) = md A0 g h q v (va_up f 5 x) := md_st D (i := 5) (by decide) x
theorem md_a_nextNames (D : md_D h q) : md A0 g h q v f (q 6) = some (pm_ia g 160 (f 6)) := md_a D (i := 6) (by decide)
theorem md_s_nextNames (D : md_D h q) (x : Nat → Int32) : pm_up (md A0 g h q v f) (q 6) (pm_ia g 160 x) = md A0 g h q v (va_up f 6 x) := md_st D (i := 6) (by decide) x
theorem md_a_askedOne (D : md_D h q) : md A0 g h q v f (q 7) = some (pm_ia g 30 (f 7)) := md_a D (i := 7) (by decide)
theorem md_s_askedOne (D : md_D h q) (x : Nat → Int32) : pm_up (md A0 g h q v f) (q 7) (pm_ia g 30 x) = md A0 g h q v (va_up f 7 x) := md_st D (i := 7) (by decide) x
theorem md_a_askedOther (D : md_D h q) : md A0 g h q v f (q 8) = some (pm_ia g 30 (f 8)) := md_a D (i := 8) (by decide)
theorem md_s_askedOther (D : md_D h q) (x : Nat → Int32) : pm_up (md A0 g h q v f) (q 8) (pm_ia g 30 x) = md A0 g h q v (va_up f 8 x) := md_st D (i := 8) (by decide) x
theorem md_a_answerCount (D : md_D h q) : md A0 g h q v f (q 9) = some (pm_ia g 30 (f 9)) := md_a D (i := 9) (by decide)
theorem md_s_answerCount (D : md_D h q) (x : Nat → Int32) : pm_up (md A0 g h q v f) (q 9) (pm_ia g 30 x) = md A0 g h q v (va_up f 9 x) := md_st D (i := 9) (by decide) x
theorem md_a_answerWeight (D : md_D h q) : md A0 g h q v f (q 10) = some (pm_ia g 30 (f 10)) := md_a D (i := 10) (by decide)
theorem md_s_answerWeight (D : md_D h q) (x : Nat → Int32) : pm_up (md A0 g h q v f) (q 10) (pm_ia g 30 x) = md A0 g h q v (va_up f 10 x) := md_st D (i := 10) (by decide) x
theorem md_a_askedEdit (D : md_D h q) : md A0 g h q v f (q 11) = some (pm_ia g 30 (f 11)) := md_a D (i := 11) (by decide)
theorem md_s_askedEdit (D : md_D h q) (x : Nat → Int32) : pm_up (md A0 g h q v f) (q 11) (pm_ia g 30 x) = md A0 g h q v (va_up f 11 x) := md_st D (i := 11) (by decide) x
theorem md_a_wasColours (D : md_D h q) : md A0 g h q v f (q 12) = some (pm_ia g 6400 (f 12)) := md_a D (i := 12) (by decide)
theorem md_s_wasColours (D : md_D h q) (x : Nat → Int32) : pm_up (md A0 g h q v f) (q 12) (pm_ia g 6400 x) = md A0 g h q v (va_up f 12 x) := md_st D (i := 12) (by decide) x
theorem md_a_wasNames (D : md_D h q) : md A0 g h q v f (q 13) = some (pm_ia g 6400 (f 13)) := md_a D (i := 13) (by decide)
theorem md_s_wasNames (D : md_D h q) (x : Nat → Int32) : pm_up (md A0 g h q v f) (q 13) (pm_ia g 6400 x) = md A0 g h q v (va_up f 13 x) := md_st D (i := 13) (by decide) x
theorem md_a_wasMany (D : md_D h q) : md A0 g h q v f (q 14) = some (pm_ia g 40 (f 14)) := md_a D (i := 14) (by decide)
theorem md_s_wasMany (D : md_D h q) (x : Nat → Int32) : pm_up (md A0 g h q v f) (q 14) (pm_ia g 40 x) = md A0 g h q v (va_up f 14 x) := md_st D (i := 14) (by decide) x
theorem md_a_wasTouched (D : md_D h q) : md A0 g h q v f (q 15) = some (pm_ia g 40 (f 15)) := md_a D (i := 15) (by decide)
theorem md_s_wasTouched (D : md_D h q) (x : Nat → Int32) : pm_up (md A0 g h q v f) (q 15) (pm_ia g 40 x) = md A0 g h q v (va_up f 15 x) := md_st D (i := 15) (by decide) x
theorem md_a_row (D : md_D h q) : md A0 g h q v f (q 16) = some (pm_ia g 24 (f 16)) := md_a D (i := 16) (by decide)
theorem md_s_row (D : md_D h q) (x : Nat → Int32) : pm_up (md A0 g h q v f) (q 16) (pm_ia g 24 x) = md A0 g h q v (va_up f 16 x) := md_st D (i := 16) (by decide) x
theorem md_a_gaps (D : md_D h q) : md A0 g h q v f (q 17) = some (pm_ia g 160 (f 17)) := md_a D (i := 17) (by decide)
theorem md_s_gaps (D : md_D h q) (x : Nat → Int32) : pm_up (md A0 g h q v f) (q 17) (pm_ia g 160 x) = md A0 g h q v (va_up f 17 x) := md_st D (i := 17) (by decide) x
theorem md_a_worth (D : md_D h q) : md A0 g h q v f (q 18) = some (pm_ia g 1449 (f 18)) := md_a D (i := 18) (by decide)
theorem md_s_worth (D : md_D h q) (x : Nat → Int32) : pm_up (md A0 g h q v f) (q 18) (pm_ia g 1449 x) = md A0 g h q v (va_up f 18 x) := md_st D (i := 18) (by decide) x
theorem md_a_ends0 (D : md_D h q) : md A0 g h q v f (q 19) = some (pm_ia g 1449 (f 19)) := md_a D (i := 19) (by decide)
theorem md_s_ends0 (D : md_D h q) (x : Nat → Int32) : pm_up (md A0 g h q v f) (q 19) (pm_ia g 1449 x) = md A0 g h q v (va_up f 19 x) := md_st D (i := 19) (by decide) x
theorem md_p_many (D : md_D h q) (x : Int32) : pm_up (md A0 g h q v f) h (pm_ob 11 ((md_fs q v).set 7 (.int x))) = md A0 g h q (upd v 0 x) f := md_pt D rfl
theorem md_p_oldMany (D : md_D h q) (x : Int32) : pm_up (md A0 g h q v f) h (pm_ob 11 ((md_fs q v).set 8 (.int x))) = md A0 g h q (upd v 1 x) f := md_pt D rfl
theorem md_p_nextMany (D : md_D h q) (x : Int32) : pm_up (md A0 g h q v f) h (pm_ob 11 ((md_fs q v).set 9 (.int x))) = md A0 g h q (upd v 2 x) f := md_pt D rfl
theorem md_p_given (D : md_D h q) (x : Int32) : pm_up (md A0 g h q v f) h (pm_ob 11 ((md_fs q v).set 10 (.int x))) = md A0 g h q (upd v 3 x) f := md_pt D rfl
theorem md_p_edits (D : md_D h q) (x : Int32) : pm_up (md A0 g h q v f) h (pm_ob 11 ((md_fs q v).set 11 (.int x))) = md A0 g h q (upd v 4 x) f := md_pt D rfl
theorem md_p_touchedAll (D : md_D h q) (x : Int32) : pm_up (md A0 g h q v f) h (pm_ob 11 ((md_fs q v).set 12 (.int x))) = md A0 g h q (upd v 5 x) f := md_pt D rfl
theorem md_p_askedMany (D : md_D h q) (x : Int32) : pm_up (md A0 g h q v f) h (pm_ob 11 ((md_fs q v).set 17 (.int x))) = md A0 g h q (upd v 6 x) f := md_pt D rfl
theorem md_p_shelfSet (D : md_D h q) (x : Int32) : pm_up (md A0 g h q v f) h (pm_ob 11 ((md_fs q v).set 24 (.int x))) = md A0 g h q (upd v 7 x) f := md_pt D rfl
end MD
/-! numbers of the machine as whole numbers -/
theorem pm_add (x y : Int32) (h1 : -2147483648 ≤ x.toInt + y.toInt) (h2 : x.toInt + y.toInt < 2147483648) : (x + y).toInt = x.toInt + y.toInt := by
  rw [Int32.toInt_add]
  exact Int.bmod_eq_of_le (by omega) (by omega)
theorem pm_sub (x y : Int32) (h1 : -2147483648 ≤ x.toInt - y.toInt) (h2 : x.toInt - y.toInt < 2147483648) : (x - y).toInt = x.toInt - y.toInt := by
  rw [Int32.toInt_sub]
  exact Int.bmod_eq_of_le (by omega) (by omega)
theorem pm_rng (x : Int32) : -2147483648 ≤ x.toInt ∧ x.toInt < 2147483648 := ⟨Int32.le_toInt x, Int32.toInt_lt x⟩
theorem pm_eqI {x y : Int32} (h : x.toInt = y.toInt) : x = y := Int32.toInt_inj.mp h
theorem pm_neI {x y : Int32} (h : ¬ x = y) : x.toInt ≠ y.toInt := fun q => h (pm_eqI q)
end
section
/-! what is always so of the reference's numbers and rows; the ends of its contracts -/
noncomputable def md_V (v : Nat → Int32) : Prop := (0 ≤ (v 0).toInt ∧ (v 0).toInt ≤ 160) ∧ (0 ≤ (v 1).toInt ∧ (v 1).toInt ≤ 160) ∧ (0 ≤ (v 2).toInt ∧ (v 2).toInt ≤ 160) ∧ (0 ≤ (v 3).toInt ∧ (v 3).toInt ≤ 10000) ∧ (0 ≤ (v 4).toInt ∧ (v 4).toInt ≤ 100000) ∧ (0 ≤ (v 6).toInt ∧ (v 6).toInt ≤ 30)
noncomputable def md_lo (i : Nat) : Int := ([0, -2147483648, -2147483648, -2147483648, -2147483648, 0, -2147483648, -2147483648, -2147483648, -2147483648, -2147483648, -2147483648, 0, -2147483648, 0, -2147483648, 0, -2147483648, -2147483648, 0] : List Int).getD i (-2147483648)
noncomputable def md_hi (i : Nat) : Int := ([23, 2147483647, 2147483647, 2147483647, 2147483647, 23, 2147483647, 2147483647, 2147483647, 2147483647, 2147483647, 2147483647, 23, 2147483647, 160, 2147483647, 23, 2147483647, 2147483647, 159] : List Int).getD i 2147483647
noncomputable def md_F (f : Nat → Nat → Int32) : Prop := ∀ i j : Nat, md_lo i ≤ (f i j).toInt ∧ (f i j).toInt ≤ md_hi i
theorem md_F_st {f : Nat → Nat → Int32} (h : md_F f) (a k : Nat) (x : Int32) (hx : md_lo a ≤ x.toInt ∧ x.toInt ≤ md_hi a) : md_F (va_up f a (upd (f a) k x)) := by
  intro i j
  by_cases hi : i = a
  · subst hi
    by_cases hj : j = k
    · subst hj
      simpa [va_up, upd] using hx
    · simpa [va_up, upd, hj] using h i j
  · simpa [va_up, hi] using h i j
theorem md_rng (a : Nat) (x : Int32) (h : md_lo a = -2147483648 ∧ md_hi a = 2147483647) : md_lo a ≤ x.toInt ∧ x.toInt ≤ md_hi a := by
  rw [h.1, h.2]
  have := pm_rng x
  omega
noncomputable def md_Qp (M : pm_H) (P : Int32 → Prop) : Option Value → pm_H → Prop := fun r A' => ∃ x : Int32, r = some (.int x) ∧ A' = M ∧ P x
noncomputable def md_Qj (M : pm_H) (P : Int64 → Prop) : Option Value → pm_H → Prop := fun r A' => ∃ x : Int64, r = some (.long x) ∧ A' = M ∧ P x
noncomputable def md_Qw (A0 : pm_H) (g : pm_G) (h : Nat) (q : Nat → Nat) (f : Nat → Nat → Int32) (P : Int32 → (Nat → Int32) → (Nat → Nat → Int32) → Prop) : Option Value → pm_H → Prop := fun r A' => ∃ (x : Int32) (v2 : Nat → Int32) (f2 : Nat → Nat → Int32), r = some (.int x) ∧ A' = md A0 g h q v2 f2 ∧ md_V v2 ∧ md_F f2 ∧ f2 2 = f 2 ∧ P x v2 f2
noncomputable def md_Qv (A0 : pm_H) (g : pm_G) (h : Nat) (q : Nat → Nat) (f : Nat → Nat → Int32) (P : (Nat → Int32) → (Nat → Nat → Int32) → Prop) : Option Value → pm_H → Prop := fun r A' => ∃ (v2 : Nat → Int32) (f2 : Nat → Nat → Int32), r = none ∧ A' = md A0 g h q v2 f2 ∧ md_V v2 ∧ md_F f2 ∧ f2 2 = f 2 ∧ P v2 f2
theorem pm_mulc (x y : Int32) (k : Int) (hk : y.toInt = k) (h1 : -2147483648 ≤ x.toInt * k) (h2 : x.toInt * k < 2147483648) : (x * y).toInt = x.toInt * k := by
  rw [Int32.toInt_mul, hk]
  exact Int.bmod_eq_of_le (by omega) (by omega)
theorem pm_mulk (x y : Int32) (k : Int) (hk : x.toInt = k) (h1 : -2147483648 ≤ k * y.toInt) (h2 : k * y.toInt < 2147483648) : (x * y).toInt = k * y.toInt := by
  rw [Int32.toInt_mul, hk]
  exact Int.bmod_eq_of_le (by omega) (by omega)
theorem pm_rem (x y : Int32) (hx : 0 ≤ x.toInt) (hy : 0 < y.toInt) : 0 ≤ (x - x / y * y).toInt ∧ (x - x / y * y).toInt < y.toInt ∧ (x - x / y * y).toInt = x.toInt % y.toInt := by
  obtain ⟨a, ha, rfl⟩ := nI_of (x := x) (fun h => by have := (pm_lt0 x).mp h; omega)
  obtain ⟨d, hd, rfl⟩ := nI_of (x := y) (fun h => by have := (pm_lt0 y).mp h; omega)
  rw [nI_toInt hd] at hy
  have hd0 : 0 < d := by omega
  have hm : a % d < d := Nat.mod_lt _ hd0
  rw [pk_rem ha hd0 hd, nI_toInt (by omega), nI_toInt ha, nI_toInt hd]
  refine ⟨by omega, by omega, by omega⟩
theorem pm_swc {pc : Nat} {dflt lo hi : Int} {offs : Array Int} {x : Int32} {P : Nat → Prop} (N : Nat) (hN : offs.size = N) (hN2 : hi - lo + 1 = (N : Int)) (h0 : (x.toInt < lo ∨ hi < x.toInt) → P ((pc : Int) + dflt).toNat) (h1 : ∀ i : Nat, i < N → x.toInt = lo + i → P (((pc : Int) + offs.getD i 0).toNat)) : ∀ t : Nat, pm_sw pc dflt lo hi offs x t → P t := by
  intro t ht
  rcases ht with ⟨h, rfl⟩ | ⟨h2, h3, off, h4, rfl⟩
  · exact h0 h
  · have h5 : (x.toInt - lo).toNat < N := by omega
    have h6 := h1 (x.toInt - lo).toNat h5 (by omega)
    rw [Array.getD_eq_getD_getElem?, h4] at h6
    exact h6
/-- the last place ahead of n that holds x -/
noncomputable def lastEq (c : Nat → Int32) (x : Int32) : Nat → Int
  | 0 => -1
  | k + 1 => if c k = x then (k : Int) else lastEq c x k
theorem lastEq_lt (c : Nat → Int32) (x : Int32) : ∀ n : Nat, -1 ≤ lastEq c x n ∧ lastEq c x n < n
  | 0 => by simp [lastEq]
  | k + 1 => by
    have := lastEq_lt c x k
    unfold lastEq
    split <;> omega
theorem lastEq_y {c : Nat → Int32} {x : Int32} {k : Nat} (h : c k = x) : lastEq c x (k + 1) = k := by unfold lastEq; rw [if_pos h]
theorem lastEq_n {c : Nat → Int32} {x : Int32} {k : Nat} (h : ¬ c k = x) : lastEq c x (k + 1) = lastEq c x k := by rw [lastEq, if_neg h]
theorem lastEq_s {c : Nat → Int32} {x : Int32} {a : Int} (ha : 0 ≤ a) : lastEq c x (a + 1).toNat = if c a.toNat = x then a else lastEq c x a.toNat := by
  obtain ⟨k, rfl⟩ := Int.eq_ofNat_of_zero_le ha
  have : ((k : Int) + 1).toNat = k + 1 := by omega
  rw [this, Int.toNat_natCast, lastEq]
/-- bits one by one -/
theorem pm_bits_lt {x : Int32} (h : ¬ x = 0) : (x &&& (x - 1)).toBitVec.toNat < x.toBitVec.toNat := by
  have h0 : x.toBitVec ≠ 0 := fun q => h (by
    have : x = ⟨⟨x.toBitVec⟩⟩ := rfl
    rw [this, q]; rfl)
  have h1 : (x &&& (x - 1)).toBitVec = x.toBitVec &&& (x.toBitVec - 1) := rfl
  rw [h1, BitVec.toNat_and]
  have h2 : x.toBitVec.toNat &&& (x.toBitVec - 1).toNat ≤ (x.toBitVec - 1).toNat := Nat.and_le_right
  have h3 : x.toBitVec.toNat ≠ 0 := fun q => h0 (BitVec.eq_of_toNat_eq (by simpa using q))
  have h4 : (x.toBitVec - 1).toNat = x.toBitVec.toNat - 1 := by
    rw [BitVec.toNat_sub]
    have := x.toBitVec.isLt
    have h5 : (1 : BitVec 32).toNat = 1 := rfl
    rw [h5]
    omega
  omega
/-- the next place from k on, of n, that holds x -/
noncomputable def nextEq (c : Nat → Int32) (x : Int32) : Nat → Nat → Int
  | _, 0 => -1
  | k, n + 1 => if c k = x then (k : Int) else nextEq c x (k + 1) n
theorem nextEq_lt (c : Nat → Int32) (x : Int32) : ∀ k n : Nat, nextEq c x k n = -1 ∨ ((k : Int) ≤ nextEq c x k n ∧ nextEq c x k n < k + n)
  | k, 0 => by simp [nextEq]
  | k, n + 1 => by
    have := nextEq_lt c x (k + 1) n
    unfold nextEq
    split <;> omega
theorem nextEq_s {c : Nat → Int32} {x : Int32} {a m : Int} (ha : 0 ≤ a) (hm : a < m) : nextEq c x a.toNat (m - a).toNat = if c a.toNat = x then a else nextEq c x (a + 1).toNat (m - (a + 1)).toNat := by
  obtain ⟨k, rfl⟩ := Int.eq_ofNat_of_zero_le ha
  rw [show (m - (k : Int)).toNat = (m - ((k : Int) + 1)).toNat + 1 by omega, nextEq, show ((k : Int) + 1).toNat = k + 1 by omega, Int.toNat_natCast]
/-- the set of the colours of n places from l on -/
noncomputable def setF (c : Nat → Int32) (l : Nat) : Nat → Int32
  | 0 => 0
  | k + 1 => setF c l k ||| ((1 : Int32) <<< (c (l + k) &&& 31))
theorem setF_s {c : Nat → Int32} {l : Int} {p m : Int32} (hl : 0 ≤ l) (h : l ≤ p.toInt ∧ m.toInt = p.toInt + 1) : setF c l.toNat (p.toInt - l).toNat ||| ((1 : Int32) <<< (c p.toInt.toNat &&& 31)) = setF c l.toNat (m.toInt - l).toNat := by
  rw [h.2, show (p.toInt + 1 - l).toNat = (p.toInt - l).toNat + 1 by omega, setF, show l.toNat + (p.toInt - l).toNat = p.toInt.toNat by omega]
theorem pm_addc (x y : Int32) (k : Int) (hk : y.toInt = k) (h1 : -2147483648 ≤ x.toInt + k) (h2 : x.toInt + k < 2147483648) : (x + y).toInt = x.toInt + k := by
  rw [← hk] at h1 h2 ⊢
  exact pm_add x y h1 h2
theorem pm_subc (x y : Int32) (k : Int) (hk : y.toInt = k) (h1 : -2147483648 ≤ x.toInt - k) (h2 : x.toInt - k < 2147483648) : (x - y).toInt = x.toInt - k := by
  rw [← hk] at h1 h2 ⊢
  exact pm_sub x y h1 h2
end
section
/-! ===== Int32 by its bits: bt x i ===== -/
noncomputable def bt (x : Int32) (i : Nat) : Bool := x.toBitVec.getLsbD i
theorem b_ext {x y : Int32} (h : ∀ i, i < 32 → bt x i = bt y i) : x = y := Int32.toBitVec_inj.mp (BitVec.eq_of_getLsbD_eq (fun i hi => h i hi))
theorem b_or (x y : Int32) (i : Nat) : bt (x ||| y) i = (bt x i || bt y i) := by unfold bt; rw [Int32.toBitVec_or, BitVec.getLsbD_or]
theorem b_and (x y : Int32) (i : Nat) : bt (x &&& y) i = (bt x i && bt y i) := by unfold bt; rw [Int32.toBitVec_and, BitVec.getLsbD_and]
theorem b_big {x : Int32} {i : Nat} (h : 32 ≤ i) : bt x i = false := BitVec.getLsbD_of_ge _ _ h
theorem b_0 (i : Nat) : bt 0 i = false := BitVec.getLsbD_zero
theorem s_l : ∀ n, n < 32 → ((nI n &&& 31).toBitVec.smod 32).toNat = n := by decide +kernel
theorem b_shl (n : Nat) (hn : n < 32) (x : Int32) {i : Nat} (hi : i < 32) : bt (x <<< (nI n &&& 31)) i = (decide (n ≤ i) && bt x (i - n)) := by
  unfold bt
  rw [Int32.toBitVec_shiftLeft]
  show (x.toBitVec <<< ((nI n &&& 31).toBitVec.smod 32).toNat).getLsbD i = _
  rw [s_l n hn, BitVec.getLsbD_shiftLeft]
  rcases Nat.lt_or_ge i n with h | h
  · simp [h, Nat.not_le.mpr h]
  · simp [hi, h, Nat.not_lt.mpr h]
theorem b_sshr (n : Nat) (hn : n < 32) (x : Int32) {i : Nat} (hi : i < 32) : bt (x >>> (nI n &&& 31)) i = if n + i < 32 then bt x (n + i) else bt x 31 := by
  unfold bt
  rw [Int32.toBitVec_shiftRight]
  show (x.toBitVec.sshiftRight ((nI n &&& 31).toBitVec.smod 32).toNat).getLsbD i = _
  rw [s_l n hn, BitVec.getLsbD_sshiftRight, BitVec.msb_eq_getLsbD_last]
  simp [hi]
/-! bits by a number c of 0 .. 31, as the machine tells them -/
theorem bn_of {c : Int32} (h : 0 ≤ c.toInt ∧ c.toInt ≤ 31) : ∃ n : Nat, n < 32 ∧ c = nI n ∧ c.toInt = n := by
  obtain ⟨n, hn, rfl⟩ := nI_of (x := c) (fun h2 => by have := (pm_lt0 c).mp h2; omega)
  have h3 := nI_toInt hn
  exact ⟨n, by omega, rfl, h3⟩
theorem b_1 (i : Nat) : bt 1 i = decide (i = 0) := by
  rcases Nat.lt_or_ge i 32 with h | h
  · exact (by decide +kernel : ∀ i, i < 32 → bt 1 i = decide (i = 0)) i h
  · rw [b_big h, decide_eq_false (by omega)]
theorem b_one {c : Int32} (h : 0 ≤ c.toInt ∧ c.toInt ≤ 31) {i : Nat} (hi : i < 32) : bt ((1 : Int32) <<< (c &&& 31)) i = decide (i = c.toInt.toNat) := by
  obtain ⟨n, hn, rfl, e⟩ := bn_of h
  rw [b_shl n hn 1 hi, b_1, e, Int.toNat_natCast]
  by_cases h1 : i = n
  · subst h1
    simp
  · rw [decide_eq_false h1]
    by_cases h2 : n ≤ i
    · have h3 : ¬ i - n = 0 := by omega
      simp [h3]
    · simp [h2]
theorem b_sh1 (x : Int32) {c : Int32} (h : 0 ≤ c.toInt ∧ c.toInt ≤ 31) : ((x >>> (c &&& 31)) &&& 1) = if bt x c.toInt.toNat = true then 1 else 0 := by
  obtain ⟨n, hn, rfl, e⟩ := bn_of h
  apply b_ext
  intro i hi
  rw [b_and, b_sshr n hn x hi, b_1, e, Int.toNat_natCast]
  by_cases h0 : i = 0
  · subst h0
    rw [if_pos (by omega), Nat.add_zero]
    cases bt x n
    · simp [b_0]
    · simp [b_1]
  · rw [decide_eq_false h0, Bool.and_false]
    split
    · rw [b_1, decide_eq_false h0]
    · rw [b_0]
theorem b_y {x c : Int32} (h : 0 ≤ c.toInt ∧ c.toInt ≤ 31) (hb : ¬ ((x >>> (c &&& 31)) &&& 1) = 0) : bt x c.toInt.toNat = true := by
  rw [b_sh1 x h] at hb
  cases e : bt x c.toInt.toNat
  · rw [e] at hb; exact absurd rfl hb
  · rfl
theorem b_n {x c : Int32} (h : 0 ≤ c.toInt ∧ c.toInt ≤ 31) (hb : ¬ ((x >>> (c &&& 31)) &&& 1) = 1) : bt x c.toInt.toNat = false := by
  rw [b_sh1 x h] at hb
  cases e : bt x c.toInt.toNat
  · rfl
  · rw [e] at hb; exact absurd rfl hb
theorem b_y' {x c : Int32} (h : 0 ≤ c.toInt ∧ c.toInt ≤ 31) (hb : bt x c.toInt.toNat = true) : ¬ ((x >>> (c &&& 31)) &&& 1) = 0 := by
  rw [b_sh1 x h, hb]; decide
noncomputable def cntB (x : Int32) : Nat → Nat
  | 0 => 0
  | k + 1 => cntB x k + if bt x k = true then 1 else 0
theorem cntB_le (x : Int32) : ∀ k, cntB x k ≤ k
  | 0 => Nat.le_refl _
  | k + 1 => by
    have := cntB_le x k
    unfold cntB
    split <;> omega
theorem cntB_lt {x : Int32} {c : Nat} (hb : bt x c = false) : ∀ k, c < k → cntB x k < k
  | 0, h => by omega
  | k + 1, h => by
    have h1 := cntB_le x k
    unfold cntB
    by_cases hk : c = k
    · subst hk
      rw [hb]
      simp
      omega
    · have := cntB_lt hb k (by omega)
      split <;> omega
theorem cntB_or {x c : Int32} (h : 0 ≤ c.toInt ∧ c.toInt ≤ 31) (hb : bt x c.toInt.toNat = false) : ∀ k, k ≤ 32 → cntB (x ||| ((1 : Int32) <<< (c &&& 31))) k = cntB x k + if c.toInt.toNat < k then 1 else 0
  | 0, _ => rfl
  | k + 1, hk => by
    unfold cntB
    rw [cntB_or h hb k (by omega), b_or, b_one h (show k < 32 by omega)]
    by_cases e : k = c.toInt.toNat
    · rw [← e] at hb
      rw [e] at hb ⊢
      rw [hb]
      simp
    · rw [decide_eq_false e, Bool.or_false]
      by_cases h1 : c.toInt.toNat < k
      · simp only [if_pos h1, if_pos (show c.toInt.toNat < k + 1 by omega)]; omega
      · simp only [if_neg h1, if_neg (show ¬ c.toInt.toNat < k + 1 by omega)]; omega
theorem cnt_lt {n x c : Int32} (hn : n.toInt = (cntB x 24 : Int)) (h : 0 ≤ c.toInt ∧ c.toInt ≤ 23) (hb : ¬ ((x >>> (c &&& 31)) &&& 1) = 1) : 0 ≤ n.toInt ∧ n.toInt < 24 := by
  have h1 := b_n (x := x) (c := c) (by omega) hb
  have h2 := cntB_lt h1 24 (by omega)
  omega
theorem cnt_st {n x c : Int32} (hn : n.toInt = (cntB x 24 : Int)) (h : 0 ≤ c.toInt ∧ c.toInt ≤ 23) (hb : ¬ ((x >>> (c &&& 31)) &&& 1) = 1) : (n + 1).toInt = (cntB (x ||| ((1 : Int32) <<< (c &&& 31))) 24 : Int) := by
  have h1 := b_n (x := x) (c := c) (by omega) hb
  have h2 := cntB_lt h1 24 (by omega)
  have h3 := cntB_or (c := c) (by omega) h1 24 (by omega)
  have k1 : (1 : Int32).toInt = 1 := rfl
  rw [pm_add n 1 (by omega) (by omega), h3, if_pos (by omega), hn, k1]
  omega
theorem cnt_0 : (0 : Int32).toInt = (cntB 0 24 : Int) := by decide +kernel
theorem p2_one {c : Int32} (h : 0 ≤ c.toInt ∧ c.toInt ≤ 23) : ¬ ((0 : Int32) ||| ((1 : Int32) <<< (c &&& 31))) = 0 ∧ ((0 : Int32) ||| ((1 : Int32) <<< (c &&& 31))) &&& (((0 : Int32) ||| ((1 : Int32) <<< (c &&& 31))) - 1) = 0 := by
  obtain ⟨n, hn, rfl, e⟩ := bn_of (c := c) (by omega)
  have h3 : n < 24 := by omega
  exact (by decide +kernel : ∀ n, n < 24 → ¬ ((0 : Int32) ||| ((1 : Int32) <<< (nI n &&& 31))) = 0 ∧ ((0 : Int32) ||| ((1 : Int32) <<< (nI n &&& 31))) &&& (((0 : Int32) ||| ((1 : Int32) <<< (nI n &&& 31))) - 1) = 0) n h3
noncomputable def goB (s : Int32) (c : Nat → Int32) (p : Int) : Prop := ∀ c9 : Int32, (0 ≤ c9.toInt ∧ c9.toInt ≤ 23) → ¬ ((s >>> (c9 &&& 31)) &&& 1) = 0 → ∃ k9 : Nat, (k9 : Int) < p ∧ c k9 = c9
theorem go_0 (c : Nat → Int32) (p : Int) : goB 0 c p := fun c9 h9 h8 => by
  have h1 := b_y (x := 0) (c := c9) (by omega) h8
  rw [b_0] at h1
  cases h1
theorem go_mono {s : Int32} {c : Nat → Int32} {p p' : Int} (h : goB s c p) (hp : p ≤ p') : goB s c p' := fun c9 h9 h8 => by
  obtain ⟨k, h1, h2⟩ := h c9 h9 h8
  exact ⟨k, by omega, h2⟩
theorem go_and {s m : Int32} {c : Nat → Int32} {p : Int} (h : goB s c p) : goB (s &&& m) c p := fun c9 h9 h8 => by
  have h1 := b_y (x := s &&& m) (c := c9) (by omega) h8
  rw [b_and, Bool.and_eq_true] at h1
  exact h c9 h9 (b_y' (by omega) h1.1)
theorem go_or {s x : Int32} {c : Nat → Int32} {p p' : Int} (h : goB s c p) (h0 : 0 ≤ p) (hp : p + 1 ≤ p') (hx : c p.toNat = x) (hr : 0 ≤ x.toInt ∧ x.toInt ≤ 23) : goB (s ||| ((1 : Int32) <<< (x &&& 31))) c p' := fun c9 h9 h8 => by
  have h1 := b_y (x := s ||| ((1 : Int32) <<< (x &&& 31))) (c := c9) (by omega) h8
  rw [b_or, Bool.or_eq_true, b_one (c := x) (by omega) (by omega), decide_eq_true_eq] at h1
  rcases h1 with h1 | h1
  · obtain ⟨k, h2, h3⟩ := h c9 h9 (b_y' (by omega) h1)
    exact ⟨k, by omega, h3⟩
  · refine ⟨p.toNat, by omega, hx.trans (pm_eqI ?_)⟩
    omega
noncomputable def ctLt (c : Nat → Int32) (x : Int) (l : Nat) : Nat → Nat
  | 0 => 0
  | k + 1 => ctLt c x l k + if (c (l + k)).toInt < x then 1 else 0
theorem ctLt_le (c : Nat → Int32) (x : Int) (l : Nat) : ∀ n, ctLt c x l n ≤ n
  | 0 => Nat.le_refl _
  | k + 1 => by
    have := ctLt_le c x l k
    unfold ctLt
    split <;> omega
theorem ctLt_0 (c : Nat → Int32) (l : Nat) (h : ∀ j, 0 ≤ (c j).toInt) : ∀ n, ctLt c 0 l n = 0
  | 0 => rfl
  | k + 1 => by
    unfold ctLt
    rw [ctLt_0 c l h k, if_neg (by have := h (l + k); omega)]
theorem ctLt_d (c : Nat → Int32) (x : Int) (l k : Nat) : ∀ n, k ≤ n → ctLt c (x + 1) l k + ctLt c x l n ≤ ctLt c (x + 1) l n + ctLt c x l k
  | 0, h => by
    have : k = 0 := by omega
    subst this
    omega
  | n + 1, h => by
    by_cases e : k = n + 1
    · subst e; omega
    · have := ctLt_d c x l k n (by omega)
      have e1 : ctLt c (x + 1) l (n + 1) = ctLt c (x + 1) l n + if (c (l + n)).toInt < x + 1 then 1 else 0 := rfl
      have e2 : ctLt c x l (n + 1) = ctLt c x l n + if (c (l + n)).toInt < x then 1 else 0 := rfl
      rw [e1, e2]
      split <;> split <;> omega
theorem ctLt_y {c : Nat → Int32} {x : Int} {l k : Nat} (h : (c (l + k)).toInt = x) : ctLt c (x + 1) l (k + 1) + ctLt c x l k = ctLt c (x + 1) l k + ctLt c x l (k + 1) + 1 := by
  have h1 : ctLt c (x + 1) l (k + 1) = ctLt c (x + 1) l k + 1 := by rw [ctLt, if_pos (by omega)]
  have h2 : ctLt c x l (k + 1) = ctLt c x l k := by rw [ctLt, if_neg (by omega), Nat.add_zero]
  omega
theorem ctLt_n {c : Nat → Int32} {x : Int} {l k : Nat} (h : ¬ (c (l + k)).toInt = x) : ctLt c (x + 1) l (k + 1) + ctLt c x l k = ctLt c (x + 1) l k + ctLt c x l (k + 1) := by
  by_cases h3 : (c (l + k)).toInt < x
  · have h1 : ctLt c (x + 1) l (k + 1) = ctLt c (x + 1) l k + 1 := by rw [ctLt, if_pos (by omega)]
    have h2 : ctLt c x l (k + 1) = ctLt c x l k + 1 := by rw [ctLt, if_pos h3]
    omega
  · have h1 : ctLt c (x + 1) l (k + 1) = ctLt c (x + 1) l k := by rw [ctLt, if_neg (by omega), Nat.add_zero]
    have h2 : ctLt c x l (k + 1) = ctLt c x l k := by rw [ctLt, if_neg h3, Nat.add_zero]
    omega
noncomputable def soN (c : Nat → Int32) (x : Int) (l k n : Nat) : Int := (ctLt c x l n : Int) + ctLt c (x + 1) l k - ctLt c x l k
theorem so_lt {c : Nat → Int32} {x : Int} {l k n : Nat} (hk : k < n) (h : (c (l + k)).toInt = x) : soN c x l k n < n ∧ soN c x l (k + 1) n = soN c x l k n + 1 := by
  have h1 := ctLt_y h
  have h2 := ctLt_d c x l (k + 1) n (by omega)
  have h3 := ctLt_le c (x + 1) l n
  unfold soN
  omega
theorem so_n {c : Nat → Int32} {x : Int} {l k n : Nat} (h : ¬ (c (l + k)).toInt = x) : soN c x l (k + 1) n = soN c x l k n := by
  have h1 := ctLt_n h
  unfold soN
  omega
theorem so_0 {c : Nat → Int32} {x : Int} {l n : Nat} : soN c x l 0 n = ctLt c x l n := by
  unfold soN
  simp [ctLt]
theorem so_e {c : Nat → Int32} {x : Int} {l n : Nat} : soN c x l n n = ctLt c (x + 1) l n := by
  unfold soN
  omega
end
section
/-! an instruction a row: what it wants is enough -/
section
variable {l : Launch} {g : pm_G} {ro : Nat → Option (Nat × (Nat → Int32))} {d mc ms : Nat} {Ret : Option Value → pm_H → Nat → Nat → Prop} {J : pm_J} {fin : Nat} {r : List pm_Op} {L : pm_L} {st : List Value} {A : pm_H} {c s t i k : Nat} {z : Int32}
theorem pq_nil (h : J fin L st A c s) : pm_wp l g ro d mc ms Ret J fin [] L st A c s := h
theorem pq_id0 (h : pm_wp l g ro d mc ms Ret J fin r L st A c s) : pm_wp l g ro d mc ms Ret J fin r L ((none : Option Value).toList ++ st) A c s := h
theorem pq_id1 {y : Int32} (h : pm_wp l g ro d mc ms Ret J fin r L (.int y :: st) A c s) : pm_wp l g ro d mc ms Ret J fin r L ((some (.int y)).toList ++ st) A c s := h
theorem pq_idl {y : Int64} (h : pm_wp l g ro d mc ms Ret J fin r L (.long y :: st) A c s) : pm_wp l g ro d mc ms Ret J fin r L ((some (.long y)).toList ++ st) A c s := h
theorem pq_iconst {n : _} (h : pm_wp l g ro d mc ms Ret J fin r L (.int z :: st) A c s) : pm_wp l g ro d mc ms Ret J fin ((.iconst n, t, i, k, z) :: r) L st A c s := h
theorem pq_iload_n1 {j : _} {x : Int32} {a0 : Option Value} (h : pm_wp l g ro d mc ms Ret J fin r (a0 :: some (.int x) :: L) (.int x :: st) A c s) : pm_wp l g ro d mc ms Ret J fin ((.iload_n j, t, 1, k, z) :: r) (a0 :: some (.int x) :: L) st A c s := h
theorem pq_iload_n2 {j : _} {x : Int32} {a0 a1 : Option Value} (h : pm_wp l g ro d mc ms Ret J fin r (a0 :: a1 :: some (.int x) :: L) (.int x :: st) A c s) : pm_wp l g ro d mc ms Ret J fin ((.iload_n j, t, 2, k, z) :: r) (a0 :: a1 :: some (.int x) :: L) st A c s := h
theorem pq_iload_n3 {j : _} {x : Int32} {a0 a1 a2 : Option Value} (h : pm_wp l g ro d mc ms Ret J fin r (a0 :: a1 :: a2 :: some (.int x) :: L) (.int x :: st) A c s) : pm_wp l g ro d mc ms Ret J fin ((.iload_n j, t, 3, k, z) :: r) (a0 :: a1 :: a2 :: some (.int x) :: L) st A c s := h
theorem pq_iload4 {j : _} {x : Int32} {a0 a1 a2 a3 : Option Value} (h : pm_wp l g ro d mc ms Ret J fin r (a0 :: a1 :: a2 :: a3 :: some (.int x) :: L) (.int x :: st) A c s) : pm_wp l g ro d mc ms Ret J fin ((.iload j, t, 4, k, z) :: r) (a0 :: a1 :: a2 :: a3 :: some (.int x) :: L) st A c s := h
theorem pq_iload5 {j : _} {x : Int32} {a0 a1 a2 a3 a4 : Option Value} (h : pm_wp l g ro d mc ms Ret J fin r (a0 :: a1 :: a2 :: a3 :: a4 :: some (.int x) :: L) (.int x :: st) A c s) : pm_wp l g ro d mc ms Ret J fin ((.iload j, t, 5, k, z) :: r) (a0 :: a1 :: a2 :: a3 :: a4 :: some (.int x) :: L) st A c s := h
theorem pq_iload6 {j : _} {x : Int32} {a0 a1 a2 a3 a4 a5 : Option Value} (h : pm_wp l g ro d mc ms Ret J fin r (a0 :: a1 :: a2 :: a3 :: a4 :: a5 :: some (.int x) :: L) (.int x :: st) A c s) : pm_wp l g ro d mc ms Ret J fin ((.iload j, t, 6, k, z) :: r) (a0 :: a1 :: a2 :: a3 :: a4 :: a5 :: some (.int x) :: L) st A c s := h
theorem pq_iload7 {j : _} {x : Int32} {a0 a1 a2 a3 a4 a5 a6 : Option Value} (h : pm_wp l g ro d mc ms Ret J fin r (a0 :: a1 :: a2 :: a3 :: a4 :: a5 :: a6 :: some (.int x) :: L) (.int x :: st) A c s) : pm_wp l g ro d mc ms Ret J fin ((.iload j, t, 7, k, z) :: r) (a0 :: a1 :: a2 :: a3 :: a4 :: a5 :: a6 :: some (.int x) :: L) st A c s := h
theorem pq_iload8 {j : _} {x : Int32} {a0 a1 a2 a3 a4 a5 a6 a7 : Option Value} (h : pm_wp l g ro d mc ms Ret J fin r (a0 :: a1 :: a2 :: a3 :: a4 :: a5 :: a6 :: a7 :: some (.int x) :: L) (.int x :: st) A c s) : pm_wp l g ro d mc ms Ret J fin ((.iload j, t, 8, k, z) :: r) (a0 :: a1 :: a2 :: a3 :: a4 :: a5 :: a6 :: a7 :: some (.int x) :: L) st A c s := h
theorem pq_iload9 {j : _} {x : Int32} {a0 a1 a2 a3 a4 a5 a6 a7 a8 : Option Value} (h : pm_wp l g ro d mc ms Ret J fin r (a0 :: a1 :: a2 :: a3 :: a4 :: a5 :: a6 :: a7 :: a8 :: some (.int x) :: L) (.int x :: st) A c s) : pm_wp l g ro d mc ms Ret J fin ((.iload j, t, 9, k, z) :: r) (a0 :: a1 :: a2 :: a3 :: a4 :: a5 :: a6 :: a7 :: a8 :: some (.int x) :: L) st A c s := h
theorem pq_aload_n0 {j : _} {x : Nat}  (h : pm_wp l g ro d mc ms Ret J fin r (some (.ref x) :: L) (.ref x :: st) A c s) : pm_wp l g ro d mc ms Ret J fin ((.aload_n j, t, 0, k, z) :: r) (some (.ref x) :: L) st A c s := h
theorem pq_aload_n1 {j : _} {x : Nat} {a0 : Option Value} (h : pm_wp l g ro d mc ms Ret J fin r (a0 :: some (.ref x) :: L) (.ref x :: st) A c s) : pm_wp l g ro d mc ms Ret J fin ((.aload_n j, t, 1, k, z) :: r) (a0 :: some (.ref x) :: L) st A c s := h
theorem pq_aload_n2 {j : _} {x : Nat} {a0 a1 : Option Value} (h : pm_wp l g ro d mc ms Ret J fin r (a0 :: a1 :: some (.ref x) :: L) (.ref x :: st) A c s) : pm_wp l g ro d mc ms Ret J fin ((.aload_n j, t, 2, k, z) :: r) (a0 :: a1 :: some (.ref x) :: L) st A c s := h
theorem pq_istore {j : _} {x : Int32} (L2 : pm_L) (e : pm_st L i (.int x) = L2) (h : pm_wp l g ro d mc ms Ret J fin r L2 st A c s) : pm_wp l g ro d mc ms Ret J fin ((.istore j, t, i, k, z) :: r) L (.int x :: st) A c s := by subst e; exact h
theorem pq_iadd {x y : Int32} (h : ∀ m : Int32, m = x + y → pm_wp l g ro d mc ms Ret J fin r L (.int m :: st) A c s) : pm_wp l g ro d mc ms Ret J fin ((.iadd, t, i, k, z) :: r) L (.int y :: .int x :: st) A c s := h
theorem pq_pop {x : Int32} (h : pm_wp l g ro d mc ms Ret J fin r L st A c s) : pm_wp l g ro d mc ms Ret J fin ((.pop, t, i, k, z) :: r) L (.int x :: st) A c s := h
theorem pq_pop2 {x : Int64} (h : pm_wp l g ro d mc ms Ret J fin r L st A c s) : pm_wp l g ro d mc ms Ret J fin ((.pop2, t, i, k, z) :: r) L (.long x :: st) A c s := h
theorem pq_goto {n : _} (h : J i L st A c s) : pm_wp l g ro d mc ms Ret J fin ((.goto n, t, i, k, z) :: r) L st A c s := h
theorem pq_icmp_eq {n : _} {x y : Int32} (h : (x = y → J i L st A c s) ∧ (¬ x = y → pm_wp l g ro d mc ms Ret J fin r L st A c s)) : pm_wp l g ro d mc ms Ret J fin ((.if_icmp .eq n, t, i, k, z) :: r) L (.int y :: .int x :: st) A c s := h
theorem pq_icond_eq {n : _} {x : Int32} (h : (x = 0 → J i L st A c s) ∧ (¬ x = 0 → pm_wp l g ro d mc ms Ret J fin r L st A c s)) : pm_wp l g ro d mc ms Ret J fin ((.ifCond .eq n, t, i, k, z) :: r) L (.int x :: st) A c s := h
theorem pq_icmp_ge {n : _} {x y : Int32} (h : (y.toInt ≤ x.toInt → J i L st A c s) ∧ (x.toInt < y.toInt → pm_wp l g ro d mc ms Ret J fin r L st A c s)) : pm_wp l g ro d mc ms Ret J fin ((.if_icmp .ge n, t, i, k, z) :: r) L (.int y :: .int x :: st) A c s := h
theorem pq_icmp_gt {n : _} {x y : Int32} (h : (y.toInt < x.toInt → J i L st A c s) ∧ (x.toInt ≤ y.toInt → pm_wp l g ro d mc ms Ret J fin r L st A c s)) : pm_wp l g ro d mc ms Ret J fin ((.if_icmp .gt n, t, i, k, z) :: r) L (.int y :: .int x :: st) A c s := h
theorem pq_iaload {x : Int32} {a : Nat} (h : ∃ (n : Nat) (f : Nat → Int32), pm_rd g ro A a n f ∧ (0 ≤ x.toInt ∧ x.toInt < n) ∧ pm_wp l g ro d mc ms Ret J fin r L (.int (f x.toInt.toNat) :: st) A c s) : pm_wp l g ro d mc ms Ret J fin ((.iaload, t, i, k, z) :: r) L (.int x :: .ref a :: st) A c s := h
theorem pq_iret {v : Int32} (h : st = [] ∧ (i = 1 → v = 0 ∨ v = 1) ∧ Ret (some (.int v)) A c s) : pm_wp l g ro d mc ms Ret J fin ((.ireturn, t, i, k, z) :: r) L (.int v :: st) A c s := h
theorem pq_iv0_10 {n : _} {b : Nat}  (h : (∃ fs : List Value, A b = some (pm_ob 10 fs)) ∧ ∃ (d2 mc2 ms2 : Nat) (Q2 : Option Value → pm_H → Prop), pm_Mt l g i d2 mc2 ms2 [.ref b] A Q2 ∧ (Nat.blt d2 d && (Nat.ble (c + mc2) mc && (Nat.ble (s + ms2) ms && pm_rm st))) = true ∧ ∀ (r9 : Option Value) (A9 : pm_H), Q2 r9 A9 → pm_wp l g ro d mc ms Ret J fin r L (r9.toList ++ st) A9 (c + mc2) (s + ms2)) : pm_wp l g ro d mc ms Ret J fin ((.invokevirtual n, t, i, 0, 10) :: r) L (.ref b :: st) A c s := h
theorem pq_iv0_11 {n : _} {b : Nat}  (h : (∃ fs : List Value, A b = some (pm_ob 11 fs)) ∧ ∃ (d2 mc2 ms2 : Nat) (Q2 : Option Value → pm_H → Prop), pm_Mt l g i d2 mc2 ms2 [.ref b] A Q2 ∧ (Nat.blt d2 d && (Nat.ble (c + mc2) mc && (Nat.ble (s + ms2) ms && pm_rm st))) = true ∧ ∀ (r9 : Option Value) (A9 : pm_H), Q2 r9 A9 → pm_wp l g ro d mc ms Ret J fin r L (r9.toList ++ st) A9 (c + mc2) (s + ms2)) : pm_wp l g ro d mc ms Ret J fin ((.invokevirtual n, t, i, 0, 11) :: r) L (.ref b :: st) A c s := h
theorem pq_iv1_10 {n : _} {b : Nat} {x0 : Value} (h : (∃ fs : List Value, A b = some (pm_ob 10 fs)) ∧ ∃ (d2 mc2 ms2 : Nat) (Q2 : Option Value → pm_H → Prop), pm_Mt l g i d2 mc2 ms2 [.ref b, x0] A Q2 ∧ (Nat.blt d2 d && (Nat.ble (c + mc2) mc && (Nat.ble (s + ms2) ms && pm_rm st))) = true ∧ ∀ (r9 : Option Value) (A9 : pm_H), Q2 r9 A9 → pm_wp l g ro d mc ms Ret J fin r L (r9.toList ++ st) A9 (c + mc2) (s + ms2)) : pm_wp l g ro d mc ms Ret J fin ((.invokevirtual n, t, i, 1, 10) :: r) L (x0 :: .ref b :: st) A c s := h
theorem pq_iv1_11 {n : _} {b : Nat} {x0 : Value} (h : (∃ fs : List Value, A b = some (pm_ob 11 fs)) ∧ ∃ (d2 mc2 ms2 : Nat) (Q2 : Option Value → pm_H → Prop), pm_Mt l g i d2 mc2 ms2 [.ref b, x0] A Q2 ∧ (Nat.blt d2 d && (Nat.ble (c + mc2) mc && (Nat.ble (s + ms2) ms && pm_rm st))) = true ∧ ∀ (r9 : Option Value) (A9 : pm_H), Q2 r9 A9 → pm_wp l g ro d mc ms Ret J fin r L (r9.toList ++ st) A9 (c + mc2) (s + ms2)) : pm_wp l g ro d mc ms Ret J fin ((.invokevirtual n, t, i, 1, 11) :: r) L (x0 :: .ref b :: st) A c s := h
theorem pq_iv2_10 {n : _} {b : Nat} {x0 x1 : Value} (h : (∃ fs : List Value, A b = some (pm_ob 10 fs)) ∧ ∃ (d2 mc2 ms2 : Nat) (Q2 : Option Value → pm_H → Prop), pm_Mt l g i d2 mc2 ms2 [.ref b, x0, x1] A Q2 ∧ (Nat.blt d2 d && (Nat.ble (c + mc2) mc && (Nat.ble (s + ms2) ms && pm_rm st))) = true ∧ ∀ (r9 : Option Value) (A9 : pm_H), Q2 r9 A9 → pm_wp l g ro d mc ms Ret J fin r L (r9.toList ++ st) A9 (c + mc2) (s + ms2)) : pm_wp l g ro d mc ms Ret J fin ((.invokevirtual n, t, i, 2, 10) :: r) L (x1 :: x0 :: .ref b :: st) A c s := h
theorem pq_iv2_11 {n : _} {b : Nat} {x0 x1 : Value} (h : (∃ fs : List Value, A b = some (pm_ob 11 fs)) ∧ ∃ (d2 mc2 ms2 : Nat) (Q2 : Option Value → pm_H → Prop), pm_Mt l g i d2 mc2 ms2 [.ref b, x0, x1] A Q2 ∧ (Nat.blt d2 d && (Nat.ble (c + mc2) mc && (Nat.ble (s + ms2) ms && pm_rm st))) = true ∧ ∀ (r9 : Option Value) (A9 : pm_H), Q2 r9 A9 → pm_wp l g ro d mc ms Ret J fin r L (r9.toList ++ st) A9 (c + mc2) (s + ms2)) : pm_wp l g ro d mc ms Ret J fin ((.invokevirtual n, t, i, 2, 11) :: r) L (x1 :: x0 :: .ref b :: st) A c s := h
theorem pq_iv3_10 {n : _} {b : Nat} {x0 x1 x2 : Value} (h : (∃ fs : List Value, A b = some (pm_ob 10 fs)) ∧ ∃ (d2 mc2 ms2 : Nat) (Q2 : Option Value → pm_H → Prop), pm_Mt l g i d2 mc2 ms2 [.ref b, x0, x1, x2] A Q2 ∧ (Nat.blt d2 d && (Nat.ble (c + mc2) mc && (Nat.ble (s + ms2) ms && pm_rm st))) = true ∧ ∀ (r9 : Option Value) (A9 : pm_H), Q2 r9 A9 → pm_wp l g ro d mc ms Ret J fin r L (r9.toList ++ st) A9 (c + mc2) (s + ms2)) : pm_wp l g ro d mc ms Ret J fin ((.invokevirtual n, t, i, 3, 10) :: r) L (x2 :: x1 :: x0 :: .ref b :: st) A c s := h
theorem pq_iv3_11 {n : _} {b : Nat} {x0 x1 x2 : Value} (h : (∃ fs : List Value, A b = some (pm_ob 11 fs)) ∧ ∃ (d2 mc2 ms2 : Nat) (Q2 : Option Value → pm_H → Prop), pm_Mt l g i d2 mc2 ms2 [.ref b, x0, x1, x2] A Q2 ∧ (Nat.blt d2 d && (Nat.ble (c + mc2) mc && (Nat.ble (s + ms2) ms && pm_rm st))) = true ∧ ∀ (r9 : Option Value) (A9 : pm_H), Q2 r9 A9 → pm_wp l g ro d mc ms Ret J fin r L (r9.toList ++ st) A9 (c + mc2) (s + ms2)) : pm_wp l g ro d mc ms Ret J fin ((.invokevirtual n, t, i, 3, 11) :: r) L (x2 :: x1 :: x0 :: .ref b :: st) A c s := h
theorem pq_iv4_10 {n : _} {b : Nat} {x0 x1 x2 x3 : Value} (h : (∃ fs : List Value, A b = some (pm_ob 10 fs)) ∧ ∃ (d2 mc2 ms2 : Nat) (Q2 : Option Value → pm_H → Prop), pm_Mt l g i d2 mc2 ms2 [.ref b, x0, x1, x2, x3] A Q2 ∧ (Nat.blt d2 d && (Nat.ble (c + mc2) mc && (Nat.ble (s + ms2) ms && pm_rm st))) = true ∧ ∀ (r9 : Option Value) (A9 : pm_H), Q2 r9 A9 → pm_wp l g ro d mc ms Ret J fin r L (r9.toList ++ st) A9 (c + mc2) (s + ms2)) : pm_wp l g ro d mc ms Ret J fin ((.invokevirtual n, t, i, 4, 10) :: r) L (x3 :: x2 :: x1 :: x0 :: .ref b :: st) A c s := h
theorem pq_iv4_11 {n : _} {b : Nat} {x0 x1 x2 x3 : Value} (h : (∃ fs : List Value, A b = some (pm_ob 11 fs)) ∧ ∃ (d2 mc2 ms2 : Nat) (Q2 : Option Value → pm_H → Prop), pm_Mt l g i d2 mc2 ms2 [.ref b, x0, x1, x2, x3] A Q2 ∧ (Nat.blt d2 d && (Nat.ble (c + mc2) mc && (Nat.ble (s + ms2) ms && pm_rm st))) = true ∧ ∀ (r9 : Option Value) (A9 : pm_H), Q2 r9 A9 → pm_wp l g ro d mc ms Ret J fin r L (r9.toList ++ st) A9 (c + mc2) (s + ms2)) : pm_wp l g ro d mc ms Ret J fin ((.invokevirtual n, t, i, 4, 11) :: r) L (x3 :: x2 :: x1 :: x0 :: .ref b :: st) A c s := h
theorem pq_iv5_10 {n : _} {b : Nat} {x0 x1 x2 x3 x4 : Value} (h : (∃ fs : List Value, A b = some (pm_ob 10 fs)) ∧ ∃ (d2 mc2 ms2 : Nat) (Q2 : Option Value → pm_H → Prop), pm_Mt l g i d2 mc2 ms2 [.ref b, x0, x1, x2, x3, x4] A Q2 ∧ (Nat.blt d2 d && (Nat.ble (c + mc2) mc && (Nat.ble (s + ms2) ms && pm_rm st))) = true ∧ ∀ (r9 : Option Value) (A9 : pm_H), Q2 r9 A9 → pm_wp l g ro d mc ms Ret J fin r L (r9.toList ++ st) A9 (c + mc2) (s + ms2)) : pm_wp l g ro d mc ms Ret J fin ((.invokevirtual n, t, i, 5, 10) :: r) L (x4 :: x3 :: x2 :: x1 :: x0 :: .ref b :: st) A c s := h
theorem pq_iv5_11 {n : _} {b : Nat} {x0 x1 x2 x3 x4 : Value} (h : (∃ fs : List Value, A b = some (pm_ob 11 fs)) ∧ ∃ (d2 mc2 ms2 : Nat) (Q2 : Option Value → pm_H → Prop), pm_Mt l g i d2 mc2 ms2 [.ref b, x0, x1, x2, x3, x4] A Q2 ∧ (Nat.blt d2 d && (Nat.ble (c + mc2) mc && (Nat.ble (s + ms2) ms && pm_rm st))) = true ∧ ∀ (r9 : Option Value) (A9 : pm_H), Q2 r9 A9 → pm_wp l g ro d mc ms Ret J fin r L (r9.toList ++ st) A9 (c + mc2) (s + ms2)) : pm_wp l g ro d mc ms Ret J fin ((.invokevirtual n, t, i, 5, 11) :: r) L (x4 :: x3 :: x2 :: x1 :: x0 :: .ref b :: st) A c s := h
end
end
section
/-! the reference: a field, a place of a row, read and written -/
section
variable {l : Launch} {g : pm_G} {ro : Nat → Option (Nat × (Nat → Int32))} {d mc ms : Nat} {Ret : Option Value → pm_H → Nat → Nat → Prop} {J : pm_J} {fin : Nat} {r : List pm_Op} {L : pm_L} {st : List Value} {c s t i k : Nat} {z : Int32}
variable {A0 : pm_H} {h : Nat} {q : Nat → Nat} {v : Nat → Int32} {f : Nat → Nat → Int32}
theorem qgm_many {n : _} (h9 : pm_wp l g ro d mc ms Ret J fin r L (.int (v 0) :: st) (md A0 g h q v f) c s) : pm_wp l g ro d mc ms Ret J fin ((.getfield n, t, 11, 7, z) :: r) L (.ref h :: st) (md A0 g h q v f) c s := ⟨_, md_o, h9⟩
end
end
section
section
variable {l : Launch} {g : pm_G} {A0 : pm_H} {h : Nat} {q : Nat → Nat}
set_option maxRecDepth 100000 in
set_option maxHeartbeats 2000000 in
theorem c_X11_isIn (A : pm_H) (x0 : Int32) (x1 : Int32) (x2 : Int32)  : pm_Mt l g 169 0 0 0 [.int x0, .int x1, .int x2] A (md_Qp A (fun r => (r = 1 ∧ (x1.toInt ≤ x0.toInt ∧ x0.toInt ≤ x2.toInt)) ∨ (r = 0 ∧ (¬ (x1.toInt ≤ x0.toInt ∧ x0.toInt ≤ x2.toInt))))) := by
  refine mt_X11_isIn rfl (fun J hC => ?_)
  have rg_x0 := pm_rng x0
  have rg_x1 := pm_rng x1
  have rg_x2 := pm_rng x2
  refine hC.1 0 0 _ _ rfl _ _ _ _ _ ?_
  refine And.intro (fun c1 => ?_) (fun c1 => ?_)
  · skip
    refine hC.1 1 14 _ _ rfl _ _ _ _ _ ?_
    have k0 : (0 : Int32).toInt = 0 := rfl
    refine hC.1 2 15 _ _ rfl _ _ _ _ _ ?_
    exact ⟨rfl, fun _ => (by decide), rfl, (0 : Int32), rfl, rfl, Or.inr ⟨rfl, by first | omega | (dsimp only; omega) | trivial⟩⟩
  · skip
    refine And.intro (fun c2 => ?_) (fun c2 => ?_)
    · skip
      refine hC.1 1 14 _ _ rfl _ _ _ _ _ ?_
      have k0 : (0 : Int32).toInt = 0 := rfl
      refine hC.1 2 15 _ _ rfl _ _ _ _ _ ?_
      exact ⟨rfl, fun _ => (by decide), rfl, (0 : Int32), rfl, rfl, Or.inr ⟨rfl, by first | omega | (dsimp only; omega) | trivial⟩⟩
    · skip
      have k1 : (1 : Int32).toInt = 1 := rfl
      refine hC.1 2 15 _ _ rfl _ _ _ _ _ ?_
      exact ⟨rfl, fun _ => (by decide), rfl, (1 : Int32), rfl, rfl, Or.inl ⟨rfl, by first | omega | (dsimp only; omega) | trivial⟩⟩

set_option maxRecDepth 100000 in
set_option maxHeartbeats 2000000 in
theorem c_X11_isPlace (D : md_D h q) (v : Nat → Int32) (f : Nat → Nat → Int32) (hv : md_V v) (hf : md_F f) (x1 : Int32)  : pm_Mt l g 168 1 0 0 [.ref h, .int x1] (md A0 g h q v f) (md_Qp (md A0 g h q v f) (fun r => (r = 1 ∧ (0 ≤ x1.toInt ∧ x1.toInt < (v 0).toInt)) ∨ (r = 0 ∧ (¬ (0 ≤ x1.toInt ∧ x1.toInt < (v 0).toInt))))) := by
  refine mt_X11_isPlace rfl (fun J hC => ?_)
  have hv9 := hv
  unfold md_V at hv9
  have rg_x1 := pm_rng x1
  refine hC.1 0 0 _ _ rfl _ _ _ _ _ ?_
  have k0 : (0 : Int32).toInt = 0 := rfl
  refine Exists.intro _ (And.intro md_o ?_)
  have k1 : (1 : Int32).toInt = 1 := rfl
  intro m1 em_7
  try have e1 : m1.toInt = ((v 0)).toInt - (1) := by rw [em_7]; exact pm_subc _ _ (1) rfl (by omega) (by omega)
  refine Exists.intro _ (Exists.intro _ (Exists.intro _ (Exists.intro _ (And.intro (c_X11_isIn (md A0 g h q v f) x1 (0 : Int32) m1 ) (And.intro rfl (fun r9 A9 h9 => ?_))))))
  rcases h9 with ⟨y2, rfl, rfl, ⟨rfl, by2⟩ | ⟨rfl, by2⟩⟩
  · skip
    exact ⟨rfl, fun _ => (by decide), rfl, (1 : Int32), rfl, rfl, Or.inl ⟨rfl, by first | omega | (dsimp only; omega) | trivial⟩⟩
  · skip
    exact ⟨rfl, fun _ => (by decide), rfl, (0 : Int32), rfl, rfl, Or.inr ⟨rfl, by first | omega | (dsimp only; omega) | trivial⟩⟩

set_option maxRecDepth 100000 in
set_option maxHeartbeats 2000000 in
theorem c_X11_isColour (A : pm_H) (x0 : Int32)  : pm_Mt l g 170 1 0 0 [.int x0] A (md_Qp A (fun r => (r = 1 ∧ (0 ≤ x0.toInt ∧ x0.toInt ≤ 23)) ∨ (r = 0 ∧ (¬ (0 ≤ x0.toInt ∧ x0.toInt ≤ 23))))) := by
  refine mt_X11_isColour rfl (fun J hC => ?_)
  have rg_x0 := pm_rng x0
  refine hC.1 0 0 _ _ rfl _ _ _ _ _ ?_
  have k0 : (0 : Int32).toInt = 0 := rfl
  have k23 : (23 : Int32).toInt = 23 := rfl
  refine Exists.intro _ (Exists.intro _ (Exists.intro _ (Exists.intro _ (And.intro (c_X11_isIn A x0 (0 : Int32) (23 : Int32) ) (And.intro rfl (fun r9 A1 h9 => ?_))))))
  rcases h9 with ⟨y2, rfl, rfl, ⟨rfl, by2⟩ | ⟨rfl, by2⟩⟩
  · skip
    have k1 : (1 : Int32).toInt = 1 := rfl
    exact ⟨rfl, fun _ => (by decide), rfl, (1 : Int32), rfl, rfl, Or.inl ⟨rfl, by first | omega | (dsimp only; omega) | trivial⟩⟩
  · skip
    exact ⟨rfl, fun _ => (by decide), rfl, (0 : Int32), rfl, rfl, Or.inr ⟨rfl, by first | omega | (dsimp only; omega) | trivial⟩⟩

set_option maxRecDepth 100000 in
set_option maxHeartbeats 2000000 in
theorem c_X11_isSpan (D : md_D h q) (v : Nat → Int32) (f : Nat → Nat → Int32) (hv : md_V v) (hf : md_F f) (x1 : Int32) (x2 : Int32)  : pm_Mt l g 180 0 0 0 [.ref h, .int x1, .int x2] (md A0 g h q v f) (md_Qp (md A0 g h q v f) (fun r => (r = 1 ∧ (0 ≤ x1.toInt ∧ x1.toInt ≤ x2.toInt ∧ x2.toInt < (v 0).toInt)) ∨ (r = 0 ∧ (¬ (0 ≤ x1.toInt ∧ x1.toInt ≤ x2.toInt ∧ x2.toInt < (v 0).toInt))))) := by
  refine mt_X11_isSpan rfl (fun J hC => ?_)
  have hv9 := hv
  unfold md_V at hv9
  have rg_x1 := pm_rng x1
  have rg_x2 := pm_rng x2
  refine hC.1 0 0 _ _ rfl _ _ _ _ _ ?_
  refine And.intro (fun c1 => ?_) (fun c1 => ?_)
  · skip
    refine hC.1 1 21 _ _ rfl _ _ _ _ _ ?_
    have k0 : (0 : Int32).toInt = 0 := rfl
    refine hC.1 2 22 _ _ rfl _ _ _ _ _ ?_
    exact ⟨rfl, fun _ => (by decide), rfl, (0 : Int32), rfl, rfl, Or.inr ⟨rfl, by first | omega | (dsimp only; omega) | trivial⟩⟩
  · skip
    refine And.intro (fun c2 => ?_) (fun c2 => ?_)
    · skip
      refine hC.1 1 21 _ _ rfl _ _ _ _ _ ?_
      have k0 : (0 : Int32).toInt = 0 := rfl
      refine hC.1 2 22 _ _ rfl _ _ _ _ _ ?_
      exact ⟨rfl, fun _ => (by decide), rfl, (0 : Int32), rfl, rfl, Or.inr ⟨rfl, by first | omega | (dsimp only; omega) | trivial⟩⟩
    · skip
      refine Exists.intro _ (And.intro md_o ?_)
      refine And.intro (fun c3 => ?_) (fun c3 => ?_)
      · skip
        refine hC.1 1 21 _ _ rfl _ _ _ _ _ ?_
        have k0 : (0 : Int32).toInt = 0 := rfl
        refine hC.1 2 22 _ _ rfl _ _ _ _ _ ?_
        exact ⟨rfl, fun _ => (by decide), rfl, (0 : Int32), rfl, rfl, Or.inr ⟨rfl, by first | omega | (dsimp only; omega) | trivial⟩⟩
      · skip
        have k1 : (1 : Int32).toInt = 1 := rfl
        refine hC.1 2 22 _ _ rfl _ _ _ _ _ ?_
        exact ⟨rfl, fun _ => (by decide), rfl, (1 : Int32), rfl, rfl, Or.inl ⟨rfl, by first | omega | (dsimp only; omega) | trivial⟩⟩

end
end
section
section
variable {l : Launch} {g : pm_G} {A0 : pm_H} {h : Nat} {q : Nat → Nat}
set_option maxRecDepth 100000 in
set_option maxHeartbeats 2000000 in
theorem c_X11_bits (A : pm_H) (x0 : Int32)  : pm_Mt l g 207 0 0 0 [.int x0] A (md_Qp A (fun r => (¬ x0 = 0 ∧ x0 &&& (x0 - 1) = 0) → r = 1)) := by
  refine mt_X11_bits rfl (fun J hC => ?_)
  have rg_x0 := pm_rng x0
  refine hC.1 0 0 _ _ rfl _ _ _ _ _ ?_
  have k0 : (0 : Int32).toInt = 0 := rfl
  have lp1 : ∀ (n : Nat) (z1_4 : Int32) (z2_4 : Int32), (((z1_4 = 0 ∧ z2_4 = x0) ∨ (¬ x0 = 0 ∧ (x0 &&& (x0 - 1) = 0 → z1_4 = 1 ∧ z2_4 = 0)))) → (z2_4.toBitVec.toNat : Int) < (n : Int) → J 4 [some (.int x0), some (.int z1_4), some (.int z2_4)] [] A 0 0 := by
    intro n
    induction n with
    | zero =>
      intro z1_4 z2_4 j0_4 j1_4
      omega
    | succ n ih2 =>
      intro z1_4 z2_4 j0_4 j1_4
      refine hC.1 1 4 _ _ rfl _ _ _ _ _ ?_
      refine And.intro (fun c3 => ?_) (fun c3 => ?_)
      · skip
        have dc3 : (z2_4).toInt = (0 : Int32).toInt := congrArg Int32.toInt c3
        refine hC.1 2 20 _ _ rfl _ _ _ _ _ ?_
        exact ⟨rfl, fun e9 => absurd e9 (by decide), rfl, z1_4, rfl, rfl, by exact fun h9 => j0_4.elim (fun h1 => absurd (h1.2.symm.trans (by assumption)) h9.1) (fun h1 => (h1.2 h9.2).1)⟩
      · skip
        have dc3 := pm_neI c3
        have k1 : (1 : Int32).toInt = 1 := rfl
        intro m4 em_8
        intro m5 em_14
        exact ih2 m4 (z2_4 &&& m5) (by exact j0_4.elim (fun h1 => Or.inr ⟨by rw [← h1.2]; assumption, fun e9 => ⟨by rw [em_8, h1.1]; rfl, by rw [em_14, h1.2]; exact e9⟩⟩) (fun h1 => Or.inr ⟨h1.1, fun e9 => absurd (h1.2 e9).2 (by assumption)⟩)) (by have h1 := pm_bits_lt (x := z2_4) (by assumption); rw [em_14]; omega)
  exact lp1 ((x0.toBitVec.toNat : Int)).toNat.succ (0 : Int32) x0 (by exact Or.inl ⟨rfl, rfl⟩) (by omega)

set_option maxRecDepth 100000 in
set_option maxHeartbeats 2000000 in
theorem c_X11_ahead (D : md_D h q) (v : Nat → Int32) (f : Nat → Nat → Int32) (hv : md_V v) (hf : md_F f) (x1 : Int32) (p0 : 0 ≤ x1.toInt ∧ x1.toInt < 160) : pm_Mt l g 174 0 0 0 [.ref h, .int x1] (md A0 g h q v f) (md_Qp (md A0 g h q v f) (fun r => r.toInt = lastEq (f 0) (f 0 x1.toInt.toNat) x1.toInt.toNat)) := by
  refine mt_X11_ahead rfl (fun J hC => ?_)
  have hv9 := hv
  unfold md_V at hv9
  have rg_x1 := pm_rng x1
  refine hC.1 0 0 _ _ rfl _ _ _ _ _ ?_
  have k1 : (1 : Int32).toInt = 1 := rfl
  intro m1 em_2
  try have e1 : m1.toInt = (x1).toInt - (1) := by rw [em_2]; exact pm_subc _ _ (1) rfl (by omega) (by omega)
  have lp2 : ∀ (n : Nat) (z2_4 : Int32), (-1 ≤ z2_4.toInt ∧ z2_4.toInt < x1.toInt) → (lastEq (f 0) (f 0 x1.toInt.toNat) x1.toInt.toNat = lastEq (f 0) (f 0 x1.toInt.toNat) (z2_4.toInt + 1).toNat) → z2_4.toInt + 1 < (n : Int) → J 4 [some (.ref h), some (.int x1), some (.int z2_4)] [] (md A0 g h q v f) 0 0 := by
    intro n
    induction n with
    | zero =>
      intro z2_4 j0_4 j1_4 j2_4
      omega
    | succ n ih3 =>
      intro z2_4 j0_4 j1_4 j2_4
      refine hC.1 1 4 _ _ rfl _ _ _ _ _ ?_
      refine And.intro (fun c4 => ?_) (fun c4 => ?_)
      · skip
        refine hC.1 3 31 _ _ rfl _ _ _ _ _ ?_
        have km1 : (-1 : Int32).toInt = -1 := rfl
        exact ⟨rfl, fun e9 => absurd e9 (by decide), rfl, (-1 : Int32), rfl, rfl, by rw [j1_4, show (z2_4.toInt + 1).toNat = 0 by omega]; rfl⟩
      · skip
        refine Exists.intro _ (And.intro md_o ?_)
        refine Exists.intro _ (Exists.intro _ (And.intro (Or.inl (md_a_colours D)) (And.intro (by omega) ?_)))
        have w5 : (0 : Int) ≤ (f 0 (z2_4).toInt.toNat).toInt ∧ (f 0 (z2_4).toInt.toNat).toInt ≤ (23 : Int) := hf 0 _
        refine Exists.intro _ (And.intro md_o ?_)
        refine Exists.intro _ (Exists.intro _ (And.intro (Or.inl (md_a_colours D)) (And.intro (by omega) ?_)))
        have w6 : (0 : Int) ≤ (f 0 (x1).toInt.toNat).toInt ∧ (f 0 (x1).toInt.toNat).toInt ≤ (23 : Int) := hf 0 _
        refine And.intro (fun c7 => ?_) (fun c7 => ?_)
        · skip
          have dc7 := pm_neI c7
          refine hC.1 2 25 _ _ rfl _ _ _ _ _ ?_
          have km1 : (-1 : Int32).toInt = -1 := rfl
          intro m8 em_25
          try have e8 : m8.toInt = (z2_4).toInt + (-1) := by rw [em_25]; exact pm_addc _ _ (-1) rfl (by omega) (by omega)
          exact ih3 m8 (by omega) (by rw [j1_4, lastEq_s (by omega), if_neg (by assumption), show (m8.toInt + 1).toNat = z2_4.toInt.toNat by omega]) (by omega)
        · skip
          have dc7 : ((f 0 (z2_4).toInt.toNat)).toInt = ((f 0 (x1).toInt.toNat) : Int32).toInt := congrArg Int32.toInt c7
          exact ⟨rfl, fun e9 => absurd e9 (by decide), rfl, z2_4, rfl, rfl, by rw [j1_4, lastEq_s (by omega), if_pos (by assumption)]⟩
  exact lp2 (m1.toInt + 1).toNat.succ m1 (by omega) (by rw [show (m1.toInt + 1).toNat = x1.toInt.toNat by omega]) (by omega)

end
end
section
section
variable {l : Launch} {g : pm_G} {A0 : pm_H} {h : Nat} {q : Nat → Nat}
set_option maxRecDepth 100000 in
set_option maxHeartbeats 2000000 in
theorem c_X11_behind (D : md_D h q) (v : Nat → Int32) (f : Nat → Nat → Int32) (hv : md_V v) (hf : md_F f) (x1 : Int32) (p0 : 0 ≤ x1.toInt ∧ x1.toInt < (v 0).toInt) : pm_Mt l g 196 0 0 0 [.ref h, .int x1] (md A0 g h q v f) (md_Qp (md A0 g h q v f) (fun r => r.toInt = nextEq (f 0) (f 0 x1.toInt.toNat) (x1.toInt + 1).toNat ((v 0).toInt - (x1.toInt + 1)).toNat)) := by
  refine mt_X11_behind rfl (fun J hC => ?_)
  have hv9 := hv
  unfold md_V at hv9
  have rg_x1 := pm_rng x1
  refine hC.1 0 0 _ _ rfl _ _ _ _ _ ?_
  have k1 : (1 : Int32).toInt = 1 := rfl
  intro m1 em_2
  try have e1 : m1.toInt = (x1).toInt + (1) := by rw [em_2]; exact pm_addc _ _ (1) rfl (by omega) (by omega)
  have lp2 : ∀ (n : Nat) (z2_4 : Int32), (0 ≤ z2_4.toInt ∧ z2_4.toInt ≤ (v 0).toInt) → (nextEq (f 0) (f 0 x1.toInt.toNat) (x1.toInt + 1).toNat ((v 0).toInt - (x1.toInt + 1)).toNat = nextEq (f 0) (f 0 x1.toInt.toNat) z2_4.toInt.toNat ((v 0).toInt - z2_4.toInt).toNat) → 200 - z2_4.toInt < (n : Int) → J 4 [some (.ref h), some (.int x1), some (.int z2_4)] [] (md A0 g h q v f) 0 0 := by
    intro n
    induction n with
    | zero =>
      intro z2_4 j0_4 j1_4 j2_4
      omega
    | succ n ih3 =>
      intro z2_4 j0_4 j1_4 j2_4
      refine hC.1 1 4 _ _ rfl _ _ _ _ _ ?_
      refine Exists.intro _ (And.intro md_o ?_)
      refine And.intro (fun c4 => ?_) (fun c4 => ?_)
      · skip
        refine hC.1 3 35 _ _ rfl _ _ _ _ _ ?_
        have km1 : (-1 : Int32).toInt = -1 := rfl
        exact ⟨rfl, fun e9 => absurd e9 (by decide), rfl, (-1 : Int32), rfl, rfl, by rw [j1_4, show ((v 0).toInt - z2_4.toInt).toNat = 0 by omega]; rfl⟩
      · skip
        refine Exists.intro _ (And.intro md_o ?_)
        refine Exists.intro _ (Exists.intro _ (And.intro (Or.inl (md_a_colours D)) (And.intro (by omega) ?_)))
        have w5 : (0 : Int) ≤ (f 0 (z2_4).toInt.toNat).toInt ∧ (f 0 (z2_4).toInt.toNat).toInt ≤ (23 : Int) := hf 0 _
        refine Exists.intro _ (And.intro md_o ?_)
        refine Exists.intro _ (Exists.intro _ (And.intro (Or.inl (md_a_colours D)) (And.intro (by omega) ?_)))
        have w6 : (0 : Int) ≤ (f 0 (x1).toInt.toNat).toInt ∧ (f 0 (x1).toInt.toNat).toInt ≤ (23 : Int) := hf 0 _
        refine And.intro (fun c7 => ?_) (fun c7 => ?_)
        · skip
          have dc7 := pm_neI c7
          refine hC.1 2 29 _ _ rfl _ _ _ _ _ ?_
          intro m8 em_29
          try have e8 : m8.toInt = (z2_4).toInt + (1) := by rw [em_29]; exact pm_addc _ _ (1) rfl (by omega) (by omega)
          exact ih3 m8 (by omega) (by rw [j1_4, nextEq_s (by omega) (by omega), if_neg (by assumption)]; congr 1 <;> omega) (by omega)
        · skip
          have dc7 : ((f 0 (z2_4).toInt.toNat)).toInt = ((f 0 (x1).toInt.toNat) : Int32).toInt := congrArg Int32.toInt c7
          exact ⟨rfl, fun e9 => absurd e9 (by decide), rfl, z2_4, rfl, rfl, by rw [j1_4, nextEq_s (by omega) (by omega), if_pos (by assumption)]⟩
  exact lp2 (200 - m1.toInt).toNat.succ m1 (by omega) (by congr 1 <;> omega) (by omega)

set_option maxRecDepth 100000 in
set_option maxHeartbeats 2000000 in
theorem c_X11_bondOf (D : md_D h q) (v : Nat → Int32) (f : Nat → Nat → Int32) (hv : md_V v) (hf : md_F f) (x1 : Int32) (p0 : 0 ≤ x1.toInt ∧ x1.toInt < 160) : pm_Mt l g 173 1 0 0 [.ref h, .int x1] (md A0 g h q v f) (md_Qp (md A0 g h q v f) (fun r => True)) := by
  refine mt_X11_bondOf rfl (fun J hC => ?_)
  have hv9 := hv
  unfold md_V at hv9
  have rg_x1 := pm_rng x1
  have lt9 := lastEq_lt (f 0) (f 0 x1.toInt.toNat) x1.toInt.toNat
  refine hC.1 0 0 _ _ rfl _ _ _ _ _ ?_
  refine And.intro (Exists.intro _ md_o) (Exists.intro _ (Exists.intro _ (Exists.intro _ (Exists.intro _ (And.intro (c_X11_ahead D v f hv hf x1 (by omega)) (And.intro rfl (fun r9 A9 h9 => ?_)))))))
  obtain ⟨y1, rfl, rfl, by1⟩ := h9
  refine And.intro (fun c2 => ?_) (fun c2 => ?_)
  · skip
    refine hC.1 1 12 _ _ rfl _ _ _ _ _ ?_
    refine Exists.intro _ (And.intro md_o ?_)
    refine And.intro (Exists.intro _ md_o) (Exists.intro _ (Exists.intro _ (Exists.intro _ (Exists.intro _ (And.intro (c_X11_ahead D v f hv hf x1 (by omega)) (And.intro rfl (fun r9 A9 h9 => ?_)))))))
    obtain ⟨y3, rfl, rfl, by3⟩ := h9
    refine Exists.intro _ (Exists.intro _ (And.intro (Or.inl (md_a_names D)) (And.intro (by omega) ?_)))
    refine hC.1 2 22 _ _ rfl _ _ _ _ _ ?_
    exact ⟨rfl, fun e9 => absurd e9 (by decide), rfl, (f 1 (y3).toInt.toNat), rfl, rfl, by exact True.intro⟩
  · skip
    have km1 : (-1 : Int32).toInt = -1 := rfl
    refine hC.1 2 22 _ _ rfl _ _ _ _ _ ?_
    exact ⟨rfl, fun e9 => absurd e9 (by decide), rfl, (-1 : Int32), rfl, rfl, by exact True.intro⟩

end
end
section
section
variable {l : Launch} {g : pm_G} {A0 : pm_H} {h : Nat} {q : Nat → Nat}
set_option maxRecDepth 100000 in
set_option maxHeartbeats 2000000 in
theorem c_X11_placeOf (D : md_D h q) (v : Nat → Int32) (f : Nat → Nat → Int32) (hv : md_V v) (hf : md_F f) (x1 : Int32)  : pm_Mt l g 198 0 0 0 [.ref h, .int x1] (md A0 g h q v f) (md_Qp (md A0 g h q v f) (fun r => -1 ≤ r.toInt ∧ r.toInt < (v 0).toInt)) := by
  refine mt_X11_placeOf rfl (fun J hC => ?_)
  have hv9 := hv
  unfold md_V at hv9
  have rg_x1 := pm_rng x1
  refine hC.1 0 0 _ _ rfl _ _ _ _ _ ?_
  have k0 : (0 : Int32).toInt = 0 := rfl
  have lp1 : ∀ (n : Nat) (z2_2 : Int32), (0 ≤ z2_2.toInt ∧ z2_2.toInt ≤ (v 0).toInt) → 200 - z2_2.toInt < (n : Int) → J 2 [some (.ref h), some (.int x1), some (.int z2_2)] [] (md A0 g h q v f) 0 0 := by
    intro n
    induction n with
    | zero =>
      intro z2_2 j0_2 j1_2
      omega
    | succ n ih2 =>
      intro z2_2 j0_2 j1_2
      refine hC.1 1 2 _ _ rfl _ _ _ _ _ ?_
      refine Exists.intro _ (And.intro md_o ?_)
      refine And.intro (fun c3 => ?_) (fun c3 => ?_)
      · skip
        refine hC.1 3 28 _ _ rfl _ _ _ _ _ ?_
        have km1 : (-1 : Int32).toInt = -1 := rfl
        exact ⟨rfl, fun e9 => absurd e9 (by decide), rfl, (-1 : Int32), rfl, rfl, by first | omega | (dsimp only; omega) | trivial⟩
      · skip
        refine Exists.intro _ (And.intro md_o ?_)
        refine Exists.intro _ (Exists.intro _ (And.intro (Or.inl (md_a_names D)) (And.intro (by omega) ?_)))
        refine And.intro (fun c4 => ?_) (fun c4 => ?_)
        · skip
          have dc4 := pm_neI c4
          refine hC.1 2 22 _ _ rfl _ _ _ _ _ ?_
          have k1 : (1 : Int32).toInt = 1 := rfl
          intro m5 em_22
          try have e5 : m5.toInt = (z2_2).toInt + (1) := by rw [em_22]; exact pm_addc _ _ (1) rfl (by omega) (by omega)
          exact ih2 m5 (by omega) (by omega)
        · skip
          have dc4 : ((f 1 (z2_2).toInt.toNat)).toInt = (x1 : Int32).toInt := congrArg Int32.toInt c4
          exact ⟨rfl, fun e9 => absurd e9 (by decide), rfl, z2_2, rfl, rfl, by first | omega | (dsimp only; omega) | trivial⟩
  exact lp1 (200 - (0 : Int32).toInt).toNat.succ (0 : Int32) (by omega) (by omega)

end
end
section
section
variable {l : Launch} {g : pm_G} {A0 : pm_H} {h : Nat} {q : Nat → Nat}
set_option maxRecDepth 100000 in
set_option maxHeartbeats 2000000 in
theorem c_X11_place (D : md_D h q) (v : Nat → Int32) (f : Nat → Nat → Int32) (hv : md_V v) (hf : md_F f) (x1 : Int32)  : pm_Mt l g 197 1 0 0 [.ref h, .int x1] (md A0 g h q v f) (md_Qp (md A0 g h q v f) (fun r => -1 ≤ r.toInt ∧ r.toInt < (v 0).toInt)) := by
  refine mt_X11_place rfl (fun J hC => ?_)
  have hv9 := hv
  unfold md_V at hv9
  have rg_x1 := pm_rng x1
  refine hC.1 0 0 _ _ rfl _ _ _ _ _ ?_
  refine And.intro (fun c1 => ?_) (fun c1 => ?_)
  · skip
    refine hC.1 1 8 _ _ rfl _ _ _ _ _ ?_
    refine And.intro (Exists.intro _ md_o) (Exists.intro _ (Exists.intro _ (Exists.intro _ (Exists.intro _ (And.intro (c_X11_placeOf D v f hv hf x1 ) (And.intro rfl (fun r9 A9 h9 => ?_)))))))
    obtain ⟨y2, rfl, rfl, by2⟩ := h9
    refine hC.1 2 13 _ _ rfl _ _ _ _ _ ?_
    exact ⟨rfl, fun e9 => absurd e9 (by decide), rfl, y2, rfl, rfl, by first | omega | (dsimp only; omega) | trivial⟩
  · skip
    have km1 : (-1 : Int32).toInt = -1 := rfl
    refine hC.1 2 13 _ _ rfl _ _ _ _ _ ?_
    exact ⟨rfl, fun e9 => absurd e9 (by decide), rfl, (-1 : Int32), rfl, rfl, by first | omega | (dsimp only; omega) | trivial⟩

set_option maxRecDepth 100000 in
set_option maxHeartbeats 2000000 in
theorem c_X11_first (D : md_D h q) (v : Nat → Int32) (f : Nat → Nat → Int32) (hv : md_V v) (hf : md_F f) (x1 : Int32)  : pm_Mt l g 201 0 0 0 [.ref h, .int x1] (md A0 g h q v f) (md_Qp (md A0 g h q v f) (fun r => True)) := by
  refine mt_X11_first rfl (fun J hC => ?_)
  have hv9 := hv
  unfold md_V at hv9
  have rg_x1 := pm_rng x1
  refine hC.1 0 0 _ _ rfl _ _ _ _ _ ?_
  have k0 : (0 : Int32).toInt = 0 := rfl
  have lp1 : ∀ (n : Nat) (z2_2 : Int32), (0 ≤ z2_2.toInt ∧ z2_2.toInt ≤ (v 0).toInt) → 200 - z2_2.toInt < (n : Int) → J 2 [some (.ref h), some (.int x1), some (.int z2_2)] [] (md A0 g h q v f) 0 0 := by
    intro n
    induction n with
    | zero =>
      intro z2_2 j0_2 j1_2
      omega
    | succ n ih2 =>
      intro z2_2 j0_2 j1_2
      refine hC.1 1 2 _ _ rfl _ _ _ _ _ ?_
      refine Exists.intro _ (And.intro md_o ?_)
      refine And.intro (fun c3 => ?_) (fun c3 => ?_)
      · skip
        refine hC.1 3 28 _ _ rfl _ _ _ _ _ ?_
        have km1 : (-1 : Int32).toInt = -1 := rfl
        exact ⟨rfl, fun e9 => absurd e9 (by decide), rfl, (-1 : Int32), rfl, rfl, by exact True.intro⟩
      · skip
        refine Exists.intro _ (And.intro md_o ?_)
        refine Exists.intro _ (Exists.intro _ (And.intro (Or.inl (md_a_colours D)) (And.intro (by omega) ?_)))
        have w4 : (0 : Int) ≤ (f 0 (z2_2).toInt.toNat).toInt ∧ (f 0 (z2_2).toInt.toNat).toInt ≤ (23 : Int) := hf 0 _
        refine And.intro (fun c5 => ?_) (fun c5 => ?_)
        · skip
          have dc5 := pm_neI c5
          refine hC.1 2 22 _ _ rfl _ _ _ _ _ ?_
          have k1 : (1 : Int32).toInt = 1 := rfl
          intro m6 em_22
          try have e6 : m6.toInt = (z2_2).toInt + (1) := by rw [em_22]; exact pm_addc _ _ (1) rfl (by omega) (by omega)
          exact ih2 m6 (by omega) (by omega)
        · skip
          have dc5 : ((f 0 (z2_2).toInt.toNat)).toInt = (x1 : Int32).toInt := congrArg Int32.toInt c5
          exact ⟨rfl, fun e9 => absurd e9 (by decide), rfl, z2_2, rfl, rfl, by exact True.intro⟩
  exact lp1 (200 - (0 : Int32).toInt).toNat.succ (0 : Int32) (by omega) (by omega)

set_option maxRecDepth 100000 in
set_option maxHeartbeats 2000000 in
theorem c_X11_last (D : md_D h q) (v : Nat → Int32) (f : Nat → Nat → Int32) (hv : md_V v) (hf : md_F f) (x1 : Int32)  : pm_Mt l g 202 0 0 0 [.ref h, .int x1] (md A0 g h q v f) (md_Qp (md A0 g h q v f) (fun r => True)) := by
  refine mt_X11_last rfl (fun J hC => ?_)
  have hv9 := hv
  unfold md_V at hv9
  have rg_x1 := pm_rng x1
  refine hC.1 0 0 _ _ rfl _ _ _ _ _ ?_
  refine Exists.intro _ (And.intro md_o ?_)
  have k1 : (1 : Int32).toInt = 1 := rfl
  intro m1 em_5
  try have e1 : m1.toInt = ((v 0)).toInt - (1) := by rw [em_5]; exact pm_subc _ _ (1) rfl (by omega) (by omega)
  have lp2 : ∀ (n : Nat) (z2_7 : Int32), (-1 ≤ z2_7.toInt ∧ z2_7.toInt < (v 0).toInt) → z2_7.toInt + 1 < (n : Int) → J 7 [some (.ref h), some (.int x1), some (.int z2_7)] [] (md A0 g h q v f) 0 0 := by
    intro n
    induction n with
    | zero =>
      intro z2_7 j0_7 j1_7
      omega
    | succ n ih3 =>
      intro z2_7 j0_7 j1_7
      refine hC.1 1 7 _ _ rfl _ _ _ _ _ ?_
      refine And.intro (fun c4 => ?_) (fun c4 => ?_)
      · skip
        refine hC.1 3 29 _ _ rfl _ _ _ _ _ ?_
        have km1 : (-1 : Int32).toInt = -1 := rfl
        exact ⟨rfl, fun e9 => absurd e9 (by decide), rfl, (-1 : Int32), rfl, rfl, by exact True.intro⟩
      · skip
        refine Exists.intro _ (And.intro md_o ?_)
        refine Exists.intro _ (Exists.intro _ (And.intro (Or.inl (md_a_colours D)) (And.intro (by omega) ?_)))
        have w5 : (0 : Int) ≤ (f 0 (z2_7).toInt.toNat).toInt ∧ (f 0 (z2_7).toInt.toNat).toInt ≤ (23 : Int) := hf 0 _
        refine And.intro (fun c6 => ?_) (fun c6 => ?_)
        · skip
          have dc6 := pm_neI c6
          refine hC.1 2 23 _ _ rfl _ _ _ _ _ ?_
          have km1 : (-1 : Int32).toInt = -1 := rfl
          intro m7 em_23
          try have e7 : m7.toInt = (z2_7).toInt + (-1) := by rw [em_23]; exact pm_addc _ _ (-1) rfl (by omega) (by omega)
          exact ih3 m7 (by omega) (by omega)
        · skip
          have dc6 : ((f 0 (z2_7).toInt.toNat)).toInt = (x1 : Int32).toInt := congrArg Int32.toInt c6
          exact ⟨rfl, fun e9 => absurd e9 (by decide), rfl, z2_7, rfl, rfl, by exact True.intro⟩
  exact lp2 (m1.toInt + 1).toNat.succ m1 (by omega) (by omega)

set_option maxRecDepth 100000 in
set_option maxHeartbeats 2000000 in
theorem c_X11_widest (D : md_D h q) (v : Nat → Int32) (f : Nat → Nat → Int32) (hv : md_V v) (hf : md_F f) (x1 : Int32)  : pm_Mt l g 203 1 0 0 [.ref h, .int x1] (md A0 g h q v f) (md_Qp (md A0 g h q v f) (fun r => True)) := by
  refine mt_X11_widest rfl (fun J hC => ?_)
  have hv9 := hv
  unfold md_V at hv9
  have rg_x1 := pm_rng x1
  refine hC.1 0 0 _ _ rfl _ _ _ _ _ ?_
  have km1 : (-1 : Int32).toInt = -1 := rfl
  have k0 : (0 : Int32).toInt = 0 := rfl
  have lp1 : ∀ (n : Nat) (z2_4 : Int32) (z3_4 : Int32), (0 ≤ z3_4.toInt ∧ z3_4.toInt ≤ (v 0).toInt) → 200 - z3_4.toInt < (n : Int) → J 4 [some (.ref h), some (.int x1), some (.int z2_4), some (.int z3_4)] [] (md A0 g h q v f) 0 0 := by
    intro n
    induction n with
    | zero =>
      intro z2_4 z3_4 j0_4 j1_4
      omega
    | succ n ih2 =>
      intro z2_4 z3_4 j0_4 j1_4
      refine hC.1 1 4 _ _ rfl _ _ _ _ _ ?_
      refine Exists.intro _ (And.intro md_o ?_)
      refine And.intro (fun c3 => ?_) (fun c3 => ?_)
      · skip
        refine hC.1 3 59 _ _ rfl _ _ _ _ _ ?_
        exact ⟨rfl, fun e9 => absurd e9 (by decide), rfl, z2_4, rfl, rfl, by exact True.intro⟩
      · skip
        refine Exists.intro _ (And.intro md_o ?_)
        refine Exists.intro _ (Exists.intro _ (And.intro (Or.inl (md_a_colours D)) (And.intro (by omega) ?_)))
        have w4 : (0 : Int) ≤ (f 0 (z3_4).toInt.toNat).toInt ∧ (f 0 (z3_4).toInt.toNat).toInt ≤ (23 : Int) := hf 0 _
        refine And.intro (fun c5 => ?_) (fun c5 => ?_)
        · skip
          have dc5 := pm_neI c5
          refine hC.1 2 53 _ _ rfl _ _ _ _ _ ?_
          have k1 : (1 : Int32).toInt = 1 := rfl
          intro m6 em_53
          try have e6 : m6.toInt = (z3_4).toInt + (1) := by rw [em_53]; exact pm_addc _ _ (1) rfl (by omega) (by omega)
          exact ih2 z2_4 m6 (by omega) (by omega)
        · skip
          have dc5 : ((f 0 (z3_4).toInt.toNat)).toInt = (x1 : Int32).toInt := congrArg Int32.toInt c5
          refine And.intro (Exists.intro _ md_o) (Exists.intro _ (Exists.intro _ (Exists.intro _ (Exists.intro _ (And.intro (c_X11_ahead D v f hv hf z3_4 (by omega)) (And.intro rfl (fun r9 A9 h9 => ?_)))))))
          obtain ⟨y7, rfl, rfl, by7⟩ := h9
          refine And.intro (fun c8 => ?_) (fun c8 => ?_)
          · skip
            refine hC.1 2 53 _ _ rfl _ _ _ _ _ ?_
            have k1 : (1 : Int32).toInt = 1 := rfl
            intro m9 em_53
            try have e9 : m9.toInt = (z3_4).toInt + (1) := by rw [em_53]; exact pm_addc _ _ (1) rfl (by omega) (by omega)
            exact ih2 z2_4 m9 (by omega) (by omega)
          · skip
            refine And.intro (Exists.intro _ md_o) (Exists.intro _ (Exists.intro _ (Exists.intro _ (Exists.intro _ (And.intro (c_X11_ahead D v f hv hf z3_4 (by omega)) (And.intro rfl (fun r9 A9 h9 => ?_)))))))
            obtain ⟨y10, rfl, rfl, by10⟩ := h9
            intro m11 em_36
            try have e11 : m11.toInt = (z3_4).toInt - (y10).toInt := by rw [em_36]; exact pm_sub _ _ (by omega) (by omega)
            have k1 : (1 : Int32).toInt = 1 := rfl
            intro m12 em_38
            try have e12 : m12.toInt = (m11).toInt - (1) := by rw [em_38]; exact pm_subc _ _ (1) rfl (by omega) (by omega)
            refine And.intro (fun c13 => ?_) (fun c13 => ?_)
            · skip
              refine hC.1 2 53 _ _ rfl _ _ _ _ _ ?_
              intro m14 em_53
              try have e14 : m14.toInt = (z3_4).toInt + (1) := by rw [em_53]; exact pm_addc _ _ (1) rfl (by omega) (by omega)
              exact ih2 z2_4 m14 (by omega) (by omega)
            · skip
              refine And.intro (Exists.intro _ md_o) (Exists.intro _ (Exists.intro _ (Exists.intro _ (Exists.intro _ (And.intro (c_X11_ahead D v f hv hf z3_4 (by omega)) (And.intro rfl (fun r9 A9 h9 => ?_)))))))
              obtain ⟨y15, rfl, rfl, by15⟩ := h9
              intro m16 em_49
              try have e16 : m16.toInt = (z3_4).toInt - (y15).toInt := by rw [em_49]; exact pm_sub _ _ (by omega) (by omega)
              intro m17 em_51
              try have e17 : m17.toInt = (m16).toInt - (1) := by rw [em_51]; exact pm_subc _ _ (1) rfl (by omega) (by omega)
              refine hC.1 2 53 _ _ rfl _ _ _ _ _ ?_
              intro m18 em_53
              try have e18 : m18.toInt = (z3_4).toInt + (1) := by rw [em_53]; exact pm_addc _ _ (1) rfl (by omega) (by omega)
              exact ih2 m17 m18 (by omega) (by omega)
  exact lp1 (200 - (0 : Int32).toInt).toNat.succ (-1 : Int32) (0 : Int32) (by omega) (by omega)

set_option maxRecDepth 100000 in
set_option maxHeartbeats 2000000 in
theorem c_X11_timesIn (D : md_D h q) (v : Nat → Int32) (f : Nat → Nat → Int32) (hv : md_V v) (hf : md_F f) (x1 : Int32) (x2 : Int32) (x3 : Int32) (p0 : 0 ≤ x1.toInt ∧ x1.toInt ≤ 160) (p1 : -1 ≤ x2.toInt ∧ x2.toInt < 160) : pm_Mt l g 200 0 0 0 [.ref h, .int x1, .int x2, .int x3] (md A0 g h q v f) (md_Qp (md A0 g h q v f) (fun r => True)) := by
  refine mt_X11_timesIn rfl (fun J hC => ?_)
  have hv9 := hv
  unfold md_V at hv9
  have rg_x1 := pm_rng x1
  have rg_x2 := pm_rng x2
  have rg_x3 := pm_rng x3
  refine hC.1 0 0 _ _ rfl _ _ _ _ _ ?_
  have k0 : (0 : Int32).toInt = 0 := rfl
  have lp1 : ∀ (n : Nat) (z4_6 : Int32) (z5_6 : Int32), (0 ≤ z5_6.toInt ∧ z5_6.toInt ≤ 161) → 200 - z5_6.toInt < (n : Int) → J 6 [some (.ref h), some (.int x1), some (.int x2), some (.int x3), some (.int z4_6), some (.int z5_6)] [] (md A0 g h q v f) 0 0 := by
    intro n
    induction n with
    | zero =>
      intro z4_6 z5_6 j0_6 j1_6
      omega
    | succ n ih2 =>
      intro z4_6 z5_6 j0_6 j1_6
      refine hC.1 1 6 _ _ rfl _ _ _ _ _ ?_
      refine And.intro (fun c3 => ?_) (fun c3 => ?_)
      · skip
        refine hC.1 4 39 _ _ rfl _ _ _ _ _ ?_
        exact ⟨rfl, fun e9 => absurd e9 (by decide), rfl, z4_6, rfl, rfl, by exact True.intro⟩
      · skip
        refine Exists.intro _ (And.intro md_o ?_)
        refine Exists.intro _ (Exists.intro _ (And.intro (Or.inl (md_a_colours D)) (And.intro (by omega) ?_)))
        have w4 : (0 : Int) ≤ (f 0 (z5_6).toInt.toNat).toInt ∧ (f 0 (z5_6).toInt.toNat).toInt ≤ (23 : Int) := hf 0 _
        refine And.intro (fun c5 => ?_) (fun c5 => ?_)
        · skip
          have dc5 := pm_neI c5
          refine hC.1 2 29 _ _ rfl _ _ _ _ _ ?_
          refine hC.1 3 30 _ _ rfl _ _ _ _ _ ?_
          intro m6 em_30
          try have e6 : m6.toInt = (z4_6).toInt + (0) := by rw [em_30]; exact pm_addc _ _ (0) rfl (by omega) (by omega)
          have k1 : (1 : Int32).toInt = 1 := rfl
          intro m7 em_33
          try have e7 : m7.toInt = (z5_6).toInt + (1) := by rw [em_33]; exact pm_addc _ _ (1) rfl (by omega) (by omega)
          exact ih2 m6 m7 (by omega) (by omega)
        · skip
          have dc5 : ((f 0 (z5_6).toInt.toNat)).toInt = (x3 : Int32).toInt := congrArg Int32.toInt c5
          have k1 : (1 : Int32).toInt = 1 := rfl
          refine hC.1 3 30 _ _ rfl _ _ _ _ _ ?_
          intro m8 em_30
          try have e8 : m8.toInt = (z4_6).toInt + (1) := by rw [em_30]; exact pm_addc _ _ (1) rfl (by omega) (by omega)
          intro m9 em_33
          try have e9 : m9.toInt = (z5_6).toInt + (1) := by rw [em_33]; exact pm_addc _ _ (1) rfl (by omega) (by omega)
          exact ih2 m8 m9 (by omega) (by omega)
  exact lp1 (200 - x1.toInt).toNat.succ (0 : Int32) x1 (by omega) (by omega)

set_option maxRecDepth 100000 in
set_option maxHeartbeats 2000000 in
theorem c_X11_setOf (D : md_D h q) (v : Nat → Int32) (f : Nat → Nat → Int32) (hv : md_V v) (hf : md_F f) (x1 : Int32) (x2 : Int32) (p0 : 0 ≤ x1.toInt ∧ x1.toInt ≤ 160) (p1 : -1 ≤ x2.toInt ∧ x2.toInt < 160) : pm_Mt l g 206 0 0 0 [.ref h, .int x1, .int x2] (md A0 g h q v f) (md_Qp (md A0 g h q v f) (fun r => r = setF (f 0) x1.toInt.toNat (x2.toInt + 1 - x1.toInt).toNat)) := by
  refine mt_X11_setOf rfl (fun J hC => ?_)
  have hv9 := hv
  unfold md_V at hv9
  have rg_x1 := pm_rng x1
  have rg_x2 := pm_rng x2
  refine hC.1 0 0 _ _ rfl _ _ _ _ _ ?_
  have k0 : (0 : Int32).toInt = 0 := rfl
  have lp1 : ∀ (n : Nat) (z3_5 : Int32) (z4_5 : Int32), (x1.toInt ≤ z4_5.toInt ∧ z4_5.toInt ≤ 161 ∧ (z4_5.toInt ≤ x2.toInt + 1 ∨ z4_5.toInt = x1.toInt)) → (z3_5 = setF (f 0) x1.toInt.toNat (z4_5.toInt - x1.toInt).toNat) → 200 - z4_5.toInt < (n : Int) → J 5 [some (.ref h), some (.int x1), some (.int x2), some (.int z3_5), some (.int z4_5)] [] (md A0 g h q v f) 0 0 := by
    intro n
    induction n with
    | zero =>
      intro z3_5 z4_5 j0_5 j1_5 j2_5
      omega
    | succ n ih2 =>
      intro z3_5 z4_5 j0_5 j1_5 j2_5
      refine hC.1 1 5 _ _ rfl _ _ _ _ _ ?_
      refine And.intro (fun c3 => ?_) (fun c3 => ?_)
      · skip
        refine hC.1 2 29 _ _ rfl _ _ _ _ _ ?_
        exact ⟨rfl, fun e9 => absurd e9 (by decide), rfl, z3_5, rfl, rfl, by rw [j1_5]; congr 1; omega⟩
      · skip
        have k1 : (1 : Int32).toInt = 1 := rfl
        refine Exists.intro _ (And.intro md_o ?_)
        refine Exists.intro _ (Exists.intro _ (And.intro (Or.inl (md_a_colours D)) (And.intro (by omega) ?_)))
        have w4 : (0 : Int) ≤ (f 0 (z4_5).toInt.toNat).toInt ∧ (f 0 (z4_5).toInt.toNat).toInt ≤ (23 : Int) := hf 0 _
        intro m5 em_23
        try have e5 : m5.toInt = (z4_5).toInt + (1) := by rw [em_23]; exact pm_addc _ _ (1) rfl (by omega) (by omega)
        exact ih2 (z3_5 ||| ((1 : Int32) <<< ((f 0 (z4_5).toInt.toNat) &&& 31))) m5 (by omega) (by rw [j1_5]; exact setF_s (m := m5) (by omega) (by omega)) (by omega)
  exact lp1 (200 - x1.toInt).toNat.succ (0 : Int32) x1 (by omega) (by rw [show (x1.toInt - x1.toInt).toNat = 0 by omega]; rfl) (by omega)

set_option maxRecDepth 100000 in
set_option maxHeartbeats 2000000 in
theorem c_X11_countOf (D : md_D h q) (v : Nat → Int32) (f : Nat → Nat → Int32) (hv : md_V v) (hf : md_F f) (x1 : Int32) (x2 : Int32) (p0 : 0 ≤ x1.toInt ∧ x1.toInt ≤ 160) (p1 : -1 ≤ x2.toInt ∧ x2.toInt < 160) : pm_Mt l g 209 1 0 0 [.ref h, .int x1, .int x2] (md A0 g h q v f) (md_Qp (md A0 g h q v f) (fun r => True)) := by
  refine mt_X11_countOf rfl (fun J hC => ?_)
  have hv9 := hv
  unfold md_V at hv9
  have rg_x1 := pm_rng x1
  have rg_x2 := pm_rng x2
  refine hC.1 0 0 _ _ rfl _ _ _ _ _ ?_
  refine And.intro (Exists.intro _ md_o) (Exists.intro _ (Exists.intro _ (Exists.intro _ (Exists.intro _ (And.intro (c_X11_setOf D v f hv hf x1 x2 (by omega) (by omega)) (And.intro rfl (fun r9 A9 h9 => ?_)))))))
  obtain ⟨y1, rfl, rfl, by1⟩ := h9
  refine Exists.intro _ (Exists.intro _ (Exists.intro _ (Exists.intro _ (And.intro (c_X11_bits (md A0 g h q v f) y1 ) (And.intro rfl (fun r9 A9 h9 => ?_))))))
  obtain ⟨y2, rfl, rfl, by2⟩ := h9
  exact ⟨rfl, fun e9 => absurd e9 (by decide), rfl, y2, rfl, rfl, by exact True.intro⟩

set_option maxRecDepth 100000 in
set_option maxHeartbeats 2000000 in
theorem c_X11_weightOf (D : md_D h q) (v : Nat → Int32) (f : Nat → Nat → Int32) (hv : md_V v) (hf : md_F f) (x1 : Int32)  : pm_Mt l g 211 0 0 0 [.ref h, .int x1] (md A0 g h q v f) (md_Qp (md A0 g h q v f) (fun r => True)) := by
  refine mt_X11_weightOf rfl (fun J hC => ?_)
  have hv9 := hv
  unfold md_V at hv9
  have rg_x1 := pm_rng x1
  refine hC.1 0 0 _ _ rfl _ _ _ _ _ ?_
  have k0 : (0 : Int32).toInt = 0 := rfl
  have lp1 : ∀ (n : Nat) (z2_4 : Int32) (z3_4 : Int32), (0 ≤ z3_4.toInt ∧ z3_4.toInt ≤ 24) → 200 - z3_4.toInt < (n : Int) → J 4 [some (.ref h), some (.int x1), some (.int z2_4), some (.int z3_4)] [] (md A0 g h q v f) 0 0 := by
    intro n
    induction n with
    | zero =>
      intro z2_4 z3_4 j0_4 j1_4
      omega
    | succ n ih2 =>
      intro z2_4 z3_4 j0_4 j1_4
      refine hC.1 1 4 _ _ rfl _ _ _ _ _ ?_
      have k24 : (24 : Int32).toInt = 24 := rfl
      refine And.intro (fun c3 => ?_) (fun c3 => ?_)
      · skip
        refine hC.1 4 38 _ _ rfl _ _ _ _ _ ?_
        exact ⟨rfl, fun e9 => absurd e9 (by decide), rfl, z2_4, rfl, rfl, by exact True.intro⟩
      · skip
        have k1 : (1 : Int32).toInt = 1 := rfl
        refine And.intro (fun c4 => ?_) (fun c4 => ?_)
        · skip
          have dc4 := pm_neI c4
          refine hC.1 2 29 _ _ rfl _ _ _ _ _ ?_
          refine hC.1 3 30 _ _ rfl _ _ _ _ _ ?_
          intro m5 em_30
          try have e5 : m5.toInt = (z2_4).toInt + (0) := by rw [em_30]; exact pm_addc _ _ (0) rfl (by omega) (by omega)
          intro m6 em_32
          try have e6 : m6.toInt = (z3_4).toInt + (1) := by rw [em_32]; exact pm_addc _ _ (1) rfl (by omega) (by omega)
          exact ih2 m5 m6 (by omega) (by omega)
        · skip
          have dc4 : (((x1 >>> (z3_4 &&& 31)) &&& (1 : Int32))).toInt = ((1 : Int32) : Int32).toInt := congrArg Int32.toInt c4
          refine Exists.intro _ (And.intro md_o ?_)
          refine Exists.intro _ (Exists.intro _ (And.intro (Or.inl (md_a_weights D)) (And.intro (by omega) ?_)))
          refine hC.1 3 30 _ _ rfl _ _ _ _ _ ?_
          intro m7 em_30
          try have e7 : m7.toInt = (z2_4).toInt + ((f 2 (z3_4).toInt.toNat)).toInt := by rw [em_30]; exact pm_add _ _ (by omega) (by omega)
          intro m8 em_32
          try have e8 : m8.toInt = (z3_4).toInt + (1) := by rw [em_32]; exact pm_addc _ _ (1) rfl (by omega) (by omega)
          exact ih2 m7 m8 (by omega) (by omega)
  exact lp1 (200 - (0 : Int32).toInt).toNat.succ (0 : Int32) (0 : Int32) (by omega) (by omega)

set_option maxRecDepth 100000 in
set_option maxHeartbeats 2000000 in
theorem c_X11_count (D : md_D h q) (v : Nat → Int32) (f : Nat → Nat → Int32) (hv : md_V v) (hf : md_F f) (x1 : Int32) (x2 : Int32)  : pm_Mt l g 208 2 0 0 [.ref h, .int x1, .int x2] (md A0 g h q v f) (md_Qp (md A0 g h q v f) (fun r => True)) := by
  refine mt_X11_count rfl (fun J hC => ?_)
  have hv9 := hv
  unfold md_V at hv9
  have rg_x1 := pm_rng x1
  have rg_x2 := pm_rng x2
  refine hC.1 0 0 _ _ rfl _ _ _ _ _ ?_
  refine And.intro (Exists.intro _ md_o) (Exists.intro _ (Exists.intro _ (Exists.intro _ (Exists.intro _ (And.intro (c_X11_isSpan D v f hv hf x1 x2 ) (And.intro rfl (fun r9 A9 h9 => ?_)))))))
  rcases h9 with ⟨y1, rfl, rfl, ⟨rfl, by1⟩ | ⟨rfl, by1⟩⟩
  · skip
    have k1 : (1 : Int32).toInt = 1 := rfl
    refine And.intro (fun c9 => absurd c9 (by decide)) (fun _ => ?_)
    refine And.intro (Exists.intro _ md_o) (Exists.intro _ (Exists.intro _ (Exists.intro _ (Exists.intro _ (And.intro (c_X11_countOf D v f hv hf x1 x2 (by omega) (by omega)) (And.intro rfl (fun r9 A9 h9 => ?_)))))))
    obtain ⟨y2, rfl, rfl, by2⟩ := h9
    refine hC.1 2 19 _ _ rfl _ _ _ _ _ ?_
    exact ⟨rfl, fun e9 => absurd e9 (by decide), rfl, y2, rfl, rfl, by exact True.intro⟩
  · skip
    have k0 : (0 : Int32).toInt = 0 := rfl
    refine And.intro (fun _ => ?_) (fun c9 => absurd c9 (by decide))
    refine hC.1 1 18 _ _ rfl _ _ _ _ _ ?_
    have km1 : (-1 : Int32).toInt = -1 := rfl
    refine hC.1 2 19 _ _ rfl _ _ _ _ _ ?_
    exact ⟨rfl, fun e9 => absurd e9 (by decide), rfl, (-1 : Int32), rfl, rfl, by exact True.intro⟩

set_option maxRecDepth 100000 in
set_option maxHeartbeats 2000000 in
theorem c_X11_weight (D : md_D h q) (v : Nat → Int32) (f : Nat → Nat → Int32) (hv : md_V v) (hf : md_F f) (x1 : Int32) (x2 : Int32)  : pm_Mt l g 210 1 0 0 [.ref h, .int x1, .int x2] (md A0 g h q v f) (md_Qp (md A0 g h q v f) (fun r => True)) := by
  refine mt_X11_weight rfl (fun J hC => ?_)
  have hv9 := hv
  unfold md_V at hv9
  have rg_x1 := pm_rng x1
  have rg_x2 := pm_rng x2
  refine hC.1 0 0 _ _ rfl _ _ _ _ _ ?_
  refine And.intro (Exists.intro _ md_o) (Exists.intro _ (Exists.intro _ (Exists.intro _ (Exists.intro _ (And.intro (c_X11_isSpan D v f hv hf x1 x2 ) (And.intro rfl (fun r9 A9 h9 => ?_)))))))
  rcases h9 with ⟨y1, rfl, rfl, ⟨rfl, by1⟩ | ⟨rfl, by1⟩⟩
  · skip
    have k1 : (1 : Int32).toInt = 1 := rfl
    refine And.intro (fun c9 => absurd c9 (by decide)) (fun _ => ?_)
    refine And.intro (Exists.intro _ md_o) (Exists.intro _ (Exists.intro _ (Exists.intro _ (Exists.intro _ (And.intro (c_X11_setOf D v f hv hf x1 x2 (by omega) (by omega)) (And.intro rfl (fun r9 A9 h9 => ?_)))))))
    obtain ⟨y2, rfl, rfl, by2⟩ := h9
    refine And.intro (Exists.intro _ md_o) (Exists.intro _ (Exists.intro _ (Exists.intro _ (Exists.intro _ (And.intro (c_X11_weightOf D v f hv hf y2 ) (And.intro rfl (fun r9 A9 h9 => ?_)))))))
    obtain ⟨y3, rfl, rfl, by3⟩ := h9
    refine hC.1 2 23 _ _ rfl _ _ _ _ _ ?_
    exact ⟨rfl, fun e9 => absurd e9 (by decide), rfl, y3, rfl, rfl, by exact True.intro⟩
  · skip
    have k0 : (0 : Int32).toInt = 0 := rfl
    refine And.intro (fun _ => ?_) (fun c9 => absurd c9 (by decide))
    refine hC.1 1 22 _ _ rfl _ _ _ _ _ ?_
    have km1 : (-1 : Int32).toInt = -1 := rfl
    refine hC.1 2 23 _ _ rfl _ _ _ _ _ ?_
    exact ⟨rfl, fun e9 => absurd e9 (by decide), rfl, (-1 : Int32), rfl, rfl, by exact True.intro⟩

set_option maxRecDepth 100000 in
set_option maxHeartbeats 2000000 in
theorem c_X11_set (D : md_D h q) (v : Nat → Int32) (f : Nat → Nat → Int32) (hv : md_V v) (hf : md_F f) (x1 : Int32) (x2 : Int32)  : pm_Mt l g 212 1 0 0 [.ref h, .int x1, .int x2] (md A0 g h q v f) (md_Qp (md A0 g h q v f) (fun r => True)) := by
  refine mt_X11_set rfl (fun J hC => ?_)
  have hv9 := hv
  unfold md_V at hv9
  have rg_x1 := pm_rng x1
  have rg_x2 := pm_rng x2
  refine hC.1 0 0 _ _ rfl _ _ _ _ _ ?_
  refine And.intro (Exists.intro _ md_o) (Exists.intro _ (Exists.intro _ (Exists.intro _ (Exists.intro _ (And.intro (c_X11_isSpan D v f hv hf x1 x2 ) (And.intro rfl (fun r9 A9 h9 => ?_)))))))
  rcases h9 with ⟨y1, rfl, rfl, ⟨rfl, by1⟩ | ⟨rfl, by1⟩⟩
  · skip
    have k1 : (1 : Int32).toInt = 1 := rfl
    refine And.intro (fun c9 => absurd c9 (by decide)) (fun _ => ?_)
    refine And.intro (Exists.intro _ md_o) (Exists.intro _ (Exists.intro _ (Exists.intro _ (Exists.intro _ (And.intro (c_X11_setOf D v f hv hf x1 x2 (by omega) (by omega)) (And.intro rfl (fun r9 A9 h9 => ?_)))))))
    obtain ⟨y2, rfl, rfl, by2⟩ := h9
    refine hC.1 2 19 _ _ rfl _ _ _ _ _ ?_
    exact ⟨rfl, fun e9 => absurd e9 (by decide), rfl, y2, rfl, rfl, by exact True.intro⟩
  · skip
    have k0 : (0 : Int32).toInt = 0 := rfl
    refine And.intro (fun _ => ?_) (fun c9 => absurd c9 (by decide))
    refine hC.1 1 18 _ _ rfl _ _ _ _ _ ?_
    have km1 : (-1 : Int32).toInt = -1 := rfl
    refine hC.1 2 19 _ _ rfl _ _ _ _ _ ?_
    exact ⟨rfl, fun e9 => absurd e9 (by decide), rfl, (-1 : Int32), rfl, rfl, by exact True.intro⟩

set_option maxRecDepth 100000 in
set_option maxHeartbeats 2000000 in
theorem c_X11_times (D : md_D h q) (v : Nat → Int32) (f : Nat → Nat → Int32) (hv : md_V v) (hf : md_F f) (x1 : Int32) (x2 : Int32) (x3 : Int32)  : pm_Mt l g 213 2 0 0 [.ref h, .int x1, .int x2, .int x3] (md A0 g h q v f) (md_Qp (md A0 g h q v f) (fun r => True)) := by
  refine mt_X11_times rfl (fun J hC => ?_)
  have hv9 := hv
  unfold md_V at hv9
  have rg_x1 := pm_rng x1
  have rg_x2 := pm_rng x2
  have rg_x3 := pm_rng x3
  refine hC.1 0 0 _ _ rfl _ _ _ _ _ ?_
  refine And.intro (Exists.intro _ md_o) (Exists.intro _ (Exists.intro _ (Exists.intro _ (Exists.intro _ (And.intro (c_X11_isSpan D v f hv hf x1 x2 ) (And.intro rfl (fun r9 A9 h9 => ?_)))))))
  rcases h9 with ⟨y1, rfl, rfl, ⟨rfl, by1⟩ | ⟨rfl, by1⟩⟩
  · skip
    have k1 : (1 : Int32).toInt = 1 := rfl
    refine And.intro (fun c9 => absurd c9 (by decide)) (fun _ => ?_)
    refine Exists.intro _ (Exists.intro _ (Exists.intro _ (Exists.intro _ (And.intro (c_X11_isColour (md A0 g h q v f) x3 ) (And.intro rfl (fun r9 A9 h9 => ?_))))))
    rcases h9 with ⟨y2, rfl, rfl, ⟨rfl, by2⟩ | ⟨rfl, by2⟩⟩
    · skip
      refine And.intro (fun c9 => absurd c9 (by decide)) (fun _ => ?_)
      refine And.intro (Exists.intro _ md_o) (Exists.intro _ (Exists.intro _ (Exists.intro _ (Exists.intro _ (And.intro (c_X11_timesIn D v f hv hf x1 x2 x3 (by omega) (by omega)) (And.intro rfl (fun r9 A9 h9 => ?_)))))))
      obtain ⟨y3, rfl, rfl, by3⟩ := h9
      refine hC.1 2 27 _ _ rfl _ _ _ _ _ ?_
      exact ⟨rfl, fun e9 => absurd e9 (by decide), rfl, y3, rfl, rfl, by exact True.intro⟩
    · skip
      have k0 : (0 : Int32).toInt = 0 := rfl
      refine And.intro (fun _ => ?_) (fun c9 => absurd c9 (by decide))
      refine hC.1 1 26 _ _ rfl _ _ _ _ _ ?_
      have km1 : (-1 : Int32).toInt = -1 := rfl
      refine hC.1 2 27 _ _ rfl _ _ _ _ _ ?_
      exact ⟨rfl, fun e9 => absurd e9 (by decide), rfl, (-1 : Int32), rfl, rfl, by exact True.intro⟩
  · skip
    have k0 : (0 : Int32).toInt = 0 := rfl
    refine And.intro (fun _ => ?_) (fun c9 => absurd c9 (by decide))
    refine hC.1 1 26 _ _ rfl _ _ _ _ _ ?_
    have km1 : (-1 : Int32).toInt = -1 := rfl
    refine hC.1 2 27 _ _ rfl _ _ _ _ _ ?_
    exact ⟨rfl, fun e9 => absurd e9 (by decide), rfl, (-1 : Int32), rfl, rfl, by exact True.intro⟩

set_option maxRecDepth 100000 in
set_option maxHeartbeats 2000000 in
theorem c_X11_often (D : md_D h q) (v : Nat → Int32) (f : Nat → Nat → Int32) (hv : md_V v) (hf : md_F f) (x1 : Int32) (x2 : Int32) (x3 : Int32)  : pm_Mt l g 214 1 0 0 [.ref h, .int x1, .int x2, .int x3] (md A0 g h q v f) (md_Qp (md A0 g h q v f) (fun r => True)) := by
  refine mt_X11_often rfl (fun J hC => ?_)
  have hv9 := hv
  unfold md_V at hv9
  have rg_x1 := pm_rng x1
  have rg_x2 := pm_rng x2
  have rg_x3 := pm_rng x3
  refine hC.1 0 0 _ _ rfl _ _ _ _ _ ?_
  refine And.intro (Exists.intro _ md_o) (Exists.intro _ (Exists.intro _ (Exists.intro _ (Exists.intro _ (And.intro (c_X11_isSpan D v f hv hf x1 x2 ) (And.intro rfl (fun r9 A9 h9 => ?_)))))))
  rcases h9 with ⟨y1, rfl, rfl, ⟨rfl, by1⟩ | ⟨rfl, by1⟩⟩
  · skip
    have k1 : (1 : Int32).toInt = 1 := rfl
    refine And.intro (fun c9 => absurd c9 (by decide)) (fun _ => ?_)
    refine And.intro (fun c2 => ?_) (fun c2 => ?_)
    · skip
      refine hC.1 2 16 _ _ rfl _ _ _ _ _ ?_
      have k0 : (0 : Int32).toInt = 0 := rfl
      have lp3 : ∀ (n : Nat) (z4_22 : Int32) (z5_22 : Int32), (0 ≤ z5_22.toInt ∧ z5_22.toInt ≤ 24) → 200 - z5_22.toInt < (n : Int) → J 22 [some (.ref h), some (.int x1), some (.int x2), some (.int x3), some (.int z4_22), some (.int z5_22)] [] (md A0 g h q v f) 0 0 := by
        intro n
        induction n with
        | zero =>
          intro z4_22 z5_22 j0_22 j1_22
          omega
        | succ n ih4 =>
          intro z4_22 z5_22 j0_22 j1_22
          refine hC.1 3 22 _ _ rfl _ _ _ _ _ ?_
          have k24 : (24 : Int32).toInt = 24 := rfl
          refine And.intro (fun c5 => ?_) (fun c5 => ?_)
          · skip
            refine hC.1 6 57 _ _ rfl _ _ _ _ _ ?_
            exact ⟨rfl, fun e9 => absurd e9 (by decide), rfl, z4_22, rfl, rfl, by exact True.intro⟩
          · skip
            refine And.intro (Exists.intro _ md_o) (Exists.intro _ (Exists.intro _ (Exists.intro _ (Exists.intro _ (And.intro (c_X11_timesIn D v f hv hf x1 x2 z5_22 (by omega) (by omega)) (And.intro rfl (fun r9 A9 h9 => ?_)))))))
            obtain ⟨y6, rfl, rfl, by6⟩ := h9
            refine And.intro (fun c7 => ?_) (fun c7 => ?_)
            · skip
              refine hC.1 4 47 _ _ rfl _ _ _ _ _ ?_
              refine hC.1 5 48 _ _ rfl _ _ _ _ _ ?_
              intro m8 em_48
              try have e8 : m8.toInt = (z4_22).toInt + (0) := by rw [em_48]; exact pm_addc _ _ (0) rfl (by omega) (by omega)
              intro m9 em_51
              try have e9 : m9.toInt = (z5_22).toInt + (1) := by rw [em_51]; exact pm_addc _ _ (1) rfl (by omega) (by omega)
              exact ih4 m8 m9 (by omega) (by omega)
            · skip
              refine hC.1 5 48 _ _ rfl _ _ _ _ _ ?_
              intro m10 em_48
              try have e10 : m10.toInt = (z4_22).toInt + (1) := by rw [em_48]; exact pm_addc _ _ (1) rfl (by omega) (by omega)
              intro m11 em_51
              try have e11 : m11.toInt = (z5_22).toInt + (1) := by rw [em_51]; exact pm_addc _ _ (1) rfl (by omega) (by omega)
              exact ih4 m10 m11 (by omega) (by omega)
      exact lp3 (200 - (0 : Int32).toInt).toNat.succ (0 : Int32) (0 : Int32) (by omega) (by omega)
    · skip
      refine hC.1 1 14 _ _ rfl _ _ _ _ _ ?_
      have km1 : (-1 : Int32).toInt = -1 := rfl
      exact ⟨rfl, fun e9 => absurd e9 (by decide), rfl, (-1 : Int32), rfl, rfl, by exact True.intro⟩
  · skip
    have k0 : (0 : Int32).toInt = 0 := rfl
    refine And.intro (fun _ => ?_) (fun c9 => absurd c9 (by decide))
    refine hC.1 1 14 _ _ rfl _ _ _ _ _ ?_
    have km1 : (-1 : Int32).toInt = -1 := rfl
    exact ⟨rfl, fun e9 => absurd e9 (by decide), rfl, (-1 : Int32), rfl, rfl, by exact True.intro⟩

end
end
section
section
variable {l : Launch} {g : pm_G} {A0 : pm_H} {h : Nat} {q : Nat → Nat}
set_option maxRecDepth 100000 in
set_option maxHeartbeats 2000000 in
theorem c_X11_tally (D : md_D h q) (v : Nat → Int32) (f : Nat → Nat → Int32) (hv : md_V v) (hf : md_F f) (x1 : Int32) (x2 : Int32) (x3 : Int32)  : pm_Mt l g 215 1 0 0 [.ref h, .int x1, .int x2, .int x3] (md A0 g h q v f) (md_Qp (md A0 g h q v f) (fun r => True)) := by
  refine mt_X11_tally rfl (fun J hC => ?_)
  have hv9 := hv
  unfold md_V at hv9
  have rg_x1 := pm_rng x1
  have rg_x2 := pm_rng x2
  have rg_x3 := pm_rng x3
  refine hC.1 0 0 _ _ rfl _ _ _ _ _ ?_
  refine And.intro (Exists.intro _ md_o) (Exists.intro _ (Exists.intro _ (Exists.intro _ (Exists.intro _ (And.intro (c_X11_isSpan D v f hv hf x1 x2 ) (And.intro rfl (fun r9 A9 h9 => ?_)))))))
  rcases h9 with ⟨y1, rfl, rfl, ⟨rfl, by1⟩ | ⟨rfl, by1⟩⟩
  · skip
    have k1 : (1 : Int32).toInt = 1 := rfl
    refine And.intro (fun c9 => absurd c9 (by decide)) (fun _ => ?_)
    refine And.intro (fun c2 => ?_) (fun c2 => ?_)
    · skip
      refine hC.1 2 16 _ _ rfl _ _ _ _ _ ?_
      have k0 : (0 : Int32).toInt = 0 := rfl
      have lp3 : ∀ (n : Nat) (z4_22 : Int32) (z5_22 : Int32), (0 ≤ z5_22.toInt ∧ z5_22.toInt ≤ 24) → 200 - z5_22.toInt < (n : Int) → J 22 [some (.ref h), some (.int x1), some (.int x2), some (.int x3), some (.int z4_22), some (.int z5_22)] [] (md A0 g h q v f) 0 0 := by
        intro n
        induction n with
        | zero =>
          intro z4_22 z5_22 j0_22 j1_22
          omega
        | succ n ih4 =>
          intro z4_22 z5_22 j0_22 j1_22
          refine hC.1 3 22 _ _ rfl _ _ _ _ _ ?_
          have k24 : (24 : Int32).toInt = 24 := rfl
          refine And.intro (fun c5 => ?_) (fun c5 => ?_)
          · skip
            refine hC.1 6 57 _ _ rfl _ _ _ _ _ ?_
            exact ⟨rfl, fun e9 => absurd e9 (by decide), rfl, z4_22, rfl, rfl, by exact True.intro⟩
          · skip
            refine And.intro (Exists.intro _ md_o) (Exists.intro _ (Exists.intro _ (Exists.intro _ (Exists.intro _ (And.intro (c_X11_timesIn D v f hv hf x1 x2 z5_22 (by omega) (by omega)) (And.intro rfl (fun r9 A9 h9 => ?_)))))))
            obtain ⟨y6, rfl, rfl, by6⟩ := h9
            refine And.intro (fun c7 => ?_) (fun c7 => ?_)
            · skip
              have dc7 := pm_neI c7
              refine hC.1 4 47 _ _ rfl _ _ _ _ _ ?_
              refine hC.1 5 48 _ _ rfl _ _ _ _ _ ?_
              intro m8 em_48
              try have e8 : m8.toInt = (z4_22).toInt + (0) := by rw [em_48]; exact pm_addc _ _ (0) rfl (by omega) (by omega)
              intro m9 em_51
              try have e9 : m9.toInt = (z5_22).toInt + (1) := by rw [em_51]; exact pm_addc _ _ (1) rfl (by omega) (by omega)
              exact ih4 m8 m9 (by omega) (by omega)
            · skip
              have dc7 : (y6).toInt = (x3 : Int32).toInt := congrArg Int32.toInt c7
              refine hC.1 5 48 _ _ rfl _ _ _ _ _ ?_
              intro m10 em_48
              try have e10 : m10.toInt = (z4_22).toInt + (1) := by rw [em_48]; exact pm_addc _ _ (1) rfl (by omega) (by omega)
              intro m11 em_51
              try have e11 : m11.toInt = (z5_22).toInt + (1) := by rw [em_51]; exact pm_addc _ _ (1) rfl (by omega) (by omega)
              exact ih4 m10 m11 (by omega) (by omega)
      exact lp3 (200 - (0 : Int32).toInt).toNat.succ (0 : Int32) (0 : Int32) (by omega) (by omega)
    · skip
      refine hC.1 1 14 _ _ rfl _ _ _ _ _ ?_
      have km1 : (-1 : Int32).toInt = -1 := rfl
      exact ⟨rfl, fun e9 => absurd e9 (by decide), rfl, (-1 : Int32), rfl, rfl, by exact True.intro⟩
  · skip
    have k0 : (0 : Int32).toInt = 0 := rfl
    refine And.intro (fun _ => ?_) (fun c9 => absurd c9 (by decide))
    refine hC.1 1 14 _ _ rfl _ _ _ _ _ ?_
    have km1 : (-1 : Int32).toInt = -1 := rfl
    exact ⟨rfl, fun e9 => absurd e9 (by decide), rfl, (-1 : Int32), rfl, rfl, by exact True.intro⟩

set_option maxRecDepth 100000 in
set_option maxHeartbeats 2000000 in
theorem c_X11_major (D : md_D h q) (v : Nat → Int32) (f : Nat → Nat → Int32) (hv : md_V v) (hf : md_F f) (x1 : Int32) (x2 : Int32)  : pm_Mt l g 216 1 0 0 [.ref h, .int x1, .int x2] (md A0 g h q v f) (md_Qp (md A0 g h q v f) (fun r => True)) := by
  refine mt_X11_major rfl (fun J hC => ?_)
  have hv9 := hv
  unfold md_V at hv9
  have rg_x1 := pm_rng x1
  have rg_x2 := pm_rng x2
  refine hC.1 0 0 _ _ rfl _ _ _ _ _ ?_
  refine And.intro (Exists.intro _ md_o) (Exists.intro _ (Exists.intro _ (Exists.intro _ (Exists.intro _ (And.intro (c_X11_isSpan D v f hv hf x1 x2 ) (And.intro rfl (fun r9 A9 h9 => ?_)))))))
  rcases h9 with ⟨y1, rfl, rfl, ⟨rfl, by1⟩ | ⟨rfl, by1⟩⟩
  · skip
    have k1 : (1 : Int32).toInt = 1 := rfl
    refine And.intro (fun _ => ?_) (fun c9 => absurd c9 (by decide))
    refine hC.1 1 11 _ _ rfl _ _ _ _ _ ?_
    have k0 : (0 : Int32).toInt = 0 := rfl
    have lp2 : ∀ (n : Nat) (z3_13 : Int32), (0 ≤ z3_13.toInt ∧ z3_13.toInt ≤ 24) → 200 - z3_13.toInt < (n : Int) → J 13 [some (.ref h), some (.int x1), some (.int x2), some (.int z3_13)] [] (md A0 g h q v f) 0 0 := by
      intro n
      induction n with
      | zero =>
        intro z3_13 j0_13 j1_13
        omega
      | succ n ih3 =>
        intro z3_13 j0_13 j1_13
        refine hC.1 2 13 _ _ rfl _ _ _ _ _ ?_
        have k24 : (24 : Int32).toInt = 24 := rfl
        refine And.intro (fun c4 => ?_) (fun c4 => ?_)
        · skip
          refine hC.1 4 44 _ _ rfl _ _ _ _ _ ?_
          have km1 : (-1 : Int32).toInt = -1 := rfl
          exact ⟨rfl, fun e9 => absurd e9 (by decide), rfl, (-1 : Int32), rfl, rfl, by exact True.intro⟩
        · skip
          have k2 : (2 : Int32).toInt = 2 := rfl
          refine And.intro (Exists.intro _ md_o) (Exists.intro _ (Exists.intro _ (Exists.intro _ (Exists.intro _ (And.intro (c_X11_timesIn D v f hv hf x1 x2 z3_13 (by omega) (by omega)) (And.intro rfl (fun r9 A9 h9 => ?_)))))))
          obtain ⟨y5, rfl, rfl, by5⟩ := h9
          intro m6 em_27
          try have e6 : m6.toInt = (2) * (y5).toInt := by rw [em_27]; exact pm_mulk _ _ (2) rfl (by omega) (by omega)
          intro m7 em_30
          try have e7 : m7.toInt = (x2).toInt - (x1).toInt := by rw [em_30]; exact pm_sub _ _ (by omega) (by omega)
          intro m8 em_32
          try have e8 : m8.toInt = (m7).toInt + (1) := by rw [em_32]; exact pm_addc _ _ (1) rfl (by omega) (by omega)
          refine And.intro (fun c9 => ?_) (fun c9 => ?_)
          · skip
            refine hC.1 3 38 _ _ rfl _ _ _ _ _ ?_
            intro m10 em_38
            try have e10 : m10.toInt = (z3_13).toInt + (1) := by rw [em_38]; exact pm_addc _ _ (1) rfl (by omega) (by omega)
            exact ih3 m10 (by omega) (by omega)
          · skip
            exact ⟨rfl, fun e9 => absurd e9 (by decide), rfl, z3_13, rfl, rfl, by exact True.intro⟩
    exact lp2 (200 - (0 : Int32).toInt).toNat.succ (0 : Int32) (by omega) (by omega)
  · skip
    have k0 : (0 : Int32).toInt = 0 := rfl
    refine And.intro (fun c9 => absurd c9 (by decide)) (fun _ => ?_)
    have km1 : (-1 : Int32).toInt = -1 := rfl
    exact ⟨rfl, fun e9 => absurd e9 (by decide), rfl, (-1 : Int32), rfl, rfl, by exact True.intro⟩

set_option maxRecDepth 100000 in
set_option maxHeartbeats 2000000 in
theorem c_X11_at (D : md_D h q) (v : Nat → Int32) (f : Nat → Nat → Int32) (hv : md_V v) (hf : md_F f) (x1 : Int32) (x2 : Int32)  : pm_Mt l g 195 2 0 0 [.ref h, .int x1, .int x2] (md A0 g h q v f) (md_Qp (md A0 g h q v f) (fun r => True)) := by
  refine mt_X11_at rfl (fun J hC => ?_)
  have hv9 := hv
  unfold md_V at hv9
  have rg_x1 := pm_rng x1
  have rg_x2 := pm_rng x2
  have lt9 := nextEq_lt (f 0) (f 0 x1.toInt.toNat) (x1.toInt + 1).toNat ((v 0).toInt - (x1.toInt + 1)).toNat
  refine hC.1 0 0 _ _ rfl _ _ _ _ _ ?_
  refine And.intro (Exists.intro _ md_o) (Exists.intro _ (Exists.intro _ (Exists.intro _ (Exists.intro _ (And.intro (c_X11_isPlace D v f hv hf x1 ) (And.intro rfl (fun r9 A9 h9 => ?_)))))))
  rcases h9 with ⟨y1, rfl, rfl, ⟨rfl, by1⟩ | ⟨rfl, by1⟩⟩
  · skip
    have k1 : (1 : Int32).toInt = 1 := rfl
    refine And.intro (fun _ => ?_) (fun c9 => absurd c9 (by decide))
    refine hC.1 1 10 _ _ rfl _ _ _ _ _ ?_
    refine pm_swc 4 rfl (by decide) ?_ ?_
    · intro _
      refine hC.1 8 83 _ _ rfl _ _ _ _ _ ?_
      have km1 : (-1 : Int32).toInt = -1 := rfl
      exact ⟨rfl, fun e9 => absurd e9 (by decide), rfl, (-1 : Int32), rfl, rfl, by exact True.intro⟩
    · intro i9 hi9 he9
      rcases (show i9 = 0 ∨ i9 = 1 ∨ i9 = 2 ∨ i9 = 3 by omega) with rfl | rfl | rfl | rfl
      · skip
        refine hC.1 2 40 _ _ rfl _ _ _ _ _ ?_
        refine Exists.intro _ (And.intro md_o ?_)
        refine Exists.intro _ (Exists.intro _ (And.intro (Or.inl (md_a_colours D)) (And.intro (by omega) ?_)))
        have w4 : (0 : Int) ≤ (f 0 (x1).toInt.toNat).toInt ∧ (f 0 (x1).toInt.toNat).toInt ≤ (23 : Int) := hf 0 _
        exact ⟨rfl, fun e9 => absurd e9 (by decide), rfl, (f 0 (x1).toInt.toNat), rfl, rfl, by exact True.intro⟩
      · skip
        refine hC.1 3 47 _ _ rfl _ _ _ _ _ ?_
        refine Exists.intro _ (And.intro md_o ?_)
        refine Exists.intro _ (Exists.intro _ (And.intro (Or.inl (md_a_names D)) (And.intro (by omega) ?_)))
        exact ⟨rfl, fun e9 => absurd e9 (by decide), rfl, (f 1 (x1).toInt.toNat), rfl, rfl, by exact True.intro⟩
      · skip
        refine hC.1 4 54 _ _ rfl _ _ _ _ _ ?_
        refine And.intro (Exists.intro _ md_o) (Exists.intro _ (Exists.intro _ (Exists.intro _ (Exists.intro _ (And.intro (c_X11_bondOf D v f hv hf x1 (by omega)) (And.intro rfl (fun r9 A9 h9 => ?_)))))))
        obtain ⟨y5, rfl, rfl, by5⟩ := h9
        exact ⟨rfl, fun e9 => absurd e9 (by decide), rfl, y5, rfl, rfl, by exact True.intro⟩
      · skip
        refine hC.1 5 60 _ _ rfl _ _ _ _ _ ?_
        refine And.intro (Exists.intro _ md_o) (Exists.intro _ (Exists.intro _ (Exists.intro _ (Exists.intro _ (And.intro (c_X11_behind D v f hv hf x1 (by omega)) (And.intro rfl (fun r9 A9 h9 => ?_)))))))
        obtain ⟨y6, rfl, rfl, by6⟩ := h9
        refine And.intro (fun c7 => ?_) (fun c7 => ?_)
        · skip
          refine hC.1 6 72 _ _ rfl _ _ _ _ _ ?_
          refine Exists.intro _ (And.intro md_o ?_)
          refine And.intro (Exists.intro _ md_o) (Exists.intro _ (Exists.intro _ (Exists.intro _ (Exists.intro _ (And.intro (c_X11_behind D v f hv hf x1 (by omega)) (And.intro rfl (fun r9 A9 h9 => ?_)))))))
          obtain ⟨y8, rfl, rfl, by8⟩ := h9
          refine Exists.intro _ (Exists.intro _ (And.intro (Or.inl (md_a_names D)) (And.intro (by omega) ?_)))
          refine hC.1 7 82 _ _ rfl _ _ _ _ _ ?_
          exact ⟨rfl, fun e9 => absurd e9 (by decide), rfl, (f 1 (y8).toInt.toNat), rfl, rfl, by exact True.intro⟩
        · skip
          have km1 : (-1 : Int32).toInt = -1 := rfl
          refine hC.1 7 82 _ _ rfl _ _ _ _ _ ?_
          exact ⟨rfl, fun e9 => absurd e9 (by decide), rfl, (-1 : Int32), rfl, rfl, by exact True.intro⟩
  · skip
    have k0 : (0 : Int32).toInt = 0 := rfl
    refine And.intro (fun c9 => absurd c9 (by decide)) (fun _ => ?_)
    have km1 : (-1 : Int32).toInt = -1 := rfl
    exact ⟨rfl, fun e9 => absurd e9 (by decide), rfl, (-1 : Int32), rfl, rfl, by exact True.intro⟩

set_option maxRecDepth 100000 in
set_option maxHeartbeats 2000000 in
theorem c_X11_colour (D : md_D h q) (v : Nat → Int32) (f : Nat → Nat → Int32) (hv : md_V v) (hf : md_F f) (x1 : Int32) (x2 : Int32)  : pm_Mt l g 199 2 0 0 [.ref h, .int x1, .int x2] (md A0 g h q v f) (md_Qp (md A0 g h q v f) (fun r => True)) := by
  refine mt_X11_colour rfl (fun J hC => ?_)
  have hv9 := hv
  unfold md_V at hv9
  have rg_x1 := pm_rng x1
  have rg_x2 := pm_rng x2
  refine hC.1 0 0 _ _ rfl _ _ _ _ _ ?_
  refine Exists.intro _ (Exists.intro _ (Exists.intro _ (Exists.intro _ (And.intro (c_X11_isColour (md A0 g h q v f) x1 ) (And.intro rfl (fun r9 A9 h9 => ?_))))))
  rcases h9 with ⟨y1, rfl, rfl, ⟨rfl, by1⟩ | ⟨rfl, by1⟩⟩
  · skip
    have k1 : (1 : Int32).toInt = 1 := rfl
    refine And.intro (fun _ => ?_) (fun c9 => absurd c9 (by decide))
    refine hC.1 1 9 _ _ rfl _ _ _ _ _ ?_
    refine pm_swc 5 rfl (by decide) ?_ ?_
    · intro _
      refine hC.1 7 82 _ _ rfl _ _ _ _ _ ?_
      have km1 : (-1 : Int32).toInt = -1 := rfl
      exact ⟨rfl, fun e9 => absurd e9 (by decide), rfl, (-1 : Int32), rfl, rfl, by exact True.intro⟩
    · intro i9 hi9 he9
      rcases (show i9 = 0 ∨ i9 = 1 ∨ i9 = 2 ∨ i9 = 3 ∨ i9 = 4 by omega) with rfl | rfl | rfl | rfl | rfl
      · skip
        refine hC.1 2 44 _ _ rfl _ _ _ _ _ ?_
        have k0 : (0 : Int32).toInt = 0 := rfl
        refine Exists.intro _ (And.intro md_o ?_)
        intro m4 em_51
        try have e4 : m4.toInt = ((v 0)).toInt - (1) := by rw [em_51]; exact pm_subc _ _ (1) rfl (by omega) (by omega)
        refine And.intro (Exists.intro _ md_o) (Exists.intro _ (Exists.intro _ (Exists.intro _ (Exists.intro _ (And.intro (c_X11_timesIn D v f hv hf (0 : Int32) m4 x1 (by omega) (by omega)) (And.intro rfl (fun r9 A9 h9 => ?_)))))))
        obtain ⟨y5, rfl, rfl, by5⟩ := h9
        exact ⟨rfl, fun e9 => absurd e9 (by decide), rfl, y5, rfl, rfl, by exact True.intro⟩
      · skip
        refine hC.1 3 57 _ _ rfl _ _ _ _ _ ?_
        refine Exists.intro _ (And.intro md_o ?_)
        refine Exists.intro _ (Exists.intro _ (And.intro (Or.inl (md_a_weights D)) (And.intro (by omega) ?_)))
        exact ⟨rfl, fun e9 => absurd e9 (by decide), rfl, (f 2 (x1).toInt.toNat), rfl, rfl, by exact True.intro⟩
      · skip
        refine hC.1 4 64 _ _ rfl _ _ _ _ _ ?_
        refine And.intro (Exists.intro _ md_o) (Exists.intro _ (Exists.intro _ (Exists.intro _ (Exists.intro _ (And.intro (c_X11_first D v f hv hf x1 ) (And.intro rfl (fun r9 A9 h9 => ?_)))))))
        obtain ⟨y6, rfl, rfl, by6⟩ := h9
        exact ⟨rfl, fun e9 => absurd e9 (by decide), rfl, y6, rfl, rfl, by exact True.intro⟩
      · skip
        refine hC.1 5 70 _ _ rfl _ _ _ _ _ ?_
        refine And.intro (Exists.intro _ md_o) (Exists.intro _ (Exists.intro _ (Exists.intro _ (Exists.intro _ (And.intro (c_X11_last D v f hv hf x1 ) (And.intro rfl (fun r9 A9 h9 => ?_)))))))
        obtain ⟨y7, rfl, rfl, by7⟩ := h9
        exact ⟨rfl, fun e9 => absurd e9 (by decide), rfl, y7, rfl, rfl, by exact True.intro⟩
      · skip
        refine hC.1 6 76 _ _ rfl _ _ _ _ _ ?_
        refine And.intro (Exists.intro _ md_o) (Exists.intro _ (Exists.intro _ (Exists.intro _ (Exists.intro _ (And.intro (c_X11_widest D v f hv hf x1 ) (And.intro rfl (fun r9 A9 h9 => ?_)))))))
        obtain ⟨y8, rfl, rfl, by8⟩ := h9
        exact ⟨rfl, fun e9 => absurd e9 (by decide), rfl, y8, rfl, rfl, by exact True.intro⟩
  · skip
    have k0 : (0 : Int32).toInt = 0 := rfl
    refine And.intro (fun c9 => absurd c9 (by decide)) (fun _ => ?_)
    have km1 : (-1 : Int32).toInt = -1 := rfl
    exact ⟨rfl, fun e9 => absurd e9 (by decide), rfl, (-1 : Int32), rfl, rfl, by exact True.intro⟩

set_option maxRecDepth 100000 in
set_option maxHeartbeats 2000000 in
theorem c_X11_hasRoom (D : md_D h q) (v : Nat → Int32) (f : Nat → Nat → Int32) (hv : md_V v) (hf : md_F f) (x1 : Int32) (p0 : -1000000 ≤ x1.toInt ∧ x1.toInt ≤ 1000000) : pm_Mt l g 184 0 0 0 [.ref h, .int x1] (md A0 g h q v f) (md_Qp (md A0 g h q v f) (fun r => (r = 1 ∧ ((v 0).toInt + x1.toInt ≤ 160 ∧ (v 3).toInt + x1.toInt ≤ 10000)) ∨ (r = 0 ∧ (¬ ((v 0).toInt + x1.toInt ≤ 160 ∧ (v 3).toInt + x1.toInt ≤ 10000))))) := by
  refine mt_X11_hasRoom rfl (fun J hC => ?_)
  have hv9 := hv
  unfold md_V at hv9
  have rg_x1 := pm_rng x1
  refine hC.1 0 0 _ _ rfl _ _ _ _ _ ?_
  refine Exists.intro _ (And.intro md_o ?_)
  intro m1 em_5
  try have e1 : m1.toInt = ((v 0)).toInt + (x1).toInt := by rw [em_5]; exact pm_add _ _ (by omega) (by omega)
  have k160 : (160 : Int32).toInt = 160 := rfl
  refine And.intro (fun c2 => ?_) (fun c2 => ?_)
  · skip
    refine hC.1 1 28 _ _ rfl _ _ _ _ _ ?_
    have k0 : (0 : Int32).toInt = 0 := rfl
    refine hC.1 2 29 _ _ rfl _ _ _ _ _ ?_
    exact ⟨rfl, fun _ => (by decide), rfl, (0 : Int32), rfl, rfl, Or.inr ⟨rfl, by first | omega | (dsimp only; omega) | trivial⟩⟩
  · skip
    refine Exists.intro _ (And.intro md_o ?_)
    intro m3 em_17
    try have e3 : m3.toInt = ((v 3)).toInt + (x1).toInt := by rw [em_17]; exact pm_add _ _ (by omega) (by omega)
    have k10000 : (10000 : Int32).toInt = 10000 := rfl
    refine And.intro (fun c4 => ?_) (fun c4 => ?_)
    · skip
      refine hC.1 1 28 _ _ rfl _ _ _ _ _ ?_
      have k0 : (0 : Int32).toInt = 0 := rfl
      refine hC.1 2 29 _ _ rfl _ _ _ _ _ ?_
      exact ⟨rfl, fun _ => (by decide), rfl, (0 : Int32), rfl, rfl, Or.inr ⟨rfl, by first | omega | (dsimp only; omega) | trivial⟩⟩
    · skip
      have k1 : (1 : Int32).toInt = 1 := rfl
      refine hC.1 2 29 _ _ rfl _ _ _ _ _ ?_
      exact ⟨rfl, fun _ => (by decide), rfl, (1 : Int32), rfl, rfl, Or.inl ⟨rfl, by first | omega | (dsimp only; omega) | trivial⟩⟩

set_option maxRecDepth 100000 in
set_option maxHeartbeats 2000000 in
theorem c_X11_reportKey (D : md_D h q) (v : Nat → Int32) (f : Nat → Nat → Int32) (hv : md_V v) (hf : md_F f) (x1 : Int32) (p0 : 0 ≤ x1.toInt ∧ x1.toInt < 160) : pm_Mt l g 219 1 0 0 [.ref h, .int x1] (md A0 g h q v f) (md_Qp (md A0 g h q v f) (fun r => True)) := by
  refine mt_X11_reportKey rfl (fun J hC => ?_)
  have hv9 := hv
  unfold md_V at hv9
  have rg_x1 := pm_rng x1
  refine hC.1 0 0 _ _ rfl _ _ _ _ _ ?_
  refine And.intro (Exists.intro _ md_o) (Exists.intro _ (Exists.intro _ (Exists.intro _ (Exists.intro _ (And.intro (c_X11_ahead D v f hv hf x1 (by omega)) (And.intro rfl (fun r9 A9 h9 => ?_)))))))
  obtain ⟨y1, rfl, rfl, by1⟩ := h9
  refine And.intro (fun c2 => ?_) (fun c2 => ?_)
  · skip
    refine hC.1 1 16 _ _ rfl _ _ _ _ _ ?_
    refine And.intro (Exists.intro _ md_o) (Exists.intro _ (Exists.intro _ (Exists.intro _ (Exists.intro _ (And.intro (c_X11_ahead D v f hv hf x1 (by omega)) (And.intro rfl (fun r9 A9 h9 => ?_)))))))
    obtain ⟨y3, rfl, rfl, by3⟩ := h9
    refine hC.1 2 21 _ _ rfl _ _ _ _ _ ?_
    exact ⟨rfl, fun e9 => absurd e9 (by decide), rfl, y3, rfl, rfl, by exact True.intro⟩
  · skip
    have k160 : (160 : Int32).toInt = 160 := rfl
    intro m4 em_12
    try have e4 : m4.toInt = (x1).toInt - (160) := by rw [em_12]; exact pm_subc _ _ (160) rfl (by omega) (by omega)
    refine hC.1 2 21 _ _ rfl _ _ _ _ _ ?_
    exact ⟨rfl, fun e9 => absurd e9 (by decide), rfl, m4, rfl, rfl, by exact True.intro⟩

set_option maxRecDepth 100000 in
set_option maxHeartbeats 2000000 in
theorem c_X11_reported (D : md_D h q) (v : Nat → Int32) (f : Nat → Nat → Int32) (hv : md_V v) (hf : md_F f) (x1 : Int32) (x2 : Int32) (x3 : Int32) (p0 : 0 ≤ x1.toInt ∧ x1.toInt ≤ x2.toInt ∧ x2.toInt < (v 0).toInt) (p1 : 0 ≤ x3.toInt ∧ x3.toInt ≤ 24) : pm_Mt l g 218 2 0 0 [.ref h, .int x1, .int x2, .int x3] (md A0 g h q v f) (md_Qp (md A0 g h q v f) (fun r => -1 ≤ r.toInt ∧ r.toInt < (v 0).toInt)) := by
  refine mt_X11_reported rfl (fun J hC => ?_)
  have hv9 := hv
  unfold md_V at hv9
  have rg_x1 := pm_rng x1
  have rg_x2 := pm_rng x2
  have rg_x3 := pm_rng x3
  refine hC.1 0 0 _ _ rfl _ _ _ _ _ ?_
  have km268435456 : (-268435456 : Int32).toInt = -268435456 := rfl
  have km1 : (-1 : Int32).toInt = -1 := rfl
  have k0 : (0 : Int32).toInt = 0 := rfl
  have lp1 : ∀ (n : Nat) (z4_10 : Int32) (z5_10 : Int32) (z6_10 : Int32), (0 ≤ z6_10.toInt ∧ z6_10.toInt ≤ 26) → (-1 ≤ z5_10.toInt ∧ z5_10.toInt < (v 0).toInt) → 100 - z6_10.toInt < (n : Int) → J 10 [some (.ref h), some (.int x1), some (.int x2), some (.int x3), some (.int z4_10), some (.int z5_10), some (.int z6_10), none, none] [] (md A0 g h q v f) 0 0 := by
    intro n
    induction n with
    | zero =>
      intro z4_10 z5_10 z6_10 j0_10 j1_10 j2_10
      omega
    | succ n ih2 =>
      intro z4_10 z5_10 z6_10 j0_10 j1_10 j2_10
      refine hC.1 1 10 _ _ rfl _ _ _ _ _ ?_
      refine And.intro (fun c3 => ?_) (fun c3 => ?_)
      · skip
        refine hC.1 7 104 _ _ rfl _ _ _ _ _ ?_
        exact ⟨rfl, fun e9 => absurd e9 (by decide), rfl, z5_10, rfl, rfl, by first | omega | (dsimp only; omega) | trivial⟩
      · skip
        have lp4 : ∀ (n : Nat) (z7_22 : Int32) (z8_22 : Int32), (x1.toInt ≤ z8_22.toInt ∧ z8_22.toInt ≤ x2.toInt + 1) → (-1 ≤ z7_22.toInt ∧ z7_22.toInt ≤ x2.toInt) → 200 - z8_22.toInt < (n : Int) → J 22 [some (.ref h), some (.int x1), some (.int x2), some (.int x3), some (.int z4_10), some (.int z5_10), some (.int z6_10), some (.int z7_22), some (.int z8_22)] [] (md A0 g h q v f) 0 0 := by
          intro n
          induction n with
          | zero =>
            intro z7_22 z8_22 j0_22 j1_22 j2_22
            omega
          | succ n ih5 =>
            intro z7_22 z8_22 j0_22 j1_22 j2_22
            refine hC.1 2 22 _ _ rfl _ _ _ _ _ ?_
            refine And.intro (fun c6 => ?_) (fun c6 => ?_)
            · skip
              refine hC.1 5 79 _ _ rfl _ _ _ _ _ ?_
              refine And.intro (fun c7 => ?_) (fun c7 => ?_)
              · skip
                refine hC.1 6 86 _ _ rfl _ _ _ _ _ ?_
                refine And.intro (Exists.intro _ md_o) (Exists.intro _ (Exists.intro _ (Exists.intro _ (Exists.intro _ (And.intro (c_X11_reportKey D v f hv hf z7_22 (by omega)) (And.intro rfl (fun r9 A9 h9 => ?_)))))))
                obtain ⟨y8, rfl, rfl, by8⟩ := h9
                have k1 : (1 : Int32).toInt = 1 := rfl
                intro m9 em_98
                try have e9 : m9.toInt = (z6_10).toInt + (1) := by rw [em_98]; exact pm_addc _ _ (1) rfl (by omega) (by omega)
                exact hC.2 [false, false, false, false, false, false, false, true, true] _ _ _ _ _ _ (ih2 y8 z7_22 m9 (by omega) (by omega) (by omega))
              · skip
                exact ⟨rfl, fun e9 => absurd e9 (by decide), rfl, (-1 : Int32), rfl, rfl, by first | omega | (dsimp only; omega) | trivial⟩
            · skip
              refine And.intro (Exists.intro _ md_o) (Exists.intro _ (Exists.intro _ (Exists.intro _ (Exists.intro _ (And.intro (c_X11_ahead D v f hv hf z8_22 (by omega)) (And.intro rfl (fun r9 A9 h9 => ?_)))))))
              obtain ⟨y10, rfl, rfl, by10⟩ := h9
              refine And.intro (fun c11 => ?_) (fun c11 => ?_)
              · skip
                refine hC.1 4 73 _ _ rfl _ _ _ _ _ ?_
                have k1 : (1 : Int32).toInt = 1 := rfl
                intro m12 em_73
                try have e12 : m12.toInt = (z8_22).toInt + (1) := by rw [em_73]; exact pm_addc _ _ (1) rfl (by omega) (by omega)
                exact ih5 z7_22 m12 (by omega) (by omega) (by omega)
              · skip
                refine And.intro (Exists.intro _ md_o) (Exists.intro _ (Exists.intro _ (Exists.intro _ (Exists.intro _ (And.intro (c_X11_reportKey D v f hv hf z8_22 (by omega)) (And.intro rfl (fun r9 A9 h9 => ?_)))))))
                obtain ⟨y13, rfl, rfl, by13⟩ := h9
                refine And.intro (fun c14 => ?_) (fun c14 => ?_)
                · skip
                  refine hC.1 4 73 _ _ rfl _ _ _ _ _ ?_
                  have k1 : (1 : Int32).toInt = 1 := rfl
                  intro m15 em_73
                  try have e15 : m15.toInt = (z8_22).toInt + (1) := by rw [em_73]; exact pm_addc _ _ (1) rfl (by omega) (by omega)
                  exact ih5 z7_22 m15 (by omega) (by omega) (by omega)
                · skip
                  refine And.intro (fun c16 => ?_) (fun c16 => ?_)
                  · skip
                    refine hC.1 3 69 _ _ rfl _ _ _ _ _ ?_
                    refine hC.1 4 73 _ _ rfl _ _ _ _ _ ?_
                    have k1 : (1 : Int32).toInt = 1 := rfl
                    intro m17 em_73
                    try have e17 : m17.toInt = (z8_22).toInt + (1) := by rw [em_73]; exact pm_addc _ _ (1) rfl (by omega) (by omega)
                    exact ih5 z8_22 m17 (by omega) (by omega) (by omega)
                  · skip
                    refine And.intro (Exists.intro _ md_o) (Exists.intro _ (Exists.intro _ (Exists.intro _ (Exists.intro _ (And.intro (c_X11_reportKey D v f hv hf z8_22 (by omega)) (And.intro rfl (fun r9 A9 h9 => ?_)))))))
                    obtain ⟨y18, rfl, rfl, by18⟩ := h9
                    refine And.intro (Exists.intro _ md_o) (Exists.intro _ (Exists.intro _ (Exists.intro _ (Exists.intro _ (And.intro (c_X11_reportKey D v f hv hf z7_22 (by omega)) (And.intro rfl (fun r9 A9 h9 => ?_)))))))
                    obtain ⟨y19, rfl, rfl, by19⟩ := h9
                    refine And.intro (fun c20 => ?_) (fun c20 => ?_)
                    · skip
                      refine hC.1 4 73 _ _ rfl _ _ _ _ _ ?_
                      have k1 : (1 : Int32).toInt = 1 := rfl
                      intro m21 em_73
                      try have e21 : m21.toInt = (z8_22).toInt + (1) := by rw [em_73]; exact pm_addc _ _ (1) rfl (by omega) (by omega)
                      exact ih5 z7_22 m21 (by omega) (by omega) (by omega)
                    · skip
                      refine hC.1 3 69 _ _ rfl _ _ _ _ _ ?_
                      refine hC.1 4 73 _ _ rfl _ _ _ _ _ ?_
                      have k1 : (1 : Int32).toInt = 1 := rfl
                      intro m22 em_73
                      try have e22 : m22.toInt = (z8_22).toInt + (1) := by rw [em_73]; exact pm_addc _ _ (1) rfl (by omega) (by omega)
                      exact ih5 z8_22 m22 (by omega) (by omega) (by omega)
        exact lp4 (200 - x1.toInt).toNat.succ (-1 : Int32) x1 (by omega) (by omega) (by omega)
  exact lp1 (100 - (0 : Int32).toInt).toNat.succ (-268435456 : Int32) (-1 : Int32) (0 : Int32) (by omega) (by omega) (by omega)

set_option maxRecDepth 100000 in
set_option maxHeartbeats 2000000 in
theorem c_X11_report (D : md_D h q) (v : Nat → Int32) (f : Nat → Nat → Int32) (hv : md_V v) (hf : md_F f) (x1 : Int32) (x2 : Int32) (x3 : Int32) (x4 : Int32)  : pm_Mt l g 217 3 0 0 [.ref h, .int x1, .int x2, .int x3, .int x4] (md A0 g h q v f) (md_Qp (md A0 g h q v f) (fun r => True)) := by
  refine mt_X11_report rfl (fun J hC => ?_)
  have hv9 := hv
  unfold md_V at hv9
  have rg_x1 := pm_rng x1
  have rg_x2 := pm_rng x2
  have rg_x3 := pm_rng x3
  have rg_x4 := pm_rng x4
  refine hC.1 0 0 _ _ rfl _ _ _ _ _ ?_
  refine And.intro (Exists.intro _ md_o) (Exists.intro _ (Exists.intro _ (Exists.intro _ (Exists.intro _ (And.intro (c_X11_isSpan D v f hv hf x1 x2 ) (And.intro rfl (fun r9 A9 h9 => ?_)))))))
  rcases h9 with ⟨y1, rfl, rfl, ⟨rfl, by1⟩ | ⟨rfl, by1⟩⟩
  · skip
    have k1 : (1 : Int32).toInt = 1 := rfl
    refine And.intro (fun c9 => absurd c9 (by decide)) (fun _ => ?_)
    have k0 : (0 : Int32).toInt = 0 := rfl
    have k24 : (24 : Int32).toInt = 24 := rfl
    refine Exists.intro _ (Exists.intro _ (Exists.intro _ (Exists.intro _ (And.intro (c_X11_isIn (md A0 g h q v f) x3 (0 : Int32) (24 : Int32) ) (And.intro rfl (fun r9 A9 h9 => ?_))))))
    rcases h9 with ⟨y2, rfl, rfl, ⟨rfl, by2⟩ | ⟨rfl, by2⟩⟩
    · skip
      refine And.intro (fun c9 => absurd c9 (by decide)) (fun _ => ?_)
      have k2 : (2 : Int32).toInt = 2 := rfl
      refine Exists.intro _ (Exists.intro _ (Exists.intro _ (Exists.intro _ (And.intro (c_X11_isIn (md A0 g h q v f) x4 (0 : Int32) (2 : Int32) ) (And.intro rfl (fun r9 A9 h9 => ?_))))))
      rcases h9 with ⟨y3, rfl, rfl, ⟨rfl, by3⟩ | ⟨rfl, by3⟩⟩
      · skip
        refine And.intro (fun _ => ?_) (fun c9 => absurd c9 (by decide))
        refine hC.1 2 31 _ _ rfl _ _ _ _ _ ?_
        refine And.intro (Exists.intro _ md_o) (Exists.intro _ (Exists.intro _ (Exists.intro _ (Exists.intro _ (And.intro (c_X11_reported D v f hv hf x1 x2 x3 (by omega) (by omega)) (And.intro rfl (fun r9 A9 h9 => ?_)))))))
        obtain ⟨y4, rfl, rfl, by4⟩ := h9
        refine And.intro (fun c5 => ?_) (fun c5 => ?_)
        · skip
          refine hC.1 3 47 _ _ rfl _ _ _ _ _ ?_
          refine And.intro (fun c6 => ?_) (fun c6 => ?_)
          · skip
            have dc6 := pm_neI c6
            refine hC.1 4 57 _ _ rfl _ _ _ _ _ ?_
            refine And.intro (fun c7 => ?_) (fun c7 => ?_)
            · skip
              have dc7 := pm_neI c7
              refine hC.1 5 73 _ _ rfl _ _ _ _ _ ?_
              refine And.intro (Exists.intro _ md_o) (Exists.intro _ (Exists.intro _ (Exists.intro _ (Exists.intro _ (And.intro (c_X11_bondOf D v f hv hf y4 (by omega)) (And.intro rfl (fun r9 A9 h9 => ?_)))))))
              obtain ⟨y8, rfl, rfl, by8⟩ := h9
              refine hC.1 6 79 _ _ rfl _ _ _ _ _ ?_
              exact ⟨rfl, fun e9 => absurd e9 (by decide), rfl, y8, rfl, rfl, by exact True.intro⟩
            · skip
              have dc7 : (x4).toInt = ((1 : Int32) : Int32).toInt := congrArg Int32.toInt c7
              refine Exists.intro _ (And.intro md_o ?_)
              refine Exists.intro _ (Exists.intro _ (And.intro (Or.inl (md_a_colours D)) (And.intro (by omega) ?_)))
              have w9 : (0 : Int) ≤ (f 0 (y4).toInt.toNat).toInt ∧ (f 0 (y4).toInt.toNat).toInt ≤ (23 : Int) := hf 0 _
              refine hC.1 6 79 _ _ rfl _ _ _ _ _ ?_
              exact ⟨rfl, fun e9 => absurd e9 (by decide), rfl, (f 0 (y4).toInt.toNat), rfl, rfl, by exact True.intro⟩
          · skip
            have dc6 : (x4).toInt = (0 : Int32).toInt := congrArg Int32.toInt c6
            refine hC.1 6 79 _ _ rfl _ _ _ _ _ ?_
            exact ⟨rfl, fun e9 => absurd e9 (by decide), rfl, y4, rfl, rfl, by exact True.intro⟩
        · skip
          have km1 : (-1 : Int32).toInt = -1 := rfl
          exact ⟨rfl, fun e9 => absurd e9 (by decide), rfl, (-1 : Int32), rfl, rfl, by exact True.intro⟩
      · skip
        refine And.intro (fun c9 => absurd c9 (by decide)) (fun _ => ?_)
        refine hC.1 1 29 _ _ rfl _ _ _ _ _ ?_
        have km1 : (-1 : Int32).toInt = -1 := rfl
        exact ⟨rfl, fun e9 => absurd e9 (by decide), rfl, (-1 : Int32), rfl, rfl, by exact True.intro⟩
    · skip
      refine And.intro (fun _ => ?_) (fun c9 => absurd c9 (by decide))
      refine hC.1 1 29 _ _ rfl _ _ _ _ _ ?_
      have km1 : (-1 : Int32).toInt = -1 := rfl
      exact ⟨rfl, fun e9 => absurd e9 (by decide), rfl, (-1 : Int32), rfl, rfl, by exact True.intro⟩
  · skip
    have k0 : (0 : Int32).toInt = 0 := rfl
    refine And.intro (fun _ => ?_) (fun c9 => absurd c9 (by decide))
    refine hC.1 1 29 _ _ rfl _ _ _ _ _ ?_
    have km1 : (-1 : Int32).toInt = -1 := rfl
    exact ⟨rfl, fun e9 => absurd e9 (by decide), rfl, (-1 : Int32), rfl, rfl, by exact True.intro⟩

set_option maxRecDepth 100000 in
set_option maxHeartbeats 2000000 in
theorem c_X11_absent (D : md_D h q) (v : Nat → Int32) (f : Nat → Nat → Int32) (hv : md_V v) (hf : md_F f) (x1 : Int32) (x2 : Int32) (x3 : Int32)  : pm_Mt l g 223 1 0 0 [.ref h, .int x1, .int x2, .int x3] (md A0 g h q v f) (md_Qp (md A0 g h q v f) (fun r => True)) := by
  refine mt_X11_absent rfl (fun J hC => ?_)
  have hv9 := hv
  unfold md_V at hv9
  have rg_x1 := pm_rng x1
  have rg_x2 := pm_rng x2
  have rg_x3 := pm_rng x3
  refine hC.1 0 0 _ _ rfl _ _ _ _ _ ?_
  refine And.intro (Exists.intro _ md_o) (Exists.intro _ (Exists.intro _ (Exists.intro _ (Exists.intro _ (And.intro (c_X11_isSpan D v f hv hf x1 x2 ) (And.intro rfl (fun r9 A9 h9 => ?_)))))))
  rcases h9 with ⟨y1, rfl, rfl, ⟨rfl, by1⟩ | ⟨rfl, by1⟩⟩
  · skip
    have k1 : (1 : Int32).toInt = 1 := rfl
    refine And.intro (fun c9 => absurd c9 (by decide)) (fun _ => ?_)
    refine And.intro (fun c2 => ?_) (fun c2 => ?_)
    · skip
      refine hC.1 2 15 _ _ rfl _ _ _ _ _ ?_
      refine And.intro (Exists.intro _ md_o) (Exists.intro _ (Exists.intro _ (Exists.intro _ (Exists.intro _ (And.intro (c_X11_setOf D v f hv hf x1 x2 (by omega) (by omega)) (And.intro rfl (fun r9 A9 h9 => ?_)))))))
      obtain ⟨y3, rfl, rfl, by3⟩ := h9
      have k0 : (0 : Int32).toInt = 0 := rfl
      have lp4 : ∀ (n : Nat) (z5_29 : Int32) (z6_29 : Int32), (0 ≤ z6_29.toInt ∧ z6_29.toInt ≤ 24) → 200 - z6_29.toInt < (n : Int) → J 29 [some (.ref h), some (.int x1), some (.int x2), some (.int x3), some (.int y3), some (.int z5_29), some (.int z6_29)] [] (md A0 g h q v f) 0 0 := by
        intro n
        induction n with
        | zero =>
          intro z5_29 z6_29 j0_29 j1_29
          omega
        | succ n ih5 =>
          intro z5_29 z6_29 j0_29 j1_29
          refine hC.1 3 29 _ _ rfl _ _ _ _ _ ?_
          have k24 : (24 : Int32).toInt = 24 := rfl
          refine And.intro (fun c6 => ?_) (fun c6 => ?_)
          · skip
            refine hC.1 7 67 _ _ rfl _ _ _ _ _ ?_
            have km1 : (-1 : Int32).toInt = -1 := rfl
            exact ⟨rfl, fun e9 => absurd e9 (by decide), rfl, (-1 : Int32), rfl, rfl, by exact True.intro⟩
          · skip
            refine And.intro (fun c7 => ?_) (fun c7 => ?_)
            · skip
              have dc7 := pm_neI c7
              refine hC.1 4 50 _ _ rfl _ _ _ _ _ ?_
              refine And.intro (fun c8 => ?_) (fun c8 => ?_)
              · skip
                have dc8 := pm_neI c8
                refine hC.1 5 58 _ _ rfl _ _ _ _ _ ?_
                have km1 : (-1 : Int32).toInt = -1 := rfl
                intro m9 em_58
                try have e9 : m9.toInt = (z5_29).toInt + (-1) := by rw [em_58]; exact pm_addc _ _ (-1) rfl (by omega) (by omega)
                refine hC.1 6 61 _ _ rfl _ _ _ _ _ ?_
                intro m10 em_61
                try have e10 : m10.toInt = (z6_29).toInt + (1) := by rw [em_61]; exact pm_addc _ _ (1) rfl (by omega) (by omega)
                exact ih5 m9 m10 (by omega) (by omega)
              · skip
                have dc8 : (z5_29).toInt = (0 : Int32).toInt := congrArg Int32.toInt c8
                exact ⟨rfl, fun e9 => absurd e9 (by decide), rfl, z6_29, rfl, rfl, by exact True.intro⟩
            · skip
              have dc7 : (((y3 >>> (z6_29 &&& 31)) &&& (1 : Int32))).toInt = ((1 : Int32) : Int32).toInt := congrArg Int32.toInt c7
              refine hC.1 6 61 _ _ rfl _ _ _ _ _ ?_
              intro m11 em_61
              try have e11 : m11.toInt = (z6_29).toInt + (1) := by rw [em_61]; exact pm_addc _ _ (1) rfl (by omega) (by omega)
              exact ih5 z5_29 m11 (by omega) (by omega)
      exact lp4 (200 - (0 : Int32).toInt).toNat.succ x3 (0 : Int32) (by omega) (by omega)
    · skip
      refine hC.1 1 13 _ _ rfl _ _ _ _ _ ?_
      have km1 : (-1 : Int32).toInt = -1 := rfl
      exact ⟨rfl, fun e9 => absurd e9 (by decide), rfl, (-1 : Int32), rfl, rfl, by exact True.intro⟩
  · skip
    have k0 : (0 : Int32).toInt = 0 := rfl
    refine And.intro (fun _ => ?_) (fun c9 => absurd c9 (by decide))
    refine hC.1 1 13 _ _ rfl _ _ _ _ _ ?_
    have km1 : (-1 : Int32).toInt = -1 := rfl
    exact ⟨rfl, fun e9 => absurd e9 (by decide), rfl, (-1 : Int32), rfl, rfl, by exact True.intro⟩

end
end
