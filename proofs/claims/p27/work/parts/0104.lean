
def bk_X11_sets : pm_B := [(0, [(.iload_n 1, 1, 1, 0, 0), (.iconst 1, 1, 0, 0, 1), (.aload_n 0, 1, 0, 0, 0), (.getfield 70, 3, 11, 7, 0), (.invokestatic 74, 3, 169, 3, 0), (.ifCond .ne 5, 3, 14, 0, 0), (.iconst 0, 1, 0, 0, 0), (.ireturn, 1, 0, 0, 0)], 14),
  (14, [(.iconst 0, 1, 0, 0, 0), (.istore_n 2, 1, 2, 0, 0), (.iconst 0, 1, 0, 0, 0), (.istore_n 3, 1, 3, 0, 0)], 18),
  (18, [(.iload_n 3, 1, 3, 0, 0), (.iload_n 1, 1, 1, 0, 0), (.iadd, 1, 0, 0, 0), (.aload_n 0, 1, 0, 0, 0), (.getfield 70, 3, 11, 7, 0), (.if_icmp .gt 77, 3, 102, 0, 0), (.iconst 1, 1, 0, 0, 1), (.istore 4, 2, 4, 0, 0), (.iconst 0, 1, 0, 0, 0), (.istore 5, 2, 5, 0, 0)], 34),
  (34, [(.iload 5, 2, 5, 0, 0), (.iload_n 3, 1, 3, 0, 0), (.if_icmp .ge 46, 3, 83, 0, 0), (.iload 4, 2, 4, 0, 0), (.ifCond .eq 41, 3, 83, 0, 0), (.aload_n 0, 1, 0, 0, 0), (.iload 5, 2, 5, 0, 0), (.iload 5, 2, 5, 0, 0), (.iload_n 1, 1, 1, 0, 0), (.iadd, 1, 0, 0, 0), (.iconst 1, 1, 0, 0, 1), (.isub, 1, 0, 0, 0), (.invokevirtual 161, 3, 206, 2, 11), (.aload_n 0, 1, 0, 0, 0), (.iload_n 3, 1, 3, 0, 0), (.iload_n 3, 1, 3, 0, 0), (.iload_n 1, 1, 1, 0, 0), (.iadd, 1, 0, 0, 0), (.iconst 1, 1, 0, 0, 1), (.isub, 1, 0, 0, 0), (.invokevirtual 161, 3, 206, 2, 11), (.if_icmp .eq 7, 3, 74, 0, 0), (.iconst 1, 1, 0, 0, 1), (.goto 4, 3, 75, 0, 0)], 74),
  (74, [(.iconst 0, 1, 0, 0, 0)], 75),
  (75, [(.istore 4, 2, 4, 0, 0), (.iinc 5 1, 3, 5, 0, 1), (.goto (-46), 3, 34, 0, 0)], 83),
  (83, [(.iload_n 2, 1, 2, 0, 0), (.iload 4, 2, 4, 0, 0), (.ifCond .eq 7, 3, 93, 0, 0), (.iconst 1, 1, 0, 0, 1), (.goto 4, 3, 94, 0, 0)], 93),
  (93, [(.iconst 0, 1, 0, 0, 0)], 94),
  (94, [(.iadd, 1, 0, 0, 0), (.istore_n 2, 1, 2, 0, 0), (.iinc 3 1, 3, 3, 0, 1), (.goto (-81), 3, 18, 0, 0)], 102),
  (102, [(.iload_n 2, 1, 2, 0, 0), (.ireturn, 1, 0, 0, 0)], 104)]
set_option maxRecDepth 100000 in
theorem ok_X11_sets : pm_oks 11 false 6 (some .int) cX11_sets bk_X11_sets = true := oksF_ok (by decide +kernel)
set_option maxRecDepth 100000 in
theorem me_X11_sets : pm_me 266 = (yX11_sets, cX11_sets, 6, (some .int), 1, 0) := rfl
theorem mt_X11_sets {l : Launch} {g : pm_G} {d mc ms : Nat} {as : List Value} {A : pm_H} {Q : Option Value → pm_H → Prop} (hca : pm_cat 6 as = true) (body : ∀ J : pm_J, pm_Cl l g (fun _ => none) d mc ms (pm_Rq mc ms Q) bk_X11_sets J → J 0 (pm_l0 6 as) [] A 0 0) : pm_Mt l g 266 d mc ms as A Q := pm_Mt_of (isI := false) 11 bk_X11_sets me_X11_sets (plainFor_of_name (by decide +kernel)) (by decide +kernel) (fun h => by cases h) ok_X11_sets hca body
def bk_X11_match : pm_B := [(0, [(.aload_n 0, 1, 0, 0, 0), (.iload_n 1, 1, 1, 0, 0), (.iload_n 2, 1, 2, 0, 0), (.invokevirtual 129, 3, 180, 2, 11), (.ifCond .eq 8, 3, 14, 0, 0), (.iload_n 3, 1, 3, 0, 0), (.iconst (-1), 1, 0, 0, -1), (.if_icmp .ge 5, 3, 16, 0, 0)], 14),
  (14, [(.iconst (-1), 1, 0, 0, -1), (.ireturn, 1, 0, 0, 0)], 16),
  (16, [(.aload_n 0, 1, 0, 0, 0), (.invokevirtual 245, 3, 268, 0, 11), (.iload_n 2, 1, 2, 0, 0), (.iload_n 1, 1, 1, 0, 0), (.isub, 1, 0, 0, 0), (.iconst 1, 1, 0, 0, 1), (.iadd, 1, 0, 0, 0), (.istore 4, 2, 4, 0, 0), (.iconst 0, 1, 0, 0, 0), (.istore 5, 2, 5, 0, 0), (.iconst 0, 1, 0, 0, 0), (.istore 6, 2, 6, 0, 0)], 33),
  (33, [(.iload 6, 2, 6, 0, 0), (.iload 4, 2, 4, 0, 0), (.iadd, 1, 0, 0, 0), (.aload_n 0, 1, 0, 0, 0), (.getfield 70, 3, 11, 7, 0), (.if_icmp .gt 38, 3, 80, 0, 0), (.aload_n 0, 1, 0, 0, 0), (.iload_n 1, 1, 1, 0, 0), (.iload 6, 2, 6, 0, 0), (.iload 4, 2, 4, 0, 0), (.invokevirtual 248, 3, 269, 3, 11), (.iload 4, 2, 4, 0, 0), (.if_icmp .ge 6, 3, 62, 0, 0), (.goto 15, 3, 74, 0, 0)], 62),
  (62, [(.iload 5, 2, 5, 0, 0), (.iload_n 3, 1, 3, 0, 0), (.if_icmp .ne 6, 3, 71, 0, 0), (.iload 6, 2, 6, 0, 0), (.ireturn, 1, 0, 0, 0)], 71),
  (71, [(.iinc 5 1, 3, 5, 0, 1)], 74),
  (74, [(.iinc 6 1, 3, 6, 0, 1), (.goto (-44), 3, 33, 0, 0)], 80),
  (80, [(.iload_n 3, 1, 3, 0, 0), (.iconst (-1), 1, 0, 0, -1), (.if_icmp .ne 8, 3, 90, 0, 0), (.iload 5, 2, 5, 0, 0), (.goto 4, 3, 91, 0, 0)], 90),
  (90, [(.iconst (-1), 1, 0, 0, -1)], 91),
  (91, [(.ireturn, 1, 0, 0, 0)], 92)]
set_option maxRecDepth 100000 in
theorem ok_X11_match : pm_oks 11 false 7 (some .int) cX11_match bk_X11_match = true := oksF_ok (by decide +kernel)
set_option maxRecDepth 100000 in
theorem me_X11_match : pm_me 267 = (yX11_match, cX11_match, 7, (some .int), 3, 0) := rfl
theorem mt_X11_match {l : Launch} {g : pm_G} {d mc ms : Nat} {as : List Value} {A : pm_H} {Q : Option Value → pm_H → Prop} (hca : pm_cat 7 as = true) (body : ∀ J : pm_J, pm_Cl l g (fun _ => none) d mc ms (pm_Rq mc ms Q) bk_X11_match J → J 0 (pm_l0 7 as) [] A 0 0) : pm_Mt l g 267 d mc ms as A Q := pm_Mt_of (isI := false) 11 bk_X11_match me_X11_match (plainFor_of_name (by decide +kernel)) (by decide +kernel) (fun h => by cases h) ok_X11_match hca body
def bk_X11_layGaps : pm_B := [(0, [(.iconst 0, 1, 0, 0, 0), (.istore_n 1, 1, 1, 0, 0)], 2),
  (2, [(.iload_n 1, 1, 1, 0, 0), (.aload_n 0, 1, 0, 0, 0), (.getfield 70, 3, 11, 7, 0), (.if_icmp .ge 35, 3, 42, 0, 0), (.aload_n 0, 1, 0, 0, 0), (.getfield 61, 3, 11, 25, 0), (.iload_n 1, 1, 1, 0, 0), (.aload_n 0, 1, 0, 0, 0), (.iload_n 1, 1, 1, 0, 0), (.invokevirtual 78, 3, 174, 1, 11), (.ifCond .ge 8, 3, 28, 0, 0), (.ldc 222, 2, 0, 0, 268435456), (.goto 10, 3, 35, 0, 0)], 28),
  (28, [(.iload_n 1, 1, 1, 0, 0), (.aload_n 0, 1, 0, 0, 0), (.iload_n 1, 1, 1, 0, 0), (.invokevirtual 78, 3, 174, 1, 11), (.isub, 1, 0, 0, 0)], 35),
  (35, [(.iastore, 1, 0, 0, 0), (.iinc 1 1, 3, 1, 0, 1), (.goto (-37), 3, 2, 0, 0)], 42),
  (42, [(.return_, 1, 0, 0, 0)], 43)]
set_option maxRecDepth 100000 in
theorem ok_X11_layGaps : pm_oks 11 false 2 none cX11_layGaps bk_X11_layGaps = true := oksF_ok (by decide +kernel)
set_option maxRecDepth 100000 in
theorem me_X11_layGaps : pm_me 268 = (yX11_layGaps, cX11_layGaps, 2, none, 0, 0) := rfl
theorem mt_X11_layGaps {l : Launch} {g : pm_G} {d mc ms : Nat} {as : List Value} {A : pm_H} {Q : Option Value → pm_H → Prop} (hca : pm_cat 2 as = true) (body : ∀ J : pm_J, pm_Cl l g (fun _ => none) d mc ms (pm_Rq mc ms Q) bk_X11_layGaps J → J 0 (pm_l0 2 as) [] A 0 0) : pm_Mt l g 268 d mc ms as A Q := pm_Mt_of (isI := false) 11 bk_X11_layGaps me_X11_layGaps (plainFor_of_name (by decide +kernel)) (by decide +kernel) (fun h => by cases h) ok_X11_layGaps hca body
def bk_X11_matched : pm_B := [(0, [(.iconst 0, 1, 0, 0, 0), (.istore 4, 2, 4, 0, 0)], 3),
  (3, [(.iload 4, 2, 4, 0, 0), (.iload_n 3, 1, 3, 0, 0), (.if_icmp .ge 88, 3, 94, 0, 0), (.iload_n 1, 1, 1, 0, 0), (.iload 4, 2, 4, 0, 0), (.iadd, 1, 0, 0, 0), (.aload_n 0, 1, 0, 0, 0), (.getfield 70, 3, 11, 7, 0), (.if_icmp .ge 77, 3, 94, 0, 0), (.iload_n 2, 1, 2, 0, 0), (.iload 4, 2, 4, 0, 0), (.iadd, 1, 0, 0, 0), (.aload_n 0, 1, 0, 0, 0), (.getfield 70, 3, 11, 7, 0), (.if_icmp .ge 66, 3, 94, 0, 0), (.aload_n 0, 1, 0, 0, 0), (.getfield 61, 3, 11, 25, 0), (.iload_n 1, 1, 1, 0, 0), (.iload 4, 2, 4, 0, 0), (.iadd, 1, 0, 0, 0), (.iaload, 1, 0, 0, 0), (.iload 4, 2, 4, 0, 0), (.if_icmp .le 7, 3, 49, 0, 0), (.iconst 0, 1, 0, 0, 0), (.goto 12, 3, 58, 0, 0)], 49),
  (49, [(.aload_n 0, 1, 0, 0, 0), (.getfield 61, 3, 11, 25, 0), (.iload_n 1, 1, 1, 0, 0), (.iload 4, 2, 4, 0, 0), (.iadd, 1, 0, 0, 0), (.iaload, 1, 0, 0, 0)], 58),
  (58, [(.aload_n 0, 1, 0, 0, 0), (.getfield 61, 3, 11, 25, 0), (.iload_n 2, 1, 2, 0, 0), (.iload 4, 2, 4, 0, 0), (.iadd, 1, 0, 0, 0), (.iaload, 1, 0, 0, 0), (.iload 4, 2, 4, 0, 0), (.if_icmp .le 7, 3, 76, 0, 0), (.iconst 0, 1, 0, 0, 0), (.goto 12, 3, 85, 0, 0)], 76),
  (76, [(.aload_n 0, 1, 0, 0, 0), (.getfield 61, 3, 11, 25, 0), (.iload_n 2, 1, 2, 0, 0), (.iload 4, 2, 4, 0, 0), (.iadd, 1, 0, 0, 0), (.iaload, 1, 0, 0, 0)], 85),
  (85, [(.if_icmp .ne 9, 3, 94, 0, 0), (.iinc 4 1, 3, 4, 0, 1), (.goto (-88), 3, 3, 0, 0)], 94),
  (94, [(.iload 4, 2, 4, 0, 0), (.ireturn, 1, 0, 0, 0)], 97)]
set_option maxRecDepth 100000 in
theorem ok_X11_matched : pm_oks 11 false 5 (some .int) cX11_matched bk_X11_matched = true := oksF_ok (by decide +kernel)
