/-! blocks, by a program -/
def bk_X11_sets : pm_B := [(0, [(.iload_n 1, 1, 1, 0, 0), (.iconst 1, 1, 0, 0, 1), (.aload_n 0, 1, 0, 0, 0), (.getfield 70, 3, 11, 7, 0), (.invokestatic 74, 3, 169, 3, 0), (.ifCond .ne 5, 3, 14, 0, 0), (.iconst 0, 1, 0, 0, 0), (.ireturn, 1, 0, 0, 0)], 14),
  (14, [(.iconst 0, 1, 0, 0, 0), (.istore_n 2, 1, 2, 0, 0), (.iconst 0, 1, 0, 0, 0), (.istore_n 3, 1, 3, 0, 0)], 18),
  (18, [(.iload_n 3, 1, 3, 0, 0), (.iload_n 1, 1, 1, 0, 0), (.iadd, 1, 0, 0, 0), (.aload_n 0, 1, 0, 0, 0), (.getfield 70, 3, 11, 7, 0), (.if_icmp .gt 77, 3, 102, 0, 0), (.iconst 1, 1, 0, 0, 1), (.istore 4, 2, 4, 0, 0), (.iconst 0, 1, 0, 0, 0), (.istore 5, 2, 5, 0, 0)], 34),
  (34, [(.iload 5, 2, 5, 0, 0), (.iload_n 3, 1, 3, 0, 0), (.if_icmp .ge 46, 3, 83, 0, 0), (.iload 4, 2, 4, 0, 0), (.ifCond .eq 41, 3, 83, 0, 0), (.aload_n 0, 1, 0, 0, 0), (.iload 5, 2, 5, 0, 0), (.iload 5, 2, 5, 0, 0), (.iload_n 1, 1, 1, 0, 0), (.iadd, 1, 0, 0, 0), (.iconst 1, 1, 0, 0, 1), (.isub, 1, 0, 0, 0), (.invokevirtual 161, 3, 206, 2, 11), (.aload_n 0, 1, 0, 0, 0), (.iload_n 3, 1, 3, 0, 0), (.iload_n 3, 1, 3, 0, 0), (.iload_n 1, 1, 1, 0, 0), (.iadd, 1, 0, 0, 0), (.iconst 1, 1, 0, 0, 1), (.isub, 1, 0, 0, 0), (.invokevirtual 161, 3, 206, 2, 11), (.if_icmp .eq 7, 3, 74, 0, 0), (.iconst 1, 1, 0, 0, 1), (.goto 4, 3, 75, 0, 0)], 74),
  (74, [(.iconst 0, 1, 0, 0, 0)], 75),
  (75, [(.istore 4, 2, 4, 0, 0), (.iinc 5 1, 3, 5, 0, 1), (.goto (-46), 3, 34, 0, 0)], 83),
  (83, [(.iload_n 2, 1, 2, 0, 0), (.iload 4, 2, 4, 0, 0), (.ifCond .eq 7, 3, 93, 0, 0), (.iconst 1, 1, 0, 0, 1), (.goto 4, 3, 94, 0, 0)], 93),
  (93, [(.iconst 0, 1, 0, 0, 0)], 94),
  (94, [(.iadd, 1, 0, 0, 0), (.istore_n 2, 1, 2, 0, 0), (.iinc 3 1, 3, 3, 0, 1), (.goto (-81), 3, 18, 0, 0)], 102),
  (102, [(.iload_n 2, 1, 2, 0, 0), (.ireturn, 1, 0, 0, 0)], 104)]
set_option maxRecDepth 100000 in
theorem ok_X11_sets : pm_oks 11 false 6 (some .int) cX11_sets bk_X11_sets = true := oksF_ok (by decide +kernel)
set_option maxRecDepth 100000 in
theorem me_X11_sets : pm_me 266 = (yX11_sets, cX11_sets, 6, (some .int), 1, 0) := rfl
theorem mt_X11_sets {l : Launch} {g : pm_G} {d mc ms : Nat} {as : List Value} {A : pm_H} {Q : Option Value → pm_H → Prop} (hca : pm_cat 6 as = true) (body : ∀ J : pm_J, pm_Cl l g (fun _ => none) d mc ms (pm_Rq mc ms Q) bk_X11_sets J → J 0 (pm_l0 6 as) [] A 0 0) : pm_Mt l g 266 d mc ms as A Q := pm_Mt_of (isI := false) 11 bk_X11_sets me_X11_sets (plainFor_of_name (by decide +kernel)) (by decide +kernel) (fun h => by cases h) ok_X11_sets hca body
def bk_X11_match : pm_B := [(0, [(.aload_n 0, 1, 0, 0, 0), (.iload_n 1, 1, 1, 0, 0), (.iload_n 2, 1, 2, 0, 0), (.invokevirtual 129, 3, 180, 2, 11), (.ifCond .eq 8, 3, 14, 0, 0), (.iload_n 3, 1, 3, 0, 0), (.iconst (-1), 1, 0, 0, -1), (.if_icmp .ge 5, 3, 16, 0, 0)], 14),
  (14, [(.iconst (-1), 1, 0, 0, -1), (.ireturn, 1, 0, 0, 0)], 16),
  (16, [(.aload_n 0, 1, 0, 0, 0), (.invokevirtual 245, 3, 268, 0, 11), (.iload_n 2, 1, 2, 0, 0), (.iload_n 1, 1, 1, 0, 0), (.isub, 1, 0, 0, 0), (.iconst 1, 1, 0, 0, 1), (.iadd, 1, 0, 0, 0), (.istore 4, 2, 4, 0, 0), (.iconst 0, 1, 0, 0, 0), (.istore 5, 2, 5, 0, 0), (.iconst 0, 1, 0, 0, 0), (.istore 6, 2, 6, 0, 0)], 33),
  (33, [(.iload 6, 2, 6, 0, 0), (.iload 4, 2, 4, 0, 0), (.iadd, 1, 0, 0, 0), (.aload_n 0, 1, 0, 0, 0), (.getfield 70, 3, 11, 7, 0), (.if_icmp .gt 38, 3, 80, 0, 0), (.aload_n 0, 1, 0, 0, 0), (.iload_n 1, 1, 1, 0, 0), (.iload 6, 2, 6, 0, 0), (.iload 4, 2, 4, 0, 0), (.invokevirtual 248, 3, 269, 3, 11), (.iload 4, 2, 4, 0, 0), (.if_icmp .ge 6, 3, 62, 0, 0), (.goto 15, 3, 74, 0, 0)], 62),
  (62, [(.iload 5, 2, 5, 0, 0), (.iload_n 3, 1, 3, 0, 0), (.if_icmp .ne 6, 3, 71, 0, 0), (.iload 6, 2, 6, 0, 0), (.ireturn, 1, 0, 0, 0)], 71),
  (71, [(.iinc 5 1, 3, 5, 0, 1)], 74),
  (74, [(.iinc 6 1, 3, 6, 0, 1), (.goto (-44), 3, 33, 0, 0)], 80),
  (80, [(.iload_n 3, 1, 3, 0, 0), (.iconst (-1), 1, 0, 0, -1), (.if_icmp .ne 8, 3, 90, 0, 0), (.iload 5, 2, 5, 0, 0), (.goto 4, 3, 91, 0, 0)], 90),
  (90, [(.iconst (-1), 1, 0, 0, -1)], 91),
  (91, [(.ireturn, 1, 0, 0, 0)], 92)]
set_option maxRecDepth 100000 in
theorem ok_X11_match : pm_oks 11 false 7 (some .int) cX11_match bk_X11_match = true := oksF_ok (by decide +kernel)
set_option maxRecDepth 100000 in
theorem me_X11_match : pm_me 267 = (yX11_match, cX11_match, 7, (some .int), 3, 0) := rfl
theorem mt_X11_match {l : Launch} {g : pm_G} {d mc ms : Nat} {as : List Value} {A : pm_H} {Q : Option Value → pm_H → Prop} (hca : pm_cat 7 as = true) (body : ∀ J : pm_J, pm_Cl l g (fun _ => none) d mc ms (pm_Rq mc ms Q) bk_X11_match J → J 0 (pm_l0 7 as) [] A 0 0) : pm_Mt l g 267 d mc ms as A Q := pm_Mt_of (isI := false) 11 bk_X11_match me_X11_match (plainFor_of_name (by decide +kernel)) (by decide +kernel) (fun h => by cases h) ok_X11_match hca body
def bk_X11_layGaps : pm_B := [(0, [(.iconst 0, 1, 0, 0, 0), (.istore_n 1, 1, 1, 0, 0)], 2),
  (2, [(.iload_n 1, 1, 1, 0, 0), (.aload_n 0, 1, 0, 0, 0), (.getfield 70, 3, 11, 7, 0), (.if_icmp .ge 35, 3, 42, 0, 0), (.aload_n 0, 1, 0, 0, 0), (.getfield 61, 3, 11, 25, 0), (.iload_n 1, 1, 1, 0, 0), (.aload_n 0, 1, 0, 0, 0), (.iload_n 1, 1, 1, 0, 0), (.invokevirtual 78, 3, 174, 1, 11), (.ifCond .ge 8, 3, 28, 0, 0), (.ldc 222, 2, 0, 0, 268435456), (.goto 10, 3, 35, 0, 0)], 28),
  (28, [(.iload_n 1, 1, 1, 0, 0), (.aload_n 0, 1, 0, 0, 0), (.iload_n 1, 1, 1, 0, 0), (.invokevirtual 78, 3, 174, 1, 11), (.isub, 1, 0, 0, 0)], 35),
  (35, [(.iastore, 1, 0, 0, 0), (.iinc 1 1, 3, 1, 0, 1), (.goto (-37), 3, 2, 0, 0)], 42),
  (42, [(.return_, 1, 0, 0, 0)], 43)]
set_option maxRecDepth 100000 in
theorem ok_X11_layGaps : pm_oks 11 false 2 none cX11_layGaps bk_X11_layGaps = true := oksF_ok (by decide +kernel)
set_option maxRecDepth 100000 in
theorem me_X11_layGaps : pm_me 268 = (yX11_layGaps, cX11_layGaps, 2, none, 0, 0) := rfl
theorem mt_X11_layGaps {l : Launch} {g : pm_G} {d mc ms : Nat} {as : List Value} {A : pm_H} {Q : Option Value → pm_H → Prop} (hca : pm_cat 2 as = true) (body : ∀ J : pm_J, pm_Cl l g (fun _ => none) d mc ms (pm_Rq mc ms Q) bk_X11_layGaps J → J 0 (pm_l0 2 as) [] A 0 0) : pm_Mt l g 268 d mc ms as A Q := pm_Mt_of (isI := false) 11 bk_X11_layGaps me_X11_layGaps (plainFor_of_name (by decide +kernel)) (by decide +kernel) (fun h => by cases h) ok_X11_layGaps hca body
def bk_X11_matched : pm_B := [(0, [(.iconst 0, 1, 0, 0, 0), (.istore 4, 2, 4, 0, 0)], 3),
  (3, [(.iload 4, 2, 4, 0, 0), (.iload_n 3, 1, 3, 0, 0), (.if_icmp .ge 88, 3, 94, 0, 0), (.iload_n 1, 1, 1, 0, 0), (.iload 4, 2, 4, 0, 0), (.iadd, 1, 0, 0, 0), (.aload_n 0, 1, 0, 0, 0), (.getfield 70, 3, 11, 7, 0), (.if_icmp .ge 77, 3, 94, 0, 0), (.iload_n 2, 1, 2, 0, 0), (.iload 4, 2, 4, 0, 0), (.iadd, 1, 0, 0, 0), (.aload_n 0, 1, 0, 0, 0), (.getfield 70, 3, 11, 7, 0), (.if_icmp .ge 66, 3, 94, 0, 0), (.aload_n 0, 1, 0, 0, 0), (.getfield 61, 3, 11, 25, 0), (.iload_n 1, 1, 1, 0, 0), (.iload 4, 2, 4, 0, 0), (.iadd, 1, 0, 0, 0), (.iaload, 1, 0, 0, 0), (.iload 4, 2, 4, 0, 0), (.if_icmp .le 7, 3, 49, 0, 0), (.iconst 0, 1, 0, 0, 0), (.goto 12, 3, 58, 0, 0)], 49),
  (49, [(.aload_n 0, 1, 0, 0, 0), (.getfield 61, 3, 11, 25, 0), (.iload_n 1, 1, 1, 0, 0), (.iload 4, 2, 4, 0, 0), (.iadd, 1, 0, 0, 0), (.iaload, 1, 0, 0, 0)], 58),
  (58, [(.aload_n 0, 1, 0, 0, 0), (.getfield 61, 3, 11, 25, 0), (.iload_n 2, 1, 2, 0, 0), (.iload 4, 2, 4, 0, 0), (.iadd, 1, 0, 0, 0), (.iaload, 1, 0, 0, 0), (.iload 4, 2, 4, 0, 0), (.if_icmp .le 7, 3, 76, 0, 0), (.iconst 0, 1, 0, 0, 0), (.goto 12, 3, 85, 0, 0)], 76),
  (76, [(.aload_n 0, 1, 0, 0, 0), (.getfield 61, 3, 11, 25, 0), (.iload_n 2, 1, 2, 0, 0), (.iload 4, 2, 4, 0, 0), (.iadd, 1, 0, 0, 0), (.iaload, 1, 0, 0, 0)], 85),
  (85, [(.if_icmp .ne 9, 3, 94, 0, 0), (.iinc 4 1, 3, 4, 0, 1), (.goto (-88), 3, 3, 0, 0)], 94),
  (94, [(.iload 4, 2, 4, 0, 0), (.ireturn, 1, 0, 0, 0)], 97)]
set_option maxRecDepth 100000 in
theorem ok_X11_matched : pm_oks 11 false 5 (some .int) cX11_matched bk_X11_matched = true := oksF_ok (by decide +kernel)
set_option maxRecDepth 100000 in
theorem me_X11_matched : pm_me 269 = (yX11_matched, cX11_matched, 5, (some .int), 3, 0) := rfl
theorem mt_X11_matched {l : Launch} {g : pm_G} {d mc ms : Nat} {as : List Value} {A : pm_H} {Q : Option Value → pm_H → Prop} (hca : pm_cat 5 as = true) (body : ∀ J : pm_J, pm_Cl l g (fun _ => none) d mc ms (pm_Rq mc ms Q) bk_X11_matched J → J 0 (pm_l0 5 as) [] A 0 0) : pm_Mt l g 269 d mc ms as A Q := pm_Mt_of (isI := false) 11 bk_X11_matched me_X11_matched (plainFor_of_name (by decide +kernel)) (by decide +kernel) (fun h => by cases h) ok_X11_matched hca body
def bk_X11_twin : pm_B := [(0, [(.iload_n 1, 1, 1, 0, 0), (.iconst 0, 1, 0, 0, 0), (.iconst 1, 1, 0, 0, 1), (.invokestatic 74, 3, 169, 3, 0), (.ifCond .ne 5, 3, 11, 0, 0), (.iconst (-1), 1, 0, 0, -1), (.ireturn, 1, 0, 0, 0)], 11),
  (11, [(.aload_n 0, 1, 0, 0, 0), (.invokevirtual 245, 3, 268, 0, 11), (.iconst (-1), 1, 0, 0, -1), (.istore_n 2, 1, 2, 0, 0), (.iconst 0, 1, 0, 0, 0), (.istore_n 3, 1, 3, 0, 0), (.iconst 0, 1, 0, 0, 0), (.istore 4, 2, 4, 0, 0)], 22),
  (22, [(.iload 4, 2, 4, 0, 0), (.aload_n 0, 1, 0, 0, 0), (.getfield 70, 3, 11, 7, 0), (.if_icmp .ge 58, 3, 86, 0, 0), (.iload 4, 2, 4, 0, 0), (.iconst 1, 1, 0, 0, 1), (.iadd, 1, 0, 0, 0), (.istore 5, 2, 5, 0, 0)], 37),
  (37, [(.iload 5, 2, 5, 0, 0), (.aload_n 0, 1, 0, 0, 0), (.getfield 70, 3, 11, 7, 0), (.if_icmp .ge 37, 3, 80, 0, 0), (.aload_n 0, 1, 0, 0, 0), (.iload 4, 2, 4, 0, 0), (.iload 5, 2, 5, 0, 0), (.sipush 160, 3, 0, 0, 160), (.invokevirtual 248, 3, 269, 3, 11), (.istore 6, 2, 6, 0, 0), (.iload 6, 2, 6, 0, 0), (.iload_n 3, 1, 3, 0, 0), (.if_icmp .gt 6, 3, 68, 0, 0), (.goto 9, 3, 74, 0, 0)], 68),
  (68, [(.iload 4, 2, 4, 0, 0), (.istore_n 2, 1, 2, 0, 0), (.iload 6, 2, 6, 0, 0), (.istore_n 3, 1, 3, 0, 0)], 74),
  (74, [(.iinc 5 1, 3, 5, 0, 1), (.goto (-40), 3, 37, 0, 0)], 80),
  (80, [(.iinc 4 1, 3, 4, 0, 1), (.goto (-61), 3, 22, 0, 0)], 86),
  (86, [(.iload_n 2, 1, 2, 0, 0), (.ifCond .lt 7, 3, 94, 0, 0), (.iload_n 1, 1, 1, 0, 0), (.ifCond .ne 7, 3, 98, 0, 0)], 94),
  (94, [(.iload_n 2, 1, 2, 0, 0), (.goto 4, 3, 99, 0, 0)], 98),
  (98, [(.iload_n 3, 1, 3, 0, 0)], 99),
  (99, [(.ireturn, 1, 0, 0, 0)], 100)]
set_option maxRecDepth 100000 in
theorem ok_X11_twin : pm_oks 11 false 7 (some .int) cX11_twin bk_X11_twin = true := oksF_ok (by decide +kernel)
set_option maxRecDepth 100000 in
theorem me_X11_twin : pm_me 270 = (yX11_twin, cX11_twin, 7, (some .int), 1, 0) := rfl
theorem mt_X11_twin {l : Launch} {g : pm_G} {d mc ms : Nat} {as : List Value} {A : pm_H} {Q : Option Value → pm_H → Prop} (hca : pm_cat 7 as = true) (body : ∀ J : pm_J, pm_Cl l g (fun _ => none) d mc ms (pm_Rq mc ms Q) bk_X11_twin J → J 0 (pm_l0 7 as) [] A 0 0) : pm_Mt l g 270 d mc ms as A Q := pm_Mt_of (isI := false) 11 bk_X11_twin me_X11_twin (plainFor_of_name (by decide +kernel)) (by decide +kernel) (fun h => by cases h) ok_X11_twin hca body
def bk_X11_parts : pm_B := [(0, [(.iload_n 1, 1, 1, 0, 0), (.iconst 1, 1, 0, 0, 1), (.if_icmp .lt 8, 3, 10, 0, 0), (.iload_n 2, 1, 2, 0, 0), (.iconst (-1), 1, 0, 0, -1), (.if_icmp .ge 5, 3, 12, 0, 0)], 10),
  (10, [(.iconst (-1), 1, 0, 0, -1), (.ireturn, 1, 0, 0, 0)], 12),
  (12, [(.iconst 0, 1, 0, 0, 0), (.istore_n 3, 1, 3, 0, 0), (.iconst 0, 1, 0, 0, 0), (.istore 4, 2, 4, 0, 0)], 17),
  (17, [(.iload 4, 2, 4, 0, 0), (.aload_n 0, 1, 0, 0, 0), (.getfield 70, 3, 11, 7, 0), (.if_icmp .ge 32, 3, 55, 0, 0), (.aload_n 0, 1, 0, 0, 0), (.iload 4, 2, 4, 0, 0), (.iload_n 1, 1, 1, 0, 0), (.invokevirtual 227, 3, 253, 2, 11), (.istore 5, 2, 5, 0, 0), (.iload_n 3, 1, 3, 0, 0), (.iload_n 2, 1, 2, 0, 0), (.if_icmp .ne 6, 3, 43, 0, 0), (.iload 5, 2, 5, 0, 0), (.ireturn, 1, 0, 0, 0)], 43),
  (43, [(.iinc 3 1, 3, 3, 0, 1), (.iload 5, 2, 5, 0, 0), (.iconst 1, 1, 0, 0, 1), (.iadd, 1, 0, 0, 0), (.istore 4, 2, 4, 0, 0), (.goto (-35), 3, 17, 0, 0)], 55),
  (55, [(.iload_n 2, 1, 2, 0, 0), (.iconst (-1), 1, 0, 0, -1), (.if_icmp .ne 7, 3, 64, 0, 0), (.iload_n 3, 1, 3, 0, 0), (.goto 4, 3, 65, 0, 0)], 64),
  (64, [(.iconst (-1), 1, 0, 0, -1)], 65),
  (65, [(.ireturn, 1, 0, 0, 0)], 66)]
set_option maxRecDepth 100000 in
theorem ok_X11_parts : pm_oks 11 false 6 (some .int) cX11_parts bk_X11_parts = true := oksF_ok (by decide +kernel)
set_option maxRecDepth 100000 in
theorem me_X11_parts : pm_me 271 = (yX11_parts, cX11_parts, 6, (some .int), 2, 0) := rfl
theorem mt_X11_parts {l : Launch} {g : pm_G} {d mc ms : Nat} {as : List Value} {A : pm_H} {Q : Option Value → pm_H → Prop} (hca : pm_cat 6 as = true) (body : ∀ J : pm_J, pm_Cl l g (fun _ => none) d mc ms (pm_Rq mc ms Q) bk_X11_parts J → J 0 (pm_l0 6 as) [] A 0 0) : pm_Mt l g 271 d mc ms as A Q := pm_Mt_of (isI := false) 11 bk_X11_parts me_X11_parts (plainFor_of_name (by decide +kernel)) (by decide +kernel) (fun h => by cases h) ok_X11_parts hca body
def bk_X11_best : pm_B := [(0, [(.iload_n 1, 1, 1, 0, 0), (.iconst 1, 1, 0, 0, 1), (.bipush 8, 2, 0, 0, 8), (.invokestatic 74, 3, 169, 3, 0), (.ifCond .eq 22, 3, 29, 0, 0), (.iload_n 1, 1, 1, 0, 0), (.aload_n 0, 1, 0, 0, 0), (.getfield 70, 3, 11, 7, 0), (.if_icmp .gt 14, 3, 29, 0, 0), (.iload_n 2, 1, 2, 0, 0), (.iconst (-1), 1, 0, 0, -1), (.iload_n 1, 1, 1, 0, 0), (.iconst 1, 1, 0, 0, 1), (.isub, 1, 0, 0, 0), (.invokestatic 74, 3, 169, 3, 0), (.ifCond .ne 5, 3, 31, 0, 0)], 29),
  (29, [(.iconst (-1), 1, 0, 0, -1), (.ireturn, 1, 0, 0, 0)], 31),
  (31, [(.aload_n 0, 1, 0, 0, 0), (.iload_n 1, 1, 1, 0, 0), (.invokevirtual 255, 3, 273, 1, 11), (.sipush 161, 3, 0, 0, 161), (.istore_n 3, 1, 3, 0, 0), (.iload_n 2, 1, 2, 0, 0), (.iconst (-1), 1, 0, 0, -1), (.if_icmp .ne 12, 3, 54, 0, 0), (.aload_n 0, 1, 0, 0, 0), (.getfield 64, 3, 11, 26, 0), (.iload_n 3, 1, 3, 0, 0), (.iload_n 1, 1, 1, 0, 0), (.imul, 1, 0, 0, 0), (.iaload, 1, 0, 0, 0), (.ireturn, 1, 0, 0, 0)], 54),
  (54, [(.iconst 0, 1, 0, 0, 0), (.istore 4, 2, 4, 0, 0), (.iload_n 1, 1, 1, 0, 0), (.istore 5, 2, 5, 0, 0)], 60),
  (60, [(.iload 5, 2, 5, 0, 0), (.iload_n 1, 1, 1, 0, 0), (.iload_n 2, 1, 2, 0, 0), (.isub, 1, 0, 0, 0), (.if_icmp .le 25, 3, 90, 0, 0), (.aload_n 0, 1, 0, 0, 0), (.getfield 67, 3, 11, 27, 0), (.iload_n 3, 1, 3, 0, 0), (.iload 5, 2, 5, 0, 0), (.imul, 1, 0, 0, 0), (.iload 4, 2, 4, 0, 0), (.iadd, 1, 0, 0, 0), (.iaload, 1, 0, 0, 0), (.iconst 1, 1, 0, 0, 1), (.iadd, 1, 0, 0, 0), (.istore 4, 2, 4, 0, 0), (.iinc 5 (-1), 3, 5, 0, -1), (.goto (-27), 3, 60, 0, 0)], 90),
  (90, [(.aload_n 0, 1, 0, 0, 0), (.getfield 67, 3, 11, 27, 0), (.iload_n 3, 1, 3, 0, 0), (.iload_n 1, 1, 1, 0, 0), (.iload_n 2, 1, 2, 0, 0), (.isub, 1, 0, 0, 0), (.imul, 1, 0, 0, 0), (.iload 4, 2, 4, 0, 0), (.iadd, 1, 0, 0, 0), (.iaload, 1, 0, 0, 0), (.ireturn, 1, 0, 0, 0)], 104)]
set_option maxRecDepth 100000 in
theorem ok_X11_best : pm_oks 11 false 6 (some .int) cX11_best bk_X11_best = true := oksF_ok (by decide +kernel)
set_option maxRecDepth 100000 in
theorem me_X11_best : pm_me 272 = (yX11_best, cX11_best, 6, (some .int), 2, 0) := rfl
theorem mt_X11_best {l : Launch} {g : pm_G} {d mc ms : Nat} {as : List Value} {A : pm_H} {Q : Option Value → pm_H → Prop} (hca : pm_cat 6 as = true) (body : ∀ J : pm_J, pm_Cl l g (fun _ => none) d mc ms (pm_Rq mc ms Q) bk_X11_best J → J 0 (pm_l0 6 as) [] A 0 0) : pm_Mt l g 272 d mc ms as A Q := pm_Mt_of (isI := false) 11 bk_X11_best me_X11_best (plainFor_of_name (by decide +kernel)) (by decide +kernel) (fun h => by cases h) ok_X11_best hca body
def bk_X11_layBest : pm_B := [(0, [(.sipush 161, 3, 0, 0, 161), (.istore_n 2, 1, 2, 0, 0), (.iconst 0, 1, 0, 0, 0), (.istore_n 3, 1, 3, 0, 0)], 6),
  (6, [(.iload_n 3, 1, 3, 0, 0), (.iload_n 1, 1, 1, 0, 0), (.if_icmp .gt 77, 3, 85, 0, 0), (.aload_n 0, 1, 0, 0, 0), (.getfield 70, 3, 11, 7, 0), (.istore 4, 2, 4, 0, 0)], 17),
  (17, [(.iload 4, 2, 4, 0, 0), (.ifCond .lt 60, 3, 79, 0, 0), (.aload_n 0, 1, 0, 0, 0), (.getfield 64, 3, 11, 26, 0), (.iload_n 2, 1, 2, 0, 0), (.iload_n 3, 1, 3, 0, 0), (.imul, 1, 0, 0, 0), (.iload 4, 2, 4, 0, 0), (.iadd, 1, 0, 0, 0), (.iload_n 3, 1, 3, 0, 0), (.ifCond .ne 16, 3, 49, 0, 0), (.iload 4, 2, 4, 0, 0), (.aload_n 0, 1, 0, 0, 0), (.getfield 70, 3, 11, 7, 0), (.if_icmp .ne 7, 3, 49, 0, 0), (.iconst 0, 1, 0, 0, 0), (.goto 5, 3, 51, 0, 0)], 49),
  (49, [(.ldc 177, 2, 0, 0, -268435456)], 51),
  (51, [(.iastore, 1, 0, 0, 0), (.iload_n 3, 1, 3, 0, 0), (.ifCond .le 20, 3, 73, 0, 0), (.iload 4, 2, 4, 0, 0), (.aload_n 0, 1, 0, 0, 0), (.getfield 70, 3, 11, 7, 0), (.if_icmp .ge 11, 3, 73, 0, 0), (.aload_n 0, 1, 0, 0, 0), (.iload_n 3, 1, 3, 0, 0), (.iload 4, 2, 4, 0, 0), (.iload_n 2, 1, 2, 0, 0), (.invokevirtual 251, 3, 274, 3, 11)], 73),
  (73, [(.iinc 4 (-1), 3, 4, 0, -1), (.goto (-59), 3, 17, 0, 0)], 79),
  (79, [(.iinc 3 1, 3, 3, 0, 1), (.goto (-76), 3, 6, 0, 0)], 85),
  (85, [(.return_, 1, 0, 0, 0)], 86)]
set_option maxRecDepth 100000 in
theorem ok_X11_layBest : pm_oks 11 false 5 none cX11_layBest bk_X11_layBest = true := oksF_ok (by decide +kernel)
set_option maxRecDepth 100000 in
theorem me_X11_layBest : pm_me 273 = (yX11_layBest, cX11_layBest, 5, none, 1, 0) := rfl
theorem mt_X11_layBest {l : Launch} {g : pm_G} {d mc ms : Nat} {as : List Value} {A : pm_H} {Q : Option Value → pm_H → Prop} (hca : pm_cat 5 as = true) (body : ∀ J : pm_J, pm_Cl l g (fun _ => none) d mc ms (pm_Rq mc ms Q) bk_X11_layBest J → J 0 (pm_l0 5 as) [] A 0 0) : pm_Mt l g 273 d mc ms as A Q := pm_Mt_of (isI := false) 11 bk_X11_layBest me_X11_layBest (plainFor_of_name (by decide +kernel)) (by decide +kernel) (fun h => by cases h) ok_X11_layBest hca body
def bk_X11_layPart : pm_B := [(0, [(.iconst 0, 1, 0, 0, 0), (.istore 4, 2, 4, 0, 0), (.iload_n 2, 1, 2, 0, 0), (.istore 5, 2, 5, 0, 0)], 6),
  (6, [(.iload 5, 2, 5, 0, 0), (.aload_n 0, 1, 0, 0, 0), (.getfield 70, 3, 11, 7, 0), (.if_icmp .ge 93, 3, 105, 0, 0), (.iload 4, 2, 4, 0, 0), (.iconst 1, 1, 0, 0, 1), (.aload_n 0, 1, 0, 0, 0), (.getfield 7, 3, 11, 0, 0), (.iload 5, 2, 5, 0, 0), (.iaload, 1, 0, 0, 0), (.ishl, 1, 0, 0, 0), (.ior, 1, 0, 0, 0), (.istore 4, 2, 4, 0, 0), (.iload 4, 2, 4, 0, 0), (.invokestatic 165, 3, 207, 1, 0), (.aload_n 0, 1, 0, 0, 0), (.getfield 64, 3, 11, 26, 0), (.iload_n 3, 1, 3, 0, 0), (.iload_n 1, 1, 1, 0, 0), (.iconst 1, 1, 0, 0, 1), (.isub, 1, 0, 0, 0), (.imul, 1, 0, 0, 0), (.iload 5, 2, 5, 0, 0), (.iadd, 1, 0, 0, 0), (.iconst 1, 1, 0, 0, 1), (.iadd, 1, 0, 0, 0), (.iaload, 1, 0, 0, 0), (.iadd, 1, 0, 0, 0), (.istore 6, 2, 6, 0, 0), (.iload 6, 2, 6, 0, 0), (.aload_n 0, 1, 0, 0, 0), (.getfield 64, 3, 11, 26, 0), (.iload_n 3, 1, 3, 0, 0), (.iload_n 1, 1, 1, 0, 0), (.imul, 1, 0, 0, 0), (.iload_n 2, 1, 2, 0, 0), (.iadd, 1, 0, 0, 0), (.iaload, 1, 0, 0, 0), (.if_icmp .le 35, 3, 99, 0, 0), (.iload 6, 2, 6, 0, 0), (.ifCond .ge 6, 3, 75, 0, 0), (.goto 27, 3, 99, 0, 0)], 75),
  (75, [(.aload_n 0, 1, 0, 0, 0), (.getfield 64, 3, 11, 26, 0), (.iload_n 3, 1, 3, 0, 0), (.iload_n 1, 1, 1, 0, 0), (.imul, 1, 0, 0, 0), (.iload_n 2, 1, 2, 0, 0), (.iadd, 1, 0, 0, 0), (.iload 6, 2, 6, 0, 0), (.iastore, 1, 0, 0, 0), (.aload_n 0, 1, 0, 0, 0), (.getfield 67, 3, 11, 27, 0), (.iload_n 3, 1, 3, 0, 0), (.iload_n 1, 1, 1, 0, 0), (.imul, 1, 0, 0, 0), (.iload_n 2, 1, 2, 0, 0), (.iadd, 1, 0, 0, 0), (.iload 5, 2, 5, 0, 0), (.iastore, 1, 0, 0, 0)], 99),
  (99, [(.iinc 5 1, 3, 5, 0, 1), (.goto (-96), 3, 6, 0, 0)], 105),
  (105, [(.return_, 1, 0, 0, 0)], 106)]
set_option maxRecDepth 100000 in
theorem ok_X11_layPart : pm_oks 11 false 7 none cX11_layPart bk_X11_layPart = true := oksF_ok (by decide +kernel)
set_option maxRecDepth 100000 in
theorem me_X11_layPart : pm_me 274 = (yX11_layPart, cX11_layPart, 7, none, 3, 0) := rfl
theorem mt_X11_layPart {l : Launch} {g : pm_G} {d mc ms : Nat} {as : List Value} {A : pm_H} {Q : Option Value → pm_H → Prop} (hca : pm_cat 7 as = true) (body : ∀ J : pm_J, pm_Cl l g (fun _ => none) d mc ms (pm_Rq mc ms Q) bk_X11_layPart J → J 0 (pm_l0 7 as) [] A 0 0) : pm_Mt l g 274 d mc ms as A Q := pm_Mt_of (isI := false) 11 bk_X11_layPart me_X11_layPart (plainFor_of_name (by decide +kernel)) (by decide +kernel) (fun h => by cases h) ok_X11_layPart hca body
def bk_X11_ask : pm_B := [(0, [(.aload_n 0, 1, 0, 0, 0), (.getfield 168, 3, 11, 17, 0), (.bipush 30, 2, 0, 0, 30), (.if_icmp .ge 29, 3, 35, 0, 0), (.aload_n 0, 1, 0, 0, 0), (.iload_n 1, 1, 1, 0, 0), (.invokevirtual 206, 3, 197, 1, 11), (.ifCond .lt 21, 3, 35, 0, 0), (.aload_n 0, 1, 0, 0, 0), (.iload_n 2, 1, 2, 0, 0), (.invokevirtual 206, 3, 197, 1, 11), (.ifCond .lt 13, 3, 35, 0, 0), (.aload_n 0, 1, 0, 0, 0), (.iconst (-1), 1, 0, 0, -1), (.iload_n 1, 1, 1, 0, 0), (.iload_n 2, 1, 2, 0, 0), (.invokevirtual 258, 3, 276, 3, 11), (.goto 4, 3, 36, 0, 0)], 35),
  (35, [(.iconst (-1), 1, 0, 0, -1)], 36),
  (36, [(.ireturn, 1, 0, 0, 0)], 37)]
set_option maxRecDepth 100000 in
theorem ok_X11_ask : pm_oks 11 false 3 (some .int) cX11_ask bk_X11_ask = true := oksF_ok (by decide +kernel)
set_option maxRecDepth 100000 in
theorem me_X11_ask : pm_me 275 = (yX11_ask, cX11_ask, 3, (some .int), 2, 0) := rfl
theorem mt_X11_ask {l : Launch} {g : pm_G} {d mc ms : Nat} {as : List Value} {A : pm_H} {Q : Option Value → pm_H → Prop} (hca : pm_cat 3 as = true) (body : ∀ J : pm_J, pm_Cl l g (fun _ => none) d mc ms (pm_Rq mc ms Q) bk_X11_ask J → J 0 (pm_l0 3 as) [] A 0 0) : pm_Mt l g 275 d mc ms as A Q := pm_Mt_of (isI := false) 11 bk_X11_ask me_X11_ask (plainFor_of_name (by decide +kernel)) (by decide +kernel) (fun h => by cases h) ok_X11_ask hca body
def bk_X11_asks : pm_B := [(0, [(.aload_n 0, 1, 0, 0, 0), (.getfield 31, 3, 11, 13, 0), (.aload_n 0, 1, 0, 0, 0), (.getfield 168, 3, 11, 17, 0), (.iload_n 2, 1, 2, 0, 0), (.iastore, 1, 0, 0, 0), (.aload_n 0, 1, 0, 0, 0), (.getfield 34, 3, 11, 14, 0), (.aload_n 0, 1, 0, 0, 0), (.getfield 168, 3, 11, 17, 0), (.iload_n 3, 1, 3, 0, 0), (.iastore, 1, 0, 0, 0), (.aload_n 0, 1, 0, 0, 0), (.getfield 43, 3, 11, 18, 0), (.aload_n 0, 1, 0, 0, 0), (.getfield 168, 3, 11, 17, 0), (.iload_n 1, 1, 1, 0, 0), (.iastore, 1, 0, 0, 0), (.aload_n 0, 1, 0, 0, 0), (.getfield 37, 3, 11, 15, 0), (.aload_n 0, 1, 0, 0, 0), (.getfield 168, 3, 11, 17, 0), (.iconst (-1), 1, 0, 0, -1), (.iastore, 1, 0, 0, 0), (.aload_n 0, 1, 0, 0, 0), (.getfield 40, 3, 11, 16, 0), (.aload_n 0, 1, 0, 0, 0), (.getfield 168, 3, 11, 17, 0), (.iconst (-1), 1, 0, 0, -1), (.iastore, 1, 0, 0, 0), (.aload_n 0, 1, 0, 0, 0), (.dup, 1, 0, 0, 0), (.getfield 168, 3, 11, 17, 0), (.iconst 1, 1, 0, 0, 1), (.iadd, 1, 0, 0, 0), (.putfield 168, 3, 11, 17, 0), (.aload_n 0, 1, 0, 0, 0), (.getfield 168, 3, 11, 17, 0), (.iconst 1, 1, 0, 0, 1), (.isub, 1, 0, 0, 0), (.ireturn, 1, 0, 0, 0)], 67)]
set_option maxRecDepth 100000 in
theorem ok_X11_asks : pm_oks 11 false 4 (some .int) cX11_asks bk_X11_asks = true := oksF_ok (by decide +kernel)
set_option maxRecDepth 100000 in
theorem me_X11_asks : pm_me 276 = (yX11_asks, cX11_asks, 4, (some .int), 3, 0) := rfl
theorem mt_X11_asks {l : Launch} {g : pm_G} {d mc ms : Nat} {as : List Value} {A : pm_H} {Q : Option Value → pm_H → Prop} (hca : pm_cat 4 as = true) (body : ∀ J : pm_J, pm_Cl l g (fun _ => none) d mc ms (pm_Rq mc ms Q) bk_X11_asks J → J 0 (pm_l0 4 as) [] A 0 0) : pm_Mt l g 276 d mc ms as A Q := pm_Mt_of (isI := false) 11 bk_X11_asks me_X11_asks (plainFor_of_name (by decide +kernel)) (by decide +kernel) (fun h => by cases h) ok_X11_asks hca body
def bk_X11_askOf : pm_B := [(0, [(.aload_n 0, 1, 0, 0, 0), (.getfield 168, 3, 11, 17, 0), (.bipush 30, 2, 0, 0, 30), (.if_icmp .eq 37, 3, 43, 0, 0), (.aload_n 0, 1, 0, 0, 0), (.iload_n 1, 1, 1, 0, 0), (.invokevirtual 197, 3, 227, 1, 11), (.ifCond .eq 29, 3, 43, 0, 0), (.iload_n 2, 1, 2, 0, 0), (.ifCond .lt 25, 3, 43, 0, 0), (.iload_n 3, 1, 3, 0, 0), (.ifCond .lt 21, 3, 43, 0, 0), (.aload_n 0, 1, 0, 0, 0), (.iload_n 1, 1, 1, 0, 0), (.iload_n 2, 1, 2, 0, 0), (.invokevirtual 212, 3, 236, 2, 11), (.ifCond .lt 12, 3, 43, 0, 0), (.aload_n 0, 1, 0, 0, 0), (.iload_n 1, 1, 1, 0, 0), (.iload_n 3, 1, 3, 0, 0), (.invokevirtual 212, 3, 236, 2, 11), (.ifCond .ge 5, 3, 45, 0, 0)], 43),
  (43, [(.iconst (-1), 1, 0, 0, -1), (.ireturn, 1, 0, 0, 0)], 45),
  (45, [(.aload_n 0, 1, 0, 0, 0), (.iload_n 1, 1, 1, 0, 0), (.iload_n 2, 1, 2, 0, 0), (.iload_n 3, 1, 3, 0, 0), (.invokevirtual 258, 3, 276, 3, 11), (.ireturn, 1, 0, 0, 0)], 53)]
set_option maxRecDepth 100000 in
theorem ok_X11_askOf : pm_oks 11 false 4 (some .int) cX11_askOf bk_X11_askOf = true := oksF_ok (by decide +kernel)
set_option maxRecDepth 100000 in
theorem me_X11_askOf : pm_me 277 = (yX11_askOf, cX11_askOf, 4, (some .int), 3, 0) := rfl
theorem mt_X11_askOf {l : Launch} {g : pm_G} {d mc ms : Nat} {as : List Value} {A : pm_H} {Q : Option Value → pm_H → Prop} (hca : pm_cat 4 as = true) (body : ∀ J : pm_J, pm_Cl l g (fun _ => none) d mc ms (pm_Rq mc ms Q) bk_X11_askOf J → J 0 (pm_l0 4 as) [] A 0 0) : pm_Mt l g 277 d mc ms as A Q := pm_Mt_of (isI := false) 11 bk_X11_askOf me_X11_askOf (plainFor_of_name (by decide +kernel)) (by decide +kernel) (fun h => by cases h) ok_X11_askOf hca body
def bk_X11_solve : pm_B := [(0, [(.iconst 0, 1, 0, 0, 0), (.istore_n 1, 1, 1, 0, 0), (.iconst 0, 1, 0, 0, 0), (.istore_n 2, 1, 2, 0, 0)], 4),
  (4, [(.iload_n 2, 1, 2, 0, 0), (.aload_n 0, 1, 0, 0, 0), (.getfield 168, 3, 11, 17, 0), (.if_icmp .ge 160, 3, 169, 0, 0), (.aload_n 0, 1, 0, 0, 0), (.aload_n 0, 1, 0, 0, 0), (.getfield 43, 3, 11, 18, 0), (.iload_n 2, 1, 2, 0, 0), (.iaload, 1, 0, 0, 0), (.aload_n 0, 1, 0, 0, 0), (.getfield 31, 3, 11, 13, 0), (.iload_n 2, 1, 2, 0, 0), (.iaload, 1, 0, 0, 0), (.invokevirtual 261, 3, 279, 2, 11), (.istore_n 3, 1, 3, 0, 0), (.aload_n 0, 1, 0, 0, 0), (.aload_n 0, 1, 0, 0, 0), (.getfield 43, 3, 11, 18, 0), (.iload_n 2, 1, 2, 0, 0), (.iaload, 1, 0, 0, 0), (.aload_n 0, 1, 0, 0, 0), (.getfield 34, 3, 11, 14, 0), (.iload_n 2, 1, 2, 0, 0), (.iaload, 1, 0, 0, 0), (.invokevirtual 261, 3, 279, 2, 11), (.istore 4, 2, 4, 0, 0), (.iload_n 3, 1, 3, 0, 0), (.ifCond .lt 12, 3, 60, 0, 0), (.iload 4, 2, 4, 0, 0), (.ifCond .lt 7, 3, 60, 0, 0), (.iconst 1, 1, 0, 0, 1), (.goto 4, 3, 61, 0, 0)], 60),
  (60, [(.iconst 0, 1, 0, 0, 0)], 61),
  (61, [(.istore 5, 2, 5, 0, 0), (.iload 5, 2, 5, 0, 0), (.ifCond .ne 7, 3, 72, 0, 0), (.iconst 0, 1, 0, 0, 0), (.goto 38, 3, 107, 0, 0)], 72),
  (72, [(.iload_n 3, 1, 3, 0, 0), (.iload 4, 2, 4, 0, 0), (.if_icmp .ge 19, 3, 94, 0, 0), (.aload_n 0, 1, 0, 0, 0), (.aload_n 0, 1, 0, 0, 0), (.getfield 43, 3, 11, 18, 0), (.iload_n 2, 1, 2, 0, 0), (.iaload, 1, 0, 0, 0), (.iload_n 3, 1, 3, 0, 0), (.iload 4, 2, 4, 0, 0), (.invokevirtual 264, 3, 280, 3, 11), (.goto 16, 3, 107, 0, 0)], 94),
  (94, [(.aload_n 0, 1, 0, 0, 0), (.aload_n 0, 1, 0, 0, 0), (.getfield 43, 3, 11, 18, 0), (.iload_n 2, 1, 2, 0, 0), (.iaload, 1, 0, 0, 0), (.iload 4, 2, 4, 0, 0), (.iload_n 3, 1, 3, 0, 0), (.invokevirtual 264, 3, 280, 3, 11)], 107),
  (107, [(.istore 6, 2, 6, 0, 0), (.aload_n 0, 1, 0, 0, 0), (.getfield 37, 3, 11, 15, 0), (.iload_n 2, 1, 2, 0, 0), (.iload 5, 2, 5, 0, 0), (.ifCond .eq 11, 3, 127, 0, 0), (.iload 6, 2, 6, 0, 0), (.invokestatic 165, 3, 207, 1, 0), (.goto 4, 3, 128, 0, 0)], 127),
  (127, [(.iconst (-1), 1, 0, 0, -1)], 128),
  (128, [(.iastore, 1, 0, 0, 0), (.aload_n 0, 1, 0, 0, 0), (.getfield 40, 3, 11, 16, 0), (.iload_n 2, 1, 2, 0, 0), (.iload 5, 2, 5, 0, 0), (.ifCond .eq 12, 3, 148, 0, 0), (.aload_n 0, 1, 0, 0, 0), (.iload 6, 2, 6, 0, 0), (.invokevirtual 174, 3, 211, 1, 11), (.goto 4, 3, 149, 0, 0)], 148),
  (148, [(.iconst (-1), 1, 0, 0, -1)], 149),
  (149, [(.iastore, 1, 0, 0, 0), (.iload_n 1, 1, 1, 0, 0), (.iload 5, 2, 5, 0, 0), (.ifCond .eq 7, 3, 160, 0, 0), (.iconst 1, 1, 0, 0, 1), (.goto 4, 3, 161, 0, 0)], 160),
  (160, [(.iconst 0, 1, 0, 0, 0)], 161),
  (161, [(.iadd, 1, 0, 0, 0), (.istore_n 1, 1, 1, 0, 0), (.iinc 2 1, 3, 2, 0, 1), (.goto (-162), 3, 4, 0, 0)], 169),
  (169, [(.iload_n 1, 1, 1, 0, 0), (.ireturn, 1, 0, 0, 0)], 171)]
set_option maxRecDepth 100000 in
theorem ok_X11_solve : pm_oks 11 false 7 (some .int) cX11_solve bk_X11_solve = true := oksF_ok (by decide +kernel)
set_option maxRecDepth 100000 in
theorem me_X11_solve : pm_me 278 = (yX11_solve, cX11_solve, 7, (some .int), 0, 0) := rfl
theorem mt_X11_solve {l : Launch} {g : pm_G} {d mc ms : Nat} {as : List Value} {A : pm_H} {Q : Option Value → pm_H → Prop} (hca : pm_cat 7 as = true) (body : ∀ J : pm_J, pm_Cl l g (fun _ => none) d mc ms (pm_Rq mc ms Q) bk_X11_solve J → J 0 (pm_l0 7 as) [] A 0 0) : pm_Mt l g 278 d mc ms as A Q := pm_Mt_of (isI := false) 11 bk_X11_solve me_X11_solve (plainFor_of_name (by decide +kernel)) (by decide +kernel) (fun h => by cases h) ok_X11_solve hca body
def bk_X11_placeBy : pm_B := [(0, [(.iload_n 1, 1, 1, 0, 0), (.iconst (-1), 1, 0, 0, -1), (.if_icmp .ne 11, 3, 13, 0, 0), (.aload_n 0, 1, 0, 0, 0), (.iload_n 2, 1, 2, 0, 0), (.invokevirtual 145, 3, 198, 1, 11), (.goto 21, 3, 31, 0, 0)], 13),
  (13, [(.aload_n 0, 1, 0, 0, 0), (.iload_n 1, 1, 1, 0, 0), (.invokevirtual 197, 3, 227, 1, 11), (.ifCond .eq 12, 3, 30, 0, 0), (.aload_n 0, 1, 0, 0, 0), (.iload_n 1, 1, 1, 0, 0), (.iload_n 2, 1, 2, 0, 0), (.invokevirtual 212, 3, 236, 2, 11), (.goto 4, 3, 31, 0, 0)], 30),
  (30, [(.iconst (-1), 1, 0, 0, -1)], 31),
  (31, [(.ireturn, 1, 0, 0, 0)], 32)]
set_option maxRecDepth 100000 in
theorem ok_X11_placeBy : pm_oks 11 false 3 (some .int) cX11_placeBy bk_X11_placeBy = true := oksF_ok (by decide +kernel)
set_option maxRecDepth 100000 in
theorem me_X11_placeBy : pm_me 279 = (yX11_placeBy, cX11_placeBy, 3, (some .int), 2, 0) := rfl
theorem mt_X11_placeBy {l : Launch} {g : pm_G} {d mc ms : Nat} {as : List Value} {A : pm_H} {Q : Option Value → pm_H → Prop} (hca : pm_cat 3 as = true) (body : ∀ J : pm_J, pm_Cl l g (fun _ => none) d mc ms (pm_Rq mc ms Q) bk_X11_placeBy J → J 0 (pm_l0 3 as) [] A 0 0) : pm_Mt l g 279 d mc ms as A Q := pm_Mt_of (isI := false) 11 bk_X11_placeBy me_X11_placeBy (plainFor_of_name (by decide +kernel)) (by decide +kernel) (fun h => by cases h) ok_X11_placeBy hca body
def bk_X11_setBy : pm_B := [(0, [(.iload_n 1, 1, 1, 0, 0), (.iconst (-1), 1, 0, 0, -1), (.if_icmp .ne 12, 3, 14, 0, 0), (.aload_n 0, 1, 0, 0, 0), (.iload_n 2, 1, 2, 0, 0), (.iload_n 3, 1, 3, 0, 0), (.invokevirtual 161, 3, 206, 2, 11), (.goto 10, 3, 21, 0, 0)], 14),
  (14, [(.aload_n 0, 1, 0, 0, 0), (.iload_n 1, 1, 1, 0, 0), (.iload_n 2, 1, 2, 0, 0), (.iload_n 3, 1, 3, 0, 0), (.invokevirtual 203, 3, 232, 3, 11)], 21),
  (21, [(.ireturn, 1, 0, 0, 0)], 22)]
set_option maxRecDepth 100000 in
theorem ok_X11_setBy : pm_oks 11 false 4 (some .int) cX11_setBy bk_X11_setBy = true := oksF_ok (by decide +kernel)
set_option maxRecDepth 100000 in
theorem me_X11_setBy : pm_me 280 = (yX11_setBy, cX11_setBy, 4, (some .int), 3, 0) := rfl
theorem mt_X11_setBy {l : Launch} {g : pm_G} {d mc ms : Nat} {as : List Value} {A : pm_H} {Q : Option Value → pm_H → Prop} (hca : pm_cat 4 as = true) (body : ∀ J : pm_J, pm_Cl l g (fun _ => none) d mc ms (pm_Rq mc ms Q) bk_X11_setBy J → J 0 (pm_l0 4 as) [] A 0 0) : pm_Mt l g 280 d mc ms as A Q := pm_Mt_of (isI := false) 11 bk_X11_setBy me_X11_setBy (plainFor_of_name (by decide +kernel)) (by decide +kernel) (fun h => by cases h) ok_X11_setBy hca body
def bk_X11_asked : pm_B := [(0, [(.iload_n 1, 1, 1, 0, 0), (.iconst 0, 1, 0, 0, 0), (.aload_n 0, 1, 0, 0, 0), (.getfield 168, 3, 11, 17, 0), (.iconst 1, 1, 0, 0, 1), (.isub, 1, 0, 0, 0), (.invokestatic 74, 3, 169, 3, 0), (.ifCond .ne 5, 3, 16, 0, 0), (.iconst (-1), 1, 0, 0, -1), (.ireturn, 1, 0, 0, 0)], 16),
  (16, [(.iload_n 2, 1, 2, 0, 0), (.tableswitch 70 0 4 #[35, 42, 49, 56, 63], 35, 17, 0, 0)], 52),
  (52, [(.aload_n 0, 1, 0, 0, 0), (.getfield 37, 3, 11, 15, 0), (.iload_n 1, 1, 1, 0, 0), (.iaload, 1, 0, 0, 0), (.ireturn, 1, 0, 0, 0)], 59),
  (59, [(.aload_n 0, 1, 0, 0, 0), (.getfield 40, 3, 11, 16, 0), (.iload_n 1, 1, 1, 0, 0), (.iaload, 1, 0, 0, 0), (.ireturn, 1, 0, 0, 0)], 66),
  (66, [(.aload_n 0, 1, 0, 0, 0), (.getfield 31, 3, 11, 13, 0), (.iload_n 1, 1, 1, 0, 0), (.iaload, 1, 0, 0, 0), (.ireturn, 1, 0, 0, 0)], 73),
  (73, [(.aload_n 0, 1, 0, 0, 0), (.getfield 34, 3, 11, 14, 0), (.iload_n 1, 1, 1, 0, 0), (.iaload, 1, 0, 0, 0), (.ireturn, 1, 0, 0, 0)], 80),
  (80, [(.aload_n 0, 1, 0, 0, 0), (.getfield 43, 3, 11, 18, 0), (.iload_n 1, 1, 1, 0, 0), (.iaload, 1, 0, 0, 0), (.ireturn, 1, 0, 0, 0)], 87),
  (87, [(.iconst (-1), 1, 0, 0, -1), (.ireturn, 1, 0, 0, 0)], 89)]
set_option maxRecDepth 100000 in
theorem ok_X11_asked : pm_oks 11 false 3 (some .int) cX11_asked bk_X11_asked = true := oksF_ok (by decide +kernel)
set_option maxRecDepth 100000 in
theorem me_X11_asked : pm_me 281 = (yX11_asked, cX11_asked, 3, (some .int), 2, 0) := rfl
theorem mt_X11_asked {l : Launch} {g : pm_G} {d mc ms : Nat} {as : List Value} {A : pm_H} {Q : Option Value → pm_H → Prop} (hca : pm_cat 3 as = true) (body : ∀ J : pm_J, pm_Cl l g (fun _ => none) d mc ms (pm_Rq mc ms Q) bk_X11_asked J → J 0 (pm_l0 3 as) [] A 0 0) : pm_Mt l g 281 d mc ms as A Q := pm_Mt_of (isI := false) 11 bk_X11_asked me_X11_asked (plainFor_of_name (by decide +kernel)) (by decide +kernel) (fun h => by cases h) ok_X11_asked hca body
def bk_X11_forget : pm_B := [(0, [(.aload_n 0, 1, 0, 0, 0), (.getfield 168, 3, 11, 17, 0), (.istore_n 1, 1, 1, 0, 0), (.aload_n 0, 1, 0, 0, 0), (.iconst 0, 1, 0, 0, 0), (.putfield 168, 3, 11, 17, 0), (.iload_n 1, 1, 1, 0, 0), (.ireturn, 1, 0, 0, 0)], 12)]
set_option maxRecDepth 100000 in
theorem ok_X11_forget : pm_oks 11 false 2 (some .int) cX11_forget bk_X11_forget = true := oksF_ok (by decide +kernel)
set_option maxRecDepth 100000 in
theorem me_X11_forget : pm_me 282 = (yX11_forget, cX11_forget, 2, (some .int), 0, 0) := rfl
theorem mt_X11_forget {l : Launch} {g : pm_G} {d mc ms : Nat} {as : List Value} {A : pm_H} {Q : Option Value → pm_H → Prop} (hca : pm_cat 2 as = true) (body : ∀ J : pm_J, pm_Cl l g (fun _ => none) d mc ms (pm_Rq mc ms Q) bk_X11_forget J → J 0 (pm_l0 2 as) [] A 0 0) : pm_Mt l g 282 d mc ms as A Q := pm_Mt_of (isI := false) 11 bk_X11_forget me_X11_forget (plainFor_of_name (by decide +kernel)) (by decide +kernel) (fun h => by cases h) ok_X11_forget hca body
