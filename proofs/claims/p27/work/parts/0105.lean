
set_option maxRecDepth 100000 in
theorem me_X11_matched : pm_me 269 = (yX11_matched, cX11_matched, 5, (some .int), 3, 0) := rfl
theorem mt_X11_matched {l : Launch} {g : pm_G} {d mc ms : Nat} {as : List Value} {A : pm_H} {Q : Option Value → pm_H → Prop} (hca : pm_cat 5 as = true) (body : ∀ J : pm_J, pm_Cl l g (fun _ => none) d mc ms (pm_Rq mc ms Q) bk_X11_matched J → J 0 (pm_l0 5 as) [] A 0 0) : pm_Mt l g 269 d mc ms as A Q := pm_Mt_of (isI := false) 11 bk_X11_matched me_X11_matched (plainFor_of_name (by decide +kernel)) (by decide +kernel) (fun h => by cases h) ok_X11_matched hca body
def bk_X11_twin : pm_B := [(0, [(.iload_n 1, 1, 1, 0, 0), (.iconst 0, 1, 0, 0, 0), (.iconst 1, 1, 0, 0, 1), (.invokestatic 74, 3, 169, 3, 0), (.ifCond .ne 5, 3, 11, 0, 0), (.iconst (-1), 1, 0, 0, -1), (.ireturn, 1, 0, 0, 0)], 11),
  (11, [(.aload_n 0, 1, 0, 0, 0), (.invokevirtual 245, 3, 268, 0, 11), (.iconst (-1), 1, 0, 0, -1), (.istore_n 2, 1, 2, 0, 0), (.iconst 0, 1, 0, 0, 0), (.istore_n 3, 1, 3, 0, 0), (.iconst 0, 1, 0, 0, 0), (.istore 4, 2, 4, 0, 0)], 22),
  (22, [(.iload 4, 2, 4, 0, 0), (.aload_n 0, 1, 0, 0, 0), (.getfield 70, 3, 11, 7, 0), (.if_icmp .ge 58, 3, 86, 0, 0), (.iload 4, 2, 4, 0, 0), (.iconst 1, 1, 0, 0, 1), (.iadd, 1, 0, 0, 0), (.istore 5, 2, 5, 0, 0)], 37),
  (37, [(.iload 5, 2, 5, 0, 0), (.aload_n 0, 1, 0, 0, 0), (.getfield 70, 3, 11, 7, 0), (.if_icmp .ge 37, 3, 80, 0, 0), (.aload_n 0, 1, 0, 0, 0), (.iload 4, 2, 4, 0, 0), (.iload 5, 2, 5, 0, 0), (.sipush 160, 3, 0, 0, 160), (.invokevirtual 248, 3, 269, 3, 11), (.istore 6, 2, 6, 0, 0), (.iload 6, 2, 6, 0, 0), (.iload_n 3, 1, 3, 0, 0), (.if_icmp .gt 6, 3, 68, 0, 0), (.goto 9, 3, 74, 0, 0)], 68),
  (68, [(.iload 4, 2, 4, 0, 0), (.istore_n 2, 1, 2, 0, 0), (.iload 6, 2, 6, 0, 0), (.istore_n 3, 1, 3, 0, 0)], 74),
  (74, [(.iinc 5 1, 3, 5, 0, 1), (.goto (-40), 3, 37, 0, 0)], 80),
  (80, [(.iinc 4 1, 3, 4, 0, 1), (.goto (-61), 3, 22, 0, 0)], 86),
  (86, [(.iload_n 2, 1, 2, 0, 0), (.ifCond .lt 7, 3, 94, 0, 0), (.iload_n 1, 1, 1, 0, 0), (.ifCond .ne 7, 3, 98, 0, 0)], 94),
  (94, [(.iload_n 2, 1, 2, 0, 0), (.goto 4, 3, 99, 0, 0)], 98),
  (98, [(.iload_n 3, 1, 3, 0, 0)], 99),
  (99, [(.ireturn, 1, 0, 0, 0)], 100)]
set_option maxRecDepth 100000 in
theorem ok_X11_twin : pm_oks 11 false 7 (some .int) cX11_twin bk_X11_twin = true := oksF_ok (by decide +kernel)
set_option maxRecDepth 100000 in
theorem me_X11_twin : pm_me 270 = (yX11_twin, cX11_twin, 7, (some .int), 1, 0) := rfl
theorem mt_X11_twin {l : Launch} {g : pm_G} {d mc ms : Nat} {as : List Value} {A : pm_H} {Q : Option Value → pm_H → Prop} (hca : pm_cat 7 as = true) (body : ∀ J : pm_J, pm_Cl l g (fun _ => none) d mc ms (pm_Rq mc ms Q) bk_X11_twin J → J 0 (pm_l0 7 as) [] A 0 0) : pm_Mt l g 270 d mc ms as A Q := pm_Mt_of (isI := false) 11 bk_X11_twin me_X11_twin (plainFor_of_name (by decide +kernel)) (by decide +kernel) (fun h => by cases h) ok_X11_twin hca body
def bk_X11_parts : pm_B := [(0, [(.iload_n 1, 1, 1, 0, 0), (.iconst 1, 1, 0, 0, 1), (.if_icmp .lt 8, 3, 10, 0, 0), (.iload_n 2, 1, 2, 0, 0), (.iconst (-1), 1, 0, 0, -1), (.if_icmp .ge 5, 3, 12, 0, 0)], 10),
  (10, [(.iconst (-1), 1, 0, 0, -1), (.ireturn, 1, 0, 0, 0)], 12),
  (12, [(.iconst 0, 1, 0, 0, 0), (.istore_n 3, 1, 3, 0, 0), (.iconst 0, 1, 0, 0, 0), (.istore 4, 2, 4, 0, 0)], 17),
  (17, [(.iload 4, 2, 4, 0, 0), (.aload_n 0, 1, 0, 0, 0), (.getfield 70, 3, 11, 7, 0), (.if_icmp .ge 32, 3, 55, 0, 0), (.aload_n 0, 1, 0, 0, 0), (.iload 4, 2, 4, 0, 0), (.iload_n 1, 1, 1, 0, 0), (.invokevirtual 227, 3, 253, 2, 11), (.istore 5, 2, 5, 0, 0), (.iload_n 3, 1, 3, 0, 0), (.iload_n 2, 1, 2, 0, 0), (.if_icmp .ne 6, 3, 43, 0, 0), (.iload 5, 2, 5, 0, 0), (.ireturn, 1, 0, 0, 0)], 43),
  (43, [(.iinc 3 1, 3, 3, 0, 1), (.iload 5, 2, 5, 0, 0), (.iconst 1, 1, 0, 0, 1), (.iadd, 1, 0, 0, 0), (.istore 4, 2, 4, 0, 0), (.goto (-35), 3, 17, 0, 0)], 55),
  (55, [(.iload_n 2, 1, 2, 0, 0), (.iconst (-1), 1, 0, 0, -1), (.if_icmp .ne 7, 3, 64, 0, 0), (.iload_n 3, 1, 3, 0, 0), (.goto 4, 3, 65, 0, 0)], 64),
  (64, [(.iconst (-1), 1, 0, 0, -1)], 65),
  (65, [(.ireturn, 1, 0, 0, 0)], 66)]
set_option maxRecDepth 100000 in
theorem ok_X11_parts : pm_oks 11 false 6 (some .int) cX11_parts bk_X11_parts = true := oksF_ok (by decide +kernel)
set_option maxRecDepth 100000 in
theorem me_X11_parts : pm_me 271 = (yX11_parts, cX11_parts, 6, (some .int), 2, 0) := rfl
theorem mt_X11_parts {l : Launch} {g : pm_G} {d mc ms : Nat} {as : List Value} {A : pm_H} {Q : Option Value → pm_H → Prop} (hca : pm_cat 6 as = true) (body : ∀ J : pm_J, pm_Cl l g (fun _ => none) d mc ms (pm_Rq mc ms Q) bk_X11_parts J → J 0 (pm_l0 6 as) [] A 0 0) : pm_Mt l g 271 d mc ms as A Q := pm_Mt_of (isI := false) 11 bk_X11_parts me_X11_parts (plainFor_of_name (by decide +kernel)) (by decide +kernel) (fun h => by cases h) ok_X11_parts hca body
def bk_X11_best : pm_B := [(0, [(.iload_n 1, 1, 1, 0, 0), (.iconst 1, 1, 0, 0, 1), (.bipush 8, 2, 0, 0, 8), (.invokestatic 74, 3, 169, 3, 0), (.ifCond .eq 22, 3, 29, 0, 0), (.iload_n 1, 1, 1, 0, 0), (.aload_n 0, 1, 0, 0, 0), (.getfield 70, 3, 11, 7, 0), (.if_icmp .gt 14, 3, 29, 0, 0), (.iload_n 2, 1, 2, 0, 0), (.iconst (-1), 1, 0, 0, -1), (.iload_n 1, 1, 1, 0, 0), (.iconst 1, 1, 0, 0, 1), (.isub, 1, 0, 0, 0), (.invokestatic 74, 3, 169, 3, 0), (.ifCond .ne 5, 3, 31, 0, 0)], 29),
  (29, [(.iconst (-1), 1, 0, 0, -1), (.ireturn, 1, 0, 0, 0)], 31),
  (31, [(.aload_n 0, 1, 0, 0, 0), (.iload_n 1, 1, 1, 0, 0), (.invokevirtual 255, 3, 273, 1, 11), (.sipush 161, 3, 0, 0, 161), (.istore_n 3, 1, 3, 0, 0), (.iload_n 2, 1, 2, 0, 0), (.iconst (-1), 1, 0, 0, -1), (.if_icmp .ne 12, 3, 54, 0, 0), (.aload_n 0, 1, 0, 0, 0), (.getfield 64, 3, 11, 26, 0), (.iload_n 3, 1, 3, 0, 0), (.iload_n 1, 1, 1, 0, 0), (.imul, 1, 0, 0, 0), (.iaload, 1, 0, 0, 0), (.ireturn, 1, 0, 0, 0)], 54),
  (54, [(.iconst 0, 1, 0, 0, 0), (.istore 4, 2, 4, 0, 0), (.iload_n 1, 1, 1, 0, 0), (.istore 5, 2, 5, 0, 0)], 60),
  (60, [(.iload 5, 2, 5, 0, 0), (.iload_n 1, 1, 1, 0, 0), (.iload_n 2, 1, 2, 0, 0), (.isub, 1, 0, 0, 0), (.if_icmp .le 25, 3, 90, 0, 0), (.aload_n 0, 1, 0, 0, 0), (.getfield 67, 3, 11, 27, 0), (.iload_n 3, 1, 3, 0, 0), (.iload 5, 2, 5, 0, 0), (.imul, 1, 0, 0, 0), (.iload 4, 2, 4, 0, 0), (.iadd, 1, 0, 0, 0), (.iaload, 1, 0, 0, 0), (.iconst 1, 1, 0, 0, 1), (.iadd, 1, 0, 0, 0), (.istore 4, 2, 4, 0, 0), (.iinc 5 (-1), 3, 5, 0, -1), (.goto (-27), 3, 60, 0, 0)], 90),
  (90, [(.aload_n 0, 1, 0, 0, 0), (.getfield 67, 3, 11, 27, 0), (.iload_n 3, 1, 3, 0, 0), (.iload_n 1, 1, 1, 0, 0), (.iload_n 2, 1, 2, 0, 0), (.isub, 1, 0, 0, 0), (.imul, 1, 0, 0, 0), (.iload 4, 2, 4, 0, 0), (.iadd, 1, 0, 0, 0), (.iaload, 1, 0, 0, 0), (.ireturn, 1, 0, 0, 0)], 104)]
set_option maxRecDepth 100000 in
theorem ok_X11_best : pm_oks 11 false 6 (some .int) cX11_best bk_X11_best = true := oksF_ok (by decide +kernel)
set_option maxRecDepth 100000 in
theorem me_X11_best : pm_me 272 = (yX11_best, cX11_best, 6, (some .int), 2, 0) := rfl
theorem mt_X11_best {l : Launch} {g : pm_G} {d mc ms : Nat} {as : List Value} {A : pm_H} {Q : Option Value → pm_H → Prop} (hca : pm_cat 6 as = true) (body : ∀ J : pm_J, pm_Cl l g (fun _ => none) d mc ms (pm_Rq mc ms Q) bk_X11_best J → J 0 (pm_l0 6 as) [] A 0 0) : pm_Mt l g 272 d mc ms as A Q := pm_Mt_of (isI := false) 11 bk_X11_best me_X11_best (plainFor_of_name (by decide +kernel)) (by decide +kernel) (fun h => by cases h) ok_X11_best hca body
