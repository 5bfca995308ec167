
def bk_X11_sort : pm_B := [(0, [(.aload_n 0, 1, 0, 0, 0), (.iload_n 1, 1, 1, 0, 0), (.iload_n 2, 1, 2, 0, 0), (.invokevirtual 129, 3, 180, 2, 11), (.ifCond .ne 5, 3, 11, 0, 0), (.iconst (-1), 1, 0, 0, -1), (.ireturn, 1, 0, 0, 0)], 11),
  (11, [(.aload_n 0, 1, 0, 0, 0), (.invokevirtual 112, 3, 172, 0, 11), (.aload_n 0, 1, 0, 0, 0), (.iconst 0, 1, 0, 0, 0), (.iload_n 1, 1, 1, 0, 0), (.invokevirtual 136, 3, 185, 2, 11), (.iconst 0, 1, 0, 0, 0), (.istore_n 3, 1, 3, 0, 0)], 23),
  (23, [(.iload_n 3, 1, 3, 0, 0), (.bipush 24, 2, 0, 0, 24), (.if_icmp .ge 47, 3, 73, 0, 0), (.iload_n 1, 1, 1, 0, 0), (.istore 4, 2, 4, 0, 0)], 32),
  (32, [(.iload 4, 2, 4, 0, 0), (.iload_n 2, 1, 2, 0, 0), (.if_icmp .gt 32, 3, 67, 0, 0), (.aload_n 0, 1, 0, 0, 0), (.getfield 7, 3, 11, 0, 0), (.iload 4, 2, 4, 0, 0), (.iaload, 1, 0, 0, 0), (.iload_n 3, 1, 3, 0, 0), (.if_icmp .ne 15, 3, 61, 0, 0), (.aload_n 0, 1, 0, 0, 0), (.iload_n 3, 1, 3, 0, 0), (.aload_n 0, 1, 0, 0, 0), (.getfield 13, 3, 11, 1, 0), (.iload 4, 2, 4, 0, 0), (.iaload, 1, 0, 0, 0), (.invokevirtual 91, 3, 175, 2, 11)], 61),
  (61, [(.iinc 4 1, 3, 4, 0, 1), (.goto (-32), 3, 32, 0, 0)], 67),
  (67, [(.iinc 3 1, 3, 3, 0, 1), (.goto (-47), 3, 23, 0, 0)], 73),
  (73, [(.aload_n 0, 1, 0, 0, 0), (.iload_n 2, 1, 2, 0, 0), (.iconst 1, 1, 0, 0, 1), (.iadd, 1, 0, 0, 0), (.aload_n 0, 1, 0, 0, 0), (.getfield 70, 3, 11, 7, 0), (.invokevirtual 136, 3, 185, 2, 11), (.aload_n 0, 1, 0, 0, 0), (.invokevirtual 115, 3, 176, 0, 11), (.ireturn, 1, 0, 0, 0)], 89)]
set_option maxRecDepth 100000 in
theorem ok_X11_sort : pm_oks 11 false 5 (some .int) cX11_sort bk_X11_sort = true := oksF_ok (by decide +kernel)
set_option maxRecDepth 100000 in
theorem me_X11_sort : pm_me 190 = (yX11_sort, cX11_sort, 5, (some .int), 2, 0) := rfl
theorem mt_X11_sort {l : Launch} {g : pm_G} {d mc ms : Nat} {as : List Value} {A : pm_H} {Q : Option Value → pm_H → Prop} (hca : pm_cat 5 as = true) (body : ∀ J : pm_J, pm_Cl l g (fun _ => none) d mc ms (pm_Rq mc ms Q) bk_X11_sort J → J 0 (pm_l0 5 as) [] A 0 0) : pm_Mt l g 190 d mc ms as A Q := pm_Mt_of (isI := false) 11 bk_X11_sort me_X11_sort (plainFor_of_name (by decide +kernel)) (by decide +kernel) (fun h => by cases h) ok_X11_sort hca body
def bk_X11_swap : pm_B := [(0, [(.aload_n 0, 1, 0, 0, 0), (.iload_n 1, 1, 1, 0, 0), (.iload_n 2, 1, 2, 0, 0), (.invokevirtual 129, 3, 180, 2, 11), (.ifCond .eq 24, 3, 30, 0, 0), (.aload_n 0, 1, 0, 0, 0), (.iload_n 3, 1, 3, 0, 0), (.iload 4, 2, 4, 0, 0), (.invokevirtual 129, 3, 180, 2, 11), (.ifCond .eq 14, 3, 30, 0, 0), (.iload_n 1, 1, 1, 0, 0), (.iload 4, 2, 4, 0, 0), (.if_icmp .gt 10, 3, 32, 0, 0), (.iload_n 3, 1, 3, 0, 0), (.iload_n 2, 1, 2, 0, 0), (.if_icmp .gt 5, 3, 32, 0, 0)], 30),
  (30, [(.iconst (-1), 1, 0, 0, -1), (.ireturn, 1, 0, 0, 0)], 32),
  (32, [(.iload_n 1, 1, 1, 0, 0), (.iload_n 3, 1, 3, 0, 0), (.if_icmp .ge 7, 3, 41, 0, 0), (.iconst 1, 1, 0, 0, 1), (.goto 4, 3, 42, 0, 0)], 41),
  (41, [(.iconst 0, 1, 0, 0, 0)], 42),
  (42, [(.istore 5, 2, 5, 0, 0), (.iload 5, 2, 5, 0, 0), (.ifCond .eq 7, 3, 53, 0, 0), (.iload_n 1, 1, 1, 0, 0), (.goto 4, 3, 54, 0, 0)], 53),
  (53, [(.iload_n 3, 1, 3, 0, 0)], 54),
  (54, [(.istore 6, 2, 6, 0, 0), (.iload 5, 2, 5, 0, 0), (.ifCond .eq 7, 3, 65, 0, 0), (.iload_n 2, 1, 2, 0, 0), (.goto 5, 3, 67, 0, 0)], 65),
  (65, [(.iload 4, 2, 4, 0, 0)], 67),
  (67, [(.istore 7, 2, 7, 0, 0), (.iload 5, 2, 5, 0, 0), (.ifCond .eq 7, 3, 78, 0, 0), (.iload_n 3, 1, 3, 0, 0), (.goto 4, 3, 79, 0, 0)], 78),
  (78, [(.iload_n 1, 1, 1, 0, 0)], 79),
  (79, [(.istore 8, 2, 8, 0, 0), (.iload 5, 2, 5, 0, 0), (.ifCond .eq 8, 3, 91, 0, 0), (.iload 4, 2, 4, 0, 0), (.goto 4, 3, 92, 0, 0)], 91),
  (91, [(.iload_n 2, 1, 2, 0, 0)], 92),
  (92, [(.istore 9, 2, 9, 0, 0), (.aload_n 0, 1, 0, 0, 0), (.invokevirtual 112, 3, 172, 0, 11), (.aload_n 0, 1, 0, 0, 0), (.iconst 0, 1, 0, 0, 0), (.iload 6, 2, 6, 0, 0), (.invokevirtual 136, 3, 185, 2, 11), (.aload_n 0, 1, 0, 0, 0), (.iload 8, 2, 8, 0, 0), (.iload 9, 2, 9, 0, 0), (.iconst 1, 1, 0, 0, 1), (.iadd, 1, 0, 0, 0), (.invokevirtual 136, 3, 185, 2, 11), (.aload_n 0, 1, 0, 0, 0), (.iload 7, 2, 7, 0, 0), (.iconst 1, 1, 0, 0, 1), (.iadd, 1, 0, 0, 0), (.iload 8, 2, 8, 0, 0), (.invokevirtual 136, 3, 185, 2, 11), (.aload_n 0, 1, 0, 0, 0), (.iload 6, 2, 6, 0, 0), (.iload 7, 2, 7, 0, 0), (.iconst 1, 1, 0, 0, 1), (.iadd, 1, 0, 0, 0), (.invokevirtual 136, 3, 185, 2, 11), (.aload_n 0, 1, 0, 0, 0), (.iload 9, 2, 9, 0, 0), (.iconst 1, 1, 0, 0, 1), (.iadd, 1, 0, 0, 0), (.aload_n 0, 1, 0, 0, 0), (.getfield 70, 3, 11, 7, 0), (.invokevirtual 136, 3, 185, 2, 11), (.aload_n 0, 1, 0, 0, 0), (.invokevirtual 115, 3, 176, 0, 11), (.ireturn, 1, 0, 0, 0)], 152)]
set_option maxRecDepth 100000 in
theorem ok_X11_swap : pm_oks 11 false 10 (some .int) cX11_swap bk_X11_swap = true := oksF_ok (by decide +kernel)
set_option maxRecDepth 100000 in
theorem me_X11_swap : pm_me 191 = (yX11_swap, cX11_swap, 10, (some .int), 4, 0) := rfl
theorem mt_X11_swap {l : Launch} {g : pm_G} {d mc ms : Nat} {as : List Value} {A : pm_H} {Q : Option Value → pm_H → Prop} (hca : pm_cat 10 as = true) (body : ∀ J : pm_J, pm_Cl l g (fun _ => none) d mc ms (pm_Rq mc ms Q) bk_X11_swap J → J 0 (pm_l0 10 as) [] A 0 0) : pm_Mt l g 191 d mc ms as A Q := pm_Mt_of (isI := false) 11 bk_X11_swap me_X11_swap (plainFor_of_name (by decide +kernel)) (by decide +kernel) (fun h => by cases h) ok_X11_swap hca body
def bk_X11_copy : pm_B := [(0, [(.aload_n 0, 1, 0, 0, 0), (.iload_n 1, 1, 1, 0, 0), (.iload_n 2, 1, 2, 0, 0), (.invokevirtual 129, 3, 180, 2, 11), (.ifCond .eq 27, 3, 33, 0, 0), (.iload_n 3, 1, 3, 0, 0), (.iconst 0, 1, 0, 0, 0), (.aload_n 0, 1, 0, 0, 0), (.getfield 70, 3, 11, 7, 0), (.invokestatic 74, 3, 169, 3, 0), (.ifCond .eq 15, 3, 33, 0, 0), (.aload_n 0, 1, 0, 0, 0), (.iload_n 2, 1, 2, 0, 0), (.iload_n 1, 1, 1, 0, 0), (.isub, 1, 0, 0, 0), (.iconst 1, 1, 0, 0, 1), (.iadd, 1, 0, 0, 0), (.invokevirtual 133, 3, 184, 1, 11), (.ifCond .ne 5, 3, 35, 0, 0)], 33),
  (33, [(.iconst (-1), 1, 0, 0, -1), (.ireturn, 1, 0, 0, 0)], 35),
  (35, [(.aload_n 0, 1, 0, 0, 0), (.invokevirtual 112, 3, 172, 0, 11), (.aload_n 0, 1, 0, 0, 0), (.iconst 0, 1, 0, 0, 0), (.iload_n 3, 1, 3, 0, 0), (.invokevirtual 136, 3, 185, 2, 11), (.iload_n 1, 1, 1, 0, 0), (.istore 4, 2, 4, 0, 0)], 48),
  (48, [(.iload 4, 2, 4, 0, 0), (.iload_n 2, 1, 2, 0, 0), (.if_icmp .gt 20, 3, 71, 0, 0), (.aload_n 0, 1, 0, 0, 0), (.aload_n 0, 1, 0, 0, 0), (.getfield 7, 3, 11, 0, 0), (.iload 4, 2, 4, 0, 0), (.iaload, 1, 0, 0, 0), (.invokevirtual 139, 3, 186, 1, 11), (.iinc 4 1, 3, 4, 0, 1), (.goto (-20), 3, 48, 0, 0)], 71),
  (71, [(.aload_n 0, 1, 0, 0, 0), (.iload_n 3, 1, 3, 0, 0), (.aload_n 0, 1, 0, 0, 0), (.getfield 70, 3, 11, 7, 0), (.invokevirtual 136, 3, 185, 2, 11), (.aload_n 0, 1, 0, 0, 0), (.invokevirtual 115, 3, 176, 0, 11), (.ireturn, 1, 0, 0, 0)], 85)]
set_option maxRecDepth 100000 in
theorem ok_X11_copy : pm_oks 11 false 5 (some .int) cX11_copy bk_X11_copy = true := oksF_ok (by decide +kernel)
set_option maxRecDepth 100000 in
theorem me_X11_copy : pm_me 192 = (yX11_copy, cX11_copy, 5, (some .int), 3, 0) := rfl
theorem mt_X11_copy {l : Launch} {g : pm_G} {d mc ms : Nat} {as : List Value} {A : pm_H} {Q : Option Value → pm_H → Prop} (hca : pm_cat 5 as = true) (body : ∀ J : pm_J, pm_Cl l g (fun _ => none) d mc ms (pm_Rq mc ms Q) bk_X11_copy J → J 0 (pm_l0 5 as) [] A 0 0) : pm_Mt l g 192 d mc ms as A Q := pm_Mt_of (isI := false) 11 bk_X11_copy me_X11_copy (plainFor_of_name (by decide +kernel)) (by decide +kernel) (fun h => by cases h) ok_X11_copy hca body
