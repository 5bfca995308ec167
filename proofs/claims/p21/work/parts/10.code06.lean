/-! blocks, by a program -/
def bk_X11_sort : pm_B := [(0, [(.aload_n 0, 1, 0, 0, 0), (.iload_n 1, 1, 1, 0, 0), (.iload_n 2, 1, 2, 0, 0), (.invokevirtual 129, 3, 180, 2, 11), (.ifCond .ne 5, 3, 11, 0, 0), (.iconst (-1), 1, 0, 0, -1), (.ireturn, 1, 0, 0, 0)], 11),
  (11, [(.aload_n 0, 1, 0, 0, 0), (.invokevirtual 112, 3, 172, 0, 11), (.aload_n 0, 1, 0, 0, 0), (.iconst 0, 1, 0, 0, 0), (.iload_n 1, 1, 1, 0, 0), (.invokevirtual 136, 3, 185, 2, 11), (.iconst 0, 1, 0, 0, 0), (.istore_n 3, 1, 3, 0, 0)], 23),
  (23, [(.iload_n 3, 1, 3, 0, 0), (.bipush 24, 2, 0, 0, 24), (.if_icmp .ge 47, 3, 73, 0, 0), (.iload_n 1, 1, 1, 0, 0), (.istore 4, 2, 4, 0, 0)], 32),
  (32, [(.iload 4, 2, 4, 0, 0), (.iload_n 2, 1, 2, 0, 0), (.if_icmp .gt 32, 3, 67, 0, 0), (.aload_n 0, 1, 0, 0, 0), (.getfield 7, 3, 11, 0, 0), (.iload 4, 2, 4, 0, 0), (.iaload, 1, 0, 0, 0), (.iload_n 3, 1, 3, 0, 0), (.if_icmp .ne 15, 3, 61, 0, 0), (.aload_n 0, 1, 0, 0, 0), (.iload_n 3, 1, 3, 0, 0), (.aload_n 0, 1, 0, 0, 0), (.getfield 13, 3, 11, 1, 0), (.iload 4, 2, 4, 0, 0), (.iaload, 1, 0, 0, 0), (.invokevirtual 91, 3, 175, 2, 11)], 61),
  (61, [(.iinc 4 1, 3, 4, 0, 1), (.goto (-32), 3, 32, 0, 0)], 67),
  (67, [(.iinc 3 1, 3, 3, 0, 1), (.goto (-47), 3, 23, 0, 0)], 73),
  (73, [(.aload_n 0, 1, 0, 0, 0), (.iload_n 2, 1, 2, 0, 0), (.iconst 1, 1, 0, 0, 1), (.iadd, 1, 0, 0, 0), (.aload_n 0, 1, 0, 0, 0), (.getfield 70, 3, 11, 7, 0), (.invokevirtual 136, 3, 185, 2, 11), (.aload_n 0, 1, 0, 0, 0), (.invokevirtual 115, 3, 176, 0, 11), (.ireturn, 1, 0, 0, 0)], 89)]
set_option maxRecDepth 100000 in
theorem ok_X11_sort : pm_oks 11 false 5 (some .int) cX11_sort bk_X11_sort = true := oksF_ok (by decide +kernel)
set_option maxRecDepth 100000 in
theorem me_X11_sort : pm_me 190 = (yX11_sort, cX11_sort, 5, (some .int), 2, 0) := rfl
theorem mt_X11_sort {l : Launch} {g : pm_G} {d mc ms : Nat} {as : List Value} {A : pm_H} {Q : Option Value → pm_H → Prop} (hca : pm_cat 5 as = true) (body : ∀ J : pm_J, pm_Cl l g (fun _ => none) d mc ms (pm_Rq mc ms Q) bk_X11_sort J → J 0 (pm_l0 5 as) [] A 0 0) : pm_Mt l g 190 d mc ms as A Q := pm_Mt_of (isI := false) 11 bk_X11_sort me_X11_sort (plainFor_of_name (by decide +kernel)) (by decide +kernel) (fun h => by cases h) ok_X11_sort hca body
def bk_X11_swap : pm_B := [(0, [(.aload_n 0, 1, 0, 0, 0), (.iload_n 1, 1, 1, 0, 0), (.iload_n 2, 1, 2, 0, 0), (.invokevirtual 129, 3, 180, 2, 11), (.ifCond .eq 24, 3, 30, 0, 0), (.aload_n 0, 1, 0, 0, 0), (.iload_n 3, 1, 3, 0, 0), (.iload 4, 2, 4, 0, 0), (.invokevirtual 129, 3, 180, 2, 11), (.ifCond .eq 14, 3, 30, 0, 0), (.iload_n 1, 1, 1, 0, 0), (.iload 4, 2, 4, 0, 0), (.if_icmp .gt 10, 3, 32, 0, 0), (.iload_n 3, 1, 3, 0, 0), (.iload_n 2, 1, 2, 0, 0), (.if_icmp .gt 5, 3, 32, 0, 0)], 30),
  (30, [(.iconst (-1), 1, 0, 0, -1), (.ireturn, 1, 0, 0, 0)], 32),
  (32, [(.iload_n 1, 1, 1, 0, 0), (.iload_n 3, 1, 3, 0, 0), (.if_icmp .ge 7, 3, 41, 0, 0), (.iconst 1, 1, 0, 0, 1), (.goto 4, 3, 42, 0, 0)], 41),
  (41, [(.iconst 0, 1, 0, 0, 0)], 42),
  (42, [(.istore 5, 2, 5, 0, 0), (.iload 5, 2, 5, 0, 0), (.ifCond .eq 7, 3, 53, 0, 0), (.iload_n 1, 1, 1, 0, 0), (.goto 4, 3, 54, 0, 0)], 53),
  (53, [(.iload_n 3, 1, 3, 0, 0)], 54),
  (54, [(.istore 6, 2, 6, 0, 0), (.iload 5, 2, 5, 0, 0), (.ifCond .eq 7, 3, 65, 0, 0), (.iload_n 2, 1, 2, 0, 0), (.goto 5, 3, 67, 0, 0)], 65),
  (65, [(.iload 4, 2, 4, 0, 0)], 67),
  (67, [(.istore 7, 2, 7, 0, 0), (.iload 5, 2, 5, 0, 0), (.ifCond .eq 7, 3, 78, 0, 0), (.iload_n 3, 1, 3, 0, 0), (.goto 4, 3, 79, 0, 0)], 78),
  (78, [(.iload_n 1, 1, 1, 0, 0)], 79),
  (79, [(.istore 8, 2, 8, 0, 0), (.iload 5, 2, 5, 0, 0), (.ifCond .eq 8, 3, 91, 0, 0), (.iload 4, 2, 4, 0, 0), (.goto 4, 3, 92, 0, 0)], 91),
  (91, [(.iload_n 2, 1, 2, 0, 0)], 92),
  (92, [(.istore 9, 2, 9, 0, 0), (.aload_n 0, 1, 0, 0, 0), (.invokevirtual 112, 3, 172, 0, 11), (.aload_n 0, 1, 0, 0, 0), (.iconst 0, 1, 0, 0, 0), (.iload 6, 2, 6, 0, 0), (.invokevirtual 136, 3, 185, 2, 11), (.aload_n 0, 1, 0, 0, 0), (.iload 8, 2, 8, 0, 0), (.iload 9, 2, 9, 0, 0), (.iconst 1, 1, 0, 0, 1), (.iadd, 1, 0, 0, 0), (.invokevirtual 136, 3, 185, 2, 11), (.aload_n 0, 1, 0, 0, 0), (.iload 7, 2, 7, 0, 0), (.iconst 1, 1, 0, 0, 1), (.iadd, 1, 0, 0, 0), (.iload 8, 2, 8, 0, 0), (.invokevirtual 136, 3, 185, 2, 11), (.aload_n 0, 1, 0, 0, 0), (.iload 6, 2, 6, 0, 0), (.iload 7, 2, 7, 0, 0), (.iconst 1, 1, 0, 0, 1), (.iadd, 1, 0, 0, 0), (.invokevirtual 136, 3, 185, 2, 11), (.aload_n 0, 1, 0, 0, 0), (.iload 9, 2, 9, 0, 0), (.iconst 1, 1, 0, 0, 1), (.iadd, 1, 0, 0, 0), (.aload_n 0, 1, 0, 0, 0), (.getfield 70, 3, 11, 7, 0), (.invokevirtual 136, 3, 185, 2, 11), (.aload_n 0, 1, 0, 0, 0), (.invokevirtual 115, 3, 176, 0, 11), (.ireturn, 1, 0, 0, 0)], 152)]
set_option maxRecDepth 100000 in
theorem ok_X11_swap : pm_oks 11 false 10 (some .int) cX11_swap bk_X11_swap = true := oksF_ok (by decide +kernel)
set_option maxRecDepth 100000 in
theorem me_X11_swap : pm_me 191 = (yX11_swap, cX11_swap, 10, (some .int), 4, 0) := rfl
theorem mt_X11_swap {l : Launch} {g : pm_G} {d mc ms : Nat} {as : List Value} {A : pm_H} {Q : Option Value → pm_H → Prop} (hca : pm_cat 10 as = true) (body : ∀ J : pm_J, pm_Cl l g (fun _ => none) d mc ms (pm_Rq mc ms Q) bk_X11_swap J → J 0 (pm_l0 10 as) [] A 0 0) : pm_Mt l g 191 d mc ms as A Q := pm_Mt_of (isI := false) 11 bk_X11_swap me_X11_swap (plainFor_of_name (by decide +kernel)) (by decide +kernel) (fun h => by cases h) ok_X11_swap hca body
def bk_X11_copy : pm_B := [(0, [(.aload_n 0, 1, 0, 0, 0), (.iload_n 1, 1, 1, 0, 0), (.iload_n 2, 1, 2, 0, 0), (.invokevirtual 129, 3, 180, 2, 11), (.ifCond .eq 27, 3, 33, 0, 0), (.iload_n 3, 1, 3, 0, 0), (.iconst 0, 1, 0, 0, 0), (.aload_n 0, 1, 0, 0, 0), (.getfield 70, 3, 11, 7, 0), (.invokestatic 74, 3, 169, 3, 0), (.ifCond .eq 15, 3, 33, 0, 0), (.aload_n 0, 1, 0, 0, 0), (.iload_n 2, 1, 2, 0, 0), (.iload_n 1, 1, 1, 0, 0), (.isub, 1, 0, 0, 0), (.iconst 1, 1, 0, 0, 1), (.iadd, 1, 0, 0, 0), (.invokevirtual 133, 3, 184, 1, 11), (.ifCond .ne 5, 3, 35, 0, 0)], 33),
  (33, [(.iconst (-1), 1, 0, 0, -1), (.ireturn, 1, 0, 0, 0)], 35),
  (35, [(.aload_n 0, 1, 0, 0, 0), (.invokevirtual 112, 3, 172, 0, 11), (.aload_n 0, 1, 0, 0, 0), (.iconst 0, 1, 0, 0, 0), (.iload_n 3, 1, 3, 0, 0), (.invokevirtual 136, 3, 185, 2, 11), (.iload_n 1, 1, 1, 0, 0), (.istore 4, 2, 4, 0, 0)], 48),
  (48, [(.iload 4, 2, 4, 0, 0), (.iload_n 2, 1, 2, 0, 0), (.if_icmp .gt 20, 3, 71, 0, 0), (.aload_n 0, 1, 0, 0, 0), (.aload_n 0, 1, 0, 0, 0), (.getfield 7, 3, 11, 0, 0), (.iload 4, 2, 4, 0, 0), (.iaload, 1, 0, 0, 0), (.invokevirtual 139, 3, 186, 1, 11), (.iinc 4 1, 3, 4, 0, 1), (.goto (-20), 3, 48, 0, 0)], 71),
  (71, [(.aload_n 0, 1, 0, 0, 0), (.iload_n 3, 1, 3, 0, 0), (.aload_n 0, 1, 0, 0, 0), (.getfield 70, 3, 11, 7, 0), (.invokevirtual 136, 3, 185, 2, 11), (.aload_n 0, 1, 0, 0, 0), (.invokevirtual 115, 3, 176, 0, 11), (.ireturn, 1, 0, 0, 0)], 85)]
set_option maxRecDepth 100000 in
theorem ok_X11_copy : pm_oks 11 false 5 (some .int) cX11_copy bk_X11_copy = true := oksF_ok (by decide +kernel)
set_option maxRecDepth 100000 in
theorem me_X11_copy : pm_me 192 = (yX11_copy, cX11_copy, 5, (some .int), 3, 0) := rfl
theorem mt_X11_copy {l : Launch} {g : pm_G} {d mc ms : Nat} {as : List Value} {A : pm_H} {Q : Option Value → pm_H → Prop} (hca : pm_cat 5 as = true) (body : ∀ J : pm_J, pm_Cl l g (fun _ => none) d mc ms (pm_Rq mc ms Q) bk_X11_copy J → J 0 (pm_l0 5 as) [] A 0 0) : pm_Mt l g 192 d mc ms as A Q := pm_Mt_of (isI := false) 11 bk_X11_copy me_X11_copy (plainFor_of_name (by decide +kernel)) (by decide +kernel) (fun h => by cases h) ok_X11_copy hca body
def bk_X11_draw : pm_B := [(0, [(.iload_n 1, 1, 1, 0, 0), (.iconst 0, 1, 0, 0, 0), (.sipush 9999, 3, 0, 0, 9999), (.invokestatic 74, 3, 169, 3, 0), (.ifCond .eq 32, 3, 40, 0, 0), (.iload_n 2, 1, 2, 0, 0), (.iconst 1, 1, 0, 0, 1), (.sipush 160, 3, 0, 0, 160), (.invokestatic 74, 3, 169, 3, 0), (.ifCond .eq 21, 3, 40, 0, 0), (.iload_n 3, 1, 3, 0, 0), (.iconst 1, 1, 0, 0, 1), (.bipush 24, 2, 0, 0, 24), (.invokestatic 74, 3, 169, 3, 0), (.ifCond .eq 11, 3, 40, 0, 0), (.aload_n 0, 1, 0, 0, 0), (.iload_n 2, 1, 2, 0, 0), (.invokevirtual 133, 3, 184, 1, 11), (.ifCond .ne 5, 3, 42, 0, 0)], 40),
  (40, [(.iconst (-1), 1, 0, 0, -1), (.ireturn, 1, 0, 0, 0)], 42),
  (42, [(.aload_n 0, 1, 0, 0, 0), (.invokevirtual 112, 3, 172, 0, 11), (.aload_n 0, 1, 0, 0, 0), (.iconst 0, 1, 0, 0, 0), (.aload_n 0, 1, 0, 0, 0), (.getfield 70, 3, 11, 7, 0), (.invokevirtual 136, 3, 185, 2, 11), (.iload_n 1, 1, 1, 0, 0), (.istore 4, 2, 4, 0, 0), (.iconst 0, 1, 0, 0, 0), (.istore 5, 2, 5, 0, 0)], 61),
  (61, [(.iload 5, 2, 5, 0, 0), (.iload_n 2, 1, 2, 0, 0), (.if_icmp .ge 32, 3, 96, 0, 0), (.sipush 137, 3, 0, 0, 137), (.iload 4, 2, 4, 0, 0), (.imul, 1, 0, 0, 0), (.bipush 71, 2, 0, 0, 71), (.iadd, 1, 0, 0, 0), (.sipush 10007, 3, 0, 0, 10007), (.irem, 1, 0, 0, 0), (.istore 4, 2, 4, 0, 0), (.aload_n 0, 1, 0, 0, 0), (.iload 4, 2, 4, 0, 0), (.iload_n 3, 1, 3, 0, 0), (.irem, 1, 0, 0, 0), (.invokevirtual 139, 3, 186, 1, 11), (.iinc 5 1, 3, 5, 0, 1), (.goto (-32), 3, 61, 0, 0)], 96),
  (96, [(.aload_n 0, 1, 0, 0, 0), (.invokevirtual 115, 3, 176, 0, 11), (.ireturn, 1, 0, 0, 0)], 101)]
set_option maxRecDepth 100000 in
theorem ok_X11_draw : pm_oks 11 false 6 (some .int) cX11_draw bk_X11_draw = true := oksF_ok (by decide +kernel)
set_option maxRecDepth 100000 in
theorem me_X11_draw : pm_me 193 = (yX11_draw, cX11_draw, 6, (some .int), 3, 0) := rfl
theorem mt_X11_draw {l : Launch} {g : pm_G} {d mc ms : Nat} {as : List Value} {A : pm_H} {Q : Option Value → pm_H → Prop} (hca : pm_cat 6 as = true) (body : ∀ J : pm_J, pm_Cl l g (fun _ => none) d mc ms (pm_Rq mc ms Q) bk_X11_draw J → J 0 (pm_l0 6 as) [] A 0 0) : pm_Mt l g 193 d mc ms as A Q := pm_Mt_of (isI := false) 11 bk_X11_draw me_X11_draw (plainFor_of_name (by decide +kernel)) (by decide +kernel) (fun h => by cases h) ok_X11_draw hca body
def bk_X11_weigh : pm_B := [(0, [(.iload_n 1, 1, 1, 0, 0), (.invokestatic 122, 3, 170, 1, 0), (.ifCond .eq 14, 3, 18, 0, 0), (.iload_n 2, 1, 2, 0, 0), (.iconst 0, 1, 0, 0, 0), (.sipush 999, 3, 0, 0, 999), (.invokestatic 74, 3, 169, 3, 0), (.ifCond .ne 5, 3, 20, 0, 0)], 18),
  (18, [(.iconst (-1), 1, 0, 0, -1), (.ireturn, 1, 0, 0, 0)], 20),
  (20, [(.aload_n 0, 1, 0, 0, 0), (.getfield 16, 3, 11, 2, 0), (.iload_n 1, 1, 1, 0, 0), (.iaload, 1, 0, 0, 0), (.istore_n 3, 1, 3, 0, 0), (.aload_n 0, 1, 0, 0, 0), (.getfield 16, 3, 11, 2, 0), (.iload_n 1, 1, 1, 0, 0), (.iload_n 2, 1, 2, 0, 0), (.iastore, 1, 0, 0, 0), (.iload_n 3, 1, 3, 0, 0), (.ireturn, 1, 0, 0, 0)], 36)]
set_option maxRecDepth 100000 in
theorem ok_X11_weigh : pm_oks 11 false 4 (some .int) cX11_weigh bk_X11_weigh = true := oksF_ok (by decide +kernel)
set_option maxRecDepth 100000 in
theorem me_X11_weigh : pm_me 194 = (yX11_weigh, cX11_weigh, 4, (some .int), 2, 0) := rfl
theorem mt_X11_weigh {l : Launch} {g : pm_G} {d mc ms : Nat} {as : List Value} {A : pm_H} {Q : Option Value → pm_H → Prop} (hca : pm_cat 4 as = true) (body : ∀ J : pm_J, pm_Cl l g (fun _ => none) d mc ms (pm_Rq mc ms Q) bk_X11_weigh J → J 0 (pm_l0 4 as) [] A 0 0) : pm_Mt l g 194 d mc ms as A Q := pm_Mt_of (isI := false) 11 bk_X11_weigh me_X11_weigh (plainFor_of_name (by decide +kernel)) (by decide +kernel) (fun h => by cases h) ok_X11_weigh hca body
def bk_X11_at : pm_B := [(0, [(.aload_n 0, 1, 0, 0, 0), (.iload_n 1, 1, 1, 0, 0), (.invokevirtual 119, 3, 168, 1, 11), (.ifCond .ne 5, 3, 10, 0, 0), (.iconst (-1), 1, 0, 0, -1), (.ireturn, 1, 0, 0, 0)], 10),
  (10, [(.iload_n 2, 1, 2, 0, 0), (.tableswitch 72 0 3 #[29, 36, 43, 49], 29, 11, 0, 0)], 40),
  (40, [(.aload_n 0, 1, 0, 0, 0), (.getfield 7, 3, 11, 0, 0), (.iload_n 1, 1, 1, 0, 0), (.iaload, 1, 0, 0, 0), (.ireturn, 1, 0, 0, 0)], 47),
  (47, [(.aload_n 0, 1, 0, 0, 0), (.getfield 13, 3, 11, 1, 0), (.iload_n 1, 1, 1, 0, 0), (.iaload, 1, 0, 0, 0), (.ireturn, 1, 0, 0, 0)], 54),
  (54, [(.aload_n 0, 1, 0, 0, 0), (.iload_n 1, 1, 1, 0, 0), (.invokevirtual 85, 3, 173, 1, 11), (.ireturn, 1, 0, 0, 0)], 60),
  (60, [(.aload_n 0, 1, 0, 0, 0), (.iload_n 1, 1, 1, 0, 0), (.invokevirtual 142, 3, 196, 1, 11), (.ifCond .ge 7, 3, 72, 0, 0), (.iconst (-1), 1, 0, 0, -1), (.goto 13, 3, 82, 0, 0)], 72),
  (72, [(.aload_n 0, 1, 0, 0, 0), (.getfield 13, 3, 11, 1, 0), (.aload_n 0, 1, 0, 0, 0), (.iload_n 1, 1, 1, 0, 0), (.invokevirtual 142, 3, 196, 1, 11), (.iaload, 1, 0, 0, 0)], 82),
  (82, [(.ireturn, 1, 0, 0, 0)], 83),
  (83, [(.iconst (-1), 1, 0, 0, -1), (.ireturn, 1, 0, 0, 0)], 85)]
set_option maxRecDepth 100000 in
theorem ok_X11_at : pm_oks 11 false 3 (some .int) cX11_at bk_X11_at = true := oksF_ok (by decide +kernel)
set_option maxRecDepth 100000 in
theorem me_X11_at : pm_me 195 = (yX11_at, cX11_at, 3, (some .int), 2, 0) := rfl
theorem mt_X11_at {l : Launch} {g : pm_G} {d mc ms : Nat} {as : List Value} {A : pm_H} {Q : Option Value → pm_H → Prop} (hca : pm_cat 3 as = true) (body : ∀ J : pm_J, pm_Cl l g (fun _ => none) d mc ms (pm_Rq mc ms Q) bk_X11_at J → J 0 (pm_l0 3 as) [] A 0 0) : pm_Mt l g 195 d mc ms as A Q := pm_Mt_of (isI := false) 11 bk_X11_at me_X11_at (plainFor_of_name (by decide +kernel)) (by decide +kernel) (fun h => by cases h) ok_X11_at hca body
def bk_X11_behind : pm_B := [(0, [(.iload_n 1, 1, 1, 0, 0), (.iconst 1, 1, 0, 0, 1), (.iadd, 1, 0, 0, 0), (.istore_n 2, 1, 2, 0, 0)], 4),
  (4, [(.iload_n 2, 1, 2, 0, 0), (.aload_n 0, 1, 0, 0, 0), (.getfield 70, 3, 11, 7, 0), (.if_icmp .ge 26, 3, 35, 0, 0), (.aload_n 0, 1, 0, 0, 0), (.getfield 7, 3, 11, 0, 0), (.iload_n 2, 1, 2, 0, 0), (.iaload, 1, 0, 0, 0), (.aload_n 0, 1, 0, 0, 0), (.getfield 7, 3, 11, 0, 0), (.iload_n 1, 1, 1, 0, 0), (.iaload, 1, 0, 0, 0), (.if_icmp .ne 5, 3, 29, 0, 0), (.iload_n 2, 1, 2, 0, 0), (.ireturn, 1, 0, 0, 0)], 29),
  (29, [(.iinc 2 1, 3, 2, 0, 1), (.goto (-28), 3, 4, 0, 0)], 35),
  (35, [(.iconst (-1), 1, 0, 0, -1), (.ireturn, 1, 0, 0, 0)], 37)]
set_option maxRecDepth 100000 in
theorem ok_X11_behind : pm_oks 11 false 3 (some .int) cX11_behind bk_X11_behind = true := oksF_ok (by decide +kernel)
set_option maxRecDepth 100000 in
theorem me_X11_behind : pm_me 196 = (yX11_behind, cX11_behind, 3, (some .int), 1, 0) := rfl
theorem mt_X11_behind {l : Launch} {g : pm_G} {d mc ms : Nat} {as : List Value} {A : pm_H} {Q : Option Value → pm_H → Prop} (hca : pm_cat 3 as = true) (body : ∀ J : pm_J, pm_Cl l g (fun _ => none) d mc ms (pm_Rq mc ms Q) bk_X11_behind J → J 0 (pm_l0 3 as) [] A 0 0) : pm_Mt l g 196 d mc ms as A Q := pm_Mt_of (isI := false) 11 bk_X11_behind me_X11_behind (plainFor_of_name (by decide +kernel)) (by decide +kernel) (fun h => by cases h) ok_X11_behind hca body
def bk_X11_place : pm_B := [(0, [(.iload_n 1, 1, 1, 0, 0), (.ifCond .ge 7, 3, 8, 0, 0), (.iconst (-1), 1, 0, 0, -1), (.goto 8, 3, 13, 0, 0)], 8),
  (8, [(.aload_n 0, 1, 0, 0, 0), (.iload_n 1, 1, 1, 0, 0), (.invokevirtual 145, 3, 198, 1, 11)], 13),
  (13, [(.ireturn, 1, 0, 0, 0)], 14)]
set_option maxRecDepth 100000 in
theorem ok_X11_place : pm_oks 11 false 2 (some .int) cX11_place bk_X11_place = true := oksF_ok (by decide +kernel)
set_option maxRecDepth 100000 in
theorem me_X11_place : pm_me 197 = (yX11_place, cX11_place, 2, (some .int), 1, 0) := rfl
theorem mt_X11_place {l : Launch} {g : pm_G} {d mc ms : Nat} {as : List Value} {A : pm_H} {Q : Option Value → pm_H → Prop} (hca : pm_cat 2 as = true) (body : ∀ J : pm_J, pm_Cl l g (fun _ => none) d mc ms (pm_Rq mc ms Q) bk_X11_place J → J 0 (pm_l0 2 as) [] A 0 0) : pm_Mt l g 197 d mc ms as A Q := pm_Mt_of (isI := false) 11 bk_X11_place me_X11_place (plainFor_of_name (by decide +kernel)) (by decide +kernel) (fun h => by cases h) ok_X11_place hca body
def bk_X11_placeOf : pm_B := [(0, [(.iconst 0, 1, 0, 0, 0), (.istore_n 2, 1, 2, 0, 0)], 2),
  (2, [(.iload_n 2, 1, 2, 0, 0), (.aload_n 0, 1, 0, 0, 0), (.getfield 70, 3, 11, 7, 0), (.if_icmp .ge 21, 3, 28, 0, 0), (.aload_n 0, 1, 0, 0, 0), (.getfield 13, 3, 11, 1, 0), (.iload_n 2, 1, 2, 0, 0), (.iaload, 1, 0, 0, 0), (.iload_n 1, 1, 1, 0, 0), (.if_icmp .ne 5, 3, 22, 0, 0), (.iload_n 2, 1, 2, 0, 0), (.ireturn, 1, 0, 0, 0)], 22),
  (22, [(.iinc 2 1, 3, 2, 0, 1), (.goto (-23), 3, 2, 0, 0)], 28),
  (28, [(.iconst (-1), 1, 0, 0, -1), (.ireturn, 1, 0, 0, 0)], 30)]
set_option maxRecDepth 100000 in
theorem ok_X11_placeOf : pm_oks 11 false 3 (some .int) cX11_placeOf bk_X11_placeOf = true := oksF_ok (by decide +kernel)
set_option maxRecDepth 100000 in
theorem me_X11_placeOf : pm_me 198 = (yX11_placeOf, cX11_placeOf, 3, (some .int), 1, 0) := rfl
theorem mt_X11_placeOf {l : Launch} {g : pm_G} {d mc ms : Nat} {as : List Value} {A : pm_H} {Q : Option Value → pm_H → Prop} (hca : pm_cat 3 as = true) (body : ∀ J : pm_J, pm_Cl l g (fun _ => none) d mc ms (pm_Rq mc ms Q) bk_X11_placeOf J → J 0 (pm_l0 3 as) [] A 0 0) : pm_Mt l g 198 d mc ms as A Q := pm_Mt_of (isI := false) 11 bk_X11_placeOf me_X11_placeOf (plainFor_of_name (by decide +kernel)) (by decide +kernel) (fun h => by cases h) ok_X11_placeOf hca body
def bk_X11_colour : pm_B := [(0, [(.iload_n 1, 1, 1, 0, 0), (.invokestatic 122, 3, 170, 1, 0), (.ifCond .ne 5, 3, 9, 0, 0), (.iconst (-1), 1, 0, 0, -1), (.ireturn, 1, 0, 0, 0)], 9),
  (9, [(.iload_n 2, 1, 2, 0, 0), (.tableswitch 72 0 4 #[34, 47, 54, 60, 66], 34, 10, 0, 0)], 44),
  (44, [(.aload_n 0, 1, 0, 0, 0), (.iconst 0, 1, 0, 0, 0), (.aload_n 0, 1, 0, 0, 0), (.getfield 70, 3, 11, 7, 0), (.iconst 1, 1, 0, 0, 1), (.isub, 1, 0, 0, 0), (.iload_n 1, 1, 1, 0, 0), (.invokevirtual 148, 3, 200, 3, 11), (.ireturn, 1, 0, 0, 0)], 57),
  (57, [(.aload_n 0, 1, 0, 0, 0), (.getfield 16, 3, 11, 2, 0), (.iload_n 1, 1, 1, 0, 0), (.iaload, 1, 0, 0, 0), (.ireturn, 1, 0, 0, 0)], 64),
  (64, [(.aload_n 0, 1, 0, 0, 0), (.iload_n 1, 1, 1, 0, 0), (.invokevirtual 152, 3, 201, 1, 11), (.ireturn, 1, 0, 0, 0)], 70),
  (70, [(.aload_n 0, 1, 0, 0, 0), (.iload_n 1, 1, 1, 0, 0), (.invokevirtual 155, 3, 202, 1, 11), (.ireturn, 1, 0, 0, 0)], 76),
  (76, [(.aload_n 0, 1, 0, 0, 0), (.iload_n 1, 1, 1, 0, 0), (.invokevirtual 158, 3, 203, 1, 11), (.ireturn, 1, 0, 0, 0)], 82),
  (82, [(.iconst (-1), 1, 0, 0, -1), (.ireturn, 1, 0, 0, 0)], 84)]
set_option maxRecDepth 100000 in
theorem ok_X11_colour : pm_oks 11 false 3 (some .int) cX11_colour bk_X11_colour = true := oksF_ok (by decide +kernel)
set_option maxRecDepth 100000 in
theorem me_X11_colour : pm_me 199 = (yX11_colour, cX11_colour, 3, (some .int), 2, 0) := rfl
theorem mt_X11_colour {l : Launch} {g : pm_G} {d mc ms : Nat} {as : List Value} {A : pm_H} {Q : Option Value → pm_H → Prop} (hca : pm_cat 3 as = true) (body : ∀ J : pm_J, pm_Cl l g (fun _ => none) d mc ms (pm_Rq mc ms Q) bk_X11_colour J → J 0 (pm_l0 3 as) [] A 0 0) : pm_Mt l g 199 d mc ms as A Q := pm_Mt_of (isI := false) 11 bk_X11_colour me_X11_colour (plainFor_of_name (by decide +kernel)) (by decide +kernel) (fun h => by cases h) ok_X11_colour hca body
def bk_X11_timesIn : pm_B := [(0, [(.iconst 0, 1, 0, 0, 0), (.istore 4, 2, 4, 0, 0), (.iload_n 1, 1, 1, 0, 0), (.istore 5, 2, 5, 0, 0)], 6),
  (6, [(.iload 5, 2, 5, 0, 0), (.iload_n 2, 1, 2, 0, 0), (.if_icmp .gt 30, 3, 39, 0, 0), (.iload 4, 2, 4, 0, 0), (.aload_n 0, 1, 0, 0, 0), (.getfield 7, 3, 11, 0, 0), (.iload 5, 2, 5, 0, 0), (.iaload, 1, 0, 0, 0), (.iload_n 3, 1, 3, 0, 0), (.if_icmp .ne 7, 3, 29, 0, 0), (.iconst 1, 1, 0, 0, 1), (.goto 4, 3, 30, 0, 0)], 29),
  (29, [(.iconst 0, 1, 0, 0, 0)], 30),
  (30, [(.iadd, 1, 0, 0, 0), (.istore 4, 2, 4, 0, 0), (.iinc 5 1, 3, 5, 0, 1), (.goto (-30), 3, 6, 0, 0)], 39),
  (39, [(.iload 4, 2, 4, 0, 0), (.ireturn, 1, 0, 0, 0)], 42)]
set_option maxRecDepth 100000 in
theorem ok_X11_timesIn : pm_oks 11 false 6 (some .int) cX11_timesIn bk_X11_timesIn = true := oksF_ok (by decide +kernel)
set_option maxRecDepth 100000 in
theorem me_X11_timesIn : pm_me 200 = (yX11_timesIn, cX11_timesIn, 6, (some .int), 3, 0) := rfl
theorem mt_X11_timesIn {l : Launch} {g : pm_G} {d mc ms : Nat} {as : List Value} {A : pm_H} {Q : Option Value → pm_H → Prop} (hca : pm_cat 6 as = true) (body : ∀ J : pm_J, pm_Cl l g (fun _ => none) d mc ms (pm_Rq mc ms Q) bk_X11_timesIn J → J 0 (pm_l0 6 as) [] A 0 0) : pm_Mt l g 200 d mc ms as A Q := pm_Mt_of (isI := false) 11 bk_X11_timesIn me_X11_timesIn (plainFor_of_name (by decide +kernel)) (by decide +kernel) (fun h => by cases h) ok_X11_timesIn hca body
def bk_X11_first : pm_B := [(0, [(.iconst 0, 1, 0, 0, 0), (.istore_n 2, 1, 2, 0, 0)], 2),
  (2, [(.iload_n 2, 1, 2, 0, 0), (.aload_n 0, 1, 0, 0, 0), (.getfield 70, 3, 11, 7, 0), (.if_icmp .ge 21, 3, 28, 0, 0), (.aload_n 0, 1, 0, 0, 0), (.getfield 7, 3, 11, 0, 0), (.iload_n 2, 1, 2, 0, 0), (.iaload, 1, 0, 0, 0), (.iload_n 1, 1, 1, 0, 0), (.if_icmp .ne 5, 3, 22, 0, 0), (.iload_n 2, 1, 2, 0, 0), (.ireturn, 1, 0, 0, 0)], 22),
  (22, [(.iinc 2 1, 3, 2, 0, 1), (.goto (-23), 3, 2, 0, 0)], 28),
  (28, [(.iconst (-1), 1, 0, 0, -1), (.ireturn, 1, 0, 0, 0)], 30)]
set_option maxRecDepth 100000 in
theorem ok_X11_first : pm_oks 11 false 3 (some .int) cX11_first bk_X11_first = true := oksF_ok (by decide +kernel)
set_option maxRecDepth 100000 in
theorem me_X11_first : pm_me 201 = (yX11_first, cX11_first, 3, (some .int), 1, 0) := rfl
theorem mt_X11_first {l : Launch} {g : pm_G} {d mc ms : Nat} {as : List Value} {A : pm_H} {Q : Option Value → pm_H → Prop} (hca : pm_cat 3 as = true) (body : ∀ J : pm_J, pm_Cl l g (fun _ => none) d mc ms (pm_Rq mc ms Q) bk_X11_first J → J 0 (pm_l0 3 as) [] A 0 0) : pm_Mt l g 201 d mc ms as A Q := pm_Mt_of (isI := false) 11 bk_X11_first me_X11_first (plainFor_of_name (by decide +kernel)) (by decide +kernel) (fun h => by cases h) ok_X11_first hca body
def bk_X11_last : pm_B := [(0, [(.aload_n 0, 1, 0, 0, 0), (.getfield 70, 3, 11, 7, 0), (.iconst 1, 1, 0, 0, 1), (.isub, 1, 0, 0, 0), (.istore_n 2, 1, 2, 0, 0)], 7),
  (7, [(.iload_n 2, 1, 2, 0, 0), (.ifCond .lt 21, 3, 29, 0, 0), (.aload_n 0, 1, 0, 0, 0), (.getfield 7, 3, 11, 0, 0), (.iload_n 2, 1, 2, 0, 0), (.iaload, 1, 0, 0, 0), (.iload_n 1, 1, 1, 0, 0), (.if_icmp .ne 5, 3, 23, 0, 0), (.iload_n 2, 1, 2, 0, 0), (.ireturn, 1, 0, 0, 0)], 23),
  (23, [(.iinc 2 (-1), 3, 2, 0, -1), (.goto (-19), 3, 7, 0, 0)], 29),
  (29, [(.iconst (-1), 1, 0, 0, -1), (.ireturn, 1, 0, 0, 0)], 31)]
set_option maxRecDepth 100000 in
theorem ok_X11_last : pm_oks 11 false 3 (some .int) cX11_last bk_X11_last = true := oksF_ok (by decide +kernel)
set_option maxRecDepth 100000 in
theorem me_X11_last : pm_me 202 = (yX11_last, cX11_last, 3, (some .int), 1, 0) := rfl
theorem mt_X11_last {l : Launch} {g : pm_G} {d mc ms : Nat} {as : List Value} {A : pm_H} {Q : Option Value → pm_H → Prop} (hca : pm_cat 3 as = true) (body : ∀ J : pm_J, pm_Cl l g (fun _ => none) d mc ms (pm_Rq mc ms Q) bk_X11_last J → J 0 (pm_l0 3 as) [] A 0 0) : pm_Mt l g 202 d mc ms as A Q := pm_Mt_of (isI := false) 11 bk_X11_last me_X11_last (plainFor_of_name (by decide +kernel)) (by decide +kernel) (fun h => by cases h) ok_X11_last hca body
def bk_X11_widest : pm_B := [(0, [(.iconst (-1), 1, 0, 0, -1), (.istore_n 2, 1, 2, 0, 0), (.iconst 0, 1, 0, 0, 0), (.istore_n 3, 1, 3, 0, 0)], 4),
  (4, [(.iload_n 3, 1, 3, 0, 0), (.aload_n 0, 1, 0, 0, 0), (.getfield 70, 3, 11, 7, 0), (.if_icmp .ge 50, 3, 59, 0, 0), (.aload_n 0, 1, 0, 0, 0), (.getfield 7, 3, 11, 0, 0), (.iload_n 3, 1, 3, 0, 0), (.iaload, 1, 0, 0, 0), (.iload_n 1, 1, 1, 0, 0), (.if_icmp .ne 34, 3, 53, 0, 0), (.aload_n 0, 1, 0, 0, 0), (.iload_n 3, 1, 3, 0, 0), (.invokevirtual 78, 3, 174, 1, 11), (.ifCond .lt 26, 3, 53, 0, 0), (.iload_n 3, 1, 3, 0, 0), (.aload_n 0, 1, 0, 0, 0), (.iload_n 3, 1, 3, 0, 0), (.invokevirtual 78, 3, 174, 1, 11), (.isub, 1, 0, 0, 0), (.iconst 1, 1, 0, 0, 1), (.isub, 1, 0, 0, 0), (.iload_n 2, 1, 2, 0, 0), (.if_icmp .le 13, 3, 53, 0, 0), (.iload_n 3, 1, 3, 0, 0), (.aload_n 0, 1, 0, 0, 0), (.iload_n 3, 1, 3, 0, 0), (.invokevirtual 78, 3, 174, 1, 11), (.isub, 1, 0, 0, 0), (.iconst 1, 1, 0, 0, 1), (.isub, 1, 0, 0, 0), (.istore_n 2, 1, 2, 0, 0)], 53),
  (53, [(.iinc 3 1, 3, 3, 0, 1), (.goto (-52), 3, 4, 0, 0)], 59),
  (59, [(.iload_n 2, 1, 2, 0, 0), (.ireturn, 1, 0, 0, 0)], 61)]
set_option maxRecDepth 100000 in
theorem ok_X11_widest : pm_oks 11 false 4 (some .int) cX11_widest bk_X11_widest = true := oksF_ok (by decide +kernel)
set_option maxRecDepth 100000 in
theorem me_X11_widest : pm_me 203 = (yX11_widest, cX11_widest, 4, (some .int), 1, 0) := rfl
theorem mt_X11_widest {l : Launch} {g : pm_G} {d mc ms : Nat} {as : List Value} {A : pm_H} {Q : Option Value → pm_H → Prop} (hca : pm_cat 4 as = true) (body : ∀ J : pm_J, pm_Cl l g (fun _ => none) d mc ms (pm_Rq mc ms Q) bk_X11_widest J → J 0 (pm_l0 4 as) [] A 0 0) : pm_Mt l g 203 d mc ms as A Q := pm_Mt_of (isI := false) 11 bk_X11_widest me_X11_widest (plainFor_of_name (by decide +kernel)) (by decide +kernel) (fun h => by cases h) ok_X11_widest hca body
def bk_X11_nth : pm_B := [(0, [(.iload_n 2, 1, 2, 0, 0), (.istore_n 3, 1, 3, 0, 0), (.iconst 0, 1, 0, 0, 0), (.istore 4, 2, 4, 0, 0)], 5),
  (5, [(.iload 4, 2, 4, 0, 0), (.aload_n 0, 1, 0, 0, 0), (.getfield 70, 3, 11, 7, 0), (.if_icmp .ge 37, 3, 48, 0, 0), (.iload_n 2, 1, 2, 0, 0), (.ifCond .lt 33, 3, 48, 0, 0), (.aload_n 0, 1, 0, 0, 0), (.getfield 7, 3, 11, 0, 0), (.iload 4, 2, 4, 0, 0), (.iaload, 1, 0, 0, 0), (.iload_n 1, 1, 1, 0, 0), (.if_icmp .eq 6, 3, 32, 0, 0), (.goto 13, 3, 42, 0, 0)], 32),
  (32, [(.iload_n 3, 1, 3, 0, 0), (.ifCond .ne 6, 3, 39, 0, 0), (.iload 4, 2, 4, 0, 0), (.ireturn, 1, 0, 0, 0)], 39),
  (39, [(.iinc 3 (-1), 3, 3, 0, -1)], 42),
  (42, [(.iinc 4 1, 3, 4, 0, 1), (.goto (-40), 3, 5, 0, 0)], 48),
  (48, [(.iconst (-1), 1, 0, 0, -1), (.ireturn, 1, 0, 0, 0)], 50)]
set_option maxRecDepth 100000 in
theorem ok_X11_nth : pm_oks 11 false 5 (some .int) cX11_nth bk_X11_nth = true := oksF_ok (by decide +kernel)
set_option maxRecDepth 100000 in
theorem me_X11_nth : pm_me 204 = (yX11_nth, cX11_nth, 5, (some .int), 2, 0) := rfl
theorem mt_X11_nth {l : Launch} {g : pm_G} {d mc ms : Nat} {as : List Value} {A : pm_H} {Q : Option Value → pm_H → Prop} (hca : pm_cat 5 as = true) (body : ∀ J : pm_J, pm_Cl l g (fun _ => none) d mc ms (pm_Rq mc ms Q) bk_X11_nth J → J 0 (pm_l0 5 as) [] A 0 0) : pm_Mt l g 204 d mc ms as A Q := pm_Mt_of (isI := false) 11 bk_X11_nth me_X11_nth (plainFor_of_name (by decide +kernel)) (by decide +kernel) (fun h => by cases h) ok_X11_nth hca body
def bk_X11_about : pm_B := [(0, [(.iload_n 1, 1, 1, 0, 0), (.tableswitch 79 0 5 #[39, 44, 59, 64, 69, 74], 39, 1, 0, 0)], 40),
  (40, [(.aload_n 0, 1, 0, 0, 0), (.getfield 70, 3, 11, 7, 0), (.ireturn, 1, 0, 0, 0)], 45),
  (45, [(.aload_n 0, 1, 0, 0, 0), (.iconst 0, 1, 0, 0, 0), (.aload_n 0, 1, 0, 0, 0), (.getfield 70, 3, 11, 7, 0), (.iconst 1, 1, 0, 0, 1), (.isub, 1, 0, 0, 0), (.invokevirtual 161, 3, 206, 2, 11), (.invokestatic 165, 3, 207, 1, 0), (.ireturn, 1, 0, 0, 0)], 60),
  (60, [(.aload_n 0, 1, 0, 0, 0), (.getfield 95, 3, 11, 10, 0), (.ireturn, 1, 0, 0, 0)], 65),
  (65, [(.aload_n 0, 1, 0, 0, 0), (.getfield 102, 3, 11, 11, 0), (.ireturn, 1, 0, 0, 0)], 70),
  (70, [(.aload_n 0, 1, 0, 0, 0), (.getfield 105, 3, 11, 12, 0), (.ireturn, 1, 0, 0, 0)], 75),
  (75, [(.aload_n 0, 1, 0, 0, 0), (.getfield 168, 3, 11, 17, 0), (.ireturn, 1, 0, 0, 0)], 80),
  (80, [(.iconst (-1), 1, 0, 0, -1), (.ireturn, 1, 0, 0, 0)], 82)]
set_option maxRecDepth 100000 in
theorem ok_X11_about : pm_oks 11 false 2 (some .int) cX11_about bk_X11_about = true := oksF_ok (by decide +kernel)
set_option maxRecDepth 100000 in
theorem me_X11_about : pm_me 205 = (yX11_about, cX11_about, 2, (some .int), 1, 0) := rfl
theorem mt_X11_about {l : Launch} {g : pm_G} {d mc ms : Nat} {as : List Value} {A : pm_H} {Q : Option Value → pm_H → Prop} (hca : pm_cat 2 as = true) (body : ∀ J : pm_J, pm_Cl l g (fun _ => none) d mc ms (pm_Rq mc ms Q) bk_X11_about J → J 0 (pm_l0 2 as) [] A 0 0) : pm_Mt l g 205 d mc ms as A Q := pm_Mt_of (isI := false) 11 bk_X11_about me_X11_about (plainFor_of_name (by decide +kernel)) (by decide +kernel) (fun h => by cases h) ok_X11_about hca body
def bk_X11_setOf : pm_B := [(0, [(.iconst 0, 1, 0, 0, 0), (.istore_n 3, 1, 3, 0, 0), (.iload_n 1, 1, 1, 0, 0), (.istore 4, 2, 4, 0, 0)], 5),
  (5, [(.iload 4, 2, 4, 0, 0), (.iload_n 2, 1, 2, 0, 0), (.if_icmp .gt 21, 3, 29, 0, 0), (.iload_n 3, 1, 3, 0, 0), (.iconst 1, 1, 0, 0, 1), (.aload_n 0, 1, 0, 0, 0), (.getfield 7, 3, 11, 0, 0), (.iload 4, 2, 4, 0, 0), (.iaload, 1, 0, 0, 0), (.ishl, 1, 0, 0, 0), (.ior, 1, 0, 0, 0), (.istore_n 3, 1, 3, 0, 0), (.iinc 4 1, 3, 4, 0, 1), (.goto (-21), 3, 5, 0, 0)], 29),
  (29, [(.iload_n 3, 1, 3, 0, 0), (.ireturn, 1, 0, 0, 0)], 31)]
set_option maxRecDepth 100000 in
theorem ok_X11_setOf : pm_oks 11 false 5 (some .int) cX11_setOf bk_X11_setOf = true := oksF_ok (by decide +kernel)
set_option maxRecDepth 100000 in
theorem me_X11_setOf : pm_me 206 = (yX11_setOf, cX11_setOf, 5, (some .int), 2, 0) := rfl
theorem mt_X11_setOf {l : Launch} {g : pm_G} {d mc ms : Nat} {as : List Value} {A : pm_H} {Q : Option Value → pm_H → Prop} (hca : pm_cat 5 as = true) (body : ∀ J : pm_J, pm_Cl l g (fun _ => none) d mc ms (pm_Rq mc ms Q) bk_X11_setOf J → J 0 (pm_l0 5 as) [] A 0 0) : pm_Mt l g 206 d mc ms as A Q := pm_Mt_of (isI := false) 11 bk_X11_setOf me_X11_setOf (plainFor_of_name (by decide +kernel)) (by decide +kernel) (fun h => by cases h) ok_X11_setOf hca body
def bk_X11_bits : pm_B := [(0, [(.iconst 0, 1, 0, 0, 0), (.istore_n 1, 1, 1, 0, 0), (.iload_n 0, 1, 0, 0, 0), (.istore_n 2, 1, 2, 0, 0)], 4),
  (4, [(.iload_n 2, 1, 2, 0, 0), (.ifCond .eq 15, 3, 20, 0, 0), (.iinc 1 1, 3, 1, 0, 1), (.iload_n 2, 1, 2, 0, 0), (.iload_n 2, 1, 2, 0, 0), (.iconst 1, 1, 0, 0, 1), (.isub, 1, 0, 0, 0), (.iand, 1, 0, 0, 0), (.istore_n 2, 1, 2, 0, 0), (.goto (-13), 3, 4, 0, 0)], 20),
  (20, [(.iload_n 1, 1, 1, 0, 0), (.ireturn, 1, 0, 0, 0)], 22)]
set_option maxRecDepth 100000 in
theorem ok_X11_bits : pm_oks 11 false 3 (some .int) cX11_bits bk_X11_bits = true := oksF_ok (by decide +kernel)
set_option maxRecDepth 100000 in
theorem me_X11_bits : pm_me 207 = (yX11_bits, cX11_bits, 3, (some .int), 1, 1) := rfl
theorem mt_X11_bits {l : Launch} {g : pm_G} {d mc ms : Nat} {as : List Value} {A : pm_H} {Q : Option Value → pm_H → Prop} (hca : pm_cat 3 as = true) (body : ∀ J : pm_J, pm_Cl l g (fun _ => none) d mc ms (pm_Rq mc ms Q) bk_X11_bits J → J 0 (pm_l0 3 as) [] A 0 0) : pm_Mt l g 207 d mc ms as A Q := pm_Mt_of (isI := false) 11 bk_X11_bits me_X11_bits (plainFor_of_name (by decide +kernel)) (by decide +kernel) (fun h => by cases h) ok_X11_bits hca body
def bk_X11_count : pm_B := [(0, [(.aload_n 0, 1, 0, 0, 0), (.iload_n 1, 1, 1, 0, 0), (.iload_n 2, 1, 2, 0, 0), (.invokevirtual 129, 3, 180, 2, 11), (.ifCond .eq 12, 3, 18, 0, 0), (.aload_n 0, 1, 0, 0, 0), (.iload_n 1, 1, 1, 0, 0), (.iload_n 2, 1, 2, 0, 0), (.invokevirtual 171, 3, 209, 2, 11), (.goto 4, 3, 19, 0, 0)], 18),
  (18, [(.iconst (-1), 1, 0, 0, -1)], 19),
  (19, [(.ireturn, 1, 0, 0, 0)], 20)]
set_option maxRecDepth 100000 in
theorem ok_X11_count : pm_oks 11 false 3 (some .int) cX11_count bk_X11_count = true := oksF_ok (by decide +kernel)
set_option maxRecDepth 100000 in
theorem me_X11_count : pm_me 208 = (yX11_count, cX11_count, 3, (some .int), 2, 0) := rfl
theorem mt_X11_count {l : Launch} {g : pm_G} {d mc ms : Nat} {as : List Value} {A : pm_H} {Q : Option Value → pm_H → Prop} (hca : pm_cat 3 as = true) (body : ∀ J : pm_J, pm_Cl l g (fun _ => none) d mc ms (pm_Rq mc ms Q) bk_X11_count J → J 0 (pm_l0 3 as) [] A 0 0) : pm_Mt l g 208 d mc ms as A Q := pm_Mt_of (isI := false) 11 bk_X11_count me_X11_count (plainFor_of_name (by decide +kernel)) (by decide +kernel) (fun h => by cases h) ok_X11_count hca body
def bk_X11_countOf : pm_B := [(0, [(.aload_n 0, 1, 0, 0, 0), (.iload_n 1, 1, 1, 0, 0), (.iload_n 2, 1, 2, 0, 0), (.invokevirtual 161, 3, 206, 2, 11), (.invokestatic 165, 3, 207, 1, 0), (.ireturn, 1, 0, 0, 0)], 10)]
set_option maxRecDepth 100000 in
theorem ok_X11_countOf : pm_oks 11 false 3 (some .int) cX11_countOf bk_X11_countOf = true := oksF_ok (by decide +kernel)
set_option maxRecDepth 100000 in
theorem me_X11_countOf : pm_me 209 = (yX11_countOf, cX11_countOf, 3, (some .int), 2, 0) := rfl
theorem mt_X11_countOf {l : Launch} {g : pm_G} {d mc ms : Nat} {as : List Value} {A : pm_H} {Q : Option Value → pm_H → Prop} (hca : pm_cat 3 as = true) (body : ∀ J : pm_J, pm_Cl l g (fun _ => none) d mc ms (pm_Rq mc ms Q) bk_X11_countOf J → J 0 (pm_l0 3 as) [] A 0 0) : pm_Mt l g 209 d mc ms as A Q := pm_Mt_of (isI := false) 11 bk_X11_countOf me_X11_countOf (plainFor_of_name (by decide +kernel)) (by decide +kernel) (fun h => by cases h) ok_X11_countOf hca body
def bk_X11_weight : pm_B := [(0, [(.aload_n 0, 1, 0, 0, 0), (.iload_n 1, 1, 1, 0, 0), (.iload_n 2, 1, 2, 0, 0), (.invokevirtual 129, 3, 180, 2, 11), (.ifCond .eq 16, 3, 22, 0, 0), (.aload_n 0, 1, 0, 0, 0), (.aload_n 0, 1, 0, 0, 0), (.iload_n 1, 1, 1, 0, 0), (.iload_n 2, 1, 2, 0, 0), (.invokevirtual 161, 3, 206, 2, 11), (.invokevirtual 174, 3, 211, 1, 11), (.goto 4, 3, 23, 0, 0)], 22),
  (22, [(.iconst (-1), 1, 0, 0, -1)], 23),
  (23, [(.ireturn, 1, 0, 0, 0)], 24)]
set_option maxRecDepth 100000 in
theorem ok_X11_weight : pm_oks 11 false 3 (some .int) cX11_weight bk_X11_weight = true := oksF_ok (by decide +kernel)
set_option maxRecDepth 100000 in
theorem me_X11_weight : pm_me 210 = (yX11_weight, cX11_weight, 3, (some .int), 2, 0) := rfl
theorem mt_X11_weight {l : Launch} {g : pm_G} {d mc ms : Nat} {as : List Value} {A : pm_H} {Q : Option Value → pm_H → Prop} (hca : pm_cat 3 as = true) (body : ∀ J : pm_J, pm_Cl l g (fun _ => none) d mc ms (pm_Rq mc ms Q) bk_X11_weight J → J 0 (pm_l0 3 as) [] A 0 0) : pm_Mt l g 210 d mc ms as A Q := pm_Mt_of (isI := false) 11 bk_X11_weight me_X11_weight (plainFor_of_name (by decide +kernel)) (by decide +kernel) (fun h => by cases h) ok_X11_weight hca body
def bk_X11_weightOf : pm_B := [(0, [(.iconst 0, 1, 0, 0, 0), (.istore_n 2, 1, 2, 0, 0), (.iconst 0, 1, 0, 0, 0), (.istore_n 3, 1, 3, 0, 0)], 4),
  (4, [(.iload_n 3, 1, 3, 0, 0), (.bipush 24, 2, 0, 0, 24), (.if_icmp .ge 31, 3, 38, 0, 0), (.iload_n 2, 1, 2, 0, 0), (.iload_n 1, 1, 1, 0, 0), (.iload_n 3, 1, 3, 0, 0), (.ishr, 1, 0, 0, 0), (.iconst 1, 1, 0, 0, 1), (.iand, 1, 0, 0, 0), (.iconst 1, 1, 0, 0, 1), (.if_icmp .ne 12, 3, 29, 0, 0), (.aload_n 0, 1, 0, 0, 0), (.getfield 16, 3, 11, 2, 0), (.iload_n 3, 1, 3, 0, 0), (.iaload, 1, 0, 0, 0), (.goto 4, 3, 30, 0, 0)], 29),
  (29, [(.iconst 0, 1, 0, 0, 0)], 30),
  (30, [(.iadd, 1, 0, 0, 0), (.istore_n 2, 1, 2, 0, 0), (.iinc 3 1, 3, 3, 0, 1), (.goto (-31), 3, 4, 0, 0)], 38),
  (38, [(.iload_n 2, 1, 2, 0, 0), (.ireturn, 1, 0, 0, 0)], 40)]
set_option maxRecDepth 100000 in
theorem ok_X11_weightOf : pm_oks 11 false 4 (some .int) cX11_weightOf bk_X11_weightOf = true := oksF_ok (by decide +kernel)
set_option maxRecDepth 100000 in
theorem me_X11_weightOf : pm_me 211 = (yX11_weightOf, cX11_weightOf, 4, (some .int), 1, 0) := rfl
theorem mt_X11_weightOf {l : Launch} {g : pm_G} {d mc ms : Nat} {as : List Value} {A : pm_H} {Q : Option Value → pm_H → Prop} (hca : pm_cat 4 as = true) (body : ∀ J : pm_J, pm_Cl l g (fun _ => none) d mc ms (pm_Rq mc ms Q) bk_X11_weightOf J → J 0 (pm_l0 4 as) [] A 0 0) : pm_Mt l g 211 d mc ms as A Q := pm_Mt_of (isI := false) 11 bk_X11_weightOf me_X11_weightOf (plainFor_of_name (by decide +kernel)) (by decide +kernel) (fun h => by cases h) ok_X11_weightOf hca body
def bk_X11_set : pm_B := [(0, [(.aload_n 0, 1, 0, 0, 0), (.iload_n 1, 1, 1, 0, 0), (.iload_n 2, 1, 2, 0, 0), (.invokevirtual 129, 3, 180, 2, 11), (.ifCond .eq 12, 3, 18, 0, 0), (.aload_n 0, 1, 0, 0, 0), (.iload_n 1, 1, 1, 0, 0), (.iload_n 2, 1, 2, 0, 0), (.invokevirtual 161, 3, 206, 2, 11), (.goto 4, 3, 19, 0, 0)], 18),
  (18, [(.iconst (-1), 1, 0, 0, -1)], 19),
  (19, [(.ireturn, 1, 0, 0, 0)], 20)]
set_option maxRecDepth 100000 in
theorem ok_X11_set : pm_oks 11 false 3 (some .int) cX11_set bk_X11_set = true := oksF_ok (by decide +kernel)
set_option maxRecDepth 100000 in
theorem me_X11_set : pm_me 212 = (yX11_set, cX11_set, 3, (some .int), 2, 0) := rfl
theorem mt_X11_set {l : Launch} {g : pm_G} {d mc ms : Nat} {as : List Value} {A : pm_H} {Q : Option Value → pm_H → Prop} (hca : pm_cat 3 as = true) (body : ∀ J : pm_J, pm_Cl l g (fun _ => none) d mc ms (pm_Rq mc ms Q) bk_X11_set J → J 0 (pm_l0 3 as) [] A 0 0) : pm_Mt l g 212 d mc ms as A Q := pm_Mt_of (isI := false) 11 bk_X11_set me_X11_set (plainFor_of_name (by decide +kernel)) (by decide +kernel) (fun h => by cases h) ok_X11_set hca body
def bk_X11_times : pm_B := [(0, [(.aload_n 0, 1, 0, 0, 0), (.iload_n 1, 1, 1, 0, 0), (.iload_n 2, 1, 2, 0, 0), (.invokevirtual 129, 3, 180, 2, 11), (.ifCond .eq 20, 3, 26, 0, 0), (.iload_n 3, 1, 3, 0, 0), (.invokestatic 122, 3, 170, 1, 0), (.ifCond .eq 13, 3, 26, 0, 0), (.aload_n 0, 1, 0, 0, 0), (.iload_n 1, 1, 1, 0, 0), (.iload_n 2, 1, 2, 0, 0), (.iload_n 3, 1, 3, 0, 0), (.invokevirtual 148, 3, 200, 3, 11), (.goto 4, 3, 27, 0, 0)], 26),
  (26, [(.iconst (-1), 1, 0, 0, -1)], 27),
  (27, [(.ireturn, 1, 0, 0, 0)], 28)]
set_option maxRecDepth 100000 in
theorem ok_X11_times : pm_oks 11 false 4 (some .int) cX11_times bk_X11_times = true := oksF_ok (by decide +kernel)
set_option maxRecDepth 100000 in
theorem me_X11_times : pm_me 213 = (yX11_times, cX11_times, 4, (some .int), 3, 0) := rfl
theorem mt_X11_times {l : Launch} {g : pm_G} {d mc ms : Nat} {as : List Value} {A : pm_H} {Q : Option Value → pm_H → Prop} (hca : pm_cat 4 as = true) (body : ∀ J : pm_J, pm_Cl l g (fun _ => none) d mc ms (pm_Rq mc ms Q) bk_X11_times J → J 0 (pm_l0 4 as) [] A 0 0) : pm_Mt l g 213 d mc ms as A Q := pm_Mt_of (isI := false) 11 bk_X11_times me_X11_times (plainFor_of_name (by decide +kernel)) (by decide +kernel) (fun h => by cases h) ok_X11_times hca body
def bk_X11_often : pm_B := [(0, [(.aload_n 0, 1, 0, 0, 0), (.iload_n 1, 1, 1, 0, 0), (.iload_n 2, 1, 2, 0, 0), (.invokevirtual 129, 3, 180, 2, 11), (.ifCond .eq 8, 3, 14, 0, 0), (.iload_n 3, 1, 3, 0, 0), (.iconst 1, 1, 0, 0, 1), (.if_icmp .ge 5, 3, 16, 0, 0)], 14),
  (14, [(.iconst (-1), 1, 0, 0, -1), (.ireturn, 1, 0, 0, 0)], 16),
  (16, [(.iconst 0, 1, 0, 0, 0), (.istore 4, 2, 4, 0, 0), (.iconst 0, 1, 0, 0, 0), (.istore 5, 2, 5, 0, 0)], 22),
  (22, [(.iload 5, 2, 5, 0, 0), (.bipush 24, 2, 0, 0, 24), (.if_icmp .ge 31, 3, 57, 0, 0), (.iload 4, 2, 4, 0, 0), (.aload_n 0, 1, 0, 0, 0), (.iload_n 1, 1, 1, 0, 0), (.iload_n 2, 1, 2, 0, 0), (.iload 5, 2, 5, 0, 0), (.invokevirtual 148, 3, 200, 3, 11), (.iload_n 3, 1, 3, 0, 0), (.if_icmp .lt 7, 3, 47, 0, 0), (.iconst 1, 1, 0, 0, 1), (.goto 4, 3, 48, 0, 0)], 47),
  (47, [(.iconst 0, 1, 0, 0, 0)], 48),
  (48, [(.iadd, 1, 0, 0, 0), (.istore 4, 2, 4, 0, 0), (.iinc 5 1, 3, 5, 0, 1), (.goto (-32), 3, 22, 0, 0)], 57),
  (57, [(.iload 4, 2, 4, 0, 0), (.ireturn, 1, 0, 0, 0)], 60)]
set_option maxRecDepth 100000 in
theorem ok_X11_often : pm_oks 11 false 6 (some .int) cX11_often bk_X11_often = true := oksF_ok (by decide +kernel)
set_option maxRecDepth 100000 in
theorem me_X11_often : pm_me 214 = (yX11_often, cX11_often, 6, (some .int), 3, 0) := rfl
theorem mt_X11_often {l : Launch} {g : pm_G} {d mc ms : Nat} {as : List Value} {A : pm_H} {Q : Option Value → pm_H → Prop} (hca : pm_cat 6 as = true) (body : ∀ J : pm_J, pm_Cl l g (fun _ => none) d mc ms (pm_Rq mc ms Q) bk_X11_often J → J 0 (pm_l0 6 as) [] A 0 0) : pm_Mt l g 214 d mc ms as A Q := pm_Mt_of (isI := false) 11 bk_X11_often me_X11_often (plainFor_of_name (by decide +kernel)) (by decide +kernel) (fun h => by cases h) ok_X11_often hca body
def bk_X11_tally : pm_B := [(0, [(.aload_n 0, 1, 0, 0, 0), (.iload_n 1, 1, 1, 0, 0), (.iload_n 2, 1, 2, 0, 0), (.invokevirtual 129, 3, 180, 2, 11), (.ifCond .eq 8, 3, 14, 0, 0), (.iload_n 3, 1, 3, 0, 0), (.iconst 1, 1, 0, 0, 1), (.if_icmp .ge 5, 3, 16, 0, 0)], 14),
  (14, [(.iconst (-1), 1, 0, 0, -1), (.ireturn, 1, 0, 0, 0)], 16),
  (16, [(.iconst 0, 1, 0, 0, 0), (.istore 4, 2, 4, 0, 0), (.iconst 0, 1, 0, 0, 0), (.istore 5, 2, 5, 0, 0)], 22),
  (22, [(.iload 5, 2, 5, 0, 0), (.bipush 24, 2, 0, 0, 24), (.if_icmp .ge 31, 3, 57, 0, 0), (.iload 4, 2, 4, 0, 0), (.aload_n 0, 1, 0, 0, 0), (.iload_n 1, 1, 1, 0, 0), (.iload_n 2, 1, 2, 0, 0), (.iload 5, 2, 5, 0, 0), (.invokevirtual 148, 3, 200, 3, 11), (.iload_n 3, 1, 3, 0, 0), (.if_icmp .ne 7, 3, 47, 0, 0), (.iconst 1, 1, 0, 0, 1), (.goto 4, 3, 48, 0, 0)], 47),
  (47, [(.iconst 0, 1, 0, 0, 0)], 48),
  (48, [(.iadd, 1, 0, 0, 0), (.istore 4, 2, 4, 0, 0), (.iinc 5 1, 3, 5, 0, 1), (.goto (-32), 3, 22, 0, 0)], 57),
  (57, [(.iload 4, 2, 4, 0, 0), (.ireturn, 1, 0, 0, 0)], 60)]
set_option maxRecDepth 100000 in
theorem ok_X11_tally : pm_oks 11 false 6 (some .int) cX11_tally bk_X11_tally = true := oksF_ok (by decide +kernel)
set_option maxRecDepth 100000 in
theorem me_X11_tally : pm_me 215 = (yX11_tally, cX11_tally, 6, (some .int), 3, 0) := rfl
theorem mt_X11_tally {l : Launch} {g : pm_G} {d mc ms : Nat} {as : List Value} {A : pm_H} {Q : Option Value → pm_H → Prop} (hca : pm_cat 6 as = true) (body : ∀ J : pm_J, pm_Cl l g (fun _ => none) d mc ms (pm_Rq mc ms Q) bk_X11_tally J → J 0 (pm_l0 6 as) [] A 0 0) : pm_Mt l g 215 d mc ms as A Q := pm_Mt_of (isI := false) 11 bk_X11_tally me_X11_tally (plainFor_of_name (by decide +kernel)) (by decide +kernel) (fun h => by cases h) ok_X11_tally hca body
def bk_X11_major : pm_B := [(0, [(.aload_n 0, 1, 0, 0, 0), (.iload_n 1, 1, 1, 0, 0), (.iload_n 2, 1, 2, 0, 0), (.invokevirtual 129, 3, 180, 2, 11), (.ifCond .ne 5, 3, 11, 0, 0), (.iconst (-1), 1, 0, 0, -1), (.ireturn, 1, 0, 0, 0)], 11),
  (11, [(.iconst 0, 1, 0, 0, 0), (.istore_n 3, 1, 3, 0, 0)], 13),
  (13, [(.iload_n 3, 1, 3, 0, 0), (.bipush 24, 2, 0, 0, 24), (.if_icmp .ge 28, 3, 44, 0, 0), (.iconst 2, 1, 0, 0, 2), (.aload_n 0, 1, 0, 0, 0), (.iload_n 1, 1, 1, 0, 0), (.iload_n 2, 1, 2, 0, 0), (.iload_n 3, 1, 3, 0, 0), (.invokevirtual 148, 3, 200, 3, 11), (.imul, 1, 0, 0, 0), (.iload_n 2, 1, 2, 0, 0), (.iload_n 1, 1, 1, 0, 0), (.isub, 1, 0, 0, 0), (.iconst 1, 1, 0, 0, 1), (.iadd, 1, 0, 0, 0), (.if_icmp .le 5, 3, 38, 0, 0), (.iload_n 3, 1, 3, 0, 0), (.ireturn, 1, 0, 0, 0)], 38),
  (38, [(.iinc 3 1, 3, 3, 0, 1), (.goto (-28), 3, 13, 0, 0)], 44),
  (44, [(.iconst (-1), 1, 0, 0, -1), (.ireturn, 1, 0, 0, 0)], 46)]
set_option maxRecDepth 100000 in
theorem ok_X11_major : pm_oks 11 false 4 (some .int) cX11_major bk_X11_major = true := oksF_ok (by decide +kernel)
set_option maxRecDepth 100000 in
theorem me_X11_major : pm_me 216 = (yX11_major, cX11_major, 4, (some .int), 2, 0) := rfl
theorem mt_X11_major {l : Launch} {g : pm_G} {d mc ms : Nat} {as : List Value} {A : pm_H} {Q : Option Value → pm_H → Prop} (hca : pm_cat 4 as = true) (body : ∀ J : pm_J, pm_Cl l g (fun _ => none) d mc ms (pm_Rq mc ms Q) bk_X11_major J → J 0 (pm_l0 4 as) [] A 0 0) : pm_Mt l g 216 d mc ms as A Q := pm_Mt_of (isI := false) 11 bk_X11_major me_X11_major (plainFor_of_name (by decide +kernel)) (by decide +kernel) (fun h => by cases h) ok_X11_major hca body
def bk_X11_report : pm_B := [(0, [(.aload_n 0, 1, 0, 0, 0), (.iload_n 1, 1, 1, 0, 0), (.iload_n 2, 1, 2, 0, 0), (.invokevirtual 129, 3, 180, 2, 11), (.ifCond .eq 23, 3, 29, 0, 0), (.iload_n 3, 1, 3, 0, 0), (.iconst 0, 1, 0, 0, 0), (.bipush 24, 2, 0, 0, 24), (.invokestatic 74, 3, 169, 3, 0), (.ifCond .eq 13, 3, 29, 0, 0), (.iload 4, 2, 4, 0, 0), (.iconst 0, 1, 0, 0, 0), (.iconst 2, 1, 0, 0, 2), (.invokestatic 74, 3, 169, 3, 0), (.ifCond .ne 5, 3, 31, 0, 0)], 29),
  (29, [(.iconst (-1), 1, 0, 0, -1), (.ireturn, 1, 0, 0, 0)], 31),
  (31, [(.aload_n 0, 1, 0, 0, 0), (.iload_n 1, 1, 1, 0, 0), (.iload_n 2, 1, 2, 0, 0), (.iload_n 3, 1, 3, 0, 0), (.invokevirtual 181, 3, 218, 3, 11), (.istore 5, 2, 5, 0, 0), (.iload 5, 2, 5, 0, 0), (.ifCond .ge 5, 3, 47, 0, 0), (.iconst (-1), 1, 0, 0, -1), (.ireturn, 1, 0, 0, 0)], 47),
  (47, [(.iload 4, 2, 4, 0, 0), (.ifCond .ne 8, 3, 57, 0, 0), (.iload 5, 2, 5, 0, 0), (.goto 25, 3, 79, 0, 0)], 57),
  (57, [(.iload 4, 2, 4, 0, 0), (.iconst 1, 1, 0, 0, 1), (.if_icmp .ne 13, 3, 73, 0, 0), (.aload_n 0, 1, 0, 0, 0), (.getfield 7, 3, 11, 0, 0), (.iload 5, 2, 5, 0, 0), (.iaload, 1, 0, 0, 0), (.goto 9, 3, 79, 0, 0)], 73),
  (73, [(.aload_n 0, 1, 0, 0, 0), (.iload 5, 2, 5, 0, 0), (.invokevirtual 85, 3, 173, 1, 11)], 79),
  (79, [(.ireturn, 1, 0, 0, 0)], 80)]
set_option maxRecDepth 100000 in
theorem ok_X11_report : pm_oks 11 false 6 (some .int) cX11_report bk_X11_report = true := oksF_ok (by decide +kernel)
set_option maxRecDepth 100000 in
theorem me_X11_report : pm_me 217 = (yX11_report, cX11_report, 6, (some .int), 4, 0) := rfl
theorem mt_X11_report {l : Launch} {g : pm_G} {d mc ms : Nat} {as : List Value} {A : pm_H} {Q : Option Value → pm_H → Prop} (hca : pm_cat 6 as = true) (body : ∀ J : pm_J, pm_Cl l g (fun _ => none) d mc ms (pm_Rq mc ms Q) bk_X11_report J → J 0 (pm_l0 6 as) [] A 0 0) : pm_Mt l g 217 d mc ms as A Q := pm_Mt_of (isI := false) 11 bk_X11_report me_X11_report (plainFor_of_name (by decide +kernel)) (by decide +kernel) (fun h => by cases h) ok_X11_report hca body
def bk_X11_reported : pm_B := [(0, [(.ldc 177, 2, 0, 0, -268435456), (.istore 4, 2, 4, 0, 0), (.iconst (-1), 1, 0, 0, -1), (.istore 5, 2, 5, 0, 0), (.iconst 0, 1, 0, 0, 0), (.istore 6, 2, 6, 0, 0)], 10),
  (10, [(.iload 6, 2, 6, 0, 0), (.iload_n 3, 1, 3, 0, 0), (.if_icmp .gt 91, 3, 104, 0, 0), (.iconst (-1), 1, 0, 0, -1), (.istore 7, 2, 7, 0, 0), (.iload_n 1, 1, 1, 0, 0), (.istore 8, 2, 8, 0, 0)], 22),
  (22, [(.iload 8, 2, 8, 0, 0), (.iload_n 2, 1, 2, 0, 0), (.if_icmp .gt 54, 3, 79, 0, 0), (.aload_n 0, 1, 0, 0, 0), (.iload 8, 2, 8, 0, 0), (.invokevirtual 78, 3, 174, 1, 11), (.iload_n 1, 1, 1, 0, 0), (.if_icmp .ge 38, 3, 73, 0, 0), (.aload_n 0, 1, 0, 0, 0), (.iload 8, 2, 8, 0, 0), (.invokevirtual 178, 3, 219, 1, 11), (.iload 4, 2, 4, 0, 0), (.if_icmp .le 27, 3, 73, 0, 0), (.iload 7, 2, 7, 0, 0), (.ifCond .lt 18, 3, 69, 0, 0), (.aload_n 0, 1, 0, 0, 0), (.iload 8, 2, 8, 0, 0), (.invokevirtual 178, 3, 219, 1, 11), (.aload_n 0, 1, 0, 0, 0), (.iload 7, 2, 7, 0, 0), (.invokevirtual 178, 3, 219, 1, 11), (.if_icmp .ge 7, 3, 73, 0, 0)], 69),
  (69, [(.iload 8, 2, 8, 0, 0), (.istore 7, 2, 7, 0, 0)], 73),
  (73, [(.iinc 8 1, 3, 8, 0, 1), (.goto (-54), 3, 22, 0, 0)], 79),
  (79, [(.iload 7, 2, 7, 0, 0), (.ifCond .ge 5, 3, 86, 0, 0), (.iconst (-1), 1, 0, 0, -1), (.ireturn, 1, 0, 0, 0)], 86),
  (86, [(.aload_n 0, 1, 0, 0, 0), (.iload 7, 2, 7, 0, 0), (.invokevirtual 178, 3, 219, 1, 11), (.istore 4, 2, 4, 0, 0), (.iload 7, 2, 7, 0, 0), (.istore 5, 2, 5, 0, 0), (.iinc 6 1, 3, 6, 0, 1), (.goto (-91), 3, 10, 0, 0)], 104),
  (104, [(.iload 5, 2, 5, 0, 0), (.ireturn, 1, 0, 0, 0)], 107)]
set_option maxRecDepth 100000 in
theorem ok_X11_reported : pm_oks 11 false 9 (some .int) cX11_reported bk_X11_reported = true := oksF_ok (by decide +kernel)
set_option maxRecDepth 100000 in
theorem me_X11_reported : pm_me 218 = (yX11_reported, cX11_reported, 9, (some .int), 3, 0) := rfl
theorem mt_X11_reported {l : Launch} {g : pm_G} {d mc ms : Nat} {as : List Value} {A : pm_H} {Q : Option Value → pm_H → Prop} (hca : pm_cat 9 as = true) (body : ∀ J : pm_J, pm_Cl l g (fun _ => none) d mc ms (pm_Rq mc ms Q) bk_X11_reported J → J 0 (pm_l0 9 as) [] A 0 0) : pm_Mt l g 218 d mc ms as A Q := pm_Mt_of (isI := false) 11 bk_X11_reported me_X11_reported (plainFor_of_name (by decide +kernel)) (by decide +kernel) (fun h => by cases h) ok_X11_reported hca body
def bk_X11_reportKey : pm_B := [(0, [(.aload_n 0, 1, 0, 0, 0), (.iload_n 1, 1, 1, 0, 0), (.invokevirtual 78, 3, 174, 1, 11), (.ifCond .ge 11, 3, 16, 0, 0), (.iload_n 1, 1, 1, 0, 0), (.sipush 160, 3, 0, 0, 160), (.isub, 1, 0, 0, 0), (.goto 8, 3, 21, 0, 0)], 16),
  (16, [(.aload_n 0, 1, 0, 0, 0), (.iload_n 1, 1, 1, 0, 0), (.invokevirtual 78, 3, 174, 1, 11)], 21),
  (21, [(.ireturn, 1, 0, 0, 0)], 22)]
set_option maxRecDepth 100000 in
theorem ok_X11_reportKey : pm_oks 11 false 2 (some .int) cX11_reportKey bk_X11_reportKey = true := oksF_ok (by decide +kernel)
set_option maxRecDepth 100000 in
theorem me_X11_reportKey : pm_me 219 = (yX11_reportKey, cX11_reportKey, 2, (some .int), 1, 0) := rfl
theorem mt_X11_reportKey {l : Launch} {g : pm_G} {d mc ms : Nat} {as : List Value} {A : pm_H} {Q : Option Value → pm_H → Prop} (hca : pm_cat 2 as = true) (body : ∀ J : pm_J, pm_Cl l g (fun _ => none) d mc ms (pm_Rq mc ms Q) bk_X11_reportKey J → J 0 (pm_l0 2 as) [] A 0 0) : pm_Mt l g 219 d mc ms as A Q := pm_Mt_of (isI := false) 11 bk_X11_reportKey me_X11_reportKey (plainFor_of_name (by decide +kernel)) (by decide +kernel) (fun h => by cases h) ok_X11_reportKey hca body
def bk_X11_kth : pm_B := [(0, [(.aload_n 0, 1, 0, 0, 0), (.iload_n 1, 1, 1, 0, 0), (.iload_n 2, 1, 2, 0, 0), (.invokevirtual 129, 3, 180, 2, 11), (.ifCond .eq 13, 3, 19, 0, 0), (.iload 4, 2, 4, 0, 0), (.iconst 0, 1, 0, 0, 0), (.iconst 4, 1, 0, 0, 4), (.invokestatic 74, 3, 169, 3, 0), (.ifCond .ne 5, 3, 21, 0, 0)], 19),
  (19, [(.iconst (-1), 1, 0, 0, -1), (.ireturn, 1, 0, 0, 0)], 21),
  (21, [(.aload_n 0, 1, 0, 0, 0), (.iload_n 1, 1, 1, 0, 0), (.iload_n 2, 1, 2, 0, 0), (.iload 4, 2, 4, 0, 0), (.invokevirtual 188, 3, 221, 3, 11), (.istore 5, 2, 5, 0, 0), (.iload_n 3, 1, 3, 0, 0), (.iconst 0, 1, 0, 0, 0), (.iload 5, 2, 5, 0, 0), (.iconst 1, 1, 0, 0, 1), (.isub, 1, 0, 0, 0), (.invokestatic 74, 3, 169, 3, 0), (.ifCond .eq 12, 3, 52, 0, 0), (.aload_n 0, 1, 0, 0, 0), (.getfield 58, 3, 11, 23, 0), (.iload_n 3, 1, 3, 0, 0), (.iaload, 1, 0, 0, 0), (.goto 4, 3, 53, 0, 0)], 52),
  (52, [(.iconst (-1), 1, 0, 0, -1)], 53),
  (53, [(.ireturn, 1, 0, 0, 0)], 54)]
set_option maxRecDepth 100000 in
theorem ok_X11_kth : pm_oks 11 false 6 (some .int) cX11_kth bk_X11_kth = true := oksF_ok (by decide +kernel)
set_option maxRecDepth 100000 in
theorem me_X11_kth : pm_me 220 = (yX11_kth, cX11_kth, 6, (some .int), 4, 0) := rfl
theorem mt_X11_kth {l : Launch} {g : pm_G} {d mc ms : Nat} {as : List Value} {A : pm_H} {Q : Option Value → pm_H → Prop} (hca : pm_cat 6 as = true) (body : ∀ J : pm_J, pm_Cl l g (fun _ => none) d mc ms (pm_Rq mc ms Q) bk_X11_kth J → J 0 (pm_l0 6 as) [] A 0 0) : pm_Mt l g 220 d mc ms as A Q := pm_Mt_of (isI := false) 11 bk_X11_kth me_X11_kth (plainFor_of_name (by decide +kernel)) (by decide +kernel) (fun h => by cases h) ok_X11_kth hca body
