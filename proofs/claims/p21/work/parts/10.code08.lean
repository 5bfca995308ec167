/-! blocks, by a program -/
def bk_X11_alike : pm_B := [(0, [(.aload_n 0, 1, 0, 0, 0), (.iload_n 1, 1, 1, 0, 0), (.iload_n 2, 1, 2, 0, 0), (.invokevirtual 129, 3, 180, 2, 11), (.ifCond .ne 5, 3, 11, 0, 0), (.iconst (-1), 1, 0, 0, -1), (.ireturn, 1, 0, 0, 0)], 11),
  (11, [(.iconst 0, 1, 0, 0, 0), (.istore_n 3, 1, 3, 0, 0), (.iload_n 1, 1, 1, 0, 0), (.istore 4, 2, 4, 0, 0)], 16),
  (16, [(.iload 4, 2, 4, 0, 0), (.iload_n 2, 1, 2, 0, 0), (.if_icmp .gt 28, 3, 47, 0, 0), (.iload_n 3, 1, 3, 0, 0), (.aload_n 0, 1, 0, 0, 0), (.iload_n 1, 1, 1, 0, 0), (.iload 4, 2, 4, 0, 0), (.iconst 1, 1, 0, 0, 1), (.isub, 1, 0, 0, 0), (.aload_n 0, 1, 0, 0, 0), (.getfield 7, 3, 11, 0, 0), (.iload 4, 2, 4, 0, 0), (.iaload, 1, 0, 0, 0), (.invokevirtual 148, 3, 200, 3, 11), (.iadd, 1, 0, 0, 0), (.istore_n 3, 1, 3, 0, 0), (.iinc 4 1, 3, 4, 0, 1), (.goto (-28), 3, 16, 0, 0)], 47),
  (47, [(.iload_n 3, 1, 3, 0, 0), (.ireturn, 1, 0, 0, 0)], 49)]
set_option maxRecDepth 100000 in
theorem ok_X11_alike : pm_oks 11 false 5 (some .int) cX11_alike bk_X11_alike = true := oksF_ok (by decide +kernel)
set_option maxRecDepth 100000 in
theorem me_X11_alike : pm_me 244 = (yX11_alike, cX11_alike, 5, (some .int), 2, 0) := rfl
theorem mt_X11_alike {l : Launch} {g : pm_G} {d mc ms : Nat} {as : List Value} {A : pm_H} {Q : Option Value → pm_H → Prop} (hca : pm_cat 5 as = true) (body : ∀ J : pm_J, pm_Cl l g (fun _ => none) d mc ms (pm_Rq mc ms Q) bk_X11_alike J → J 0 (pm_l0 5 as) [] A 0 0) : pm_Mt l g 244 d mc ms as A Q := pm_Mt_of (isI := false) 11 bk_X11_alike me_X11_alike (plainFor_of_name (by decide +kernel)) (by decide +kernel) (fun h => by cases h) ok_X11_alike hca body
def bk_X11_even : pm_B := [(0, [(.aload_n 0, 1, 0, 0, 0), (.iload_n 1, 1, 1, 0, 0), (.iload_n 2, 1, 2, 0, 0), (.invokevirtual 129, 3, 180, 2, 11), (.ifCond .ne 5, 3, 11, 0, 0), (.iconst (-1), 1, 0, 0, -1), (.ireturn, 1, 0, 0, 0)], 11),
  (11, [(.iconst (-1), 1, 0, 0, -1), (.istore_n 3, 1, 3, 0, 0), (.ldc 222, 2, 0, 0, 268435456), (.istore 4, 2, 4, 0, 0), (.iload_n 1, 1, 1, 0, 0), (.istore 5, 2, 5, 0, 0)], 20),
  (20, [(.iload 5, 2, 5, 0, 0), (.iload_n 2, 1, 2, 0, 0), (.if_icmp .ge 60, 3, 83, 0, 0), (.aload_n 0, 1, 0, 0, 0), (.iload_n 1, 1, 1, 0, 0), (.iload 5, 2, 5, 0, 0), (.invokevirtual 171, 3, 209, 2, 11), (.aload_n 0, 1, 0, 0, 0), (.iload 5, 2, 5, 0, 0), (.iconst 1, 1, 0, 0, 1), (.iadd, 1, 0, 0, 0), (.iload_n 2, 1, 2, 0, 0), (.invokevirtual 171, 3, 209, 2, 11), (.isub, 1, 0, 0, 0), (.istore 6, 2, 6, 0, 0), (.iload 6, 2, 6, 0, 0), (.ifCond .ge 9, 3, 56, 0, 0), (.iload 6, 2, 6, 0, 0), (.ineg, 1, 0, 0, 0), (.goto 5, 3, 58, 0, 0)], 56),
  (56, [(.iload 6, 2, 6, 0, 0)], 58),
  (58, [(.istore 7, 2, 7, 0, 0), (.iload 7, 2, 7, 0, 0), (.iload 4, 2, 4, 0, 0), (.if_icmp .lt 6, 3, 70, 0, 0), (.goto 10, 3, 77, 0, 0)], 70),
  (70, [(.iload 5, 2, 5, 0, 0), (.istore_n 3, 1, 3, 0, 0), (.iload 7, 2, 7, 0, 0), (.istore 4, 2, 4, 0, 0)], 77),
  (77, [(.iinc 5 1, 3, 5, 0, 1), (.goto (-60), 3, 20, 0, 0)], 83),
  (83, [(.iload_n 3, 1, 3, 0, 0), (.ireturn, 1, 0, 0, 0)], 85)]
set_option maxRecDepth 100000 in
theorem ok_X11_even : pm_oks 11 false 8 (some .int) cX11_even bk_X11_even = true := oksF_ok (by decide +kernel)
set_option maxRecDepth 100000 in
theorem me_X11_even : pm_me 245 = (yX11_even, cX11_even, 8, (some .int), 2, 0) := rfl
theorem mt_X11_even {l : Launch} {g : pm_G} {d mc ms : Nat} {as : List Value} {A : pm_H} {Q : Option Value → pm_H → Prop} (hca : pm_cat 8 as = true) (body : ∀ J : pm_J, pm_Cl l g (fun _ => none) d mc ms (pm_Rq mc ms Q) bk_X11_even J → J 0 (pm_l0 8 as) [] A 0 0) : pm_Mt l g 245 d mc ms as A Q := pm_Mt_of (isI := false) 11 bk_X11_even me_X11_even (plainFor_of_name (by decide +kernel)) (by decide +kernel) (fun h => by cases h) ok_X11_even hca body
def bk_X11_apart : pm_B := [(0, [(.iload_n 1, 1, 1, 0, 0), (.invokestatic 122, 3, 170, 1, 0), (.ifCond .eq 24, 3, 28, 0, 0), (.iload_n 2, 1, 2, 0, 0), (.invokestatic 122, 3, 170, 1, 0), (.ifCond .eq 17, 3, 28, 0, 0), (.iload_n 1, 1, 1, 0, 0), (.iload_n 2, 1, 2, 0, 0), (.if_icmp .eq 12, 3, 28, 0, 0), (.iload_n 3, 1, 3, 0, 0), (.iconst 0, 1, 0, 0, 0), (.iconst 1, 1, 0, 0, 1), (.invokestatic 74, 3, 169, 3, 0), (.ifCond .ne 5, 3, 30, 0, 0)], 28),
  (28, [(.iconst (-1), 1, 0, 0, -1), (.ireturn, 1, 0, 0, 0)], 30),
  (30, [(.iconst (-1), 1, 0, 0, -1), (.istore 4, 2, 4, 0, 0), (.ldc 222, 2, 0, 0, 268435456), (.istore 5, 2, 5, 0, 0), (.iconst 0, 1, 0, 0, 0), (.istore 6, 2, 6, 0, 0)], 40),
  (40, [(.iload 6, 2, 6, 0, 0), (.aload_n 0, 1, 0, 0, 0), (.getfield 70, 3, 11, 7, 0), (.if_icmp .ge 89, 3, 135, 0, 0), (.aload_n 0, 1, 0, 0, 0), (.getfield 7, 3, 11, 0, 0), (.iload 6, 2, 6, 0, 0), (.iaload, 1, 0, 0, 0), (.iload_n 1, 1, 1, 0, 0), (.if_icmp .eq 17, 3, 74, 0, 0), (.aload_n 0, 1, 0, 0, 0), (.getfield 7, 3, 11, 0, 0), (.iload 6, 2, 6, 0, 0), (.iaload, 1, 0, 0, 0), (.iload_n 2, 1, 2, 0, 0), (.if_icmp .eq 6, 3, 74, 0, 0), (.goto 58, 3, 129, 0, 0)], 74),
  (74, [(.aload_n 0, 1, 0, 0, 0), (.aload_n 0, 1, 0, 0, 0), (.getfield 7, 3, 11, 0, 0), (.iload 6, 2, 6, 0, 0), (.iaload, 1, 0, 0, 0), (.iload_n 1, 1, 1, 0, 0), (.if_icmp .ne 7, 3, 90, 0, 0), (.iload_n 2, 1, 2, 0, 0), (.goto 4, 3, 91, 0, 0)], 90),
  (90, [(.iload_n 1, 1, 1, 0, 0)], 91),
  (91, [(.iload 6, 2, 6, 0, 0), (.invokevirtual 223, 3, 247, 2, 11), (.istore 7, 2, 7, 0, 0), (.iload 7, 2, 7, 0, 0), (.iload 6, 2, 6, 0, 0), (.isub, 1, 0, 0, 0), (.iload 5, 2, 5, 0, 0), (.if_icmp .ge 24, 3, 129, 0, 0), (.iload 7, 2, 7, 0, 0), (.ldc 222, 2, 0, 0, 268435456), (.if_icmp .ne 6, 3, 118, 0, 0), (.goto 14, 3, 129, 0, 0)], 118),
  (118, [(.iload 6, 2, 6, 0, 0), (.istore 4, 2, 4, 0, 0), (.iload 7, 2, 7, 0, 0), (.iload 6, 2, 6, 0, 0), (.isub, 1, 0, 0, 0), (.istore 5, 2, 5, 0, 0)], 129),
  (129, [(.iinc 6 1, 3, 6, 0, 1), (.goto (-92), 3, 40, 0, 0)], 135),
  (135, [(.iload 4, 2, 4, 0, 0), (.ifCond .lt 8, 3, 145, 0, 0), (.iload_n 3, 1, 3, 0, 0), (.iconst 1, 1, 0, 0, 1), (.if_icmp .ne 8, 3, 150, 0, 0)], 145),
  (145, [(.iload 4, 2, 4, 0, 0), (.goto 5, 3, 152, 0, 0)], 150),
  (150, [(.iload 5, 2, 5, 0, 0)], 152),
  (152, [(.ireturn, 1, 0, 0, 0)], 153)]
set_option maxRecDepth 100000 in
theorem ok_X11_apart : pm_oks 11 false 8 (some .int) cX11_apart bk_X11_apart = true := oksF_ok (by decide +kernel)
set_option maxRecDepth 100000 in
theorem me_X11_apart : pm_me 246 = (yX11_apart, cX11_apart, 8, (some .int), 3, 0) := rfl
theorem mt_X11_apart {l : Launch} {g : pm_G} {d mc ms : Nat} {as : List Value} {A : pm_H} {Q : Option Value → pm_H → Prop} (hca : pm_cat 8 as = true) (body : ∀ J : pm_J, pm_Cl l g (fun _ => none) d mc ms (pm_Rq mc ms Q) bk_X11_apart J → J 0 (pm_l0 8 as) [] A 0 0) : pm_Mt l g 246 d mc ms as A Q := pm_Mt_of (isI := false) 11 bk_X11_apart me_X11_apart (plainFor_of_name (by decide +kernel)) (by decide +kernel) (fun h => by cases h) ok_X11_apart hca body
def bk_X11_nextBehind : pm_B := [(0, [(.iload_n 2, 1, 2, 0, 0), (.iconst 1, 1, 0, 0, 1), (.iadd, 1, 0, 0, 0), (.istore_n 3, 1, 3, 0, 0)], 4),
  (4, [(.iload_n 3, 1, 3, 0, 0), (.aload_n 0, 1, 0, 0, 0), (.getfield 70, 3, 11, 7, 0), (.if_icmp .ge 21, 3, 30, 0, 0), (.aload_n 0, 1, 0, 0, 0), (.getfield 7, 3, 11, 0, 0), (.iload_n 3, 1, 3, 0, 0), (.iaload, 1, 0, 0, 0), (.iload_n 1, 1, 1, 0, 0), (.if_icmp .ne 5, 3, 24, 0, 0), (.iload_n 3, 1, 3, 0, 0), (.ireturn, 1, 0, 0, 0)], 24),
  (24, [(.iinc 3 1, 3, 3, 0, 1), (.goto (-23), 3, 4, 0, 0)], 30),
  (30, [(.ldc 222, 2, 0, 0, 268435456), (.ireturn, 1, 0, 0, 0)], 33)]
set_option maxRecDepth 100000 in
theorem ok_X11_nextBehind : pm_oks 11 false 4 (some .int) cX11_nextBehind bk_X11_nextBehind = true := oksF_ok (by decide +kernel)
set_option maxRecDepth 100000 in
theorem me_X11_nextBehind : pm_me 247 = (yX11_nextBehind, cX11_nextBehind, 4, (some .int), 2, 0) := rfl
theorem mt_X11_nextBehind {l : Launch} {g : pm_G} {d mc ms : Nat} {as : List Value} {A : pm_H} {Q : Option Value → pm_H → Prop} (hca : pm_cat 4 as = true) (body : ∀ J : pm_J, pm_Cl l g (fun _ => none) d mc ms (pm_Rq mc ms Q) bk_X11_nextBehind J → J 0 (pm_l0 4 as) [] A 0 0) : pm_Mt l g 247 d mc ms as A Q := pm_Mt_of (isI := false) 11 bk_X11_nextBehind me_X11_nextBehind (plainFor_of_name (by decide +kernel)) (by decide +kernel) (fun h => by cases h) ok_X11_nextBehind hca body
def bk_X11_reach : pm_B := [(0, [(.aload_n 0, 1, 0, 0, 0), (.iload_n 1, 1, 1, 0, 0), (.invokevirtual 119, 3, 168, 1, 11), (.ifCond .eq 8, 3, 13, 0, 0), (.iload_n 2, 1, 2, 0, 0), (.iconst 1, 1, 0, 0, 1), (.if_icmp .ge 5, 3, 15, 0, 0)], 13),
  (13, [(.iconst (-1), 1, 0, 0, -1), (.ireturn, 1, 0, 0, 0)], 15),
  (15, [(.iload_n 1, 1, 1, 0, 0), (.istore_n 3, 1, 3, 0, 0)], 17),
  (17, [(.iload_n 3, 1, 3, 0, 0), (.aload_n 0, 1, 0, 0, 0), (.getfield 70, 3, 11, 7, 0), (.if_icmp .ge 21, 3, 43, 0, 0), (.aload_n 0, 1, 0, 0, 0), (.iload_n 1, 1, 1, 0, 0), (.iload_n 3, 1, 3, 0, 0), (.invokevirtual 171, 3, 209, 2, 11), (.iload_n 2, 1, 2, 0, 0), (.if_icmp .lt 5, 3, 37, 0, 0), (.iload_n 3, 1, 3, 0, 0), (.ireturn, 1, 0, 0, 0)], 37),
  (37, [(.iinc 3 1, 3, 3, 0, 1), (.goto (-23), 3, 17, 0, 0)], 43),
  (43, [(.iconst (-1), 1, 0, 0, -1), (.ireturn, 1, 0, 0, 0)], 45)]
set_option maxRecDepth 100000 in
theorem ok_X11_reach : pm_oks 11 false 4 (some .int) cX11_reach bk_X11_reach = true := oksF_ok (by decide +kernel)
set_option maxRecDepth 100000 in
theorem me_X11_reach : pm_me 248 = (yX11_reach, cX11_reach, 4, (some .int), 2, 0) := rfl
theorem mt_X11_reach {l : Launch} {g : pm_G} {d mc ms : Nat} {as : List Value} {A : pm_H} {Q : Option Value → pm_H → Prop} (hca : pm_cat 4 as = true) (body : ∀ J : pm_J, pm_Cl l g (fun _ => none) d mc ms (pm_Rq mc ms Q) bk_X11_reach J → J 0 (pm_l0 4 as) [] A 0 0) : pm_Mt l g 248 d mc ms as A Q := pm_Mt_of (isI := false) 11 bk_X11_reach me_X11_reach (plainFor_of_name (by decide +kernel)) (by decide +kernel) (fun h => by cases h) ok_X11_reach hca body
def bk_X11_reachBack : pm_B := [(0, [(.aload_n 0, 1, 0, 0, 0), (.iload_n 1, 1, 1, 0, 0), (.invokevirtual 119, 3, 168, 1, 11), (.ifCond .eq 8, 3, 13, 0, 0), (.iload_n 2, 1, 2, 0, 0), (.iconst 1, 1, 0, 0, 1), (.if_icmp .ge 5, 3, 15, 0, 0)], 13),
  (13, [(.iconst (-1), 1, 0, 0, -1), (.ireturn, 1, 0, 0, 0)], 15),
  (15, [(.iload_n 1, 1, 1, 0, 0), (.istore_n 3, 1, 3, 0, 0)], 17),
  (17, [(.iload_n 3, 1, 3, 0, 0), (.ifCond .lt 21, 3, 39, 0, 0), (.aload_n 0, 1, 0, 0, 0), (.iload_n 3, 1, 3, 0, 0), (.iload_n 1, 1, 1, 0, 0), (.invokevirtual 171, 3, 209, 2, 11), (.iload_n 2, 1, 2, 0, 0), (.if_icmp .lt 5, 3, 33, 0, 0), (.iload_n 3, 1, 3, 0, 0), (.ireturn, 1, 0, 0, 0)], 33),
  (33, [(.iinc 3 (-1), 3, 3, 0, -1), (.goto (-19), 3, 17, 0, 0)], 39),
  (39, [(.iconst (-1), 1, 0, 0, -1), (.ireturn, 1, 0, 0, 0)], 41)]
set_option maxRecDepth 100000 in
theorem ok_X11_reachBack : pm_oks 11 false 4 (some .int) cX11_reachBack bk_X11_reachBack = true := oksF_ok (by decide +kernel)
set_option maxRecDepth 100000 in
theorem me_X11_reachBack : pm_me 249 = (yX11_reachBack, cX11_reachBack, 4, (some .int), 2, 0) := rfl
theorem mt_X11_reachBack {l : Launch} {g : pm_G} {d mc ms : Nat} {as : List Value} {A : pm_H} {Q : Option Value → pm_H → Prop} (hca : pm_cat 4 as = true) (body : ∀ J : pm_J, pm_Cl l g (fun _ => none) d mc ms (pm_Rq mc ms Q) bk_X11_reachBack J → J 0 (pm_l0 4 as) [] A 0 0) : pm_Mt l g 249 d mc ms as A Q := pm_Mt_of (isI := false) 11 bk_X11_reachBack me_X11_reachBack (plainFor_of_name (by decide +kernel)) (by decide +kernel) (fun h => by cases h) ok_X11_reachBack hca body
def bk_X11_load : pm_B := [(0, [(.aload_n 0, 1, 0, 0, 0), (.iload_n 1, 1, 1, 0, 0), (.invokevirtual 119, 3, 168, 1, 11), (.ifCond .eq 8, 3, 13, 0, 0), (.iload_n 2, 1, 2, 0, 0), (.iconst 1, 1, 0, 0, 1), (.if_icmp .ge 5, 3, 15, 0, 0)], 13),
  (13, [(.iconst (-1), 1, 0, 0, -1), (.ireturn, 1, 0, 0, 0)], 15),
  (15, [(.iload_n 1, 1, 1, 0, 0), (.istore_n 3, 1, 3, 0, 0)], 17),
  (17, [(.iload_n 3, 1, 3, 0, 0), (.aload_n 0, 1, 0, 0, 0), (.getfield 70, 3, 11, 7, 0), (.if_icmp .ge 25, 3, 47, 0, 0), (.aload_n 0, 1, 0, 0, 0), (.aload_n 0, 1, 0, 0, 0), (.iload_n 1, 1, 1, 0, 0), (.iload_n 3, 1, 3, 0, 0), (.invokevirtual 161, 3, 206, 2, 11), (.invokevirtual 174, 3, 211, 1, 11), (.iload_n 2, 1, 2, 0, 0), (.if_icmp .lt 5, 3, 41, 0, 0), (.iload_n 3, 1, 3, 0, 0), (.ireturn, 1, 0, 0, 0)], 41),
  (41, [(.iinc 3 1, 3, 3, 0, 1), (.goto (-27), 3, 17, 0, 0)], 47),
  (47, [(.iconst (-1), 1, 0, 0, -1), (.ireturn, 1, 0, 0, 0)], 49)]
set_option maxRecDepth 100000 in
theorem ok_X11_load : pm_oks 11 false 4 (some .int) cX11_load bk_X11_load = true := oksF_ok (by decide +kernel)
set_option maxRecDepth 100000 in
theorem me_X11_load : pm_me 250 = (yX11_load, cX11_load, 4, (some .int), 2, 0) := rfl
theorem mt_X11_load {l : Launch} {g : pm_G} {d mc ms : Nat} {as : List Value} {A : pm_H} {Q : Option Value → pm_H → Prop} (hca : pm_cat 4 as = true) (body : ∀ J : pm_J, pm_Cl l g (fun _ => none) d mc ms (pm_Rq mc ms Q) bk_X11_load J → J 0 (pm_l0 4 as) [] A 0 0) : pm_Mt l g 250 d mc ms as A Q := pm_Mt_of (isI := false) 11 bk_X11_load me_X11_load (plainFor_of_name (by decide +kernel)) (by decide +kernel) (fun h => by cases h) ok_X11_load hca body
def bk_X11_window : pm_B := [(0, [(.iload_n 1, 1, 1, 0, 0), (.iconst 1, 1, 0, 0, 1), (.ldc 226, 2, 0, 0, 16777215), (.invokestatic 74, 3, 169, 3, 0), (.ifCond .eq 12, 3, 19, 0, 0), (.iload_n 2, 1, 2, 0, 0), (.iconst 0, 1, 0, 0, 0), (.iconst 2, 1, 0, 0, 2), (.invokestatic 74, 3, 169, 3, 0), (.ifCond .ne 5, 3, 21, 0, 0)], 19),
  (19, [(.iconst (-1), 1, 0, 0, -1), (.ireturn, 1, 0, 0, 0)], 21),
  (21, [(.iconst 0, 1, 0, 0, 0), (.istore_n 3, 1, 3, 0, 0), (.iconst (-1), 1, 0, 0, -1), (.istore 4, 2, 4, 0, 0), (.iconst 0, 1, 0, 0, 0), (.istore 5, 2, 5, 0, 0), (.iconst 0, 1, 0, 0, 0), (.istore 6, 2, 6, 0, 0)], 32),
  (32, [(.iload 6, 2, 6, 0, 0), (.aload_n 0, 1, 0, 0, 0), (.getfield 70, 3, 11, 7, 0), (.if_icmp .ge 114, 3, 152, 0, 0), (.iconst 0, 1, 0, 0, 0), (.istore 7, 2, 7, 0, 0), (.iload 6, 2, 6, 0, 0), (.istore 8, 2, 8, 0, 0)], 48),
  (48, [(.iload 8, 2, 8, 0, 0), (.aload_n 0, 1, 0, 0, 0), (.getfield 70, 3, 11, 7, 0), (.if_icmp .ge 41, 3, 95, 0, 0), (.iload 7, 2, 7, 0, 0), (.iconst 1, 1, 0, 0, 1), (.aload_n 0, 1, 0, 0, 0), (.getfield 7, 3, 11, 0, 0), (.iload 8, 2, 8, 0, 0), (.iaload, 1, 0, 0, 0), (.ishl, 1, 0, 0, 0), (.ior, 1, 0, 0, 0), (.iload_n 1, 1, 1, 0, 0), (.iand, 1, 0, 0, 0), (.iload_n 1, 1, 1, 0, 0), (.if_icmp .eq 23, 3, 95, 0, 0), (.iload 7, 2, 7, 0, 0), (.iconst 1, 1, 0, 0, 1), (.aload_n 0, 1, 0, 0, 0), (.getfield 7, 3, 11, 0, 0), (.iload 8, 2, 8, 0, 0), (.iaload, 1, 0, 0, 0), (.ishl, 1, 0, 0, 0), (.ior, 1, 0, 0, 0), (.istore 7, 2, 7, 0, 0), (.iinc 8 1, 3, 8, 0, 1), (.goto (-44), 3, 48, 0, 0)], 95),
  (95, [(.iload 8, 2, 8, 0, 0), (.aload_n 0, 1, 0, 0, 0), (.getfield 70, 3, 11, 7, 0), (.if_icmp .ne 6, 3, 107, 0, 0), (.goto 42, 3, 146, 0, 0)], 107),
  (107, [(.iload_n 3, 1, 3, 0, 0), (.aload_n 0, 1, 0, 0, 0), (.getfield 70, 3, 11, 7, 0), (.iload 8, 2, 8, 0, 0), (.isub, 1, 0, 0, 0), (.iadd, 1, 0, 0, 0), (.istore_n 3, 1, 3, 0, 0), (.iload 4, 2, 4, 0, 0), (.ifCond .lt 19, 3, 138, 0, 0), (.iload 8, 2, 8, 0, 0), (.iload 6, 2, 6, 0, 0), (.isub, 1, 0, 0, 0), (.iload 5, 2, 5, 0, 0), (.iload 4, 2, 4, 0, 0), (.isub, 1, 0, 0, 0), (.if_icmp .lt 6, 3, 138, 0, 0), (.goto 11, 3, 146, 0, 0)], 138),
  (138, [(.iload 6, 2, 6, 0, 0), (.istore 4, 2, 4, 0, 0), (.iload 8, 2, 8, 0, 0), (.istore 5, 2, 5, 0, 0)], 146),
  (146, [(.iinc 6 1, 3, 6, 0, 1), (.goto (-117), 3, 32, 0, 0)], 152),
  (152, [(.iload_n 2, 1, 2, 0, 0), (.iconst 2, 1, 0, 0, 2), (.if_icmp .ne 7, 3, 161, 0, 0), (.iload_n 3, 1, 3, 0, 0), (.goto 23, 3, 181, 0, 0)], 161),
  (161, [(.iload 4, 2, 4, 0, 0), (.ifCond .ge 7, 3, 170, 0, 0), (.iconst (-1), 1, 0, 0, -1), (.goto 14, 3, 181, 0, 0)], 170),
  (170, [(.iload_n 2, 1, 2, 0, 0), (.ifCond .ne 8, 3, 179, 0, 0), (.iload 4, 2, 4, 0, 0), (.goto 5, 3, 181, 0, 0)], 179),
  (179, [(.iload 5, 2, 5, 0, 0)], 181),
  (181, [(.ireturn, 1, 0, 0, 0)], 182)]
set_option maxRecDepth 100000 in
theorem ok_X11_window : pm_oks 11 false 9 (some .int) cX11_window bk_X11_window = true := oksF_ok (by decide +kernel)
set_option maxRecDepth 100000 in
theorem me_X11_window : pm_me 251 = (yX11_window, cX11_window, 9, (some .int), 2, 0) := rfl
theorem mt_X11_window {l : Launch} {g : pm_G} {d mc ms : Nat} {as : List Value} {A : pm_H} {Q : Option Value → pm_H → Prop} (hca : pm_cat 9 as = true) (body : ∀ J : pm_J, pm_Cl l g (fun _ => none) d mc ms (pm_Rq mc ms Q) bk_X11_window J → J 0 (pm_l0 9 as) [] A 0 0) : pm_Mt l g 251 d mc ms as A Q := pm_Mt_of (isI := false) 11 bk_X11_window me_X11_window (plainFor_of_name (by decide +kernel)) (by decide +kernel) (fun h => by cases h) ok_X11_window hca body
def bk_X11_longest : pm_B := [(0, [(.iload_n 1, 1, 1, 0, 0), (.iconst 1, 1, 0, 0, 1), (.if_icmp .lt 19, 3, 21, 0, 0), (.aload_n 0, 1, 0, 0, 0), (.getfield 70, 3, 11, 7, 0), (.ifCond .eq 12, 3, 21, 0, 0), (.iload_n 2, 1, 2, 0, 0), (.iconst 0, 1, 0, 0, 0), (.iconst 1, 1, 0, 0, 1), (.invokestatic 74, 3, 169, 3, 0), (.ifCond .ne 5, 3, 23, 0, 0)], 21),
  (21, [(.iconst (-1), 1, 0, 0, -1), (.ireturn, 1, 0, 0, 0)], 23),
  (23, [(.iconst 0, 1, 0, 0, 0), (.istore_n 3, 1, 3, 0, 0), (.iconst (-1), 1, 0, 0, -1), (.istore 4, 2, 4, 0, 0), (.iconst 0, 1, 0, 0, 0), (.istore 5, 2, 5, 0, 0)], 31),
  (31, [(.iload 5, 2, 5, 0, 0), (.aload_n 0, 1, 0, 0, 0), (.getfield 70, 3, 11, 7, 0), (.if_icmp .ge 40, 3, 77, 0, 0), (.aload_n 0, 1, 0, 0, 0), (.iload 5, 2, 5, 0, 0), (.iload_n 1, 1, 1, 0, 0), (.invokevirtual 227, 3, 253, 2, 11), (.istore 6, 2, 6, 0, 0), (.iload 6, 2, 6, 0, 0), (.iload 5, 2, 5, 0, 0), (.isub, 1, 0, 0, 0), (.iload 4, 2, 4, 0, 0), (.iload_n 3, 1, 3, 0, 0), (.isub, 1, 0, 0, 0), (.if_icmp .gt 6, 3, 64, 0, 0), (.goto 10, 3, 71, 0, 0)], 64),
  (64, [(.iload 5, 2, 5, 0, 0), (.istore_n 3, 1, 3, 0, 0), (.iload 6, 2, 6, 0, 0), (.istore 4, 2, 4, 0, 0)], 71),
  (71, [(.iinc 5 1, 3, 5, 0, 1), (.goto (-43), 3, 31, 0, 0)], 77),
  (77, [(.iload_n 2, 1, 2, 0, 0), (.ifCond .ne 7, 3, 85, 0, 0), (.iload_n 3, 1, 3, 0, 0), (.goto 5, 3, 87, 0, 0)], 85),
  (85, [(.iload 4, 2, 4, 0, 0)], 87),
  (87, [(.ireturn, 1, 0, 0, 0)], 88)]
set_option maxRecDepth 100000 in
theorem ok_X11_longest : pm_oks 11 false 7 (some .int) cX11_longest bk_X11_longest = true := oksF_ok (by decide +kernel)
set_option maxRecDepth 100000 in
theorem me_X11_longest : pm_me 252 = (yX11_longest, cX11_longest, 7, (some .int), 2, 0) := rfl
theorem mt_X11_longest {l : Launch} {g : pm_G} {d mc ms : Nat} {as : List Value} {A : pm_H} {Q : Option Value → pm_H → Prop} (hca : pm_cat 7 as = true) (body : ∀ J : pm_J, pm_Cl l g (fun _ => none) d mc ms (pm_Rq mc ms Q) bk_X11_longest J → J 0 (pm_l0 7 as) [] A 0 0) : pm_Mt l g 252 d mc ms as A Q := pm_Mt_of (isI := false) 11 bk_X11_longest me_X11_longest (plainFor_of_name (by decide +kernel)) (by decide +kernel) (fun h => by cases h) ok_X11_longest hca body
def bk_X11_farthest : pm_B := [(0, [(.iconst 0, 1, 0, 0, 0), (.istore_n 3, 1, 3, 0, 0), (.iload_n 1, 1, 1, 0, 0), (.istore 4, 2, 4, 0, 0)], 5),
  (5, [(.iload 4, 2, 4, 0, 0), (.aload_n 0, 1, 0, 0, 0), (.getfield 70, 3, 11, 7, 0), (.if_icmp .ge 39, 3, 50, 0, 0), (.iload_n 3, 1, 3, 0, 0), (.iconst 1, 1, 0, 0, 1), (.aload_n 0, 1, 0, 0, 0), (.getfield 7, 3, 11, 0, 0), (.iload 4, 2, 4, 0, 0), (.iaload, 1, 0, 0, 0), (.ishl, 1, 0, 0, 0), (.ior, 1, 0, 0, 0), (.invokestatic 165, 3, 207, 1, 0), (.iload_n 2, 1, 2, 0, 0), (.if_icmp .gt 21, 3, 50, 0, 0), (.iload_n 3, 1, 3, 0, 0), (.iconst 1, 1, 0, 0, 1), (.aload_n 0, 1, 0, 0, 0), (.getfield 7, 3, 11, 0, 0), (.iload 4, 2, 4, 0, 0), (.iaload, 1, 0, 0, 0), (.ishl, 1, 0, 0, 0), (.ior, 1, 0, 0, 0), (.istore_n 3, 1, 3, 0, 0), (.iinc 4 1, 3, 4, 0, 1), (.goto (-42), 3, 5, 0, 0)], 50),
  (50, [(.iload 4, 2, 4, 0, 0), (.iconst 1, 1, 0, 0, 1), (.isub, 1, 0, 0, 0), (.ireturn, 1, 0, 0, 0)], 55)]
set_option maxRecDepth 100000 in
theorem ok_X11_farthest : pm_oks 11 false 5 (some .int) cX11_farthest bk_X11_farthest = true := oksF_ok (by decide +kernel)
set_option maxRecDepth 100000 in
theorem me_X11_farthest : pm_me 253 = (yX11_farthest, cX11_farthest, 5, (some .int), 2, 0) := rfl
theorem mt_X11_farthest {l : Launch} {g : pm_G} {d mc ms : Nat} {as : List Value} {A : pm_H} {Q : Option Value → pm_H → Prop} (hca : pm_cat 5 as = true) (body : ∀ J : pm_J, pm_Cl l g (fun _ => none) d mc ms (pm_Rq mc ms Q) bk_X11_farthest J → J 0 (pm_l0 5 as) [] A 0 0) : pm_Mt l g 253 d mc ms as A Q := pm_Mt_of (isI := false) 11 bk_X11_farthest me_X11_farthest (plainFor_of_name (by decide +kernel)) (by decide +kernel) (fun h => by cases h) ok_X11_farthest hca body
def bk_X11_unlike : pm_B := [(0, [(.aload_n 0, 1, 0, 0, 0), (.getfield 70, 3, 11, 7, 0), (.ifCond .eq 12, 3, 16, 0, 0), (.iload_n 1, 1, 1, 0, 0), (.iconst 0, 1, 0, 0, 0), (.iconst 1, 1, 0, 0, 1), (.invokestatic 74, 3, 169, 3, 0), (.ifCond .ne 5, 3, 18, 0, 0)], 16),
  (16, [(.iconst (-1), 1, 0, 0, -1), (.ireturn, 1, 0, 0, 0)], 18),
  (18, [(.iconst 0, 1, 0, 0, 0), (.istore_n 2, 1, 2, 0, 0), (.iconst (-1), 1, 0, 0, -1), (.istore_n 3, 1, 3, 0, 0), (.iconst 0, 1, 0, 0, 0), (.istore 4, 2, 4, 0, 0)], 25),
  (25, [(.iload 4, 2, 4, 0, 0), (.aload_n 0, 1, 0, 0, 0), (.getfield 70, 3, 11, 7, 0), (.if_icmp .ge 63, 3, 94, 0, 0), (.iload 4, 2, 4, 0, 0), (.istore 5, 2, 5, 0, 0)], 38),
  (38, [(.iload 5, 2, 5, 0, 0), (.iconst 1, 1, 0, 0, 1), (.iadd, 1, 0, 0, 0), (.aload_n 0, 1, 0, 0, 0), (.getfield 70, 3, 11, 7, 0), (.if_icmp .ge 22, 3, 68, 0, 0), (.aload_n 0, 1, 0, 0, 0), (.iload 5, 2, 5, 0, 0), (.iconst 1, 1, 0, 0, 1), (.iadd, 1, 0, 0, 0), (.invokevirtual 78, 3, 174, 1, 11), (.iload 4, 2, 4, 0, 0), (.if_icmp .ge 9, 3, 68, 0, 0), (.iinc 5 1, 3, 5, 0, 1), (.goto (-27), 3, 38, 0, 0)], 68),
  (68, [(.iload 5, 2, 5, 0, 0), (.iload 4, 2, 4, 0, 0), (.isub, 1, 0, 0, 0), (.iload_n 3, 1, 3, 0, 0), (.iload_n 2, 1, 2, 0, 0), (.isub, 1, 0, 0, 0), (.if_icmp .gt 6, 3, 82, 0, 0), (.goto 9, 3, 88, 0, 0)], 82),
  (82, [(.iload 4, 2, 4, 0, 0), (.istore_n 2, 1, 2, 0, 0), (.iload 5, 2, 5, 0, 0), (.istore_n 3, 1, 3, 0, 0)], 88),
  (88, [(.iinc 4 1, 3, 4, 0, 1), (.goto (-66), 3, 25, 0, 0)], 94),
  (94, [(.iload_n 1, 1, 1, 0, 0), (.ifCond .ne 7, 3, 102, 0, 0), (.iload_n 2, 1, 2, 0, 0), (.goto 4, 3, 103, 0, 0)], 102),
  (102, [(.iload_n 3, 1, 3, 0, 0)], 103),
  (103, [(.ireturn, 1, 0, 0, 0)], 104)]
set_option maxRecDepth 100000 in
theorem ok_X11_unlike : pm_oks 11 false 6 (some .int) cX11_unlike bk_X11_unlike = true := oksF_ok (by decide +kernel)
set_option maxRecDepth 100000 in
theorem me_X11_unlike : pm_me 254 = (yX11_unlike, cX11_unlike, 6, (some .int), 1, 0) := rfl
theorem mt_X11_unlike {l : Launch} {g : pm_G} {d mc ms : Nat} {as : List Value} {A : pm_H} {Q : Option Value → pm_H → Prop} (hca : pm_cat 6 as = true) (body : ∀ J : pm_J, pm_Cl l g (fun _ => none) d mc ms (pm_Rq mc ms Q) bk_X11_unlike J → J 0 (pm_l0 6 as) [] A 0 0) : pm_Mt l g 254 d mc ms as A Q := pm_Mt_of (isI := false) 11 bk_X11_unlike me_X11_unlike (plainFor_of_name (by decide +kernel)) (by decide +kernel) (fun h => by cases h) ok_X11_unlike hca body
def bk_X11_heaviest : pm_B := [(0, [(.iload_n 1, 1, 1, 0, 0), (.iconst 1, 1, 0, 0, 1), (.aload_n 0, 1, 0, 0, 0), (.getfield 70, 3, 11, 7, 0), (.invokestatic 74, 3, 169, 3, 0), (.ifCond .eq 12, 3, 21, 0, 0), (.iload_n 2, 1, 2, 0, 0), (.iconst 0, 1, 0, 0, 0), (.iconst 1, 1, 0, 0, 1), (.invokestatic 74, 3, 169, 3, 0), (.ifCond .ne 5, 3, 23, 0, 0)], 21),
  (21, [(.iconst (-1), 1, 0, 0, -1), (.ireturn, 1, 0, 0, 0)], 23),
  (23, [(.iconst (-1), 1, 0, 0, -1), (.istore_n 3, 1, 3, 0, 0), (.iconst (-1), 1, 0, 0, -1), (.istore 4, 2, 4, 0, 0), (.iconst 0, 1, 0, 0, 0), (.istore 5, 2, 5, 0, 0)], 31),
  (31, [(.iload 5, 2, 5, 0, 0), (.iload_n 1, 1, 1, 0, 0), (.iadd, 1, 0, 0, 0), (.aload_n 0, 1, 0, 0, 0), (.getfield 70, 3, 11, 7, 0), (.if_icmp .gt 44, 3, 83, 0, 0), (.aload_n 0, 1, 0, 0, 0), (.aload_n 0, 1, 0, 0, 0), (.iload 5, 2, 5, 0, 0), (.iload 5, 2, 5, 0, 0), (.iload_n 1, 1, 1, 0, 0), (.iadd, 1, 0, 0, 0), (.iconst 1, 1, 0, 0, 1), (.isub, 1, 0, 0, 0), (.invokevirtual 161, 3, 206, 2, 11), (.invokevirtual 174, 3, 211, 1, 11), (.istore 6, 2, 6, 0, 0), (.iload 6, 2, 6, 0, 0), (.iload 4, 2, 4, 0, 0), (.if_icmp .gt 6, 3, 70, 0, 0), (.goto 10, 3, 77, 0, 0)], 70),
  (70, [(.iload 5, 2, 5, 0, 0), (.istore_n 3, 1, 3, 0, 0), (.iload 6, 2, 6, 0, 0), (.istore 4, 2, 4, 0, 0)], 77),
  (77, [(.iinc 5 1, 3, 5, 0, 1), (.goto (-49), 3, 31, 0, 0)], 83),
  (83, [(.iload_n 2, 1, 2, 0, 0), (.ifCond .ne 7, 3, 91, 0, 0), (.iload_n 3, 1, 3, 0, 0), (.goto 5, 3, 93, 0, 0)], 91),
  (91, [(.iload 4, 2, 4, 0, 0)], 93),
  (93, [(.ireturn, 1, 0, 0, 0)], 94)]
set_option maxRecDepth 100000 in
theorem ok_X11_heaviest : pm_oks 11 false 7 (some .int) cX11_heaviest bk_X11_heaviest = true := oksF_ok (by decide +kernel)
set_option maxRecDepth 100000 in
theorem me_X11_heaviest : pm_me 255 = (yX11_heaviest, cX11_heaviest, 7, (some .int), 2, 0) := rfl
theorem mt_X11_heaviest {l : Launch} {g : pm_G} {d mc ms : Nat} {as : List Value} {A : pm_H} {Q : Option Value → pm_H → Prop} (hca : pm_cat 7 as = true) (body : ∀ J : pm_J, pm_Cl l g (fun _ => none) d mc ms (pm_Rq mc ms Q) bk_X11_heaviest J → J 0 (pm_l0 7 as) [] A 0 0) : pm_Mt l g 255 d mc ms as A Q := pm_Mt_of (isI := false) 11 bk_X11_heaviest me_X11_heaviest (plainFor_of_name (by decide +kernel)) (by decide +kernel) (fun h => by cases h) ok_X11_heaviest hca body
def bk_X11_distance : pm_B := [(0, [(.aload_n 0, 1, 0, 0, 0), (.iload_n 1, 1, 1, 0, 0), (.invokevirtual 119, 3, 168, 1, 11), (.ifCond .eq 31, 3, 36, 0, 0), (.aload_n 0, 1, 0, 0, 0), (.iload_n 1, 1, 1, 0, 0), (.invokevirtual 78, 3, 174, 1, 11), (.ifCond .lt 23, 3, 36, 0, 0), (.aload_n 0, 1, 0, 0, 0), (.aload_n 0, 1, 0, 0, 0), (.iload_n 1, 1, 1, 0, 0), (.invokevirtual 78, 3, 174, 1, 11), (.iconst 1, 1, 0, 0, 1), (.iadd, 1, 0, 0, 0), (.iload_n 1, 1, 1, 0, 0), (.iconst 1, 1, 0, 0, 1), (.isub, 1, 0, 0, 0), (.invokevirtual 161, 3, 206, 2, 11), (.invokestatic 165, 3, 207, 1, 0), (.goto 4, 3, 37, 0, 0)], 36),
  (36, [(.iconst (-1), 1, 0, 0, -1)], 37),
  (37, [(.ireturn, 1, 0, 0, 0)], 38)]
set_option maxRecDepth 100000 in
theorem ok_X11_distance : pm_oks 11 false 2 (some .int) cX11_distance bk_X11_distance = true := oksF_ok (by decide +kernel)
set_option maxRecDepth 100000 in
theorem me_X11_distance : pm_me 256 = (yX11_distance, cX11_distance, 2, (some .int), 1, 0) := rfl
theorem mt_X11_distance {l : Launch} {g : pm_G} {d mc ms : Nat} {as : List Value} {A : pm_H} {Q : Option Value → pm_H → Prop} (hca : pm_cat 2 as = true) (body : ∀ J : pm_J, pm_Cl l g (fun _ => none) d mc ms (pm_Rq mc ms Q) bk_X11_distance J → J 0 (pm_l0 2 as) [] A 0 0) : pm_Mt l g 256 d mc ms as A Q := pm_Mt_of (isI := false) 11 bk_X11_distance me_X11_distance (plainFor_of_name (by decide +kernel)) (by decide +kernel) (fun h => by cases h) ok_X11_distance hca body
def bk_X11_misses : pm_B := [(0, [(.iload_n 1, 1, 1, 0, 0), (.iload_n 2, 1, 2, 0, 0), (.invokestatic 239, 3, 258, 2, 0), (.ifCond .eq 18, 3, 23, 0, 0), (.aload_n 0, 1, 0, 0, 0), (.aload_n 0, 1, 0, 0, 0), (.getfield 70, 3, 11, 7, 0), (.iconst 1, 1, 0, 0, 1), (.isub, 1, 0, 0, 0), (.iload_n 1, 1, 1, 0, 0), (.iload_n 2, 1, 2, 0, 0), (.invokevirtual 242, 3, 259, 3, 11), (.goto 4, 3, 24, 0, 0)], 23),
  (23, [(.iconst (-1), 1, 0, 0, -1)], 24),
  (24, [(.ireturn, 1, 0, 0, 0)], 25)]
set_option maxRecDepth 100000 in
theorem ok_X11_misses : pm_oks 11 false 3 (some .int) cX11_misses bk_X11_misses = true := oksF_ok (by decide +kernel)
set_option maxRecDepth 100000 in
theorem me_X11_misses : pm_me 257 = (yX11_misses, cX11_misses, 3, (some .int), 2, 0) := rfl
theorem mt_X11_misses {l : Launch} {g : pm_G} {d mc ms : Nat} {as : List Value} {A : pm_H} {Q : Option Value → pm_H → Prop} (hca : pm_cat 3 as = true) (body : ∀ J : pm_J, pm_Cl l g (fun _ => none) d mc ms (pm_Rq mc ms Q) bk_X11_misses J → J 0 (pm_l0 3 as) [] A 0 0) : pm_Mt l g 257 d mc ms as A Q := pm_Mt_of (isI := false) 11 bk_X11_misses me_X11_misses (plainFor_of_name (by decide +kernel)) (by decide +kernel) (fun h => by cases h) ok_X11_misses hca body
def bk_X11_isShelf : pm_B := [(0, [(.iload_n 0, 1, 0, 0, 0), (.iconst 1, 1, 0, 0, 1), (.bipush 24, 2, 0, 0, 24), (.invokestatic 74, 3, 169, 3, 0), (.ifCond .eq 16, 3, 23, 0, 0), (.iload_n 1, 1, 1, 0, 0), (.iconst 0, 1, 0, 0, 0), (.iconst 1, 1, 0, 0, 1), (.invokestatic 74, 3, 169, 3, 0), (.ifCond .eq 7, 3, 23, 0, 0), (.iconst 1, 1, 0, 0, 1), (.goto 4, 3, 24, 0, 0)], 23),
  (23, [(.iconst 0, 1, 0, 0, 0)], 24),
  (24, [(.ireturn, 1, 1, 0, 0)], 25)]
set_option maxRecDepth 100000 in
theorem ok_X11_isShelf : pm_oks 11 false 2 (some .boolean) cX11_isShelf bk_X11_isShelf = true := oksF_ok (by decide +kernel)
set_option maxRecDepth 100000 in
theorem me_X11_isShelf : pm_me 258 = (yX11_isShelf, cX11_isShelf, 2, (some .boolean), 2, 1) := rfl
theorem mt_X11_isShelf {l : Launch} {g : pm_G} {d mc ms : Nat} {as : List Value} {A : pm_H} {Q : Option Value → pm_H → Prop} (hca : pm_cat 2 as = true) (body : ∀ J : pm_J, pm_Cl l g (fun _ => none) d mc ms (pm_Rq mc ms Q) bk_X11_isShelf J → J 0 (pm_l0 2 as) [] A 0 0) : pm_Mt l g 258 d mc ms as A Q := pm_Mt_of (isI := false) 11 bk_X11_isShelf me_X11_isShelf (plainFor_of_name (by decide +kernel)) (by decide +kernel) (fun h => by cases h) ok_X11_isShelf hca body
def bk_X11_goOver : pm_B := [(0, [(.iconst 0, 1, 0, 0, 0), (.istore 4, 2, 4, 0, 0), (.aload_n 0, 1, 0, 0, 0), (.iconst 0, 1, 0, 0, 0), (.putfield 230, 3, 11, 24, 0), (.iconst 0, 1, 0, 0, 0), (.istore 5, 2, 5, 0, 0)], 11),
  (11, [(.iload 5, 2, 5, 0, 0), (.iload_n 1, 1, 1, 0, 0), (.if_icmp .gt 82, 3, 96, 0, 0), (.aload_n 0, 1, 0, 0, 0), (.getfield 230, 3, 11, 24, 0), (.aload_n 0, 1, 0, 0, 0), (.getfield 7, 3, 11, 0, 0), (.iload 5, 2, 5, 0, 0), (.iaload, 1, 0, 0, 0), (.ishr, 1, 0, 0, 0), (.iconst 1, 1, 0, 0, 1), (.iand, 1, 0, 0, 0), (.iconst 1, 1, 0, 0, 1), (.if_icmp .ne 6, 3, 38, 0, 0), (.goto 55, 3, 90, 0, 0)], 38),
  (38, [(.iinc 4 1, 3, 4, 0, 1), (.aload_n 0, 1, 0, 0, 0), (.getfield 230, 3, 11, 24, 0), (.invokestatic 165, 3, 207, 1, 0), (.iload_n 2, 1, 2, 0, 0), (.if_icmp .ne 23, 3, 72, 0, 0), (.aload_n 0, 1, 0, 0, 0), (.dup, 1, 0, 0, 0), (.getfield 230, 3, 11, 24, 0), (.iconst 1, 1, 0, 0, 1), (.aload_n 0, 1, 0, 0, 0), (.iload 5, 2, 5, 0, 0), (.iload_n 3, 1, 3, 0, 0), (.invokevirtual 236, 3, 260, 2, 11), (.ishl, 1, 0, 0, 0), (.iconst (-1), 1, 0, 0, -1), (.ixor, 1, 0, 0, 0), (.iand, 1, 0, 0, 0), (.putfield 230, 3, 11, 24, 0)], 72),
  (72, [(.aload_n 0, 1, 0, 0, 0), (.dup, 1, 0, 0, 0), (.getfield 230, 3, 11, 24, 0), (.iconst 1, 1, 0, 0, 1), (.aload_n 0, 1, 0, 0, 0), (.getfield 7, 3, 11, 0, 0), (.iload 5, 2, 5, 0, 0), (.iaload, 1, 0, 0, 0), (.ishl, 1, 0, 0, 0), (.ior, 1, 0, 0, 0), (.putfield 230, 3, 11, 24, 0)], 90),
  (90, [(.iinc 5 1, 3, 5, 0, 1), (.goto (-82), 3, 11, 0, 0)], 96),
  (96, [(.iload 4, 2, 4, 0, 0), (.ireturn, 1, 0, 0, 0)], 99)]
set_option maxRecDepth 100000 in
theorem ok_X11_goOver : pm_oks 11 false 6 (some .int) cX11_goOver bk_X11_goOver = true := oksF_ok (by decide +kernel)
set_option maxRecDepth 100000 in
theorem me_X11_goOver : pm_me 259 = (yX11_goOver, cX11_goOver, 6, (some .int), 3, 0) := rfl
theorem mt_X11_goOver {l : Launch} {g : pm_G} {d mc ms : Nat} {as : List Value} {A : pm_H} {Q : Option Value → pm_H → Prop} (hca : pm_cat 6 as = true) (body : ∀ J : pm_J, pm_Cl l g (fun _ => none) d mc ms (pm_Rq mc ms Q) bk_X11_goOver J → J 0 (pm_l0 6 as) [] A 0 0) : pm_Mt l g 259 d mc ms as A Q := pm_Mt_of (isI := false) 11 bk_X11_goOver me_X11_goOver (plainFor_of_name (by decide +kernel)) (by decide +kernel) (fun h => by cases h) ok_X11_goOver hca body
def bk_X11_goner : pm_B := [(0, [(.iconst (-1), 1, 0, 0, -1), (.istore_n 3, 1, 3, 0, 0), (.iconst (-1), 1, 0, 0, -1), (.istore 4, 2, 4, 0, 0), (.iconst 0, 1, 0, 0, 0), (.istore 5, 2, 5, 0, 0)], 8),
  (8, [(.iload 5, 2, 5, 0, 0), (.bipush 24, 2, 0, 0, 24), (.if_icmp .ge 66, 3, 78, 0, 0), (.aload_n 0, 1, 0, 0, 0), (.getfield 230, 3, 11, 24, 0), (.iload 5, 2, 5, 0, 0), (.ishr, 1, 0, 0, 0), (.iconst 1, 1, 0, 0, 1), (.iand, 1, 0, 0, 0), (.ifCond .ne 6, 3, 30, 0, 0), (.goto 45, 3, 72, 0, 0)], 30),
  (30, [(.iload_n 2, 1, 2, 0, 0), (.ifCond .ne 15, 3, 46, 0, 0), (.iload_n 1, 1, 1, 0, 0), (.aload_n 0, 1, 0, 0, 0), (.iload 5, 2, 5, 0, 0), (.iload_n 1, 1, 1, 0, 0), (.invokevirtual 233, 3, 261, 2, 11), (.isub, 1, 0, 0, 0), (.goto 10, 3, 53, 0, 0)], 46),
  (46, [(.aload_n 0, 1, 0, 0, 0), (.iload 5, 2, 5, 0, 0), (.iload_n 1, 1, 1, 0, 0), (.invokevirtual 223, 3, 247, 2, 11)], 53),
  (53, [(.istore 6, 2, 6, 0, 0), (.iload 6, 2, 6, 0, 0), (.iload 4, 2, 4, 0, 0), (.if_icmp .gt 6, 3, 65, 0, 0), (.goto 10, 3, 72, 0, 0)], 65),
  (65, [(.iload 5, 2, 5, 0, 0), (.istore_n 3, 1, 3, 0, 0), (.iload 6, 2, 6, 0, 0), (.istore 4, 2, 4, 0, 0)], 72),
  (72, [(.iinc 5 1, 3, 5, 0, 1), (.goto (-67), 3, 8, 0, 0)], 78),
  (78, [(.iload_n 3, 1, 3, 0, 0), (.ireturn, 1, 0, 0, 0)], 80)]
set_option maxRecDepth 100000 in
theorem ok_X11_goner : pm_oks 11 false 7 (some .int) cX11_goner bk_X11_goner = true := oksF_ok (by decide +kernel)
set_option maxRecDepth 100000 in
theorem me_X11_goner : pm_me 260 = (yX11_goner, cX11_goner, 7, (some .int), 2, 0) := rfl
theorem mt_X11_goner {l : Launch} {g : pm_G} {d mc ms : Nat} {as : List Value} {A : pm_H} {Q : Option Value → pm_H → Prop} (hca : pm_cat 7 as = true) (body : ∀ J : pm_J, pm_Cl l g (fun _ => none) d mc ms (pm_Rq mc ms Q) bk_X11_goner J → J 0 (pm_l0 7 as) [] A 0 0) : pm_Mt l g 260 d mc ms as A Q := pm_Mt_of (isI := false) 11 bk_X11_goner me_X11_goner (plainFor_of_name (by decide +kernel)) (by decide +kernel) (fun h => by cases h) ok_X11_goner hca body
def bk_X11_lastAhead : pm_B := [(0, [(.iload_n 2, 1, 2, 0, 0), (.iconst 1, 1, 0, 0, 1), (.isub, 1, 0, 0, 0), (.istore_n 3, 1, 3, 0, 0)], 4),
  (4, [(.aload_n 0, 1, 0, 0, 0), (.getfield 7, 3, 11, 0, 0), (.iload_n 3, 1, 3, 0, 0), (.iaload, 1, 0, 0, 0), (.iload_n 1, 1, 1, 0, 0), (.if_icmp .eq 9, 3, 20, 0, 0), (.iinc 3 (-1), 3, 3, 0, -1), (.goto (-13), 3, 4, 0, 0)], 20),
  (20, [(.iload_n 3, 1, 3, 0, 0), (.ireturn, 1, 0, 0, 0)], 22)]
set_option maxRecDepth 100000 in
theorem ok_X11_lastAhead : pm_oks 11 false 4 (some .int) cX11_lastAhead bk_X11_lastAhead = true := oksF_ok (by decide +kernel)
set_option maxRecDepth 100000 in
theorem me_X11_lastAhead : pm_me 261 = (yX11_lastAhead, cX11_lastAhead, 4, (some .int), 2, 0) := rfl
theorem mt_X11_lastAhead {l : Launch} {g : pm_G} {d mc ms : Nat} {as : List Value} {A : pm_H} {Q : Option Value → pm_H → Prop} (hca : pm_cat 4 as = true) (body : ∀ J : pm_J, pm_Cl l g (fun _ => none) d mc ms (pm_Rq mc ms Q) bk_X11_lastAhead J → J 0 (pm_l0 4 as) [] A 0 0) : pm_Mt l g 261 d mc ms as A Q := pm_Mt_of (isI := false) 11 bk_X11_lastAhead me_X11_lastAhead (plainFor_of_name (by decide +kernel)) (by decide +kernel) (fun h => by cases h) ok_X11_lastAhead hca body
def bk_X11_shelf : pm_B := [(0, [(.aload_n 0, 1, 0, 0, 0), (.iload_n 1, 1, 1, 0, 0), (.invokevirtual 119, 3, 168, 1, 11), (.ifCond .eq 11, 3, 16, 0, 0), (.iload_n 2, 1, 2, 0, 0), (.iload_n 3, 1, 3, 0, 0), (.invokestatic 239, 3, 258, 2, 0), (.ifCond .ne 5, 3, 18, 0, 0)], 16),
  (16, [(.iconst (-1), 1, 0, 0, -1), (.ireturn, 1, 0, 0, 0)], 18),
  (18, [(.aload_n 0, 1, 0, 0, 0), (.iload_n 1, 1, 1, 0, 0), (.iload_n 2, 1, 2, 0, 0), (.iload_n 3, 1, 3, 0, 0), (.invokevirtual 242, 3, 259, 3, 11), (.istore 4, 2, 4, 0, 0), (.iload 4, 2, 4, 0, 0), (.ifCond .ge 7, 3, 36, 0, 0), (.iconst (-1), 1, 0, 0, -1), (.goto 7, 3, 40, 0, 0)], 36),
  (36, [(.aload_n 0, 1, 0, 0, 0), (.getfield 230, 3, 11, 24, 0)], 40),
  (40, [(.ireturn, 1, 0, 0, 0)], 41)]
set_option maxRecDepth 100000 in
theorem ok_X11_shelf : pm_oks 11 false 5 (some .int) cX11_shelf bk_X11_shelf = true := oksF_ok (by decide +kernel)
set_option maxRecDepth 100000 in
theorem me_X11_shelf : pm_me 262 = (yX11_shelf, cX11_shelf, 5, (some .int), 3, 0) := rfl
theorem mt_X11_shelf {l : Launch} {g : pm_G} {d mc ms : Nat} {as : List Value} {A : pm_H} {Q : Option Value → pm_H → Prop} (hca : pm_cat 5 as = true) (body : ∀ J : pm_J, pm_Cl l g (fun _ => none) d mc ms (pm_Rq mc ms Q) bk_X11_shelf J → J 0 (pm_l0 5 as) [] A 0 0) : pm_Mt l g 262 d mc ms as A Q := pm_Mt_of (isI := false) 11 bk_X11_shelf me_X11_shelf (plainFor_of_name (by decide +kernel)) (by decide +kernel) (fun h => by cases h) ok_X11_shelf hca body
def bk_X11_suffices : pm_B := [(0, [(.iload_n 1, 1, 1, 0, 0), (.ifCond .lt 12, 3, 13, 0, 0), (.iload_n 2, 1, 2, 0, 0), (.iconst 0, 1, 0, 0, 0), (.iconst 1, 1, 0, 0, 1), (.invokestatic 74, 3, 169, 3, 0), (.ifCond .ne 5, 3, 15, 0, 0)], 13),
  (13, [(.iconst (-1), 1, 0, 0, -1), (.ireturn, 1, 0, 0, 0)], 15),
  (15, [(.iconst 1, 1, 0, 0, 1), (.istore_n 3, 1, 3, 0, 0)], 17),
  (17, [(.iload_n 3, 1, 3, 0, 0), (.bipush 24, 2, 0, 0, 24), (.if_icmp .gt 27, 3, 47, 0, 0), (.aload_n 0, 1, 0, 0, 0), (.aload_n 0, 1, 0, 0, 0), (.getfield 70, 3, 11, 7, 0), (.iconst 1, 1, 0, 0, 1), (.isub, 1, 0, 0, 0), (.iload_n 3, 1, 3, 0, 0), (.iload_n 2, 1, 2, 0, 0), (.invokevirtual 242, 3, 259, 3, 11), (.iload_n 1, 1, 1, 0, 0), (.if_icmp .gt 5, 3, 41, 0, 0), (.iload_n 3, 1, 3, 0, 0), (.ireturn, 1, 0, 0, 0)], 41),
  (41, [(.iinc 3 1, 3, 3, 0, 1), (.goto (-27), 3, 17, 0, 0)], 47),
  (47, [(.iconst (-1), 1, 0, 0, -1), (.ireturn, 1, 0, 0, 0)], 49)]
set_option maxRecDepth 100000 in
theorem ok_X11_suffices : pm_oks 11 false 4 (some .int) cX11_suffices bk_X11_suffices = true := oksF_ok (by decide +kernel)
set_option maxRecDepth 100000 in
theorem me_X11_suffices : pm_me 263 = (yX11_suffices, cX11_suffices, 4, (some .int), 2, 0) := rfl
theorem mt_X11_suffices {l : Launch} {g : pm_G} {d mc ms : Nat} {as : List Value} {A : pm_H} {Q : Option Value → pm_H → Prop} (hca : pm_cat 4 as = true) (body : ∀ J : pm_J, pm_Cl l g (fun _ => none) d mc ms (pm_Rq mc ms Q) bk_X11_suffices J → J 0 (pm_l0 4 as) [] A 0 0) : pm_Mt l g 263 d mc ms as A Q := pm_Mt_of (isI := false) 11 bk_X11_suffices me_X11_suffices (plainFor_of_name (by decide +kernel)) (by decide +kernel) (fun h => by cases h) ok_X11_suffices hca body
def bk_X11_just : pm_B := [(0, [(.iconst 0, 1, 0, 0, 0), (.istore_n 2, 1, 2, 0, 0), (.iconst 0, 1, 0, 0, 0), (.istore_n 3, 1, 3, 0, 0)], 4),
  (4, [(.iload_n 3, 1, 3, 0, 0), (.aload_n 0, 1, 0, 0, 0), (.getfield 70, 3, 11, 7, 0), (.if_icmp .ge 61, 3, 70, 0, 0), (.iconst 0, 1, 0, 0, 0), (.istore 4, 2, 4, 0, 0), (.iload_n 3, 1, 3, 0, 0), (.istore 5, 2, 5, 0, 0)], 18),
  (18, [(.iload 5, 2, 5, 0, 0), (.aload_n 0, 1, 0, 0, 0), (.getfield 70, 3, 11, 7, 0), (.if_icmp .ge 40, 3, 64, 0, 0), (.iload 4, 2, 4, 0, 0), (.iconst 1, 1, 0, 0, 1), (.aload_n 0, 1, 0, 0, 0), (.getfield 7, 3, 11, 0, 0), (.iload 5, 2, 5, 0, 0), (.iaload, 1, 0, 0, 0), (.ishl, 1, 0, 0, 0), (.ior, 1, 0, 0, 0), (.istore 4, 2, 4, 0, 0), (.iload_n 2, 1, 2, 0, 0), (.iload 4, 2, 4, 0, 0), (.invokestatic 165, 3, 207, 1, 0), (.iload_n 1, 1, 1, 0, 0), (.if_icmp .ne 7, 3, 55, 0, 0), (.iconst 1, 1, 0, 0, 1), (.goto 4, 3, 56, 0, 0)], 55),
  (55, [(.iconst 0, 1, 0, 0, 0)], 56),
  (56, [(.iadd, 1, 0, 0, 0), (.istore_n 2, 1, 2, 0, 0), (.iinc 5 1, 3, 5, 0, 1), (.goto (-43), 3, 18, 0, 0)], 64),
  (64, [(.iinc 3 1, 3, 3, 0, 1), (.goto (-63), 3, 4, 0, 0)], 70),
  (70, [(.iload_n 2, 1, 2, 0, 0), (.ireturn, 1, 0, 0, 0)], 72)]
set_option maxRecDepth 100000 in
theorem ok_X11_just : pm_oks 11 false 6 (some .int) cX11_just bk_X11_just = true := oksF_ok (by decide +kernel)
set_option maxRecDepth 100000 in
theorem me_X11_just : pm_me 264 = (yX11_just, cX11_just, 6, (some .int), 1, 0) := rfl
theorem mt_X11_just {l : Launch} {g : pm_G} {d mc ms : Nat} {as : List Value} {A : pm_H} {Q : Option Value → pm_H → Prop} (hca : pm_cat 6 as = true) (body : ∀ J : pm_J, pm_Cl l g (fun _ => none) d mc ms (pm_Rq mc ms Q) bk_X11_just J → J 0 (pm_l0 6 as) [] A 0 0) : pm_Mt l g 264 d mc ms as A Q := pm_Mt_of (isI := false) 11 bk_X11_just me_X11_just (plainFor_of_name (by decide +kernel)) (by decide +kernel) (fun h => by cases h) ok_X11_just hca body
def bk_X11_all : pm_B := [(0, [(.lconst 0, 1, 0, 0, 0), (.lstore_n 1, 1, 1, 0, 0), (.iconst 0, 1, 0, 0, 0), (.istore_n 3, 1, 3, 0, 0)], 4),
  (4, [(.iload_n 3, 1, 3, 0, 0), (.aload_n 0, 1, 0, 0, 0), (.getfield 70, 3, 11, 7, 0), (.if_icmp .ge 53, 3, 62, 0, 0), (.iconst 0, 1, 0, 0, 0), (.istore 4, 2, 4, 0, 0), (.iload_n 3, 1, 3, 0, 0), (.istore 5, 2, 5, 0, 0)], 18),
  (18, [(.iload 5, 2, 5, 0, 0), (.aload_n 0, 1, 0, 0, 0), (.getfield 70, 3, 11, 7, 0), (.if_icmp .ge 32, 3, 56, 0, 0), (.iload 4, 2, 4, 0, 0), (.iconst 1, 1, 0, 0, 1), (.aload_n 0, 1, 0, 0, 0), (.getfield 7, 3, 11, 0, 0), (.iload 5, 2, 5, 0, 0), (.iaload, 1, 0, 0, 0), (.ishl, 1, 0, 0, 0), (.ior, 1, 0, 0, 0), (.istore 4, 2, 4, 0, 0), (.lload_n 1, 1, 1, 0, 0), (.iload 4, 2, 4, 0, 0), (.invokestatic 165, 3, 207, 1, 0), (.i2l, 1, 0, 0, 0), (.ladd, 1, 0, 0, 0), (.lstore_n 1, 1, 1, 0, 0), (.iinc 5 1, 3, 5, 0, 1), (.goto (-35), 3, 18, 0, 0)], 56),
  (56, [(.iinc 3 1, 3, 3, 0, 1), (.goto (-55), 3, 4, 0, 0)], 62),
  (62, [(.lload_n 1, 1, 1, 0, 0), (.lreturn, 1, 0, 0, 0)], 64)]
set_option maxRecDepth 100000 in
theorem ok_X11_all : pm_oks 11 false 6 (some .long) cX11_all bk_X11_all = true := oksF_ok (by decide +kernel)
set_option maxRecDepth 100000 in
theorem me_X11_all : pm_me 265 = (yX11_all, cX11_all, 6, (some .long), 0, 0) := rfl
theorem mt_X11_all {l : Launch} {g : pm_G} {d mc ms : Nat} {as : List Value} {A : pm_H} {Q : Option Value → pm_H → Prop} (hca : pm_cat 6 as = true) (body : ∀ J : pm_J, pm_Cl l g (fun _ => none) d mc ms (pm_Rq mc ms Q) bk_X11_all J → J 0 (pm_l0 6 as) [] A 0 0) : pm_Mt l g 265 d mc ms as A Q := pm_Mt_of (isI := false) 11 bk_X11_all me_X11_all (plainFor_of_name (by decide +kernel)) (by decide +kernel) (fun h => by cases h) ok_X11_all hca body
