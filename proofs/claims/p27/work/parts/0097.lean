
def bk_X11_alike : pm_B := [(0, [(.aload_n 0, 1, 0, 0, 0), (.iload_n 1, 1, 1, 0, 0), (.iload_n 2, 1, 2, 0, 0), (.invokevirtual 129, 3, 180, 2, 11), (.ifCond .ne 5, 3, 11, 0, 0), (.iconst (-1), 1, 0, 0, -1), (.ireturn, 1, 0, 0, 0)], 11),
  (11, [(.iconst 0, 1, 0, 0, 0), (.istore_n 3, 1, 3, 0, 0), (.iload_n 1, 1, 1, 0, 0), (.istore 4, 2, 4, 0, 0)], 16),
  (16, [(.iload 4, 2, 4, 0, 0), (.iload_n 2, 1, 2, 0, 0), (.if_icmp .gt 28, 3, 47, 0, 0), (.iload_n 3, 1, 3, 0, 0), (.aload_n 0, 1, 0, 0, 0), (.iload_n 1, 1, 1, 0, 0), (.iload 4, 2, 4, 0, 0), (.iconst 1, 1, 0, 0, 1), (.isub, 1, 0, 0, 0), (.aload_n 0, 1, 0, 0, 0), (.getfield 7, 3, 11, 0, 0), (.iload 4, 2, 4, 0, 0), (.iaload, 1, 0, 0, 0), (.invokevirtual 148, 3, 200, 3, 11), (.iadd, 1, 0, 0, 0), (.istore_n 3, 1, 3, 0, 0), (.iinc 4 1, 3, 4, 0, 1), (.goto (-28), 3, 16, 0, 0)], 47),
  (47, [(.iload_n 3, 1, 3, 0, 0), (.ireturn, 1, 0, 0, 0)], 49)]
set_option maxRecDepth 100000 in
theorem ok_X11_alike : pm_oks 11 false 5 (some .int) cX11_alike bk_X11_alike = true := oksF_ok (by decide +kernel)
set_option maxRecDepth 100000 in
theorem me_X11_alike : pm_me 244 = (yX11_alike, cX11_alike, 5, (some .int), 2, 0) := rfl
theorem mt_X11_alike {l : Launch} {g : pm_G} {d mc ms : Nat} {as : List Value} {A : pm_H} {Q : Option Value → pm_H → Prop} (hca : pm_cat 5 as = true) (body : ∀ J : pm_J, pm_Cl l g (fun _ => none) d mc ms (pm_Rq mc ms Q) bk_X11_alike J → J 0 (pm_l0 5 as) [] A 0 0) : pm_Mt l g 244 d mc ms as A Q := pm_Mt_of (isI := false) 11 bk_X11_alike me_X11_alike (plainFor_of_name (by decide +kernel)) (by decide +kernel) (fun h => by cases h) ok_X11_alike hca body
def bk_X11_even : pm_B := [(0, [(.aload_n 0, 1, 0, 0, 0), (.iload_n 1, 1, 1, 0, 0), (.iload_n 2, 1, 2, 0, 0), (.invokevirtual 129, 3, 180, 2, 11), (.ifCond .ne 5, 3, 11, 0, 0), (.iconst (-1), 1, 0, 0, -1), (.ireturn, 1, 0, 0, 0)], 11),
  (11, [(.iconst (-1), 1, 0, 0, -1), (.istore_n 3, 1, 3, 0, 0), (.ldc 222, 2, 0, 0, 268435456), (.istore 4, 2, 4, 0, 0), (.iload_n 1, 1, 1, 0, 0), (.istore 5, 2, 5, 0, 0)], 20),
  (20, [(.iload 5, 2, 5, 0, 0), (.iload_n 2, 1, 2, 0, 0), (.if_icmp .ge 60, 3, 83, 0, 0), (.aload_n 0, 1, 0, 0, 0), (.iload_n 1, 1, 1, 0, 0), (.iload 5, 2, 5, 0, 0), (.invokevirtual 171, 3, 209, 2, 11), (.aload_n 0, 1, 0, 0, 0), (.iload 5, 2, 5, 0, 0), (.iconst 1, 1, 0, 0, 1), (.iadd, 1, 0, 0, 0), (.iload_n 2, 1, 2, 0, 0), (.invokevirtual 171, 3, 209, 2, 11), (.isub, 1, 0, 0, 0), (.istore 6, 2, 6, 0, 0), (.iload 6, 2, 6, 0, 0), (.ifCond .ge 9, 3, 56, 0, 0), (.iload 6, 2, 6, 0, 0), (.ineg, 1, 0, 0, 0), (.goto 5, 3, 58, 0, 0)], 56),
  (56, [(.iload 6, 2, 6, 0, 0)], 58),
  (58, [(.istore 7, 2, 7, 0, 0), (.iload 7, 2, 7, 0, 0), (.iload 4, 2, 4, 0, 0), (.if_icmp .lt 6, 3, 70, 0, 0), (.goto 10, 3, 77, 0, 0)], 70),
  (70, [(.iload 5, 2, 5, 0, 0), (.istore_n 3, 1, 3, 0, 0), (.iload 7, 2, 7, 0, 0), (.istore 4, 2, 4, 0, 0)], 77),
  (77, [(.iinc 5 1, 3, 5, 0, 1), (.goto (-60), 3, 20, 0, 0)], 83),
  (83, [(.iload_n 3, 1, 3, 0, 0), (.ireturn, 1, 0, 0, 0)], 85)]
set_option maxRecDepth 100000 in
theorem ok_X11_even : pm_oks 11 false 8 (some .int) cX11_even bk_X11_even = true := oksF_ok (by decide +kernel)
set_option maxRecDepth 100000 in
theorem me_X11_even : pm_me 245 = (yX11_even, cX11_even, 8, (some .int), 2, 0) := rfl
theorem mt_X11_even {l : Launch} {g : pm_G} {d mc ms : Nat} {as : List Value} {A : pm_H} {Q : Option Value → pm_H → Prop} (hca : pm_cat 8 as = true) (body : ∀ J : pm_J, pm_Cl l g (fun _ => none) d mc ms (pm_Rq mc ms Q) bk_X11_even J → J 0 (pm_l0 8 as) [] A 0 0) : pm_Mt l g 245 d mc ms as A Q := pm_Mt_of (isI := false) 11 bk_X11_even me_X11_even (plainFor_of_name (by decide +kernel)) (by decide +kernel) (fun h => by cases h) ok_X11_even hca body
def bk_X11_apart : pm_B := [(0, [(.iload_n 1, 1, 1, 0, 0), (.invokestatic 122, 3, 170, 1, 0), (.ifCond .eq 24, 3, 28, 0, 0), (.iload_n 2, 1, 2, 0, 0), (.invokestatic 122, 3, 170, 1, 0), (.ifCond .eq 17, 3, 28, 0, 0), (.iload_n 1, 1, 1, 0, 0), (.iload_n 2, 1, 2, 0, 0), (.if_icmp .eq 12, 3, 28, 0, 0), (.iload_n 3, 1, 3, 0, 0), (.iconst 0, 1, 0, 0, 0), (.iconst 1, 1, 0, 0, 1), (.invokestatic 74, 3, 169, 3, 0), (.ifCond .ne 5, 3, 30, 0, 0)], 28),
  (28, [(.iconst (-1), 1, 0, 0, -1), (.ireturn, 1, 0, 0, 0)], 30),
  (30, [(.iconst (-1), 1, 0, 0, -1), (.istore 4, 2, 4, 0, 0), (.ldc 222, 2, 0, 0, 268435456), (.istore 5, 2, 5, 0, 0), (.iconst 0, 1, 0, 0, 0), (.istore 6, 2, 6, 0, 0)], 40),
  (40, [(.iload 6, 2, 6, 0, 0), (.aload_n 0, 1, 0, 0, 0), (.getfield 70, 3, 11, 7, 0), (.if_icmp .ge 89, 3, 135, 0, 0), (.aload_n 0, 1, 0, 0, 0), (.getfield 7, 3, 11, 0, 0), (.iload 6, 2, 6, 0, 0), (.iaload, 1, 0, 0, 0), (.iload_n 1, 1, 1, 0, 0), (.if_icmp .eq 17, 3, 74, 0, 0), (.aload_n 0, 1, 0, 0, 0), (.getfield 7, 3, 11, 0, 0), (.iload 6, 2, 6, 0, 0), (.iaload, 1, 0, 0, 0), (.iload_n 2, 1, 2, 0, 0), (.if_icmp .eq 6, 3, 74, 0, 0), (.goto 58, 3, 129, 0, 0)], 74),
  (74, [(.aload_n 0, 1, 0, 0, 0), (.aload_n 0, 1, 0, 0, 0), (.getfield 7, 3, 11, 0, 0), (.iload 6, 2, 6, 0, 0), (.iaload, 1, 0, 0, 0), (.iload_n 1, 1, 1, 0, 0), (.if_icmp .ne 7, 3, 90, 0, 0), (.iload_n 2, 1, 2, 0, 0), (.goto 4, 3, 91, 0, 0)], 90),
  (90, [(.iload_n 1, 1, 1, 0, 0)], 91),
  (91, [(.iload 6, 2, 6, 0, 0), (.invokevirtual 223, 3, 247, 2, 11), (.istore 7, 2, 7, 0, 0), (.iload 7, 2, 7, 0, 0), (.iload 6, 2, 6, 0, 0), (.isub, 1, 0, 0, 0), (.iload 5, 2, 5, 0, 0), (.if_icmp .ge 24, 3, 129, 0, 0), (.iload 7, 2, 7, 0, 0), (.ldc 222, 2, 0, 0, 268435456), (.if_icmp .ne 6, 3, 118, 0, 0), (.goto 14, 3, 129, 0, 0)], 118),
  (118, [(.iload 6, 2, 6, 0, 0), (.istore 4, 2, 4, 0, 0), (.iload 7, 2, 7, 0, 0), (.iload 6, 2, 6, 0, 0), (.isub, 1, 0, 0, 0), (.istore 5, 2, 5, 0, 0)], 129),
  (129, [(.iinc 6 1, 3, 6, 0, 1), (.goto (-92), 3, 40, 0, 0)], 135),
  (135, [(.iload 4, 2, 4, 0, 0), (.ifCond .lt 8, 3, 145, 0, 0), (.iload_n 3, 1, 3, 0, 0), (.iconst 1, 1, 0, 0, 1), (.if_icmp .ne 8, 3, 150, 0, 0)], 145),
  (145, [(.iload 4, 2, 4, 0, 0), (.goto 5, 3, 152, 0, 0)], 150),
  (150, [(.iload 5, 2, 5, 0, 0)], 152),
  (152, [(.ireturn, 1, 0, 0, 0)], 153)]
set_option maxRecDepth 100000 in
theorem ok_X11_apart : pm_oks 11 false 8 (some .int) cX11_apart bk_X11_apart = true := oksF_ok (by decide +kernel)
set_option maxRecDepth 100000 in
theorem me_X11_apart : pm_me 246 = (yX11_apart, cX11_apart, 8, (some .int), 3, 0) := rfl
theorem mt_X11_apart {l : Launch} {g : pm_G} {d mc ms : Nat} {as : List Value} {A : pm_H} {Q : Option Value → pm_H → Prop} (hca : pm_cat 8 as = true) (body : ∀ J : pm_J, pm_Cl l g (fun _ => none) d mc ms (pm_Rq mc ms Q) bk_X11_apart J → J 0 (pm_l0 8 as) [] A 0 0) : pm_Mt l g 246 d mc ms as A Q := pm_Mt_of (isI := false) 11 bk_X11_apart me_X11_apart (plainFor_of_name (by decide +kernel)) (by decide +kernel) (fun h => by cases h) ok_X11_apart hca body
def bk_X11_nextBehind : pm_B := [(0, [(.iload_n 2, 1, 2, 0, 0), (.iconst 1, 1, 0, 0, 1), (.iadd, 1, 0, 0, 0), (.istore_n 3, 1, 3, 0, 0)], 4),
  (4, [(.iload_n 3, 1, 3, 0, 0), (.aload_n 0, 1, 0, 0, 0), (.getfield 70, 3, 11, 7, 0), (.if_icmp .ge 21, 3, 30, 0, 0), (.aload_n 0, 1, 0, 0, 0), (.getfield 7, 3, 11, 0, 0), (.iload_n 3, 1, 3, 0, 0), (.iaload, 1, 0, 0, 0), (.iload_n 1, 1, 1, 0, 0), (.if_icmp .ne 5, 3, 24, 0, 0), (.iload_n 3, 1, 3, 0, 0), (.ireturn, 1, 0, 0, 0)], 24),
  (24, [(.iinc 3 1, 3, 3, 0, 1), (.goto (-23), 3, 4, 0, 0)], 30),
  (30, [(.ldc 222, 2, 0, 0, 268435456), (.ireturn, 1, 0, 0, 0)], 33)]
set_option maxRecDepth 100000 in
theorem ok_X11_nextBehind : pm_oks 11 false 4 (some .int) cX11_nextBehind bk_X11_nextBehind = true := oksF_ok (by decide +kernel)
set_option maxRecDepth 100000 in
theorem me_X11_nextBehind : pm_me 247 = (yX11_nextBehind, cX11_nextBehind, 4, (some .int), 2, 0) := rfl
