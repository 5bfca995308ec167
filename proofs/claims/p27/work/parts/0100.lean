
set_option maxRecDepth 100000 in
theorem ok_X11_window : pm_oks 11 false 9 (some .int) cX11_window bk_X11_window = true := oksF_ok (by decide +kernel)
set_option maxRecDepth 100000 in
theorem me_X11_window : pm_me 251 = (yX11_window, cX11_window, 9, (some .int), 2, 0) := rfl
theorem mt_X11_window {l : Launch} {g : pm_G} {d mc ms : Nat} {as : List Value} {A : pm_H} {Q : Option Value → pm_H → Prop} (hca : pm_cat 9 as = true) (body : ∀ J : pm_J, pm_Cl l g (fun _ => none) d mc ms (pm_Rq mc ms Q) bk_X11_window J → J 0 (pm_l0 9 as) [] A 0 0) : pm_Mt l g 251 d mc ms as A Q := pm_Mt_of (isI := false) 11 bk_X11_window me_X11_window (plainFor_of_name (by decide +kernel)) (by decide +kernel) (fun h => by cases h) ok_X11_window hca body
def bk_X11_longest : pm_B := [(0, [(.iload_n 1, 1, 1, 0, 0), (.iconst 1, 1, 0, 0, 1), (.if_icmp .lt 19, 3, 21, 0, 0), (.aload_n 0, 1, 0, 0, 0), (.getfield 70, 3, 11, 7, 0), (.ifCond .eq 12, 3, 21, 0, 0), (.iload_n 2, 1, 2, 0, 0), (.iconst 0, 1, 0, 0, 0), (.iconst 1, 1, 0, 0, 1), (.invokestatic 74, 3, 169, 3, 0), (.ifCond .ne 5, 3, 23, 0, 0)], 21),
  (21, [(.iconst (-1), 1, 0, 0, -1), (.ireturn, 1, 0, 0, 0)], 23),
  (23, [(.iconst 0, 1, 0, 0, 0), (.istore_n 3, 1, 3, 0, 0), (.iconst (-1), 1, 0, 0, -1), (.istore 4, 2, 4, 0, 0), (.iconst 0, 1, 0, 0, 0), (.istore 5, 2, 5, 0, 0)], 31),
  (31, [(.iload 5, 2, 5, 0, 0), (.aload_n 0, 1, 0, 0, 0), (.getfield 70, 3, 11, 7, 0), (.if_icmp .ge 40, 3, 77, 0, 0), (.aload_n 0, 1, 0, 0, 0), (.iload 5, 2, 5, 0, 0), (.iload_n 1, 1, 1, 0, 0), (.invokevirtual 227, 3, 253, 2, 11), (.istore 6, 2, 6, 0, 0), (.iload 6, 2, 6, 0, 0), (.iload 5, 2, 5, 0, 0), (.isub, 1, 0, 0, 0), (.iload 4, 2, 4, 0, 0), (.iload_n 3, 1, 3, 0, 0), (.isub, 1, 0, 0, 0), (.if_icmp .gt 6, 3, 64, 0, 0), (.goto 10, 3, 71, 0, 0)], 64),
  (64, [(.iload 5, 2, 5, 0, 0), (.istore_n 3, 1, 3, 0, 0), (.iload 6, 2, 6, 0, 0), (.istore 4, 2, 4, 0, 0)], 71),
  (71, [(.iinc 5 1, 3, 5, 0, 1), (.goto (-43), 3, 31, 0, 0)], 77),
  (77, [(.iload_n 2, 1, 2, 0, 0), (.ifCond .ne 7, 3, 85, 0, 0), (.iload_n 3, 1, 3, 0, 0), (.goto 5, 3, 87, 0, 0)], 85),
  (85, [(.iload 4, 2, 4, 0, 0)], 87),
  (87, [(.ireturn, 1, 0, 0, 0)], 88)]
set_option maxRecDepth 100000 in
theorem ok_X11_longest : pm_oks 11 false 7 (some .int) cX11_longest bk_X11_longest = true := oksF_ok (by decide +kernel)
set_option maxRecDepth 100000 in
theorem me_X11_longest : pm_me 252 = (yX11_longest, cX11_longest, 7, (some .int), 2, 0) := rfl
theorem mt_X11_longest {l : Launch} {g : pm_G} {d mc ms : Nat} {as : List Value} {A : pm_H} {Q : Option Value → pm_H → Prop} (hca : pm_cat 7 as = true) (body : ∀ J : pm_J, pm_Cl l g (fun _ => none) d mc ms (pm_Rq mc ms Q) bk_X11_longest J → J 0 (pm_l0 7 as) [] A 0 0) : pm_Mt l g 252 d mc ms as A Q := pm_Mt_of (isI := false) 11 bk_X11_longest me_X11_longest (plainFor_of_name (by decide +kernel)) (by decide +kernel) (fun h => by cases h) ok_X11_longest hca body
def bk_X11_farthest : pm_B := [(0, [(.iconst 0, 1, 0, 0, 0), (.istore_n 3, 1, 3, 0, 0), (.iload_n 1, 1, 1, 0, 0), (.istore 4, 2, 4, 0, 0)], 5),
  (5, [(.iload 4, 2, 4, 0, 0), (.aload_n 0, 1, 0, 0, 0), (.getfield 70, 3, 11, 7, 0), (.if_icmp .ge 39, 3, 50, 0, 0), (.iload_n 3, 1, 3, 0, 0), (.iconst 1, 1, 0, 0, 1), (.aload_n 0, 1, 0, 0, 0), (.getfield 7, 3, 11, 0, 0), (.iload 4, 2, 4, 0, 0), (.iaload, 1, 0, 0, 0), (.ishl, 1, 0, 0, 0), (.ior, 1, 0, 0, 0), (.invokestatic 165, 3, 207, 1, 0), (.iload_n 2, 1, 2, 0, 0), (.if_icmp .gt 21, 3, 50, 0, 0), (.iload_n 3, 1, 3, 0, 0), (.iconst 1, 1, 0, 0, 1), (.aload_n 0, 1, 0, 0, 0), (.getfield 7, 3, 11, 0, 0), (.iload 4, 2, 4, 0, 0), (.iaload, 1, 0, 0, 0), (.ishl, 1, 0, 0, 0), (.ior, 1, 0, 0, 0), (.istore_n 3, 1, 3, 0, 0), (.iinc 4 1, 3, 4, 0, 1), (.goto (-42), 3, 5, 0, 0)], 50),
  (50, [(.iload 4, 2, 4, 0, 0), (.iconst 1, 1, 0, 0, 1), (.isub, 1, 0, 0, 0), (.ireturn, 1, 0, 0, 0)], 55)]
set_option maxRecDepth 100000 in
theorem ok_X11_farthest : pm_oks 11 false 5 (some .int) cX11_farthest bk_X11_farthest = true := oksF_ok (by decide +kernel)
set_option maxRecDepth 100000 in
theorem me_X11_farthest : pm_me 253 = (yX11_farthest, cX11_farthest, 5, (some .int), 2, 0) := rfl
theorem mt_X11_farthest {l : Launch} {g : pm_G} {d mc ms : Nat} {as : List Value} {A : pm_H} {Q : Option Value → pm_H → Prop} (hca : pm_cat 5 as = true) (body : ∀ J : pm_J, pm_Cl l g (fun _ => none) d mc ms (pm_Rq mc ms Q) bk_X11_farthest J → J 0 (pm_l0 5 as) [] A 0 0) : pm_Mt l g 253 d mc ms as A Q := pm_Mt_of (isI := false) 11 bk_X11_farthest me_X11_farthest (plainFor_of_name (by decide +kernel)) (by decide +kernel) (fun h => by cases h) ok_X11_farthest hca body
def bk_X11_unlike : pm_B := [(0, [(.aload_n 0, 1, 0, 0, 0), (.getfield 70, 3, 11, 7, 0), (.ifCond .eq 12, 3, 16, 0, 0), (.iload_n 1, 1, 1, 0, 0), (.iconst 0, 1, 0, 0, 0), (.iconst 1, 1, 0, 0, 1), (.invokestatic 74, 3, 169, 3, 0), (.ifCond .ne 5, 3, 18, 0, 0)], 16),
  (16, [(.iconst (-1), 1, 0, 0, -1), (.ireturn, 1, 0, 0, 0)], 18),
  (18, [(.iconst 0, 1, 0, 0, 0), (.istore_n 2, 1, 2, 0, 0), (.iconst (-1), 1, 0, 0, -1), (.istore_n 3, 1, 3, 0, 0), (.iconst 0, 1, 0, 0, 0), (.istore 4, 2, 4, 0, 0)], 25),
  (25, [(.iload 4, 2, 4, 0, 0), (.aload_n 0, 1, 0, 0, 0), (.getfield 70, 3, 11, 7, 0), (.if_icmp .ge 63, 3, 94, 0, 0), (.iload 4, 2, 4, 0, 0), (.istore 5, 2, 5, 0, 0)], 38),
  (38, [(.iload 5, 2, 5, 0, 0), (.iconst 1, 1, 0, 0, 1), (.iadd, 1, 0, 0, 0), (.aload_n 0, 1, 0, 0, 0), (.getfield 70, 3, 11, 7, 0), (.if_icmp .ge 22, 3, 68, 0, 0), (.aload_n 0, 1, 0, 0, 0), (.iload 5, 2, 5, 0, 0), (.iconst 1, 1, 0, 0, 1), (.iadd, 1, 0, 0, 0), (.invokevirtual 78, 3, 174, 1, 11), (.iload 4, 2, 4, 0, 0), (.if_icmp .ge 9, 3, 68, 0, 0), (.iinc 5 1, 3, 5, 0, 1), (.goto (-27), 3, 38, 0, 0)], 68),
  (68, [(.iload 5, 2, 5, 0, 0), (.iload 4, 2, 4, 0, 0), (.isub, 1, 0, 0, 0), (.iload_n 3, 1, 3, 0, 0), (.iload_n 2, 1, 2, 0, 0), (.isub, 1, 0, 0, 0), (.if_icmp .gt 6, 3, 82, 0, 0), (.goto 9, 3, 88, 0, 0)], 82),
  (82, [(.iload 4, 2, 4, 0, 0), (.istore_n 2, 1, 2, 0, 0), (.iload 5, 2, 5, 0, 0), (.istore_n 3, 1, 3, 0, 0)], 88),
  (88, [(.iinc 4 1, 3, 4, 0, 1), (.goto (-66), 3, 25, 0, 0)], 94),
  (94, [(.iload_n 1, 1, 1, 0, 0), (.ifCond .ne 7, 3, 102, 0, 0), (.iload_n 2, 1, 2, 0, 0), (.goto 4, 3, 103, 0, 0)], 102),
  (102, [(.iload_n 3, 1, 3, 0, 0)], 103),
  (103, [(.ireturn, 1, 0, 0, 0)], 104)]
set_option maxRecDepth 100000 in
theorem ok_X11_unlike : pm_oks 11 false 6 (some .int) cX11_unlike bk_X11_unlike = true := oksF_ok (by decide +kernel)
set_option maxRecDepth 100000 in
theorem me_X11_unlike : pm_me 254 = (yX11_unlike, cX11_unlike, 6, (some .int), 1, 0) := rfl
theorem mt_X11_unlike {l : Launch} {g : pm_G} {d mc ms : Nat} {as : List Value} {A : pm_H} {Q : Option Value → pm_H → Prop} (hca : pm_cat 6 as = true) (body : ∀ J : pm_J, pm_Cl l g (fun _ => none) d mc ms (pm_Rq mc ms Q) bk_X11_unlike J → J 0 (pm_l0 6 as) [] A 0 0) : pm_Mt l g 254 d mc ms as A Q := pm_Mt_of (isI := false) 11 bk_X11_unlike me_X11_unlike (plainFor_of_name (by decide +kernel)) (by decide +kernel) (fun h => by cases h) ok_X11_unlike hca body
