
def bk_X11_widest : pm_B := [(0, [(.iconst (-1), 1, 0, 0, -1), (.istore_n 2, 1, 2, 0, 0), (.iconst 0, 1, 0, 0, 0), (.istore_n 3, 1, 3, 0, 0)], 4),
  (4, [(.iload_n 3, 1, 3, 0, 0), (.aload_n 0, 1, 0, 0, 0), (.getfield 70, 3, 11, 7, 0), (.if_icmp .ge 50, 3, 59, 0, 0), (.aload_n 0, 1, 0, 0, 0), (.getfield 7, 3, 11, 0, 0), (.iload_n 3, 1, 3, 0, 0), (.iaload, 1, 0, 0, 0), (.iload_n 1, 1, 1, 0, 0), (.if_icmp .ne 34, 3, 53, 0, 0), (.aload_n 0, 1, 0, 0, 0), (.iload_n 3, 1, 3, 0, 0), (.invokevirtual 78, 3, 174, 1, 11), (.ifCond .lt 26, 3, 53, 0, 0), (.iload_n 3, 1, 3, 0, 0), (.aload_n 0, 1, 0, 0, 0), (.iload_n 3, 1, 3, 0, 0), (.invokevirtual 78, 3, 174, 1, 11), (.isub, 1, 0, 0, 0), (.iconst 1, 1, 0, 0, 1), (.isub, 1, 0, 0, 0), (.iload_n 2, 1, 2, 0, 0), (.if_icmp .le 13, 3, 53, 0, 0), (.iload_n 3, 1, 3, 0, 0), (.aload_n 0, 1, 0, 0, 0), (.iload_n 3, 1, 3, 0, 0), (.invokevirtual 78, 3, 174, 1, 11), (.isub, 1, 0, 0, 0), (.iconst 1, 1, 0, 0, 1), (.isub, 1, 0, 0, 0), (.istore_n 2, 1, 2, 0, 0)], 53),
  (53, [(.iinc 3 1, 3, 3, 0, 1), (.goto (-52), 3, 4, 0, 0)], 59),
  (59, [(.iload_n 2, 1, 2, 0, 0), (.ireturn, 1, 0, 0, 0)], 61)]
set_option maxRecDepth 100000 in
theorem ok_X11_widest : pm_oks 11 false 4 (some .int) cX11_widest bk_X11_widest = true := oksF_ok (by decide +kernel)
set_option maxRecDepth 100000 in
theorem me_X11_widest : pm_me 203 = (yX11_widest, cX11_widest, 4, (some .int), 1, 0) := rfl
theorem mt_X11_widest {l : Launch} {g : pm_G} {d mc ms : Nat} {as : List Value} {A : pm_H} {Q : Option Value → pm_H → Prop} (hca : pm_cat 4 as = true) (body : ∀ J : pm_J, pm_Cl l g (fun _ => none) d mc ms (pm_Rq mc ms Q) bk_X11_widest J → J 0 (pm_l0 4 as) [] A 0 0) : pm_Mt l g 203 d mc ms as A Q := pm_Mt_of (isI := false) 11 bk_X11_widest me_X11_widest (plainFor_of_name (by decide +kernel)) (by decide +kernel) (fun h => by cases h) ok_X11_widest hca body
def bk_X11_nth : pm_B := [(0, [(.iload_n 2, 1, 2, 0, 0), (.istore_n 3, 1, 3, 0, 0), (.iconst 0, 1, 0, 0, 0), (.istore 4, 2, 4, 0, 0)], 5),
  (5, [(.iload 4, 2, 4, 0, 0), (.aload_n 0, 1, 0, 0, 0), (.getfield 70, 3, 11, 7, 0), (.if_icmp .ge 37, 3, 48, 0, 0), (.iload_n 2, 1, 2, 0, 0), (.ifCond .lt 33, 3, 48, 0, 0), (.aload_n 0, 1, 0, 0, 0), (.getfield 7, 3, 11, 0, 0), (.iload 4, 2, 4, 0, 0), (.iaload, 1, 0, 0, 0), (.iload_n 1, 1, 1, 0, 0), (.if_icmp .eq 6, 3, 32, 0, 0), (.goto 13, 3, 42, 0, 0)], 32),
  (32, [(.iload_n 3, 1, 3, 0, 0), (.ifCond .ne 6, 3, 39, 0, 0), (.iload 4, 2, 4, 0, 0), (.ireturn, 1, 0, 0, 0)], 39),
  (39, [(.iinc 3 (-1), 3, 3, 0, -1)], 42),
  (42, [(.iinc 4 1, 3, 4, 0, 1), (.goto (-40), 3, 5, 0, 0)], 48),
  (48, [(.iconst (-1), 1, 0, 0, -1), (.ireturn, 1, 0, 0, 0)], 50)]
set_option maxRecDepth 100000 in
theorem ok_X11_nth : pm_oks 11 false 5 (some .int) cX11_nth bk_X11_nth = true := oksF_ok (by decide +kernel)
set_option maxRecDepth 100000 in
theorem me_X11_nth : pm_me 204 = (yX11_nth, cX11_nth, 5, (some .int), 2, 0) := rfl
theorem mt_X11_nth {l : Launch} {g : pm_G} {d mc ms : Nat} {as : List Value} {A : pm_H} {Q : Option Value → pm_H → Prop} (hca : pm_cat 5 as = true) (body : ∀ J : pm_J, pm_Cl l g (fun _ => none) d mc ms (pm_Rq mc ms Q) bk_X11_nth J → J 0 (pm_l0 5 as) [] A 0 0) : pm_Mt l g 204 d mc ms as A Q := pm_Mt_of (isI := false) 11 bk_X11_nth me_X11_nth (plainFor_of_name (by decide +kernel)) (by decide +kernel) (fun h => by cases h) ok_X11_nth hca body
def bk_X11_about : pm_B := [(0, [(.iload_n 1, 1, 1, 0, 0), (.tableswitch 79 0 5 #[39, 44, 59, 64, 69, 74], 39, 1, 0, 0)], 40),
  (40, [(.aload_n 0, 1, 0, 0, 0), (.getfield 70, 3, 11, 7, 0), (.ireturn, 1, 0, 0, 0)], 45),
  (45, [(.aload_n 0, 1, 0, 0, 0), (.iconst 0, 1, 0, 0, 0), (.aload_n 0, 1, 0, 0, 0), (.getfield 70, 3, 11, 7, 0), (.iconst 1, 1, 0, 0, 1), (.isub, 1, 0, 0, 0), (.invokevirtual 161, 3, 206, 2, 11), (.invokestatic 165, 3, 207, 1, 0), (.ireturn, 1, 0, 0, 0)], 60),
  (60, [(.aload_n 0, 1, 0, 0, 0), (.getfield 95, 3, 11, 10, 0), (.ireturn, 1, 0, 0, 0)], 65),
  (65, [(.aload_n 0, 1, 0, 0, 0), (.getfield 102, 3, 11, 11, 0), (.ireturn, 1, 0, 0, 0)], 70),
  (70, [(.aload_n 0, 1, 0, 0, 0), (.getfield 105, 3, 11, 12, 0), (.ireturn, 1, 0, 0, 0)], 75),
  (75, [(.aload_n 0, 1, 0, 0, 0), (.getfield 168, 3, 11, 17, 0), (.ireturn, 1, 0, 0, 0)], 80),
  (80, [(.iconst (-1), 1, 0, 0, -1), (.ireturn, 1, 0, 0, 0)], 82)]
set_option maxRecDepth 100000 in
theorem ok_X11_about : pm_oks 11 false 2 (some .int) cX11_about bk_X11_about = true := oksF_ok (by decide +kernel)
set_option maxRecDepth 100000 in
theorem me_X11_about : pm_me 205 = (yX11_about, cX11_about, 2, (some .int), 1, 0) := rfl
theorem mt_X11_about {l : Launch} {g : pm_G} {d mc ms : Nat} {as : List Value} {A : pm_H} {Q : Option Value → pm_H → Prop} (hca : pm_cat 2 as = true) (body : ∀ J : pm_J, pm_Cl l g (fun _ => none) d mc ms (pm_Rq mc ms Q) bk_X11_about J → J 0 (pm_l0 2 as) [] A 0 0) : pm_Mt l g 205 d mc ms as A Q := pm_Mt_of (isI := false) 11 bk_X11_about me_X11_about (plainFor_of_name (by decide +kernel)) (by decide +kernel) (fun h => by cases h) ok_X11_about hca body
def bk_X11_setOf : pm_B := [(0, [(.iconst 0, 1, 0, 0, 0), (.istore_n 3, 1, 3, 0, 0), (.iload_n 1, 1, 1, 0, 0), (.istore 4, 2, 4, 0, 0)], 5),
  (5, [(.iload 4, 2, 4, 0, 0), (.iload_n 2, 1, 2, 0, 0), (.if_icmp .gt 21, 3, 29, 0, 0), (.iload_n 3, 1, 3, 0, 0), (.iconst 1, 1, 0, 0, 1), (.aload_n 0, 1, 0, 0, 0), (.getfield 7, 3, 11, 0, 0), (.iload 4, 2, 4, 0, 0), (.iaload, 1, 0, 0, 0), (.ishl, 1, 0, 0, 0), (.ior, 1, 0, 0, 0), (.istore_n 3, 1, 3, 0, 0), (.iinc 4 1, 3, 4, 0, 1), (.goto (-21), 3, 5, 0, 0)], 29),
  (29, [(.iload_n 3, 1, 3, 0, 0), (.ireturn, 1, 0, 0, 0)], 31)]
set_option maxRecDepth 100000 in
theorem ok_X11_setOf : pm_oks 11 false 5 (some .int) cX11_setOf bk_X11_setOf = true := oksF_ok (by decide +kernel)
set_option maxRecDepth 100000 in
theorem me_X11_setOf : pm_me 206 = (yX11_setOf, cX11_setOf, 5, (some .int), 2, 0) := rfl
theorem mt_X11_setOf {l : Launch} {g : pm_G} {d mc ms : Nat} {as : List Value} {A : pm_H} {Q : Option Value → pm_H → Prop} (hca : pm_cat 5 as = true) (body : ∀ J : pm_J, pm_Cl l g (fun _ => none) d mc ms (pm_Rq mc ms Q) bk_X11_setOf J → J 0 (pm_l0 5 as) [] A 0 0) : pm_Mt l g 206 d mc ms as A Q := pm_Mt_of (isI := false) 11 bk_X11_setOf me_X11_setOf (plainFor_of_name (by decide +kernel)) (by decide +kernel) (fun h => by cases h) ok_X11_setOf hca body
def bk_X11_bits : pm_B := [(0, [(.iconst 0, 1, 0, 0, 0), (.istore_n 1, 1, 1, 0, 0), (.iload_n 0, 1, 0, 0, 0), (.istore_n 2, 1, 2, 0, 0)], 4),
  (4, [(.iload_n 2, 1, 2, 0, 0), (.ifCond .eq 15, 3, 20, 0, 0), (.iinc 1 1, 3, 1, 0, 1), (.iload_n 2, 1, 2, 0, 0), (.iload_n 2, 1, 2, 0, 0), (.iconst 1, 1, 0, 0, 1), (.isub, 1, 0, 0, 0), (.iand, 1, 0, 0, 0), (.istore_n 2, 1, 2, 0, 0), (.goto (-13), 3, 4, 0, 0)], 20),
  (20, [(.iload_n 1, 1, 1, 0, 0), (.ireturn, 1, 0, 0, 0)], 22)]
set_option maxRecDepth 100000 in
theorem ok_X11_bits : pm_oks 11 false 3 (some .int) cX11_bits bk_X11_bits = true := oksF_ok (by decide +kernel)
set_option maxRecDepth 100000 in
theorem me_X11_bits : pm_me 207 = (yX11_bits, cX11_bits, 3, (some .int), 1, 1) := rfl
theorem mt_X11_bits {l : Launch} {g : pm_G} {d mc ms : Nat} {as : List Value} {A : pm_H} {Q : Option Value → pm_H → Prop} (hca : pm_cat 3 as = true) (body : ∀ J : pm_J, pm_Cl l g (fun _ => none) d mc ms (pm_Rq mc ms Q) bk_X11_bits J → J 0 (pm_l0 3 as) [] A 0 0) : pm_Mt l g 207 d mc ms as A Q := pm_Mt_of (isI := false) 11 bk_X11_bits me_X11_bits (plainFor_of_name (by decide +kernel)) (by decide +kernel) (fun h => by cases h) ok_X11_bits hca body
def bk_X11_count : pm_B := [(0, [(.aload_n 0, 1, 0, 0, 0), (.iload_n 1, 1, 1, 0, 0), (.iload_n 2, 1, 2, 0, 0), (.invokevirtual 129, 3, 180, 2, 11), (.ifCond .eq 12, 3, 18, 0, 0), (.aload_n 0, 1, 0, 0, 0), (.iload_n 1, 1, 1, 0, 0), (.iload_n 2, 1, 2, 0, 0), (.invokevirtual 171, 3, 209, 2, 11), (.goto 4, 3, 19, 0, 0)], 18),
  (18, [(.iconst (-1), 1, 0, 0, -1)], 19),
  (19, [(.ireturn, 1, 0, 0, 0)], 20)]
