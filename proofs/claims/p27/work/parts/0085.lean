
def bk_X11_placeOf : pm_B := [(0, [(.iconst 0, 1, 0, 0, 0), (.istore_n 2, 1, 2, 0, 0)], 2),
  (2, [(.iload_n 2, 1, 2, 0, 0), (.aload_n 0, 1, 0, 0, 0), (.getfield 70, 3, 11, 7, 0), (.if_icmp .ge 21, 3, 28, 0, 0), (.aload_n 0, 1, 0, 0, 0), (.getfield 13, 3, 11, 1, 0), (.iload_n 2, 1, 2, 0, 0), (.iaload, 1, 0, 0, 0), (.iload_n 1, 1, 1, 0, 0), (.if_icmp .ne 5, 3, 22, 0, 0), (.iload_n 2, 1, 2, 0, 0), (.ireturn, 1, 0, 0, 0)], 22),
  (22, [(.iinc 2 1, 3, 2, 0, 1), (.goto (-23), 3, 2, 0, 0)], 28),
  (28, [(.iconst (-1), 1, 0, 0, -1), (.ireturn, 1, 0, 0, 0)], 30)]
set_option maxRecDepth 100000 in
theorem ok_X11_placeOf : pm_oks 11 false 3 (some .int) cX11_placeOf bk_X11_placeOf = true := oksF_ok (by decide +kernel)
set_option maxRecDepth 100000 in
theorem me_X11_placeOf : pm_me 198 = (yX11_placeOf, cX11_placeOf, 3, (some .int), 1, 0) := rfl
theorem mt_X11_placeOf {l : Launch} {g : pm_G} {d mc ms : Nat} {as : List Value} {A : pm_H} {Q : Option Value → pm_H → Prop} (hca : pm_cat 3 as = true) (body : ∀ J : pm_J, pm_Cl l g (fun _ => none) d mc ms (pm_Rq mc ms Q) bk_X11_placeOf J → J 0 (pm_l0 3 as) [] A 0 0) : pm_Mt l g 198 d mc ms as A Q := pm_Mt_of (isI := false) 11 bk_X11_placeOf me_X11_placeOf (plainFor_of_name (by decide +kernel)) (by decide +kernel) (fun h => by cases h) ok_X11_placeOf hca body
def bk_X11_colour : pm_B := [(0, [(.iload_n 1, 1, 1, 0, 0), (.invokestatic 122, 3, 170, 1, 0), (.ifCond .ne 5, 3, 9, 0, 0), (.iconst (-1), 1, 0, 0, -1), (.ireturn, 1, 0, 0, 0)], 9),
  (9, [(.iload_n 2, 1, 2, 0, 0), (.tableswitch 72 0 4 #[34, 47, 54, 60, 66], 34, 10, 0, 0)], 44),
  (44, [(.aload_n 0, 1, 0, 0, 0), (.iconst 0, 1, 0, 0, 0), (.aload_n 0, 1, 0, 0, 0), (.getfield 70, 3, 11, 7, 0), (.iconst 1, 1, 0, 0, 1), (.isub, 1, 0, 0, 0), (.iload_n 1, 1, 1, 0, 0), (.invokevirtual 148, 3, 200, 3, 11), (.ireturn, 1, 0, 0, 0)], 57),
  (57, [(.aload_n 0, 1, 0, 0, 0), (.getfield 16, 3, 11, 2, 0), (.iload_n 1, 1, 1, 0, 0), (.iaload, 1, 0, 0, 0), (.ireturn, 1, 0, 0, 0)], 64),
  (64, [(.aload_n 0, 1, 0, 0, 0), (.iload_n 1, 1, 1, 0, 0), (.invokevirtual 152, 3, 201, 1, 11), (.ireturn, 1, 0, 0, 0)], 70),
  (70, [(.aload_n 0, 1, 0, 0, 0), (.iload_n 1, 1, 1, 0, 0), (.invokevirtual 155, 3, 202, 1, 11), (.ireturn, 1, 0, 0, 0)], 76),
  (76, [(.aload_n 0, 1, 0, 0, 0), (.iload_n 1, 1, 1, 0, 0), (.invokevirtual 158, 3, 203, 1, 11), (.ireturn, 1, 0, 0, 0)], 82),
  (82, [(.iconst (-1), 1, 0, 0, -1), (.ireturn, 1, 0, 0, 0)], 84)]
set_option maxRecDepth 100000 in
theorem ok_X11_colour : pm_oks 11 false 3 (some .int) cX11_colour bk_X11_colour = true := oksF_ok (by decide +kernel)
set_option maxRecDepth 100000 in
theorem me_X11_colour : pm_me 199 = (yX11_colour, cX11_colour, 3, (some .int), 2, 0) := rfl
theorem mt_X11_colour {l : Launch} {g : pm_G} {d mc ms : Nat} {as : List Value} {A : pm_H} {Q : Option Value → pm_H → Prop} (hca : pm_cat 3 as = true) (body : ∀ J : pm_J, pm_Cl l g (fun _ => none) d mc ms (pm_Rq mc ms Q) bk_X11_colour J → J 0 (pm_l0 3 as) [] A 0 0) : pm_Mt l g 199 d mc ms as A Q := pm_Mt_of (isI := false) 11 bk_X11_colour me_X11_colour (plainFor_of_name (by decide +kernel)) (by decide +kernel) (fun h => by cases h) ok_X11_colour hca body
def bk_X11_timesIn : pm_B := [(0, [(.iconst 0, 1, 0, 0, 0), (.istore 4, 2, 4, 0, 0), (.iload_n 1, 1, 1, 0, 0), (.istore 5, 2, 5, 0, 0)], 6),
  (6, [(.iload 5, 2, 5, 0, 0), (.iload_n 2, 1, 2, 0, 0), (.if_icmp .gt 30, 3, 39, 0, 0), (.iload 4, 2, 4, 0, 0), (.aload_n 0, 1, 0, 0, 0), (.getfield 7, 3, 11, 0, 0), (.iload 5, 2, 5, 0, 0), (.iaload, 1, 0, 0, 0), (.iload_n 3, 1, 3, 0, 0), (.if_icmp .ne 7, 3, 29, 0, 0), (.iconst 1, 1, 0, 0, 1), (.goto 4, 3, 30, 0, 0)], 29),
  (29, [(.iconst 0, 1, 0, 0, 0)], 30),
  (30, [(.iadd, 1, 0, 0, 0), (.istore 4, 2, 4, 0, 0), (.iinc 5 1, 3, 5, 0, 1), (.goto (-30), 3, 6, 0, 0)], 39),
  (39, [(.iload 4, 2, 4, 0, 0), (.ireturn, 1, 0, 0, 0)], 42)]
set_option maxRecDepth 100000 in
theorem ok_X11_timesIn : pm_oks 11 false 6 (some .int) cX11_timesIn bk_X11_timesIn = true := oksF_ok (by decide +kernel)
set_option maxRecDepth 100000 in
theorem me_X11_timesIn : pm_me 200 = (yX11_timesIn, cX11_timesIn, 6, (some .int), 3, 0) := rfl
theorem mt_X11_timesIn {l : Launch} {g : pm_G} {d mc ms : Nat} {as : List Value} {A : pm_H} {Q : Option Value → pm_H → Prop} (hca : pm_cat 6 as = true) (body : ∀ J : pm_J, pm_Cl l g (fun _ => none) d mc ms (pm_Rq mc ms Q) bk_X11_timesIn J → J 0 (pm_l0 6 as) [] A 0 0) : pm_Mt l g 200 d mc ms as A Q := pm_Mt_of (isI := false) 11 bk_X11_timesIn me_X11_timesIn (plainFor_of_name (by decide +kernel)) (by decide +kernel) (fun h => by cases h) ok_X11_timesIn hca body
def bk_X11_first : pm_B := [(0, [(.iconst 0, 1, 0, 0, 0), (.istore_n 2, 1, 2, 0, 0)], 2),
  (2, [(.iload_n 2, 1, 2, 0, 0), (.aload_n 0, 1, 0, 0, 0), (.getfield 70, 3, 11, 7, 0), (.if_icmp .ge 21, 3, 28, 0, 0), (.aload_n 0, 1, 0, 0, 0), (.getfield 7, 3, 11, 0, 0), (.iload_n 2, 1, 2, 0, 0), (.iaload, 1, 0, 0, 0), (.iload_n 1, 1, 1, 0, 0), (.if_icmp .ne 5, 3, 22, 0, 0), (.iload_n 2, 1, 2, 0, 0), (.ireturn, 1, 0, 0, 0)], 22),
  (22, [(.iinc 2 1, 3, 2, 0, 1), (.goto (-23), 3, 2, 0, 0)], 28),
  (28, [(.iconst (-1), 1, 0, 0, -1), (.ireturn, 1, 0, 0, 0)], 30)]
set_option maxRecDepth 100000 in
theorem ok_X11_first : pm_oks 11 false 3 (some .int) cX11_first bk_X11_first = true := oksF_ok (by decide +kernel)
set_option maxRecDepth 100000 in
theorem me_X11_first : pm_me 201 = (yX11_first, cX11_first, 3, (some .int), 1, 0) := rfl
theorem mt_X11_first {l : Launch} {g : pm_G} {d mc ms : Nat} {as : List Value} {A : pm_H} {Q : Option Value → pm_H → Prop} (hca : pm_cat 3 as = true) (body : ∀ J : pm_J, pm_Cl l g (fun _ => none) d mc ms (pm_Rq mc ms Q) bk_X11_first J → J 0 (pm_l0 3 as) [] A 0 0) : pm_Mt l g 201 d mc ms as A Q := pm_Mt_of (isI := false) 11 bk_X11_first me_X11_first (plainFor_of_name (by decide +kernel)) (by decide +kernel) (fun h => by cases h) ok_X11_first hca body
def bk_X11_last : pm_B := [(0, [(.aload_n 0, 1, 0, 0, 0), (.getfield 70, 3, 11, 7, 0), (.iconst 1, 1, 0, 0, 1), (.isub, 1, 0, 0, 0), (.istore_n 2, 1, 2, 0, 0)], 7),
  (7, [(.iload_n 2, 1, 2, 0, 0), (.ifCond .lt 21, 3, 29, 0, 0), (.aload_n 0, 1, 0, 0, 0), (.getfield 7, 3, 11, 0, 0), (.iload_n 2, 1, 2, 0, 0), (.iaload, 1, 0, 0, 0), (.iload_n 1, 1, 1, 0, 0), (.if_icmp .ne 5, 3, 23, 0, 0), (.iload_n 2, 1, 2, 0, 0), (.ireturn, 1, 0, 0, 0)], 23),
  (23, [(.iinc 2 (-1), 3, 2, 0, -1), (.goto (-19), 3, 7, 0, 0)], 29),
  (29, [(.iconst (-1), 1, 0, 0, -1), (.ireturn, 1, 0, 0, 0)], 31)]
set_option maxRecDepth 100000 in
theorem ok_X11_last : pm_oks 11 false 3 (some .int) cX11_last bk_X11_last = true := oksF_ok (by decide +kernel)
set_option maxRecDepth 100000 in
theorem me_X11_last : pm_me 202 = (yX11_last, cX11_last, 3, (some .int), 1, 0) := rfl
theorem mt_X11_last {l : Launch} {g : pm_G} {d mc ms : Nat} {as : List Value} {A : pm_H} {Q : Option Value → pm_H → Prop} (hca : pm_cat 3 as = true) (body : ∀ J : pm_J, pm_Cl l g (fun _ => none) d mc ms (pm_Rq mc ms Q) bk_X11_last J → J 0 (pm_l0 3 as) [] A 0 0) : pm_Mt l g 202 d mc ms as A Q := pm_Mt_of (isI := false) 11 bk_X11_last me_X11_last (plainFor_of_name (by decide +kernel)) (by decide +kernel) (fun h => by cases h) ok_X11_last hca body
