
def bk_X11_isNewSide : pm_B := [(0, [(.iload_n 1, 1, 1, 0, 0), (.iconst 1, 1, 0, 0, 1), (.iadd, 1, 0, 0, 0), (.istore_n 3, 1, 3, 0, 0)], 4),
  (4, [(.iload_n 3, 1, 3, 0, 0), (.iload_n 2, 1, 2, 0, 0), (.if_icmp .ge 103, 3, 109, 0, 0), (.aload_n 0, 1, 0, 0, 0), (.getfield 7, 3, 11, 0, 0), (.iload_n 3, 1, 3, 0, 0), (.iaload, 1, 0, 0, 0), (.aload_n 0, 1, 0, 0, 0), (.getfield 7, 3, 11, 0, 0), (.iload_n 2, 1, 2, 0, 0), (.iaload, 1, 0, 0, 0), (.if_icmp .ne 26, 3, 47, 0, 0), (.aload_n 0, 1, 0, 0, 0), (.getfield 7, 3, 11, 0, 0), (.iload_n 3, 1, 3, 0, 0), (.iconst 1, 1, 0, 0, 1), (.isub, 1, 0, 0, 0), (.iaload, 1, 0, 0, 0), (.aload_n 0, 1, 0, 0, 0), (.getfield 7, 3, 11, 0, 0), (.iload_n 2, 1, 2, 0, 0), (.iconst 1, 1, 0, 0, 1), (.isub, 1, 0, 0, 0), (.iaload, 1, 0, 0, 0), (.if_icmp .ne 7, 3, 47, 0, 0), (.iconst 1, 1, 0, 0, 1), (.goto 4, 3, 48, 0, 0)], 47),
  (47, [(.iconst 0, 1, 0, 0, 0)], 48),
  (48, [(.istore 4, 2, 4, 0, 0), (.aload_n 0, 1, 0, 0, 0), (.getfield 7, 3, 11, 0, 0), (.iload_n 3, 1, 3, 0, 0), (.iaload, 1, 0, 0, 0), (.aload_n 0, 1, 0, 0, 0), (.getfield 7, 3, 11, 0, 0), (.iload_n 2, 1, 2, 0, 0), (.iconst 1, 1, 0, 0, 1), (.isub, 1, 0, 0, 0), (.iaload, 1, 0, 0, 0), (.if_icmp .ne 24, 3, 88, 0, 0), (.aload_n 0, 1, 0, 0, 0), (.getfield 7, 3, 11, 0, 0), (.iload_n 3, 1, 3, 0, 0), (.iconst 1, 1, 0, 0, 1), (.isub, 1, 0, 0, 0), (.iaload, 1, 0, 0, 0), (.aload_n 0, 1, 0, 0, 0), (.getfield 7, 3, 11, 0, 0), (.iload_n 2, 1, 2, 0, 0), (.iaload, 1, 0, 0, 0), (.if_icmp .ne 7, 3, 88, 0, 0), (.iconst 1, 1, 0, 0, 1), (.goto 4, 3, 89, 0, 0)], 88),
  (88, [(.iconst 0, 1, 0, 0, 0)], 89),
  (89, [(.istore 5, 2, 5, 0, 0), (.iload 4, 2, 4, 0, 0), (.ifCond .ne 8, 3, 101, 0, 0), (.iload 5, 2, 5, 0, 0), (.ifCond .eq 5, 3, 103, 0, 0)], 101),
  (101, [(.iconst 0, 1, 0, 0, 0), (.ireturn, 1, 1, 0, 0)], 103),
  (103, [(.iinc 3 1, 3, 3, 0, 1), (.goto (-102), 3, 4, 0, 0)], 109),
  (109, [(.iconst 1, 1, 0, 0, 1), (.ireturn, 1, 1, 0, 0)], 111)]
set_option maxRecDepth 100000 in
theorem ok_X11_isNewSide : pm_oks 11 false 6 (some .boolean) cX11_isNewSide bk_X11_isNewSide = true := oksF_ok (by decide +kernel)
set_option maxRecDepth 100000 in
theorem me_X11_isNewSide : pm_me 239 = (yX11_isNewSide, cX11_isNewSide, 6, (some .boolean), 2, 0) := rfl
theorem mt_X11_isNewSide {l : Launch} {g : pm_G} {d mc ms : Nat} {as : List Value} {A : pm_H} {Q : Option Value → pm_H → Prop} (hca : pm_cat 6 as = true) (body : ∀ J : pm_J, pm_Cl l g (fun _ => none) d mc ms (pm_Rq mc ms Q) bk_X11_isNewSide J → J 0 (pm_l0 6 as) [] A 0 0) : pm_Mt l g 239 d mc ms as A Q := pm_Mt_of (isI := false) 11 bk_X11_isNewSide me_X11_isNewSide (plainFor_of_name (by decide +kernel)) (by decide +kernel) (fun h => by cases h) ok_X11_isNewSide hca body
def bk_X11_cover : pm_B := [(0, [(.aload_n 0, 1, 0, 0, 0), (.iload_n 1, 1, 1, 0, 0), (.iload_n 2, 1, 2, 0, 0), (.invokevirtual 129, 3, 180, 2, 11), (.ifCond .ne 5, 3, 11, 0, 0), (.iconst (-1), 1, 0, 0, -1), (.ireturn, 1, 0, 0, 0)], 11),
  (11, [(.aload_n 0, 1, 0, 0, 0), (.iload_n 1, 1, 1, 0, 0), (.iload_n 2, 1, 2, 0, 0), (.invokevirtual 161, 3, 206, 2, 11), (.istore_n 3, 1, 3, 0, 0), (.iconst 1, 1, 0, 0, 1), (.istore 4, 2, 4, 0, 0)], 21),
  (21, [(.aload_n 0, 1, 0, 0, 0), (.iload_n 1, 1, 1, 0, 0), (.iload_n 2, 1, 2, 0, 0), (.iload 4, 2, 4, 0, 0), (.iload_n 3, 1, 3, 0, 0), (.invokevirtual 218, 3, 241, 4, 11), (.ifCond .ne 9, 3, 39, 0, 0), (.iinc 4 1, 3, 4, 0, 1), (.goto (-15), 3, 21, 0, 0)], 39),
  (39, [(.iload 4, 2, 4, 0, 0), (.ireturn, 1, 0, 0, 0)], 42)]
set_option maxRecDepth 100000 in
theorem ok_X11_cover : pm_oks 11 false 5 (some .int) cX11_cover bk_X11_cover = true := oksF_ok (by decide +kernel)
set_option maxRecDepth 100000 in
theorem me_X11_cover : pm_me 240 = (yX11_cover, cX11_cover, 5, (some .int), 2, 0) := rfl
theorem mt_X11_cover {l : Launch} {g : pm_G} {d mc ms : Nat} {as : List Value} {A : pm_H} {Q : Option Value → pm_H → Prop} (hca : pm_cat 5 as = true) (body : ∀ J : pm_J, pm_Cl l g (fun _ => none) d mc ms (pm_Rq mc ms Q) bk_X11_cover J → J 0 (pm_l0 5 as) [] A 0 0) : pm_Mt l g 240 d mc ms as A Q := pm_Mt_of (isI := false) 11 bk_X11_cover me_X11_cover (plainFor_of_name (by decide +kernel)) (by decide +kernel) (fun h => by cases h) ok_X11_cover hca body
def bk_X11_haveAll : pm_B := [(0, [(.iload_n 1, 1, 1, 0, 0), (.istore 5, 2, 5, 0, 0)], 3),
  (3, [(.iload 5, 2, 5, 0, 0), (.iload_n 3, 1, 3, 0, 0), (.iadd, 1, 0, 0, 0), (.iconst 1, 1, 0, 0, 1), (.isub, 1, 0, 0, 0), (.iload_n 2, 1, 2, 0, 0), (.if_icmp .gt 28, 3, 38, 0, 0), (.aload_n 0, 1, 0, 0, 0), (.iload 5, 2, 5, 0, 0), (.iload 5, 2, 5, 0, 0), (.iload_n 3, 1, 3, 0, 0), (.iadd, 1, 0, 0, 0), (.iconst 1, 1, 0, 0, 1), (.isub, 1, 0, 0, 0), (.invokevirtual 161, 3, 206, 2, 11), (.iload 4, 2, 4, 0, 0), (.if_icmp .eq 5, 3, 32, 0, 0), (.iconst 0, 1, 0, 0, 0), (.ireturn, 1, 1, 0, 0)], 32),
  (32, [(.iinc 5 1, 3, 5, 0, 1), (.goto (-32), 3, 3, 0, 0)], 38),
  (38, [(.iconst 1, 1, 0, 0, 1), (.ireturn, 1, 1, 0, 0)], 40)]
set_option maxRecDepth 100000 in
theorem ok_X11_haveAll : pm_oks 11 false 6 (some .boolean) cX11_haveAll bk_X11_haveAll = true := oksF_ok (by decide +kernel)
set_option maxRecDepth 100000 in
theorem me_X11_haveAll : pm_me 241 = (yX11_haveAll, cX11_haveAll, 6, (some .boolean), 4, 0) := rfl
theorem mt_X11_haveAll {l : Launch} {g : pm_G} {d mc ms : Nat} {as : List Value} {A : pm_H} {Q : Option Value → pm_H → Prop} (hca : pm_cat 6 as = true) (body : ∀ J : pm_J, pm_Cl l g (fun _ => none) d mc ms (pm_Rq mc ms Q) bk_X11_haveAll J → J 0 (pm_l0 6 as) [] A 0 0) : pm_Mt l g 241 d mc ms as A Q := pm_Mt_of (isI := false) 11 bk_X11_haveAll me_X11_haveAll (plainFor_of_name (by decide +kernel)) (by decide +kernel) (fun h => by cases h) ok_X11_haveAll hca body
def bk_X11_least : pm_B := [(0, [(.aload_n 0, 1, 0, 0, 0), (.iload_n 1, 1, 1, 0, 0), (.iload_n 2, 1, 2, 0, 0), (.invokevirtual 129, 3, 180, 2, 11), (.ifCond .eq 8, 3, 14, 0, 0), (.iload_n 3, 1, 3, 0, 0), (.iconst 1, 1, 0, 0, 1), (.if_icmp .ge 5, 3, 16, 0, 0)], 14),
  (14, [(.iconst (-1), 1, 0, 0, -1), (.ireturn, 1, 0, 0, 0)], 16),
  (16, [(.aload_n 0, 1, 0, 0, 0), (.iload_n 1, 1, 1, 0, 0), (.iload_n 2, 1, 2, 0, 0), (.iconst 4, 1, 0, 0, 4), (.invokevirtual 188, 3, 221, 3, 11), (.istore 4, 2, 4, 0, 0), (.iconst 0, 1, 0, 0, 0), (.istore 5, 2, 5, 0, 0), (.iload_n 3, 1, 3, 0, 0), (.istore 6, 2, 6, 0, 0)], 31),
  (31, [(.iload 6, 2, 6, 0, 0), (.iload 4, 2, 4, 0, 0), (.if_icmp .ge 27, 3, 62, 0, 0), (.iload 5, 2, 5, 0, 0), (.aload_n 0, 1, 0, 0, 0), (.iload_n 1, 1, 1, 0, 0), (.iload_n 2, 1, 2, 0, 0), (.aload_n 0, 1, 0, 0, 0), (.getfield 58, 3, 11, 23, 0), (.iload 6, 2, 6, 0, 0), (.iaload, 1, 0, 0, 0), (.invokevirtual 148, 3, 200, 3, 11), (.iadd, 1, 0, 0, 0), (.istore 5, 2, 5, 0, 0), (.iinc 6 1, 3, 6, 0, 1), (.goto (-28), 3, 31, 0, 0)], 62),
  (62, [(.iload 5, 2, 5, 0, 0), (.ireturn, 1, 0, 0, 0)], 65)]
set_option maxRecDepth 100000 in
theorem ok_X11_least : pm_oks 11 false 7 (some .int) cX11_least bk_X11_least = true := oksF_ok (by decide +kernel)
set_option maxRecDepth 100000 in
theorem me_X11_least : pm_me 242 = (yX11_least, cX11_least, 7, (some .int), 3, 0) := rfl
theorem mt_X11_least {l : Launch} {g : pm_G} {d mc ms : Nat} {as : List Value} {A : pm_H} {Q : Option Value → pm_H → Prop} (hca : pm_cat 7 as = true) (body : ∀ J : pm_J, pm_Cl l g (fun _ => none) d mc ms (pm_Rq mc ms Q) bk_X11_least J → J 0 (pm_l0 7 as) [] A 0 0) : pm_Mt l g 242 d mc ms as A Q := pm_Mt_of (isI := false) 11 bk_X11_least me_X11_least (plainFor_of_name (by decide +kernel)) (by decide +kernel) (fun h => by cases h) ok_X11_least hca body
