
def bk_X10_major : pm_B := [(0, [(.aload_n 0, 1, 0, 0, 0), (.iload_n 1, 1, 1, 0, 0), (.iload_n 2, 1, 2, 0, 0), (.invokevirtual 182, 3, 59, 2, 10), (.ifCond .eq 22, 3, 28, 0, 0), (.aload_n 0, 1, 0, 0, 0), (.getfield 26, 3, 10, 2, 0), (.aload_n 0, 1, 0, 0, 0), (.getfield 19, 3, 10, 1, 0), (.iconst 2, 1, 0, 0, 2), (.invokevirtual 217, 3, 79, 1, 2), (.iconst 0, 1, 0, 0, 0), (.invokevirtual 206, 3, 71, 2, 0), (.goto 4, 3, 29, 0, 0)], 28),
  (28, [(.iconst (-1), 1, 0, 0, -1)], 29),
  (29, [(.ireturn, 1, 0, 0, 0)], 30)]
set_option maxRecDepth 100000 in
theorem ok_X10_major : pm_oks 10 false 3 (some .int) cX10_major bk_X10_major = true := oksF_ok (by decide +kernel)
set_option maxRecDepth 100000 in
theorem me_X10_major : pm_me 78 = (yX10_major, cX10_major, 3, (some .int), 2, 0) := rfl
theorem mt_X10_major {l : Launch} {g : pm_G} {d mc ms : Nat} {as : List Value} {A : pm_H} {Q : Option Value → pm_H → Prop} (hca : pm_cat 3 as = true) (body : ∀ J : pm_J, pm_Cl l g (fun _ => none) d mc ms (pm_Rq mc ms Q) bk_X10_major J → J 0 (pm_l0 3 as) [] A 0 0) : pm_Mt l g 78 d mc ms as A Q := pm_Mt_of (isI := false) 10 bk_X10_major me_X10_major (plainFor_of_name (by decide +kernel)) (by decide +kernel) (fun h => by cases h) ok_X10_major hca body
def bk_X10_close : pm_B := [(0, [(.aload_n 0, 1, 0, 0, 0), (.getfield 12, 3, 10, 0, 0), (.getfield 80, 3, 9, 4, 0), (.astore 4, 2, 4, 0, 0), (.aload 4, 2, 4, 0, 0), (.iload_n 1, 1, 1, 0, 0), (.iload_n 2, 1, 2, 0, 0), (.invokevirtual 111, 3, 14, 2, 7), (.ifCond .ne 5, 3, 21, 0, 0), (.iconst (-1), 1, 0, 0, -1), (.ireturn, 1, 0, 0, 0)], 21),
  (21, [(.aload_n 0, 1, 0, 0, 0), (.getfield 33, 3, 10, 3, 0), (.aload 4, 2, 4, 0, 0), (.iload_n 1, 1, 1, 0, 0), (.iload_n 2, 1, 2, 0, 0), (.invokevirtual 220, 3, 81, 3, 1), (.aload_n 0, 1, 0, 0, 0), (.getfield 33, 3, 10, 3, 0), (.iload_n 3, 1, 3, 0, 0), (.invokevirtual 223, 3, 84, 1, 1), (.ireturn, 1, 0, 0, 0)], 41)]
set_option maxRecDepth 100000 in
theorem ok_X10_close : pm_oks 10 false 5 (some .int) cX10_close bk_X10_close = true := oksF_ok (by decide +kernel)
set_option maxRecDepth 100000 in
theorem me_X10_close : pm_me 80 = (yX10_close, cX10_close, 5, (some .int), 3, 0) := rfl
theorem mt_X10_close {l : Launch} {g : pm_G} {d mc ms : Nat} {as : List Value} {A : pm_H} {Q : Option Value → pm_H → Prop} (hca : pm_cat 5 as = true) (body : ∀ J : pm_J, pm_Cl l g (fun _ => none) d mc ms (pm_Rq mc ms Q) bk_X10_close J → J 0 (pm_l0 5 as) [] A 0 0) : pm_Mt l g 80 d mc ms as A Q := pm_Mt_of (isI := false) 10 bk_X10_close me_X10_close (plainFor_of_name (by decide +kernel)) (by decide +kernel) (fun h => by cases h) ok_X10_close hca body
def bk_X10_sides : pm_B := [(0, [(.aload_n 0, 1, 0, 0, 0), (.getfield 12, 3, 10, 0, 0), (.getfield 80, 3, 9, 4, 0), (.astore_n 3, 1, 3, 0, 0), (.aload_n 3, 1, 3, 0, 0), (.iload_n 1, 1, 1, 0, 0), (.iload_n 2, 1, 2, 0, 0), (.invokevirtual 111, 3, 14, 2, 7), (.ifCond .eq 16, 3, 30, 0, 0), (.aload_n 0, 1, 0, 0, 0), (.getfield 33, 3, 10, 3, 0), (.aload_n 3, 1, 3, 0, 0), (.iload_n 1, 1, 1, 0, 0), (.iload_n 2, 1, 2, 0, 0), (.invokevirtual 226, 3, 86, 3, 1), (.goto 4, 3, 31, 0, 0)], 30),
  (30, [(.iconst (-1), 1, 0, 0, -1)], 31),
  (31, [(.ireturn, 1, 0, 0, 0)], 32)]
set_option maxRecDepth 100000 in
theorem ok_X10_sides : pm_oks 10 false 4 (some .int) cX10_sides bk_X10_sides = true := oksF_ok (by decide +kernel)
set_option maxRecDepth 100000 in
theorem me_X10_sides : pm_me 85 = (yX10_sides, cX10_sides, 4, (some .int), 2, 0) := rfl
theorem mt_X10_sides {l : Launch} {g : pm_G} {d mc ms : Nat} {as : List Value} {A : pm_H} {Q : Option Value → pm_H → Prop} (hca : pm_cat 4 as = true) (body : ∀ J : pm_J, pm_Cl l g (fun _ => none) d mc ms (pm_Rq mc ms Q) bk_X10_sides J → J 0 (pm_l0 4 as) [] A 0 0) : pm_Mt l g 85 d mc ms as A Q := pm_Mt_of (isI := false) 10 bk_X10_sides me_X10_sides (plainFor_of_name (by decide +kernel)) (by decide +kernel) (fun h => by cases h) ok_X10_sides hca body
def bk_X10_cover : pm_B := [(0, [(.aload_n 0, 1, 0, 0, 0), (.getfield 12, 3, 10, 0, 0), (.getfield 80, 3, 9, 4, 0), (.astore_n 3, 1, 3, 0, 0), (.aload_n 3, 1, 3, 0, 0), (.iload_n 1, 1, 1, 0, 0), (.iload_n 2, 1, 2, 0, 0), (.invokevirtual 111, 3, 14, 2, 7), (.ifCond .eq 20, 3, 34, 0, 0), (.aload_n 0, 1, 0, 0, 0), (.getfield 33, 3, 10, 3, 0), (.aload_n 3, 1, 3, 0, 0), (.aload_n 0, 1, 0, 0, 0), (.getfield 19, 3, 10, 1, 0), (.iload_n 1, 1, 1, 0, 0), (.iload_n 2, 1, 2, 0, 0), (.invokevirtual 229, 3, 89, 4, 1), (.goto 4, 3, 35, 0, 0)], 34),
  (34, [(.iconst (-1), 1, 0, 0, -1)], 35),
  (35, [(.ireturn, 1, 0, 0, 0)], 36)]
set_option maxRecDepth 100000 in
theorem ok_X10_cover : pm_oks 10 false 4 (some .int) cX10_cover bk_X10_cover = true := oksF_ok (by decide +kernel)
set_option maxRecDepth 100000 in
theorem me_X10_cover : pm_me 88 = (yX10_cover, cX10_cover, 4, (some .int), 2, 0) := rfl
theorem mt_X10_cover {l : Launch} {g : pm_G} {d mc ms : Nat} {as : List Value} {A : pm_H} {Q : Option Value → pm_H → Prop} (hca : pm_cat 4 as = true) (body : ∀ J : pm_J, pm_Cl l g (fun _ => none) d mc ms (pm_Rq mc ms Q) bk_X10_cover J → J 0 (pm_l0 4 as) [] A 0 0) : pm_Mt l g 88 d mc ms as A Q := pm_Mt_of (isI := false) 10 bk_X10_cover me_X10_cover (plainFor_of_name (by decide +kernel)) (by decide +kernel) (fun h => by cases h) ok_X10_cover hca body
def bk_X10_least : pm_B := [(0, [(.iload_n 3, 1, 3, 0, 0), (.iconst 1, 1, 0, 0, 1), (.if_icmp .lt 31, 3, 33, 0, 0), (.aload_n 0, 1, 0, 0, 0), (.iload_n 1, 1, 1, 0, 0), (.iload_n 2, 1, 2, 0, 0), (.invokevirtual 182, 3, 59, 2, 10), (.ifCond .eq 22, 3, 33, 0, 0), (.aload_n 0, 1, 0, 0, 0), (.getfield 19, 3, 10, 1, 0), (.getfield 233, 3, 2, 2, 0), (.aload_n 0, 1, 0, 0, 0), (.getfield 19, 3, 10, 1, 0), (.iload_n 3, 1, 3, 0, 0), (.invokevirtual 236, 3, 91, 1, 2), (.isub, 1, 0, 0, 0), (.goto 4, 3, 34, 0, 0)], 33),
  (33, [(.iconst (-1), 1, 0, 0, -1)], 34),
  (34, [(.ireturn, 1, 0, 0, 0)], 35)]
set_option maxRecDepth 100000 in
theorem ok_X10_least : pm_oks 10 false 4 (some .int) cX10_least bk_X10_least = true := oksF_ok (by decide +kernel)
set_option maxRecDepth 100000 in
theorem me_X10_least : pm_me 90 = (yX10_least, cX10_least, 4, (some .int), 3, 0) := rfl
theorem mt_X10_least {l : Launch} {g : pm_G} {d mc ms : Nat} {as : List Value} {A : pm_H} {Q : Option Value → pm_H → Prop} (hca : pm_cat 4 as = true) (body : ∀ J : pm_J, pm_Cl l g (fun _ => none) d mc ms (pm_Rq mc ms Q) bk_X10_least J → J 0 (pm_l0 4 as) [] A 0 0) : pm_Mt l g 90 d mc ms as A Q := pm_Mt_of (isI := false) 10 bk_X10_least me_X10_least (plainFor_of_name (by decide +kernel)) (by decide +kernel) (fun h => by cases h) ok_X10_least hca body
def bk_X10_fair : pm_B := [(0, [(.iload_n 3, 1, 3, 0, 0), (.iconst 1, 1, 0, 0, 1), (.if_icmp .lt 23, 3, 25, 0, 0), (.aload_n 0, 1, 0, 0, 0), (.iload_n 1, 1, 1, 0, 0), (.iload_n 2, 1, 2, 0, 0), (.invokevirtual 182, 3, 59, 2, 10), (.ifCond .eq 14, 3, 25, 0, 0), (.aload_n 0, 1, 0, 0, 0), (.getfield 19, 3, 10, 1, 0), (.iload_n 3, 1, 3, 0, 0), (.invokevirtual 217, 3, 79, 1, 2), (.goto 4, 3, 26, 0, 0)], 25),
  (25, [(.iconst (-1), 1, 0, 0, -1)], 26),
  (26, [(.ireturn, 1, 0, 0, 0)], 27)]
set_option maxRecDepth 100000 in
theorem ok_X10_fair : pm_oks 10 false 4 (some .int) cX10_fair bk_X10_fair = true := oksF_ok (by decide +kernel)
set_option maxRecDepth 100000 in
theorem me_X10_fair : pm_me 93 = (yX10_fair, cX10_fair, 4, (some .int), 3, 0) := rfl
theorem mt_X10_fair {l : Launch} {g : pm_G} {d mc ms : Nat} {as : List Value} {A : pm_H} {Q : Option Value → pm_H → Prop} (hca : pm_cat 4 as = true) (body : ∀ J : pm_J, pm_Cl l g (fun _ => none) d mc ms (pm_Rq mc ms Q) bk_X10_fair J → J 0 (pm_l0 4 as) [] A 0 0) : pm_Mt l g 93 d mc ms as A Q := pm_Mt_of (isI := false) 10 bk_X10_fair me_X10_fair (plainFor_of_name (by decide +kernel)) (by decide +kernel) (fun h => by cases h) ok_X10_fair hca body
