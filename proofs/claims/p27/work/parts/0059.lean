
set_option maxRecDepth 100000 in
theorem me_X7_isGap : pm_me 26 = (yX7_isGap, cX7_isGap, 2, (some .boolean), 1, 0) := rfl
theorem mt_X7_isGap {l : Launch} {g : pm_G} {d mc ms : Nat} {as : List Value} {A : pm_H} {Q : Option Value → pm_H → Prop} (hca : pm_cat 2 as = true) (body : ∀ J : pm_J, pm_Cl l g (fun _ => none) d mc ms (pm_Rq mc ms Q) bk_X7_isGap J → J 0 (pm_l0 2 as) [] A 0 0) : pm_Mt l g 26 d mc ms as A Q := pm_Mt_of (isI := false) 7 bk_X7_isGap me_X7_isGap (plainFor_of_name (by decide +kernel)) (by decide +kernel) (fun h => by cases h) ok_X7_isGap hca body
def bk_X7_nextAlike : pm_B := [(0, [(.aload_n 0, 1, 0, 0, 0), (.iload_n 1, 1, 1, 0, 0), (.invokevirtual 25, 3, 19, 1, 7), (.ifCond .ne 5, 3, 10, 0, 0), (.iconst (-1), 1, 0, 0, -1), (.ireturn, 1, 0, 0, 0)], 10),
  (10, [(.iload_n 1, 1, 1, 0, 0), (.iconst 1, 1, 0, 0, 1), (.iadd, 1, 0, 0, 0), (.istore_n 2, 1, 2, 0, 0)], 14),
  (14, [(.iload_n 2, 1, 2, 0, 0), (.aload_n 0, 1, 0, 0, 0), (.getfield 21, 3, 7, 3, 0), (.if_icmp .ge 26, 3, 45, 0, 0), (.aload_n 0, 1, 0, 0, 0), (.getfield 9, 3, 7, 0, 0), (.iload_n 2, 1, 2, 0, 0), (.iaload, 1, 0, 0, 0), (.aload_n 0, 1, 0, 0, 0), (.getfield 9, 3, 7, 0, 0), (.iload_n 1, 1, 1, 0, 0), (.iaload, 1, 0, 0, 0), (.if_icmp .ne 5, 3, 39, 0, 0), (.iload_n 2, 1, 2, 0, 0), (.ireturn, 1, 0, 0, 0)], 39),
  (39, [(.iinc 2 1, 3, 2, 0, 1), (.goto (-28), 3, 14, 0, 0)], 45),
  (45, [(.iconst (-1), 1, 0, 0, -1), (.ireturn, 1, 0, 0, 0)], 47)]
set_option maxRecDepth 100000 in
theorem ok_X7_nextAlike : pm_oks 7 false 3 (some .int) cX7_nextAlike bk_X7_nextAlike = true := oksF_ok (by decide +kernel)
set_option maxRecDepth 100000 in
theorem me_X7_nextAlike : pm_me 43 = (yX7_nextAlike, cX7_nextAlike, 3, (some .int), 1, 0) := rfl
theorem mt_X7_nextAlike {l : Launch} {g : pm_G} {d mc ms : Nat} {as : List Value} {A : pm_H} {Q : Option Value → pm_H → Prop} (hca : pm_cat 3 as = true) (body : ∀ J : pm_J, pm_Cl l g (fun _ => none) d mc ms (pm_Rq mc ms Q) bk_X7_nextAlike J → J 0 (pm_l0 3 as) [] A 0 0) : pm_Mt l g 43 d mc ms as A Q := pm_Mt_of (isI := false) 7 bk_X7_nextAlike me_X7_nextAlike (plainFor_of_name (by decide +kernel)) (by decide +kernel) (fun h => by cases h) ok_X7_nextAlike hca body
def bk_X7_tell : pm_B := [(0, [(.aload_n 0, 1, 0, 0, 0), (.iload_n 1, 1, 1, 0, 0), (.invokevirtual 25, 3, 19, 1, 7), (.ifCond .ne 5, 3, 10, 0, 0), (.iconst (-1), 1, 0, 0, -1), (.ireturn, 1, 0, 0, 0)], 10),
  (10, [(.iload_n 2, 1, 2, 0, 0), (.tableswitch 45 0 2 #[25, 32, 39], 25, 11, 0, 0)], 36),
  (36, [(.aload_n 0, 1, 0, 0, 0), (.getfield 9, 3, 7, 0, 0), (.iload_n 1, 1, 1, 0, 0), (.iaload, 1, 0, 0, 0), (.ireturn, 1, 0, 0, 0)], 43),
  (43, [(.aload_n 0, 1, 0, 0, 0), (.getfield 15, 3, 7, 1, 0), (.iload_n 1, 1, 1, 0, 0), (.iaload, 1, 0, 0, 0), (.ireturn, 1, 0, 0, 0)], 50),
  (50, [(.aload_n 0, 1, 0, 0, 0), (.iload_n 1, 1, 1, 0, 0), (.invokevirtual 33, 3, 20, 1, 7), (.ireturn, 1, 0, 0, 0)], 56),
  (56, [(.iconst (-1), 1, 0, 0, -1), (.ireturn, 1, 0, 0, 0)], 58)]
set_option maxRecDepth 100000 in
theorem ok_X7_tell : pm_oks 7 false 3 (some .int) cX7_tell bk_X7_tell = true := oksF_ok (by decide +kernel)
set_option maxRecDepth 100000 in
theorem me_X7_tell : pm_me 44 = (yX7_tell, cX7_tell, 3, (some .int), 2, 0) := rfl
theorem mt_X7_tell {l : Launch} {g : pm_G} {d mc ms : Nat} {as : List Value} {A : pm_H} {Q : Option Value → pm_H → Prop} (hca : pm_cat 3 as = true) (body : ∀ J : pm_J, pm_Cl l g (fun _ => none) d mc ms (pm_Rq mc ms Q) bk_X7_tell J → J 0 (pm_l0 3 as) [] A 0 0) : pm_Mt l g 44 d mc ms as A Q := pm_Mt_of (isI := false) 7 bk_X7_tell me_X7_tell (plainFor_of_name (by decide +kernel)) (by decide +kernel) (fun h => by cases h) ok_X7_tell hca body
def bk_X7_placeOf : pm_B := [(0, [(.iconst 0, 1, 0, 0, 0), (.istore_n 2, 1, 2, 0, 0)], 2),
  (2, [(.iload_n 2, 1, 2, 0, 0), (.aload_n 0, 1, 0, 0, 0), (.getfield 21, 3, 7, 3, 0), (.if_icmp .ge 21, 3, 28, 0, 0), (.aload_n 0, 1, 0, 0, 0), (.getfield 15, 3, 7, 1, 0), (.iload_n 2, 1, 2, 0, 0), (.iaload, 1, 0, 0, 0), (.iload_n 1, 1, 1, 0, 0), (.if_icmp .ne 5, 3, 22, 0, 0), (.iload_n 2, 1, 2, 0, 0), (.ireturn, 1, 0, 0, 0)], 22),
  (22, [(.iinc 2 1, 3, 2, 0, 1), (.goto (-23), 3, 2, 0, 0)], 28),
  (28, [(.iconst (-1), 1, 0, 0, -1), (.ireturn, 1, 0, 0, 0)], 30)]
set_option maxRecDepth 100000 in
theorem ok_X7_placeOf : pm_oks 7 false 3 (some .int) cX7_placeOf bk_X7_placeOf = true := oksF_ok (by decide +kernel)
set_option maxRecDepth 100000 in
theorem me_X7_placeOf : pm_me 46 = (yX7_placeOf, cX7_placeOf, 3, (some .int), 1, 0) := rfl
theorem mt_X7_placeOf {l : Launch} {g : pm_G} {d mc ms : Nat} {as : List Value} {A : pm_H} {Q : Option Value → pm_H → Prop} (hca : pm_cat 3 as = true) (body : ∀ J : pm_J, pm_Cl l g (fun _ => none) d mc ms (pm_Rq mc ms Q) bk_X7_placeOf J → J 0 (pm_l0 3 as) [] A 0 0) : pm_Mt l g 46 d mc ms as A Q := pm_Mt_of (isI := false) 7 bk_X7_placeOf me_X7_placeOf (plainFor_of_name (by decide +kernel)) (by decide +kernel) (fun h => by cases h) ok_X7_placeOf hca body
def bk_X7_howMany : pm_B := [(0, [(.iconst 0, 1, 0, 0, 0), (.istore_n 2, 1, 2, 0, 0), (.iconst 0, 1, 0, 0, 0), (.istore_n 3, 1, 3, 0, 0)], 4),
  (4, [(.iload_n 3, 1, 3, 0, 0), (.aload_n 0, 1, 0, 0, 0), (.getfield 21, 3, 7, 3, 0), (.if_icmp .ge 22, 3, 31, 0, 0), (.aload_n 0, 1, 0, 0, 0), (.getfield 9, 3, 7, 0, 0), (.iload_n 3, 1, 3, 0, 0), (.iaload, 1, 0, 0, 0), (.iload_n 1, 1, 1, 0, 0), (.if_icmp .ne 6, 3, 25, 0, 0), (.iinc 2 1, 3, 2, 0, 1)], 25),
  (25, [(.iinc 3 1, 3, 3, 0, 1), (.goto (-24), 3, 4, 0, 0)], 31),
  (31, [(.iload_n 2, 1, 2, 0, 0), (.ireturn, 1, 0, 0, 0)], 33)]
set_option maxRecDepth 100000 in
theorem ok_X7_howMany : pm_oks 7 false 4 (some .int) cX7_howMany bk_X7_howMany = true := oksF_ok (by decide +kernel)
set_option maxRecDepth 100000 in
theorem me_X7_howMany : pm_me 48 = (yX7_howMany, cX7_howMany, 4, (some .int), 1, 0) := rfl
theorem mt_X7_howMany {l : Launch} {g : pm_G} {d mc ms : Nat} {as : List Value} {A : pm_H} {Q : Option Value → pm_H → Prop} (hca : pm_cat 4 as = true) (body : ∀ J : pm_J, pm_Cl l g (fun _ => none) d mc ms (pm_Rq mc ms Q) bk_X7_howMany J → J 0 (pm_l0 4 as) [] A 0 0) : pm_Mt l g 48 d mc ms as A Q := pm_Mt_of (isI := false) 7 bk_X7_howMany me_X7_howMany (plainFor_of_name (by decide +kernel)) (by decide +kernel) (fun h => by cases h) ok_X7_howMany hca body
def bk_X7_placeOfNth : pm_B := [(0, [(.iconst 0, 1, 0, 0, 0), (.istore_n 3, 1, 3, 0, 0), (.iconst 0, 1, 0, 0, 0), (.istore 4, 2, 4, 0, 0)], 5),
  (5, [(.iload 4, 2, 4, 0, 0), (.aload_n 0, 1, 0, 0, 0), (.getfield 21, 3, 7, 3, 0), (.if_icmp .ge 31, 3, 42, 0, 0), (.aload_n 0, 1, 0, 0, 0), (.getfield 9, 3, 7, 0, 0), (.iload 4, 2, 4, 0, 0), (.iaload, 1, 0, 0, 0), (.iload_n 1, 1, 1, 0, 0), (.if_icmp .ne 14, 3, 36, 0, 0), (.iload_n 3, 1, 3, 0, 0), (.iload_n 2, 1, 2, 0, 0), (.if_icmp .ne 6, 3, 33, 0, 0), (.iload 4, 2, 4, 0, 0), (.ireturn, 1, 0, 0, 0)], 33),
  (33, [(.iinc 3 1, 3, 3, 0, 1)], 36),
  (36, [(.iinc 4 1, 3, 4, 0, 1), (.goto (-34), 3, 5, 0, 0)], 42),
  (42, [(.iconst (-1), 1, 0, 0, -1), (.ireturn, 1, 0, 0, 0)], 44)]
set_option maxRecDepth 100000 in
theorem ok_X7_placeOfNth : pm_oks 7 false 5 (some .int) cX7_placeOfNth bk_X7_placeOfNth = true := oksF_ok (by decide +kernel)
set_option maxRecDepth 100000 in
theorem me_X7_placeOfNth : pm_me 49 = (yX7_placeOfNth, cX7_placeOfNth, 5, (some .int), 2, 0) := rfl
theorem mt_X7_placeOfNth {l : Launch} {g : pm_G} {d mc ms : Nat} {as : List Value} {A : pm_H} {Q : Option Value → pm_H → Prop} (hca : pm_cat 5 as = true) (body : ∀ J : pm_J, pm_Cl l g (fun _ => none) d mc ms (pm_Rq mc ms Q) bk_X7_placeOfNth J → J 0 (pm_l0 5 as) [] A 0 0) : pm_Mt l g 49 d mc ms as A Q := pm_Mt_of (isI := false) 7 bk_X7_placeOfNth me_X7_placeOfNth (plainFor_of_name (by decide +kernel)) (by decide +kernel) (fun h => by cases h) ok_X7_placeOfNth hca body
