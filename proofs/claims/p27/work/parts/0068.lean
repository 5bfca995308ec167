
def bk_X6_findLongestOf : pm_B := [(0, [(.aload_n 0, 1, 0, 0, 0), (.invokevirtual 45, 3, 108, 0, 6), (.aload_n 2, 1, 2, 0, 0), (.invokevirtual 22, 3, 56, 0, 2), (.iconst 0, 1, 0, 0, 0), (.istore 4, 2, 4, 0, 0), (.iconst 0, 1, 0, 0, 0), (.istore 5, 2, 5, 0, 0)], 14),
  (14, [(.iload 5, 2, 5, 0, 0), (.aload_n 1, 1, 1, 0, 0), (.getfield 27, 3, 7, 3, 0), (.if_icmp .ge 60, 3, 80, 0, 0), (.aload_n 2, 1, 2, 0, 0), (.aload_n 1, 1, 1, 0, 0), (.getfield 32, 3, 7, 0, 0), (.iload 5, 2, 5, 0, 0), (.iaload, 1, 0, 0, 0), (.invokevirtual 35, 3, 57, 1, 2)], 34),
  (34, [(.aload_n 2, 1, 2, 0, 0), (.getfield 39, 3, 2, 3, 0), (.iload_n 3, 1, 3, 0, 0), (.if_icmp .le 27, 3, 66, 0, 0), (.iload 4, 2, 4, 0, 0), (.iload 5, 2, 5, 0, 0), (.if_icmp .ge 20, 3, 66, 0, 0), (.aload_n 2, 1, 2, 0, 0), (.aload_n 1, 1, 1, 0, 0), (.getfield 32, 3, 7, 0, 0), (.iload 4, 2, 4, 0, 0), (.iaload, 1, 0, 0, 0), (.invokevirtual 66, 3, 113, 1, 2), (.iinc 4 1, 3, 4, 0, 1), (.goto (-29), 3, 34, 0, 0)], 66),
  (66, [(.aload_n 0, 1, 0, 0, 0), (.iload 4, 2, 4, 0, 0), (.iload 5, 2, 5, 0, 0), (.invokevirtual 69, 3, 114, 2, 6), (.iinc 5 1, 3, 5, 0, 1), (.goto (-63), 3, 14, 0, 0)], 80),
  (80, [(.return_, 1, 0, 0, 0)], 81)]
set_option maxRecDepth 100000 in
theorem ok_X6_findLongestOf : pm_oks 6 false 6 none cX6_findLongestOf bk_X6_findLongestOf = true := oksF_ok (by decide +kernel)
set_option maxRecDepth 100000 in
theorem me_X6_findLongestOf : pm_me 112 = (yX6_findLongestOf, cX6_findLongestOf, 6, none, 3, 0) := rfl
theorem mt_X6_findLongestOf {l : Launch} {g : pm_G} {d mc ms : Nat} {as : List Value} {A : pm_H} {Q : Option Value → pm_H → Prop} (hca : pm_cat 6 as = true) (body : ∀ J : pm_J, pm_Cl l g (fun _ => none) d mc ms (pm_Rq mc ms Q) bk_X6_findLongestOf J → J 0 (pm_l0 6 as) [] A 0 0) : pm_Mt l g 112 d mc ms as A Q := pm_Mt_of (isI := false) 6 bk_X6_findLongestOf me_X6_findLongestOf (plainFor_of_name (by decide +kernel)) (by decide +kernel) (fun h => by cases h) ok_X6_findLongestOf hca body
def bk_X6_offerLonger : pm_B := [(0, [(.aload_n 0, 1, 0, 0, 0), (.getfield 15, 3, 6, 1, 0), (.iconst (-1), 1, 0, 0, -1), (.if_icmp .eq 18, 3, 23, 0, 0), (.iload_n 2, 1, 2, 0, 0), (.iload_n 1, 1, 1, 0, 0), (.isub, 1, 0, 0, 0), (.aload_n 0, 1, 0, 0, 0), (.getfield 19, 3, 6, 2, 0), (.aload_n 0, 1, 0, 0, 0), (.getfield 15, 3, 6, 1, 0), (.isub, 1, 0, 0, 0), (.if_icmp .le 13, 3, 33, 0, 0)], 23),
  (23, [(.aload_n 0, 1, 0, 0, 0), (.iload_n 1, 1, 1, 0, 0), (.putfield 15, 3, 6, 1, 0), (.aload_n 0, 1, 0, 0, 0), (.iload_n 2, 1, 2, 0, 0), (.putfield 19, 3, 6, 2, 0)], 33),
  (33, [(.return_, 1, 0, 0, 0)], 34)]
set_option maxRecDepth 100000 in
theorem ok_X6_offerLonger : pm_oks 6 false 3 none cX6_offerLonger bk_X6_offerLonger = true := oksF_ok (by decide +kernel)
set_option maxRecDepth 100000 in
theorem me_X6_offerLonger : pm_me 114 = (yX6_offerLonger, cX6_offerLonger, 3, none, 2, 0) := rfl
theorem mt_X6_offerLonger {l : Launch} {g : pm_G} {d mc ms : Nat} {as : List Value} {A : pm_H} {Q : Option Value → pm_H → Prop} (hca : pm_cat 3 as = true) (body : ∀ J : pm_J, pm_Cl l g (fun _ => none) d mc ms (pm_Rq mc ms Q) bk_X6_offerLonger J → J 0 (pm_l0 3 as) [] A 0 0) : pm_Mt l g 114 d mc ms as A Q := pm_Mt_of (isI := false) 6 bk_X6_offerLonger me_X6_offerLonger (plainFor_of_name (by decide +kernel)) (by decide +kernel) (fun h => by cases h) ok_X6_offerLonger hca body
def bk_X6_findLongestUnlike : pm_B := [(0, [(.aload_n 0, 1, 0, 0, 0), (.invokevirtual 45, 3, 108, 0, 6), (.iconst 0, 1, 0, 0, 0), (.istore_n 2, 1, 2, 0, 0), (.iconst 0, 1, 0, 0, 0), (.istore_n 3, 1, 3, 0, 0)], 8),
  (8, [(.iload_n 3, 1, 3, 0, 0), (.aload_n 1, 1, 1, 0, 0), (.getfield 27, 3, 7, 3, 0), (.if_icmp .ge 28, 3, 41, 0, 0), (.iload_n 2, 1, 2, 0, 0), (.aload_n 1, 1, 1, 0, 0), (.getfield 73, 3, 7, 2, 0), (.iload_n 3, 1, 3, 0, 0), (.iaload, 1, 0, 0, 0), (.iconst 1, 1, 0, 0, 1), (.iadd, 1, 0, 0, 0), (.invokestatic 76, 3, 51, 2, 0), (.istore_n 2, 1, 2, 0, 0), (.aload_n 0, 1, 0, 0, 0), (.iload_n 2, 1, 2, 0, 0), (.iload_n 3, 1, 3, 0, 0), (.invokevirtual 69, 3, 114, 2, 6), (.iinc 3 1, 3, 3, 0, 1), (.goto (-30), 3, 8, 0, 0)], 41),
  (41, [(.return_, 1, 0, 0, 0)], 42)]
set_option maxRecDepth 100000 in
theorem ok_X6_findLongestUnlike : pm_oks 6 false 4 none cX6_findLongestUnlike bk_X6_findLongestUnlike = true := oksF_ok (by decide +kernel)
set_option maxRecDepth 100000 in
theorem me_X6_findLongestUnlike : pm_me 116 = (yX6_findLongestUnlike, cX6_findLongestUnlike, 4, none, 1, 0) := rfl
theorem mt_X6_findLongestUnlike {l : Launch} {g : pm_G} {d mc ms : Nat} {as : List Value} {A : pm_H} {Q : Option Value → pm_H → Prop} (hca : pm_cat 4 as = true) (body : ∀ J : pm_J, pm_Cl l g (fun _ => none) d mc ms (pm_Rq mc ms Q) bk_X6_findLongestUnlike J → J 0 (pm_l0 4 as) [] A 0 0) : pm_Mt l g 116 d mc ms as A Q := pm_Mt_of (isI := false) 6 bk_X6_findLongestUnlike me_X6_findLongestUnlike (plainFor_of_name (by decide +kernel)) (by decide +kernel) (fun h => by cases h) ok_X6_findLongestUnlike hca body
def bk_X6_findHeaviest : pm_B := [(0, [(.aload_n 2, 1, 2, 0, 0), (.aload_n 1, 1, 1, 0, 0), (.iconst 0, 1, 0, 0, 0), (.iload_n 3, 1, 3, 0, 0), (.iconst 1, 1, 0, 0, 1), (.isub, 1, 0, 0, 0), (.invokevirtual 79, 3, 55, 3, 2), (.aload_n 0, 1, 0, 0, 0), (.iconst 0, 1, 0, 0, 0), (.putfield 15, 3, 6, 1, 0), (.aload_n 0, 1, 0, 0, 0), (.aload_n 2, 1, 2, 0, 0), (.getfield 42, 3, 2, 5, 0), (.putfield 83, 3, 6, 3, 0), (.iconst 1, 1, 0, 0, 1), (.istore 4, 2, 4, 0, 0)], 25),
  (25, [(.iload 4, 2, 4, 0, 0), (.iload_n 3, 1, 3, 0, 0), (.iadd, 1, 0, 0, 0), (.aload_n 1, 1, 1, 0, 0), (.getfield 27, 3, 7, 3, 0), (.if_icmp .gt 62, 3, 95, 0, 0), (.aload_n 2, 1, 2, 0, 0), (.aload_n 1, 1, 1, 0, 0), (.getfield 32, 3, 7, 0, 0), (.iload 4, 2, 4, 0, 0), (.iconst 1, 1, 0, 0, 1), (.isub, 1, 0, 0, 0), (.iaload, 1, 0, 0, 0), (.invokevirtual 66, 3, 113, 1, 2), (.aload_n 2, 1, 2, 0, 0), (.aload_n 1, 1, 1, 0, 0), (.getfield 32, 3, 7, 0, 0), (.iload 4, 2, 4, 0, 0), (.iload_n 3, 1, 3, 0, 0), (.iadd, 1, 0, 0, 0), (.iconst 1, 1, 0, 0, 1), (.isub, 1, 0, 0, 0), (.iaload, 1, 0, 0, 0), (.invokevirtual 35, 3, 57, 1, 2), (.aload_n 2, 1, 2, 0, 0), (.getfield 42, 3, 2, 5, 0), (.aload_n 0, 1, 0, 0, 0), (.getfield 83, 3, 6, 3, 0), (.if_icmp .le 17, 3, 89, 0, 0), (.aload_n 0, 1, 0, 0, 0), (.iload 4, 2, 4, 0, 0), (.putfield 15, 3, 6, 1, 0), (.aload_n 0, 1, 0, 0, 0), (.aload_n 2, 1, 2, 0, 0), (.getfield 42, 3, 2, 5, 0), (.putfield 83, 3, 6, 3, 0)], 89),
  (89, [(.iinc 4 1, 3, 4, 0, 1), (.goto (-67), 3, 25, 0, 0)], 95),
  (95, [(.return_, 1, 0, 0, 0)], 96)]
set_option maxRecDepth 100000 in
theorem ok_X6_findHeaviest : pm_oks 6 false 5 none cX6_findHeaviest bk_X6_findHeaviest = true := oksF_ok (by decide +kernel)
set_option maxRecDepth 100000 in
theorem me_X6_findHeaviest : pm_me 118 = (yX6_findHeaviest, cX6_findHeaviest, 5, none, 3, 0) := rfl
theorem mt_X6_findHeaviest {l : Launch} {g : pm_G} {d mc ms : Nat} {as : List Value} {A : pm_H} {Q : Option Value → pm_H → Prop} (hca : pm_cat 5 as = true) (body : ∀ J : pm_J, pm_Cl l g (fun _ => none) d mc ms (pm_Rq mc ms Q) bk_X6_findHeaviest J → J 0 (pm_l0 5 as) [] A 0 0) : pm_Mt l g 118 d mc ms as A Q := pm_Mt_of (isI := false) 6 bk_X6_findHeaviest me_X6_findHeaviest (plainFor_of_name (by decide +kernel)) (by decide +kernel) (fun h => by cases h) ok_X6_findHeaviest hca body
def bk_X8_init : pm_B := [(0, [(.aload_n 0, 1, 0, 0, 0), (.invokespecial 3, 3, 0, 0, 0), (.aload_n 0, 1, 0, 0, 0), (.sipush 160, 3, 0, 0, 160), (.newarray .int, 2, 160, 0, 0), (.putfield 9, 3, 8, 0, 1), (.aload_n 0, 1, 0, 0, 0), (.bipush 24, 2, 0, 0, 24), (.newarray .int, 2, 24, 0, 0), (.putfield 15, 3, 8, 1, 1), (.aload_n 0, 1, 0, 0, 0), (.bipush 24, 2, 0, 0, 24), (.newarray .int, 2, 24, 0, 0), (.putfield 18, 3, 8, 2, 1), (.return_, 1, 0, 0, 0)], 30)]
set_option maxRecDepth 100000 in
theorem ok_X8_init : pm_oks 8 true 1 none cX8_init bk_X8_init = true := oksF_ok (by decide +kernel)
set_option maxRecDepth 100000 in
theorem me_X8_init : pm_me 8 = (yX8_init, cX8_init, 1, none, 0, 2) := rfl
