
theorem mt_X0_colourOf {l : Launch} {g : pm_G} {d mc ms : Nat} {as : List Value} {A : pm_H} {Q : Option Value → pm_H → Prop} (hca : pm_cat 5 as = true) (body : ∀ J : pm_J, pm_Cl l g (fun _ => none) d mc ms (pm_Rq mc ms Q) bk_X0_colourOf J → J 0 (pm_l0 5 as) [] A 0 0) : pm_Mt l g 71 d mc ms as A Q := pm_Mt_of (isI := false) 0 bk_X0_colourOf me_X0_colourOf (plainFor_of_name (by decide +kernel)) (by decide +kernel) (fun h => by cases h) ok_X0_colourOf hca body
def bk_X0_listByMost : pm_B := [(0, [(.aload_n 0, 1, 0, 0, 0), (.iconst 0, 1, 0, 0, 0), (.putfield 53, 3, 0, 2, 0), (.iconst 0, 1, 0, 0, 0), (.istore_n 3, 1, 3, 0, 0)], 7),
  (7, [(.iload_n 3, 1, 3, 0, 0), (.bipush 24, 2, 0, 0, 24), (.if_icmp .ge 86, 3, 96, 0, 0), (.aload_n 1, 1, 1, 0, 0), (.getfield 50, 3, 2, 0, 0), (.iload_n 3, 1, 3, 0, 0), (.iaload, 1, 0, 0, 0), (.ifCond .le 71, 3, 90, 0, 0), (.aload_n 0, 1, 0, 0, 0), (.getfield 53, 3, 0, 2, 0), (.istore 4, 2, 4, 0, 0)], 28),
  (28, [(.iload 4, 2, 4, 0, 0), (.ifCond .le 42, 3, 72, 0, 0), (.aload_n 2, 1, 2, 0, 0), (.aload_n 0, 1, 0, 0, 0), (.getfield 9, 3, 0, 0, 0), (.iload 4, 2, 4, 0, 0), (.iconst 1, 1, 0, 0, 1), (.isub, 1, 0, 0, 0), (.iaload, 1, 0, 0, 0), (.iaload, 1, 0, 0, 0), (.aload_n 2, 1, 2, 0, 0), (.iload_n 3, 1, 3, 0, 0), (.iaload, 1, 0, 0, 0), (.if_icmp .ge 25, 3, 72, 0, 0), (.aload_n 0, 1, 0, 0, 0), (.getfield 9, 3, 0, 0, 0), (.iload 4, 2, 4, 0, 0), (.aload_n 0, 1, 0, 0, 0), (.getfield 9, 3, 0, 0, 0), (.iload 4, 2, 4, 0, 0), (.iconst 1, 1, 0, 0, 1), (.isub, 1, 0, 0, 0), (.iaload, 1, 0, 0, 0), (.iastore, 1, 0, 0, 0), (.iinc 4 (-1), 3, 4, 0, -1), (.goto (-41), 3, 28, 0, 0)], 72),
  (72, [(.aload_n 0, 1, 0, 0, 0), (.getfield 9, 3, 0, 0, 0), (.iload 4, 2, 4, 0, 0), (.iload_n 3, 1, 3, 0, 0), (.iastore, 1, 0, 0, 0), (.aload_n 0, 1, 0, 0, 0), (.dup, 1, 0, 0, 0), (.getfield 53, 3, 0, 2, 0), (.iconst 1, 1, 0, 0, 1), (.iadd, 1, 0, 0, 0), (.putfield 53, 3, 0, 2, 0)], 90),
  (90, [(.iinc 3 1, 3, 3, 0, 1), (.goto (-86), 3, 7, 0, 0)], 96),
  (96, [(.return_, 1, 0, 0, 0)], 97)]
set_option maxRecDepth 100000 in
theorem ok_X0_listByMost : pm_oks 0 false 5 none cX0_listByMost bk_X0_listByMost = true := oksF_ok (by decide +kernel)
set_option maxRecDepth 100000 in
theorem me_X0_listByMost : pm_me 72 = (yX0_listByMost, cX0_listByMost, 5, none, 2, 0) := rfl
theorem mt_X0_listByMost {l : Launch} {g : pm_G} {d mc ms : Nat} {as : List Value} {A : pm_H} {Q : Option Value → pm_H → Prop} (hca : pm_cat 5 as = true) (body : ∀ J : pm_J, pm_Cl l g (fun _ => none) d mc ms (pm_Rq mc ms Q) bk_X0_listByMost J → J 0 (pm_l0 5 as) [] A 0 0) : pm_Mt l g 72 d mc ms as A Q := pm_Mt_of (isI := false) 0 bk_X0_listByMost me_X0_listByMost (plainFor_of_name (by decide +kernel)) (by decide +kernel) (fun h => by cases h) ok_X0_listByMost hca body
def bk_X1_init : pm_B := [(0, [(.aload_n 0, 1, 0, 0, 0), (.invokespecial 3, 3, 0, 0, 0), (.aload_n 0, 1, 0, 0, 0), (.sipush 160, 3, 0, 0, 160), (.newarray .int, 2, 160, 0, 0), (.putfield 9, 3, 1, 0, 1), (.aload_n 0, 1, 0, 0, 0), (.bipush 24, 2, 0, 0, 24), (.newarray .int, 2, 24, 0, 0), (.putfield 15, 3, 1, 1, 1), (.aload_n 0, 1, 0, 0, 0), (.bipush 24, 2, 0, 0, 24), (.newarray .int, 2, 24, 0, 0), (.putfield 18, 3, 1, 2, 1), (.return_, 1, 0, 0, 0)], 30)]
set_option maxRecDepth 100000 in
theorem ok_X1_init : pm_oks 1 true 1 none cX1_init bk_X1_init = true := oksF_ok (by decide +kernel)
set_option maxRecDepth 100000 in
theorem me_X1_init : pm_me 6 = (yX1_init, cX1_init, 1, none, 0, 2) := rfl
theorem mt_X1_init {l : Launch} {g : pm_G} {d mc ms : Nat} {as : List Value} {A : pm_H} {Q : Option Value → pm_H → Prop} (hca : pm_cat 1 as = true) (body : ∀ J : pm_J, pm_Cl l g (fun _ => none) d mc ms (pm_Rq mc ms Q) bk_X1_init J → J 0 (pm_l0 1 as) [] A 0 0) : pm_Mt l g 6 d mc ms as A Q := pm_Mt_of (isI := true) 1 bk_X1_init me_X1_init (plainFor_of_name (by decide +kernel)) (by decide +kernel) (fun _ => by decide +kernel) ok_X1_init hca body
def bk_X1_findNearestAlike : pm_B := [(0, [(.aload_n 0, 1, 0, 0, 0), (.invokevirtual 28, 3, 82, 0, 1), (.iload_n 2, 1, 2, 0, 0), (.istore 4, 2, 4, 0, 0)], 7),
  (7, [(.iload 4, 2, 4, 0, 0), (.iload_n 3, 1, 3, 0, 0), (.if_icmp .gt 33, 3, 43, 0, 0), (.aload_n 1, 1, 1, 0, 0), (.getfield 31, 3, 7, 2, 0), (.iload 4, 2, 4, 0, 0), (.iaload, 1, 0, 0, 0), (.iload_n 2, 1, 2, 0, 0), (.if_icmp .lt 16, 3, 37, 0, 0), (.aload_n 0, 1, 0, 0, 0), (.aload_n 1, 1, 1, 0, 0), (.getfield 31, 3, 7, 2, 0), (.iload 4, 2, 4, 0, 0), (.iaload, 1, 0, 0, 0), (.iload 4, 2, 4, 0, 0), (.invokevirtual 36, 3, 83, 2, 1)], 37),
  (37, [(.iinc 4 1, 3, 4, 0, 1), (.goto (-33), 3, 7, 0, 0)], 43),
  (43, [(.return_, 1, 0, 0, 0)], 44)]
set_option maxRecDepth 100000 in
theorem ok_X1_findNearestAlike : pm_oks 1 false 5 none cX1_findNearestAlike bk_X1_findNearestAlike = true := oksF_ok (by decide +kernel)
set_option maxRecDepth 100000 in
theorem me_X1_findNearestAlike : pm_me 81 = (yX1_findNearestAlike, cX1_findNearestAlike, 5, none, 3, 0) := rfl
theorem mt_X1_findNearestAlike {l : Launch} {g : pm_G} {d mc ms : Nat} {as : List Value} {A : pm_H} {Q : Option Value → pm_H → Prop} (hca : pm_cat 5 as = true) (body : ∀ J : pm_J, pm_Cl l g (fun _ => none) d mc ms (pm_Rq mc ms Q) bk_X1_findNearestAlike J → J 0 (pm_l0 5 as) [] A 0 0) : pm_Mt l g 81 d mc ms as A Q := pm_Mt_of (isI := false) 1 bk_X1_findNearestAlike me_X1_findNearestAlike (plainFor_of_name (by decide +kernel)) (by decide +kernel) (fun h => by cases h) ok_X1_findNearestAlike hca body
def bk_X1_clearPair : pm_B := [(0, [(.aload_n 0, 1, 0, 0, 0), (.iconst (-1), 1, 0, 0, -1), (.putfield 21, 3, 1, 3, 0), (.aload_n 0, 1, 0, 0, 0), (.iconst (-1), 1, 0, 0, -1), (.putfield 25, 3, 1, 4, 0), (.return_, 1, 0, 0, 0)], 11)]
set_option maxRecDepth 100000 in
theorem ok_X1_clearPair : pm_oks 1 false 1 none cX1_clearPair bk_X1_clearPair = true := oksF_ok (by decide +kernel)
set_option maxRecDepth 100000 in
theorem me_X1_clearPair : pm_me 82 = (yX1_clearPair, cX1_clearPair, 1, none, 0, 0) := rfl
theorem mt_X1_clearPair {l : Launch} {g : pm_G} {d mc ms : Nat} {as : List Value} {A : pm_H} {Q : Option Value → pm_H → Prop} (hca : pm_cat 1 as = true) (body : ∀ J : pm_J, pm_Cl l g (fun _ => none) d mc ms (pm_Rq mc ms Q) bk_X1_clearPair J → J 0 (pm_l0 1 as) [] A 0 0) : pm_Mt l g 82 d mc ms as A Q := pm_Mt_of (isI := false) 1 bk_X1_clearPair me_X1_clearPair (plainFor_of_name (by decide +kernel)) (by decide +kernel) (fun h => by cases h) ok_X1_clearPair hca body
def bk_X1_offerPair : pm_B := [(0, [(.aload_n 0, 1, 0, 0, 0), (.getfield 21, 3, 1, 3, 0), (.iconst (-1), 1, 0, 0, -1), (.if_icmp .eq 13, 3, 18, 0, 0), (.iload_n 2, 1, 2, 0, 0), (.iload_n 1, 1, 1, 0, 0), (.isub, 1, 0, 0, 0), (.aload_n 0, 1, 0, 0, 0), (.getfield 21, 3, 1, 3, 0), (.if_icmp .ge 15, 3, 30, 0, 0)], 18),
  (18, [(.aload_n 0, 1, 0, 0, 0), (.iload_n 2, 1, 2, 0, 0), (.iload_n 1, 1, 1, 0, 0), (.isub, 1, 0, 0, 0), (.putfield 21, 3, 1, 3, 0), (.aload_n 0, 1, 0, 0, 0), (.iload_n 1, 1, 1, 0, 0), (.putfield 25, 3, 1, 4, 0)], 30),
  (30, [(.return_, 1, 0, 0, 0)], 31)]
set_option maxRecDepth 100000 in
theorem ok_X1_offerPair : pm_oks 1 false 3 none cX1_offerPair bk_X1_offerPair = true := oksF_ok (by decide +kernel)
set_option maxRecDepth 100000 in
theorem me_X1_offerPair : pm_me 83 = (yX1_offerPair, cX1_offerPair, 3, none, 2, 0) := rfl
theorem mt_X1_offerPair {l : Launch} {g : pm_G} {d mc ms : Nat} {as : List Value} {A : pm_H} {Q : Option Value → pm_H → Prop} (hca : pm_cat 3 as = true) (body : ∀ J : pm_J, pm_Cl l g (fun _ => none) d mc ms (pm_Rq mc ms Q) bk_X1_offerPair J → J 0 (pm_l0 3 as) [] A 0 0) : pm_Mt l g 83 d mc ms as A Q := pm_Mt_of (isI := false) 1 bk_X1_offerPair me_X1_offerPair (plainFor_of_name (by decide +kernel)) (by decide +kernel) (fun h => by cases h) ok_X1_offerPair hca body
