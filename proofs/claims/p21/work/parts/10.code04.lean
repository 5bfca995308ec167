/-! blocks, by a program -/
def bk_X6_findLongestOf : pm_B := [(0, [(.aload_n 0, 1, 0, 0, 0), (.invokevirtual 45, 3, 108, 0, 6), (.aload_n 2, 1, 2, 0, 0), (.invokevirtual 22, 3, 56, 0, 2), (.iconst 0, 1, 0, 0, 0), (.istore 4, 2, 4, 0, 0), (.iconst 0, 1, 0, 0, 0), (.istore 5, 2, 5, 0, 0)], 14),
  (14, [(.iload 5, 2, 5, 0, 0), (.aload_n 1, 1, 1, 0, 0), (.getfield 27, 3, 7, 3, 0), (.if_icmp .ge 60, 3, 80, 0, 0), (.aload_n 2, 1, 2, 0, 0), (.aload_n 1, 1, 1, 0, 0), (.getfield 32, 3, 7, 0, 0), (.iload 5, 2, 5, 0, 0), (.iaload, 1, 0, 0, 0), (.invokevirtual 35, 3, 57, 1, 2)], 34),
  (34, [(.aload_n 2, 1, 2, 0, 0), (.getfield 39, 3, 2, 3, 0), (.iload_n 3, 1, 3, 0, 0), (.if_icmp .le 27, 3, 66, 0, 0), (.iload 4, 2, 4, 0, 0), (.iload 5, 2, 5, 0, 0), (.if_icmp .ge 20, 3, 66, 0, 0), (.aload_n 2, 1, 2, 0, 0), (.aload_n 1, 1, 1, 0, 0), (.getfield 32, 3, 7, 0, 0), (.iload 4, 2, 4, 0, 0), (.iaload, 1, 0, 0, 0), (.invokevirtual 66, 3, 113, 1, 2), (.iinc 4 1, 3, 4, 0, 1), (.goto (-29), 3, 34, 0, 0)], 66),
  (66, [(.aload_n 0, 1, 0, 0, 0), (.iload 4, 2, 4, 0, 0), (.iload 5, 2, 5, 0, 0), (.invokevirtual 69, 3, 114, 2, 6), (.iinc 5 1, 3, 5, 0, 1), (.goto (-63), 3, 14, 0, 0)], 80),
  (80, [(.return_, 1, 0, 0, 0)], 81)]
set_option maxRecDepth 100000 in
theorem ok_X6_findLongestOf : pm_oks 6 false 6 none cX6_findLongestOf bk_X6_findLongestOf = true := oksF_ok (by decide +kernel)
set_option maxRecDepth 100000 in
theorem me_X6_findLongestOf : pm_me 112 = (yX6_findLongestOf, cX6_findLongestOf, 6, none, 3, 0) := rfl
theorem mt_X6_findLongestOf {l : Launch} {g : pm_G} {d mc ms : Nat} {as : List Value} {A : pm_H} {Q : Option Value → pm_H → Prop} (hca : pm_cat 6 as = true) (body : ∀ J : pm_J, pm_Cl l g (fun _ => none) d mc ms (pm_Rq mc ms Q) bk_X6_findLongestOf J → J 0 (pm_l0 6 as) [] A 0 0) : pm_Mt l g 112 d mc ms as A Q := pm_Mt_of (isI := false) 6 bk_X6_findLongestOf me_X6_findLongestOf (plainFor_of_name (by decide +kernel)) (by decide +kernel) (fun h => by cases h) ok_X6_findLongestOf hca body
def bk_X6_offerLonger : pm_B := [(0, [(.aload_n 0, 1, 0, 0, 0), (.getfield 15, 3, 6, 1, 0), (.iconst (-1), 1, 0, 0, -1), (.if_icmp .eq 18, 3, 23, 0, 0), (.iload_n 2, 1, 2, 0, 0), (.iload_n 1, 1, 1, 0, 0), (.isub, 1, 0, 0, 0), (.aload_n 0, 1, 0, 0, 0), (.getfield 19, 3, 6, 2, 0), (.aload_n 0, 1, 0, 0, 0), (.getfield 15, 3, 6, 1, 0), (.isub, 1, 0, 0, 0), (.if_icmp .le 13, 3, 33, 0, 0)], 23),
  (23, [(.aload_n 0, 1, 0, 0, 0), (.iload_n 1, 1, 1, 0, 0), (.putfield 15, 3, 6, 1, 0), (.aload_n 0, 1, 0, 0, 0), (.iload_n 2, 1, 2, 0, 0), (.putfield 19, 3, 6, 2, 0)], 33),
  (33, [(.return_, 1, 0, 0, 0)], 34)]
set_option maxRecDepth 100000 in
theorem ok_X6_offerLonger : pm_oks 6 false 3 none cX6_offerLonger bk_X6_offerLonger = true := oksF_ok (by decide +kernel)
set_option maxRecDepth 100000 in
theorem me_X6_offerLonger : pm_me 114 = (yX6_offerLonger, cX6_offerLonger, 3, none, 2, 0) := rfl
theorem mt_X6_offerLonger {l : Launch} {g : pm_G} {d mc ms : Nat} {as : List Value} {A : pm_H} {Q : Option Value → pm_H → Prop} (hca : pm_cat 3 as = true) (body : ∀ J : pm_J, pm_Cl l g (fun _ => none) d mc ms (pm_Rq mc ms Q) bk_X6_offerLonger J → J 0 (pm_l0 3 as) [] A 0 0) : pm_Mt l g 114 d mc ms as A Q := pm_Mt_of (isI := false) 6 bk_X6_offerLonger me_X6_offerLonger (plainFor_of_name (by decide +kernel)) (by decide +kernel) (fun h => by cases h) ok_X6_offerLonger hca body
def bk_X6_findLongestUnlike : pm_B := [(0, [(.aload_n 0, 1, 0, 0, 0), (.invokevirtual 45, 3, 108, 0, 6), (.iconst 0, 1, 0, 0, 0), (.istore_n 2, 1, 2, 0, 0), (.iconst 0, 1, 0, 0, 0), (.istore_n 3, 1, 3, 0, 0)], 8),
  (8, [(.iload_n 3, 1, 3, 0, 0), (.aload_n 1, 1, 1, 0, 0), (.getfield 27, 3, 7, 3, 0), (.if_icmp .ge 28, 3, 41, 0, 0), (.iload_n 2, 1, 2, 0, 0), (.aload_n 1, 1, 1, 0, 0), (.getfield 73, 3, 7, 2, 0), (.iload_n 3, 1, 3, 0, 0), (.iaload, 1, 0, 0, 0), (.iconst 1, 1, 0, 0, 1), (.iadd, 1, 0, 0, 0), (.invokestatic 76, 3, 51, 2, 0), (.istore_n 2, 1, 2, 0, 0), (.aload_n 0, 1, 0, 0, 0), (.iload_n 2, 1, 2, 0, 0), (.iload_n 3, 1, 3, 0, 0), (.invokevirtual 69, 3, 114, 2, 6), (.iinc 3 1, 3, 3, 0, 1), (.goto (-30), 3, 8, 0, 0)], 41),
  (41, [(.return_, 1, 0, 0, 0)], 42)]
set_option maxRecDepth 100000 in
theorem ok_X6_findLongestUnlike : pm_oks 6 false 4 none cX6_findLongestUnlike bk_X6_findLongestUnlike = true := oksF_ok (by decide +kernel)
set_option maxRecDepth 100000 in
theorem me_X6_findLongestUnlike : pm_me 116 = (yX6_findLongestUnlike, cX6_findLongestUnlike, 4, none, 1, 0) := rfl
theorem mt_X6_findLongestUnlike {l : Launch} {g : pm_G} {d mc ms : Nat} {as : List Value} {A : pm_H} {Q : Option Value → pm_H → Prop} (hca : pm_cat 4 as = true) (body : ∀ J : pm_J, pm_Cl l g (fun _ => none) d mc ms (pm_Rq mc ms Q) bk_X6_findLongestUnlike J → J 0 (pm_l0 4 as) [] A 0 0) : pm_Mt l g 116 d mc ms as A Q := pm_Mt_of (isI := false) 6 bk_X6_findLongestUnlike me_X6_findLongestUnlike (plainFor_of_name (by decide +kernel)) (by decide +kernel) (fun h => by cases h) ok_X6_findLongestUnlike hca body
def bk_X6_findHeaviest : pm_B := [(0, [(.aload_n 2, 1, 2, 0, 0), (.aload_n 1, 1, 1, 0, 0), (.iconst 0, 1, 0, 0, 0), (.iload_n 3, 1, 3, 0, 0), (.iconst 1, 1, 0, 0, 1), (.isub, 1, 0, 0, 0), (.invokevirtual 79, 3, 55, 3, 2), (.aload_n 0, 1, 0, 0, 0), (.iconst 0, 1, 0, 0, 0), (.putfield 15, 3, 6, 1, 0), (.aload_n 0, 1, 0, 0, 0), (.aload_n 2, 1, 2, 0, 0), (.getfield 42, 3, 2, 5, 0), (.putfield 83, 3, 6, 3, 0), (.iconst 1, 1, 0, 0, 1), (.istore 4, 2, 4, 0, 0)], 25),
  (25, [(.iload 4, 2, 4, 0, 0), (.iload_n 3, 1, 3, 0, 0), (.iadd, 1, 0, 0, 0), (.aload_n 1, 1, 1, 0, 0), (.getfield 27, 3, 7, 3, 0), (.if_icmp .gt 62, 3, 95, 0, 0), (.aload_n 2, 1, 2, 0, 0), (.aload_n 1, 1, 1, 0, 0), (.getfield 32, 3, 7, 0, 0), (.iload 4, 2, 4, 0, 0), (.iconst 1, 1, 0, 0, 1), (.isub, 1, 0, 0, 0), (.iaload, 1, 0, 0, 0), (.invokevirtual 66, 3, 113, 1, 2), (.aload_n 2, 1, 2, 0, 0), (.aload_n 1, 1, 1, 0, 0), (.getfield 32, 3, 7, 0, 0), (.iload 4, 2, 4, 0, 0), (.iload_n 3, 1, 3, 0, 0), (.iadd, 1, 0, 0, 0), (.iconst 1, 1, 0, 0, 1), (.isub, 1, 0, 0, 0), (.iaload, 1, 0, 0, 0), (.invokevirtual 35, 3, 57, 1, 2), (.aload_n 2, 1, 2, 0, 0), (.getfield 42, 3, 2, 5, 0), (.aload_n 0, 1, 0, 0, 0), (.getfield 83, 3, 6, 3, 0), (.if_icmp .le 17, 3, 89, 0, 0), (.aload_n 0, 1, 0, 0, 0), (.iload 4, 2, 4, 0, 0), (.putfield 15, 3, 6, 1, 0), (.aload_n 0, 1, 0, 0, 0), (.aload_n 2, 1, 2, 0, 0), (.getfield 42, 3, 2, 5, 0), (.putfield 83, 3, 6, 3, 0)], 89),
  (89, [(.iinc 4 1, 3, 4, 0, 1), (.goto (-67), 3, 25, 0, 0)], 95),
  (95, [(.return_, 1, 0, 0, 0)], 96)]
set_option maxRecDepth 100000 in
theorem ok_X6_findHeaviest : pm_oks 6 false 5 none cX6_findHeaviest bk_X6_findHeaviest = true := oksF_ok (by decide +kernel)
set_option maxRecDepth 100000 in
theorem me_X6_findHeaviest : pm_me 118 = (yX6_findHeaviest, cX6_findHeaviest, 5, none, 3, 0) := rfl
theorem mt_X6_findHeaviest {l : Launch} {g : pm_G} {d mc ms : Nat} {as : List Value} {A : pm_H} {Q : Option Value → pm_H → Prop} (hca : pm_cat 5 as = true) (body : ∀ J : pm_J, pm_Cl l g (fun _ => none) d mc ms (pm_Rq mc ms Q) bk_X6_findHeaviest J → J 0 (pm_l0 5 as) [] A 0 0) : pm_Mt l g 118 d mc ms as A Q := pm_Mt_of (isI := false) 6 bk_X6_findHeaviest me_X6_findHeaviest (plainFor_of_name (by decide +kernel)) (by decide +kernel) (fun h => by cases h) ok_X6_findHeaviest hca body
def bk_X8_init : pm_B := [(0, [(.aload_n 0, 1, 0, 0, 0), (.invokespecial 3, 3, 0, 0, 0), (.aload_n 0, 1, 0, 0, 0), (.sipush 160, 3, 0, 0, 160), (.newarray .int, 2, 160, 0, 0), (.putfield 9, 3, 8, 0, 1), (.aload_n 0, 1, 0, 0, 0), (.bipush 24, 2, 0, 0, 24), (.newarray .int, 2, 24, 0, 0), (.putfield 15, 3, 8, 1, 1), (.aload_n 0, 1, 0, 0, 0), (.bipush 24, 2, 0, 0, 24), (.newarray .int, 2, 24, 0, 0), (.putfield 18, 3, 8, 2, 1), (.return_, 1, 0, 0, 0)], 30)]
set_option maxRecDepth 100000 in
theorem ok_X8_init : pm_oks 8 true 1 none cX8_init bk_X8_init = true := oksF_ok (by decide +kernel)
set_option maxRecDepth 100000 in
theorem me_X8_init : pm_me 8 = (yX8_init, cX8_init, 1, none, 0, 2) := rfl
theorem mt_X8_init {l : Launch} {g : pm_G} {d mc ms : Nat} {as : List Value} {A : pm_H} {Q : Option Value → pm_H → Prop} (hca : pm_cat 1 as = true) (body : ∀ J : pm_J, pm_Cl l g (fun _ => none) d mc ms (pm_Rq mc ms Q) bk_X8_init J → J 0 (pm_l0 1 as) [] A 0 0) : pm_Mt l g 8 d mc ms as A Q := pm_Mt_of (isI := true) 8 bk_X8_init me_X8_init (plainFor_of_name (by decide +kernel)) (by decide +kernel) (fun _ => by decide +kernel) ok_X8_init hca body
def bk_X8_canBe : pm_B := [(0, [(.iload_n 0, 1, 0, 0, 0), (.iconst 1, 1, 0, 0, 1), (.if_icmp .lt 22, 3, 24, 0, 0), (.iload_n 0, 1, 0, 0, 0), (.bipush 24, 2, 0, 0, 24), (.if_icmp .gt 16, 3, 24, 0, 0), (.iload_n 1, 1, 1, 0, 0), (.ifCond .eq 8, 3, 20, 0, 0), (.iload_n 1, 1, 1, 0, 0), (.iconst 1, 1, 0, 0, 1), (.if_icmp .ne 7, 3, 24, 0, 0)], 20),
  (20, [(.iconst 1, 1, 0, 0, 1), (.goto 4, 3, 25, 0, 0)], 24),
  (24, [(.iconst 0, 1, 0, 0, 0)], 25),
  (25, [(.ireturn, 1, 1, 0, 0)], 26)]
set_option maxRecDepth 100000 in
theorem ok_X8_canBe : pm_oks 8 false 2 (some .boolean) cX8_canBe bk_X8_canBe = true := oksF_ok (by decide +kernel)
set_option maxRecDepth 100000 in
theorem me_X8_canBe : pm_me 121 = (yX8_canBe, cX8_canBe, 2, (some .boolean), 2, 1) := rfl
theorem mt_X8_canBe {l : Launch} {g : pm_G} {d mc ms : Nat} {as : List Value} {A : pm_H} {Q : Option Value → pm_H → Prop} (hca : pm_cat 2 as = true) (body : ∀ J : pm_J, pm_Cl l g (fun _ => none) d mc ms (pm_Rq mc ms Q) bk_X8_canBe J → J 0 (pm_l0 2 as) [] A 0 0) : pm_Mt l g 121 d mc ms as A Q := pm_Mt_of (isI := false) 8 bk_X8_canBe me_X8_canBe (plainFor_of_name (by decide +kernel)) (by decide +kernel) (fun h => by cases h) ok_X8_canBe hca body
def bk_X8_goThrough : pm_B := [(0, [(.aload_n 0, 1, 0, 0, 0), (.aload_n 1, 1, 1, 0, 0), (.invokevirtual 21, 3, 123, 1, 8), (.aload_n 0, 1, 0, 0, 0), (.iconst 0, 1, 0, 0, 0), (.putfield 25, 3, 8, 3, 0), (.aload_n 0, 1, 0, 0, 0), (.iconst 0, 1, 0, 0, 0), (.putfield 29, 3, 8, 4, 0), (.iconst 0, 1, 0, 0, 0), (.istore 5, 2, 5, 0, 0)], 18),
  (18, [(.iload 5, 2, 5, 0, 0), (.iload_n 2, 1, 2, 0, 0), (.if_icmp .gt 115, 3, 136, 0, 0), (.aload_n 1, 1, 1, 0, 0), (.iload 5, 2, 5, 0, 0), (.invokevirtual 32, 3, 19, 1, 7), (.ifCond .eq 106, 3, 136, 0, 0), (.aload_n 1, 1, 1, 0, 0), (.getfield 38, 3, 7, 0, 0), (.iload 5, 2, 5, 0, 0), (.iaload, 1, 0, 0, 0), (.istore 6, 2, 6, 0, 0), (.aload_n 0, 1, 0, 0, 0), (.getfield 29, 3, 8, 4, 0), (.iconst 1, 1, 0, 0, 1), (.iload 6, 2, 6, 0, 0), (.ishl, 1, 0, 0, 0), (.iand, 1, 0, 0, 0), (.ifCond .ne 56, 3, 107, 0, 0), (.aload_n 0, 1, 0, 0, 0), (.dup, 1, 0, 0, 0), (.getfield 25, 3, 8, 3, 0), (.iconst 1, 1, 0, 0, 1), (.iadd, 1, 0, 0, 0), (.putfield 25, 3, 8, 3, 0), (.aload_n 0, 1, 0, 0, 0), (.getfield 29, 3, 8, 4, 0), (.invokestatic 41, 3, 75, 1, 0), (.iload_n 3, 1, 3, 0, 0), (.if_icmp .lt 22, 3, 94, 0, 0), (.aload_n 0, 1, 0, 0, 0), (.dup, 1, 0, 0, 0), (.getfield 29, 3, 8, 4, 0), (.iconst 1, 1, 0, 0, 1), (.aload_n 0, 1, 0, 0, 0), (.iload 4, 2, 4, 0, 0), (.invokevirtual 47, 3, 124, 1, 8), (.ishl, 1, 0, 0, 0), (.iconst (-1), 1, 0, 0, -1), (.ixor, 1, 0, 0, 0), (.iand, 1, 0, 0, 0), (.putfield 29, 3, 8, 4, 0)], 94),
  (94, [(.aload_n 0, 1, 0, 0, 0), (.dup, 1, 0, 0, 0), (.getfield 29, 3, 8, 4, 0), (.iconst 1, 1, 0, 0, 1), (.iload 6, 2, 6, 0, 0), (.ishl, 1, 0, 0, 0), (.ior, 1, 0, 0, 0), (.putfield 29, 3, 8, 4, 0)], 107),
  (107, [(.aload_n 0, 1, 0, 0, 0), (.getfield 15, 3, 8, 1, 0), (.iload 6, 2, 6, 0, 0), (.iload 5, 2, 5, 0, 0), (.iastore, 1, 0, 0, 0), (.aload_n 0, 1, 0, 0, 0), (.getfield 18, 3, 8, 2, 0), (.iload 6, 2, 6, 0, 0), (.aload_n 0, 1, 0, 0, 0), (.getfield 9, 3, 8, 0, 0), (.iload 5, 2, 5, 0, 0), (.iaload, 1, 0, 0, 0), (.iastore, 1, 0, 0, 0), (.iinc 5 1, 3, 5, 0, 1), (.goto (-115), 3, 18, 0, 0)], 136),
  (136, [(.return_, 1, 0, 0, 0)], 137)]
set_option maxRecDepth 100000 in
theorem ok_X8_goThrough : pm_oks 8 false 7 none cX8_goThrough bk_X8_goThrough = true := oksF_ok (by decide +kernel)
set_option maxRecDepth 100000 in
theorem me_X8_goThrough : pm_me 122 = (yX8_goThrough, cX8_goThrough, 7, none, 4, 0) := rfl
theorem mt_X8_goThrough {l : Launch} {g : pm_G} {d mc ms : Nat} {as : List Value} {A : pm_H} {Q : Option Value → pm_H → Prop} (hca : pm_cat 7 as = true) (body : ∀ J : pm_J, pm_Cl l g (fun _ => none) d mc ms (pm_Rq mc ms Q) bk_X8_goThrough J → J 0 (pm_l0 7 as) [] A 0 0) : pm_Mt l g 122 d mc ms as A Q := pm_Mt_of (isI := false) 8 bk_X8_goThrough me_X8_goThrough (plainFor_of_name (by decide +kernel)) (by decide +kernel) (fun h => by cases h) ok_X8_goThrough hca body
def bk_X8_findNextAlike : pm_B := [(0, [(.aload_n 0, 1, 0, 0, 0), (.getfield 9, 3, 8, 0, 0), (.sipush 160, 3, 0, 0, 160), (.invokestatic 50, 3, 4, 2, 0), (.iconst 0, 1, 0, 0, 0), (.istore_n 2, 1, 2, 0, 0)], 12),
  (12, [(.iload_n 2, 1, 2, 0, 0), (.aload_n 1, 1, 1, 0, 0), (.getfield 56, 3, 7, 3, 0), (.if_icmp .ge 31, 3, 48, 0, 0), (.aload_n 1, 1, 1, 0, 0), (.getfield 59, 3, 7, 2, 0), (.iload_n 2, 1, 2, 0, 0), (.iaload, 1, 0, 0, 0), (.iconst (-1), 1, 0, 0, -1), (.if_icmp .eq 15, 3, 42, 0, 0), (.aload_n 0, 1, 0, 0, 0), (.getfield 9, 3, 8, 0, 0), (.aload_n 1, 1, 1, 0, 0), (.getfield 59, 3, 7, 2, 0), (.iload_n 2, 1, 2, 0, 0), (.iaload, 1, 0, 0, 0), (.iload_n 2, 1, 2, 0, 0), (.iastore, 1, 0, 0, 0)], 42),
  (42, [(.iinc 2 1, 3, 2, 0, 1), (.goto (-33), 3, 12, 0, 0)], 48),
  (48, [(.return_, 1, 0, 0, 0)], 49)]
set_option maxRecDepth 100000 in
theorem ok_X8_findNextAlike : pm_oks 8 false 3 none cX8_findNextAlike bk_X8_findNextAlike = true := oksF_ok (by decide +kernel)
set_option maxRecDepth 100000 in
theorem me_X8_findNextAlike : pm_me 123 = (yX8_findNextAlike, cX8_findNextAlike, 3, none, 1, 0) := rfl
theorem mt_X8_findNextAlike {l : Launch} {g : pm_G} {d mc ms : Nat} {as : List Value} {A : pm_H} {Q : Option Value → pm_H → Prop} (hca : pm_cat 3 as = true) (body : ∀ J : pm_J, pm_Cl l g (fun _ => none) d mc ms (pm_Rq mc ms Q) bk_X8_findNextAlike J → J 0 (pm_l0 3 as) [] A 0 0) : pm_Mt l g 123 d mc ms as A Q := pm_Mt_of (isI := false) 8 bk_X8_findNextAlike me_X8_findNextAlike (plainFor_of_name (by decide +kernel)) (by decide +kernel) (fun h => by cases h) ok_X8_findNextAlike hca body
def bk_X8_oneToGo : pm_B := [(0, [(.iconst (-1), 1, 0, 0, -1), (.istore_n 2, 1, 2, 0, 0), (.iconst 0, 1, 0, 0, 0), (.istore_n 3, 1, 3, 0, 0)], 4),
  (4, [(.iload_n 3, 1, 3, 0, 0), (.bipush 24, 2, 0, 0, 24), (.if_icmp .ge 37, 3, 44, 0, 0), (.aload_n 0, 1, 0, 0, 0), (.getfield 29, 3, 8, 4, 0), (.iconst 1, 1, 0, 0, 1), (.iload_n 3, 1, 3, 0, 0), (.ishl, 1, 0, 0, 0), (.iand, 1, 0, 0, 0), (.ifCond .eq 20, 3, 38, 0, 0), (.iload_n 2, 1, 2, 0, 0), (.iconst (-1), 1, 0, 0, -1), (.if_icmp .eq 13, 3, 36, 0, 0), (.aload_n 0, 1, 0, 0, 0), (.iload_n 3, 1, 3, 0, 0), (.iload_n 2, 1, 2, 0, 0), (.iload_n 1, 1, 1, 0, 0), (.invokevirtual 62, 3, 125, 3, 8), (.ifCond .eq 5, 3, 38, 0, 0)], 36),
  (36, [(.iload_n 3, 1, 3, 0, 0), (.istore_n 2, 1, 2, 0, 0)], 38),
  (38, [(.iinc 3 1, 3, 3, 0, 1), (.goto (-37), 3, 4, 0, 0)], 44),
  (44, [(.iload_n 2, 1, 2, 0, 0), (.iconst 0, 1, 0, 0, 0), (.invokestatic 66, 3, 51, 2, 0), (.ireturn, 1, 0, 0, 0)], 50)]
set_option maxRecDepth 100000 in
theorem ok_X8_oneToGo : pm_oks 8 false 4 (some .int) cX8_oneToGo bk_X8_oneToGo = true := oksF_ok (by decide +kernel)
set_option maxRecDepth 100000 in
theorem me_X8_oneToGo : pm_me 124 = (yX8_oneToGo, cX8_oneToGo, 4, (some .int), 1, 0) := rfl
theorem mt_X8_oneToGo {l : Launch} {g : pm_G} {d mc ms : Nat} {as : List Value} {A : pm_H} {Q : Option Value → pm_H → Prop} (hca : pm_cat 4 as = true) (body : ∀ J : pm_J, pm_Cl l g (fun _ => none) d mc ms (pm_Rq mc ms Q) bk_X8_oneToGo J → J 0 (pm_l0 4 as) [] A 0 0) : pm_Mt l g 124 d mc ms as A Q := pm_Mt_of (isI := false) 8 bk_X8_oneToGo me_X8_oneToGo (plainFor_of_name (by decide +kernel)) (by decide +kernel) (fun h => by cases h) ok_X8_oneToGo hca body
def bk_X8_goesRather : pm_B := [(0, [(.iload_n 3, 1, 3, 0, 0), (.ifCond .ne 24, 3, 25, 0, 0), (.aload_n 0, 1, 0, 0, 0), (.getfield 15, 3, 8, 1, 0), (.iload_n 1, 1, 1, 0, 0), (.iaload, 1, 0, 0, 0), (.aload_n 0, 1, 0, 0, 0), (.getfield 15, 3, 8, 1, 0), (.iload_n 2, 1, 2, 0, 0), (.iaload, 1, 0, 0, 0), (.if_icmp .ge 7, 3, 23, 0, 0), (.iconst 1, 1, 0, 0, 1), (.goto 4, 3, 24, 0, 0)], 23),
  (23, [(.iconst 0, 1, 0, 0, 0)], 24),
  (24, [(.ireturn, 1, 1, 0, 0)], 25),
  (25, [(.aload_n 0, 1, 0, 0, 0), (.getfield 18, 3, 8, 2, 0), (.iload_n 1, 1, 1, 0, 0), (.iaload, 1, 0, 0, 0), (.aload_n 0, 1, 0, 0, 0), (.getfield 18, 3, 8, 2, 0), (.iload_n 2, 1, 2, 0, 0), (.iaload, 1, 0, 0, 0), (.if_icmp .le 7, 3, 44, 0, 0), (.iconst 1, 1, 0, 0, 1), (.goto 4, 3, 45, 0, 0)], 44),
  (44, [(.iconst 0, 1, 0, 0, 0)], 45),
  (45, [(.ireturn, 1, 1, 0, 0)], 46)]
set_option maxRecDepth 100000 in
theorem ok_X8_goesRather : pm_oks 8 false 4 (some .boolean) cX8_goesRather bk_X8_goesRather = true := oksF_ok (by decide +kernel)
set_option maxRecDepth 100000 in
theorem me_X8_goesRather : pm_me 125 = (yX8_goesRather, cX8_goesRather, 4, (some .boolean), 3, 0) := rfl
theorem mt_X8_goesRather {l : Launch} {g : pm_G} {d mc ms : Nat} {as : List Value} {A : pm_H} {Q : Option Value → pm_H → Prop} (hca : pm_cat 4 as = true) (body : ∀ J : pm_J, pm_Cl l g (fun _ => none) d mc ms (pm_Rq mc ms Q) bk_X8_goesRather J → J 0 (pm_l0 4 as) [] A 0 0) : pm_Mt l g 125 d mc ms as A Q := pm_Mt_of (isI := false) 8 bk_X8_goesRather me_X8_goesRather (plainFor_of_name (by decide +kernel)) (by decide +kernel) (fun h => by cases h) ok_X8_goesRather hca body
def bk_X4_init : pm_B := [(0, [(.aload_n 0, 1, 0, 0, 0), (.invokespecial 3, 3, 0, 0, 0), (.aload_n 0, 1, 0, 0, 0), (.sipush 160, 3, 0, 0, 160), (.newarray .int, 2, 160, 0, 0), (.putfield 9, 3, 4, 0, 1), (.return_, 1, 0, 0, 0)], 14)]
set_option maxRecDepth 100000 in
theorem ok_X4_init : pm_oks 4 true 1 none cX4_init bk_X4_init = true := oksF_ok (by decide +kernel)
set_option maxRecDepth 100000 in
theorem me_X4_init : pm_me 9 = (yX4_init, cX4_init, 1, none, 0, 2) := rfl
theorem mt_X4_init {l : Launch} {g : pm_G} {d mc ms : Nat} {as : List Value} {A : pm_H} {Q : Option Value → pm_H → Prop} (hca : pm_cat 1 as = true) (body : ∀ J : pm_J, pm_Cl l g (fun _ => none) d mc ms (pm_Rq mc ms Q) bk_X4_init J → J 0 (pm_l0 1 as) [] A 0 0) : pm_Mt l g 9 d mc ms as A Q := pm_Mt_of (isI := true) 4 bk_X4_init me_X4_init (plainFor_of_name (by decide +kernel)) (by decide +kernel) (fun _ => by decide +kernel) ok_X4_init hca body
def bk_X4_spansUpTo : pm_B := [(0, [(.aload_n 2, 1, 2, 0, 0), (.invokevirtual 15, 3, 56, 0, 2), (.iconst 0, 1, 0, 0, 0), (.istore 4, 2, 4, 0, 0), (.iconst 0, 1, 0, 0, 0), (.istore 5, 2, 5, 0, 0), (.iconst 0, 1, 0, 0, 0), (.istore 6, 2, 6, 0, 0)], 13),
  (13, [(.iload 6, 2, 6, 0, 0), (.aload_n 1, 1, 1, 0, 0), (.getfield 20, 3, 7, 3, 0), (.if_icmp .ge 64, 3, 83, 0, 0), (.aload_n 2, 1, 2, 0, 0), (.aload_n 1, 1, 1, 0, 0), (.getfield 26, 3, 7, 0, 0), (.iload 6, 2, 6, 0, 0), (.iaload, 1, 0, 0, 0), (.invokevirtual 29, 3, 57, 1, 2)], 33),
  (33, [(.aload_n 2, 1, 2, 0, 0), (.getfield 33, 3, 2, 3, 0), (.iload_n 3, 1, 3, 0, 0), (.if_icmp .le 27, 3, 65, 0, 0), (.iload 5, 2, 5, 0, 0), (.iload 6, 2, 6, 0, 0), (.if_icmp .gt 20, 3, 65, 0, 0), (.aload_n 2, 1, 2, 0, 0), (.aload_n 1, 1, 1, 0, 0), (.getfield 26, 3, 7, 0, 0), (.iload 5, 2, 5, 0, 0), (.iaload, 1, 0, 0, 0), (.invokevirtual 36, 3, 113, 1, 2), (.iinc 5 1, 3, 5, 0, 1), (.goto (-29), 3, 33, 0, 0)], 65),
  (65, [(.iload 4, 2, 4, 0, 0), (.iload 6, 2, 6, 0, 0), (.iload 5, 2, 5, 0, 0), (.isub, 1, 0, 0, 0), (.iconst 1, 1, 0, 0, 1), (.iadd, 1, 0, 0, 0), (.iadd, 1, 0, 0, 0), (.istore 4, 2, 4, 0, 0), (.iinc 6 1, 3, 6, 0, 1), (.goto (-67), 3, 13, 0, 0)], 83),
  (83, [(.iload 4, 2, 4, 0, 0), (.ireturn, 1, 0, 0, 0)], 86)]
set_option maxRecDepth 100000 in
theorem ok_X4_spansUpTo : pm_oks 4 false 7 (some .int) cX4_spansUpTo bk_X4_spansUpTo = true := oksF_ok (by decide +kernel)
set_option maxRecDepth 100000 in
theorem me_X4_spansUpTo : pm_me 129 = (yX4_spansUpTo, cX4_spansUpTo, 7, (some .int), 3, 0) := rfl
theorem mt_X4_spansUpTo {l : Launch} {g : pm_G} {d mc ms : Nat} {as : List Value} {A : pm_H} {Q : Option Value → pm_H → Prop} (hca : pm_cat 7 as = true) (body : ∀ J : pm_J, pm_Cl l g (fun _ => none) d mc ms (pm_Rq mc ms Q) bk_X4_spansUpTo J → J 0 (pm_l0 7 as) [] A 0 0) : pm_Mt l g 129 d mc ms as A Q := pm_Mt_of (isI := false) 4 bk_X4_spansUpTo me_X4_spansUpTo (plainFor_of_name (by decide +kernel)) (by decide +kernel) (fun h => by cases h) ok_X4_spansUpTo hca body
def bk_X4_unlikeSets : pm_B := [(0, [(.aload_n 2, 1, 2, 0, 0), (.aload_n 1, 1, 1, 0, 0), (.iconst 0, 1, 0, 0, 0), (.iload_n 3, 1, 3, 0, 0), (.iconst 1, 1, 0, 0, 1), (.isub, 1, 0, 0, 0), (.invokevirtual 39, 3, 55, 3, 2), (.iconst 0, 1, 0, 0, 0), (.istore 4, 2, 4, 0, 0), (.iconst 0, 1, 0, 0, 0), (.istore 5, 2, 5, 0, 0)], 15),
  (15, [(.iload 5, 2, 5, 0, 0), (.iload_n 3, 1, 3, 0, 0), (.iadd, 1, 0, 0, 0), (.aload_n 1, 1, 1, 0, 0), (.getfield 20, 3, 7, 3, 0), (.if_icmp .gt 69, 3, 92, 0, 0), (.iload 5, 2, 5, 0, 0), (.ifCond .le 31, 3, 59, 0, 0), (.aload_n 2, 1, 2, 0, 0), (.aload_n 1, 1, 1, 0, 0), (.getfield 26, 3, 7, 0, 0), (.iload 5, 2, 5, 0, 0), (.iconst 1, 1, 0, 0, 1), (.isub, 1, 0, 0, 0), (.iaload, 1, 0, 0, 0), (.invokevirtual 36, 3, 113, 1, 2), (.aload_n 2, 1, 2, 0, 0), (.aload_n 1, 1, 1, 0, 0), (.getfield 26, 3, 7, 0, 0), (.iload 5, 2, 5, 0, 0), (.iload_n 3, 1, 3, 0, 0), (.iadd, 1, 0, 0, 0), (.iconst 1, 1, 0, 0, 1), (.isub, 1, 0, 0, 0), (.iaload, 1, 0, 0, 0), (.invokevirtual 29, 3, 57, 1, 2)], 59),
  (59, [(.aload_n 0, 1, 0, 0, 0), (.aload_n 2, 1, 2, 0, 0), (.getfield 43, 3, 2, 4, 0), (.iload 4, 2, 4, 0, 0), (.invokevirtual 46, 3, 133, 2, 4), (.ifCond .ne 17, 3, 86, 0, 0), (.aload_n 0, 1, 0, 0, 0), (.getfield 9, 3, 4, 0, 0), (.iload 4, 2, 4, 0, 0), (.aload_n 2, 1, 2, 0, 0), (.getfield 43, 3, 2, 4, 0), (.iastore, 1, 0, 0, 0), (.iinc 4 1, 3, 4, 0, 1)], 86),
  (86, [(.iinc 5 1, 3, 5, 0, 1), (.goto (-74), 3, 15, 0, 0)], 92),
  (92, [(.iload 4, 2, 4, 0, 0), (.ireturn, 1, 0, 0, 0)], 95)]
set_option maxRecDepth 100000 in
theorem ok_X4_unlikeSets : pm_oks 4 false 6 (some .int) cX4_unlikeSets bk_X4_unlikeSets = true := oksF_ok (by decide +kernel)
set_option maxRecDepth 100000 in
theorem me_X4_unlikeSets : pm_me 132 = (yX4_unlikeSets, cX4_unlikeSets, 6, (some .int), 3, 0) := rfl
theorem mt_X4_unlikeSets {l : Launch} {g : pm_G} {d mc ms : Nat} {as : List Value} {A : pm_H} {Q : Option Value → pm_H → Prop} (hca : pm_cat 6 as = true) (body : ∀ J : pm_J, pm_Cl l g (fun _ => none) d mc ms (pm_Rq mc ms Q) bk_X4_unlikeSets J → J 0 (pm_l0 6 as) [] A 0 0) : pm_Mt l g 132 d mc ms as A Q := pm_Mt_of (isI := false) 4 bk_X4_unlikeSets me_X4_unlikeSets (plainFor_of_name (by decide +kernel)) (by decide +kernel) (fun h => by cases h) ok_X4_unlikeSets hca body
def bk_X4_isAmong : pm_B := [(0, [(.iconst 0, 1, 0, 0, 0), (.istore_n 3, 1, 3, 0, 0)], 2),
  (2, [(.iload_n 3, 1, 3, 0, 0), (.iload_n 2, 1, 2, 0, 0), (.if_icmp .ge 21, 3, 25, 0, 0), (.aload_n 0, 1, 0, 0, 0), (.getfield 9, 3, 4, 0, 0), (.iload_n 3, 1, 3, 0, 0), (.iaload, 1, 0, 0, 0), (.iload_n 1, 1, 1, 0, 0), (.if_icmp .ne 5, 3, 19, 0, 0), (.iconst 1, 1, 0, 0, 1), (.ireturn, 1, 1, 0, 0)], 19),
  (19, [(.iinc 3 1, 3, 3, 0, 1), (.goto (-20), 3, 2, 0, 0)], 25),
  (25, [(.iconst 0, 1, 0, 0, 0), (.ireturn, 1, 1, 0, 0)], 27)]
set_option maxRecDepth 100000 in
theorem ok_X4_isAmong : pm_oks 4 false 4 (some .boolean) cX4_isAmong bk_X4_isAmong = true := oksF_ok (by decide +kernel)
set_option maxRecDepth 100000 in
theorem me_X4_isAmong : pm_me 133 = (yX4_isAmong, cX4_isAmong, 4, (some .boolean), 2, 0) := rfl
theorem mt_X4_isAmong {l : Launch} {g : pm_G} {d mc ms : Nat} {as : List Value} {A : pm_H} {Q : Option Value → pm_H → Prop} (hca : pm_cat 4 as = true) (body : ∀ J : pm_J, pm_Cl l g (fun _ => none) d mc ms (pm_Rq mc ms Q) bk_X4_isAmong J → J 0 (pm_l0 4 as) [] A 0 0) : pm_Mt l g 133 d mc ms as A Q := pm_Mt_of (isI := false) 4 bk_X4_isAmong me_X4_isAmong (plainFor_of_name (by decide +kernel)) (by decide +kernel) (fun h => by cases h) ok_X4_isAmong hca body
def bk_X4_matching : pm_B := [(0, [(.iconst 0, 1, 0, 0, 0), (.istore 5, 2, 5, 0, 0), (.iconst 0, 1, 0, 0, 0), (.istore 6, 2, 6, 0, 0)], 6),
  (6, [(.iload 6, 2, 6, 0, 0), (.iload_n 3, 1, 3, 0, 0), (.iadd, 1, 0, 0, 0), (.iload_n 2, 1, 2, 0, 0), (.isub, 1, 0, 0, 0), (.aload_n 1, 1, 1, 0, 0), (.getfield 20, 3, 7, 3, 0), (.if_icmp .ge 37, 3, 53, 0, 0), (.aload_n 1, 1, 1, 0, 0), (.iload_n 2, 1, 2, 0, 0), (.iload 6, 2, 6, 0, 0), (.iload_n 3, 1, 3, 0, 0), (.iload_n 2, 1, 2, 0, 0), (.isub, 1, 0, 0, 0), (.iconst 1, 1, 0, 0, 1), (.iadd, 1, 0, 0, 0), (.invokestatic 53, 3, 136, 4, 0), (.ifCond .eq 16, 3, 47, 0, 0), (.iload 5, 2, 5, 0, 0), (.iload 4, 2, 4, 0, 0), (.if_icmp .ne 6, 3, 44, 0, 0), (.iload 6, 2, 6, 0, 0), (.ireturn, 1, 0, 0, 0)], 44),
  (44, [(.iinc 5 1, 3, 5, 0, 1)], 47),
  (47, [(.iinc 6 1, 3, 6, 0, 1), (.goto (-44), 3, 6, 0, 0)], 53),
  (53, [(.iload 4, 2, 4, 0, 0), (.iconst (-1), 1, 0, 0, -1), (.if_icmp .ne 8, 3, 64, 0, 0), (.iload 5, 2, 5, 0, 0), (.goto 4, 3, 65, 0, 0)], 64),
  (64, [(.iconst (-1), 1, 0, 0, -1)], 65),
  (65, [(.ireturn, 1, 0, 0, 0)], 66)]
set_option maxRecDepth 100000 in
theorem ok_X4_matching : pm_oks 4 false 7 (some .int) cX4_matching bk_X4_matching = true := oksF_ok (by decide +kernel)
set_option maxRecDepth 100000 in
theorem me_X4_matching : pm_me 135 = (yX4_matching, cX4_matching, 7, (some .int), 4, 0) := rfl
theorem mt_X4_matching {l : Launch} {g : pm_G} {d mc ms : Nat} {as : List Value} {A : pm_H} {Q : Option Value → pm_H → Prop} (hca : pm_cat 7 as = true) (body : ∀ J : pm_J, pm_Cl l g (fun _ => none) d mc ms (pm_Rq mc ms Q) bk_X4_matching J → J 0 (pm_l0 7 as) [] A 0 0) : pm_Mt l g 135 d mc ms as A Q := pm_Mt_of (isI := false) 4 bk_X4_matching me_X4_matching (plainFor_of_name (by decide +kernel)) (by decide +kernel) (fun h => by cases h) ok_X4_matching hca body
def bk_X4_areMatching : pm_B := [(0, [(.iconst 0, 1, 0, 0, 0), (.istore 4, 2, 4, 0, 0)], 3),
  (3, [(.iload 4, 2, 4, 0, 0), (.iload_n 3, 1, 3, 0, 0), (.if_icmp .ge 32, 3, 38, 0, 0), (.aload_n 0, 1, 0, 0, 0), (.iload_n 1, 1, 1, 0, 0), (.iload_n 1, 1, 1, 0, 0), (.iload 4, 2, 4, 0, 0), (.iadd, 1, 0, 0, 0), (.invokestatic 57, 3, 137, 3, 0), (.aload_n 0, 1, 0, 0, 0), (.iload_n 2, 1, 2, 0, 0), (.iload_n 2, 1, 2, 0, 0), (.iload 4, 2, 4, 0, 0), (.iadd, 1, 0, 0, 0), (.invokestatic 57, 3, 137, 3, 0), (.if_icmp .eq 5, 3, 32, 0, 0), (.iconst 0, 1, 0, 0, 0), (.ireturn, 1, 1, 0, 0)], 32),
  (32, [(.iinc 4 1, 3, 4, 0, 1), (.goto (-32), 3, 3, 0, 0)], 38),
  (38, [(.iconst 1, 1, 0, 0, 1), (.ireturn, 1, 1, 0, 0)], 40)]
set_option maxRecDepth 100000 in
theorem ok_X4_areMatching : pm_oks 4 false 5 (some .boolean) cX4_areMatching bk_X4_areMatching = true := oksF_ok (by decide +kernel)
set_option maxRecDepth 100000 in
theorem me_X4_areMatching : pm_me 136 = (yX4_areMatching, cX4_areMatching, 5, (some .boolean), 4, 1) := rfl
theorem mt_X4_areMatching {l : Launch} {g : pm_G} {d mc ms : Nat} {as : List Value} {A : pm_H} {Q : Option Value → pm_H → Prop} (hca : pm_cat 5 as = true) (body : ∀ J : pm_J, pm_Cl l g (fun _ => none) d mc ms (pm_Rq mc ms Q) bk_X4_areMatching J → J 0 (pm_l0 5 as) [] A 0 0) : pm_Mt l g 136 d mc ms as A Q := pm_Mt_of (isI := false) 4 bk_X4_areMatching me_X4_areMatching (plainFor_of_name (by decide +kernel)) (by decide +kernel) (fun h => by cases h) ok_X4_areMatching hca body
def bk_X4_stepWithin : pm_B := [(0, [(.aload_n 0, 1, 0, 0, 0), (.getfield 50, 3, 7, 2, 0), (.iload_n 2, 1, 2, 0, 0), (.iaload, 1, 0, 0, 0), (.iload_n 1, 1, 1, 0, 0), (.if_icmp .lt 14, 3, 21, 0, 0), (.iload_n 2, 1, 2, 0, 0), (.aload_n 0, 1, 0, 0, 0), (.getfield 50, 3, 7, 2, 0), (.iload_n 2, 1, 2, 0, 0), (.iaload, 1, 0, 0, 0), (.isub, 1, 0, 0, 0), (.goto 4, 3, 22, 0, 0)], 21),
  (21, [(.iconst 0, 1, 0, 0, 0)], 22),
  (22, [(.ireturn, 1, 0, 0, 0)], 23)]
set_option maxRecDepth 100000 in
theorem ok_X4_stepWithin : pm_oks 4 false 3 (some .int) cX4_stepWithin bk_X4_stepWithin = true := oksF_ok (by decide +kernel)
set_option maxRecDepth 100000 in
theorem me_X4_stepWithin : pm_me 137 = (yX4_stepWithin, cX4_stepWithin, 3, (some .int), 3, 1) := rfl
theorem mt_X4_stepWithin {l : Launch} {g : pm_G} {d mc ms : Nat} {as : List Value} {A : pm_H} {Q : Option Value → pm_H → Prop} (hca : pm_cat 3 as = true) (body : ∀ J : pm_J, pm_Cl l g (fun _ => none) d mc ms (pm_Rq mc ms Q) bk_X4_stepWithin J → J 0 (pm_l0 3 as) [] A 0 0) : pm_Mt l g 137 d mc ms as A Q := pm_Mt_of (isI := false) 4 bk_X4_stepWithin me_X4_stepWithin (plainFor_of_name (by decide +kernel)) (by decide +kernel) (fun h => by cases h) ok_X4_stepWithin hca body
def bk_X4_findTwin : pm_B := [(0, [(.aload_n 0, 1, 0, 0, 0), (.iconst (-1), 1, 0, 0, -1), (.putfield 61, 3, 4, 1, 0), (.aload_n 0, 1, 0, 0, 0), (.iconst 0, 1, 0, 0, 0), (.putfield 64, 3, 4, 2, 0), (.iconst 1, 1, 0, 0, 1), (.istore_n 2, 1, 2, 0, 0)], 12),
  (12, [(.iload_n 2, 1, 2, 0, 0), (.aload_n 1, 1, 1, 0, 0), (.getfield 20, 3, 7, 3, 0), (.if_icmp .ge 15, 3, 32, 0, 0), (.aload_n 0, 1, 0, 0, 0), (.aload_n 1, 1, 1, 0, 0), (.iload_n 2, 1, 2, 0, 0), (.invokevirtual 67, 3, 140, 2, 4), (.iinc 2 1, 3, 2, 0, 1), (.goto (-17), 3, 12, 0, 0)], 32),
  (32, [(.return_, 1, 0, 0, 0)], 33)]
set_option maxRecDepth 100000 in
theorem ok_X4_findTwin : pm_oks 4 false 3 none cX4_findTwin bk_X4_findTwin = true := oksF_ok (by decide +kernel)
set_option maxRecDepth 100000 in
theorem me_X4_findTwin : pm_me 139 = (yX4_findTwin, cX4_findTwin, 3, none, 1, 0) := rfl
theorem mt_X4_findTwin {l : Launch} {g : pm_G} {d mc ms : Nat} {as : List Value} {A : pm_H} {Q : Option Value → pm_H → Prop} (hca : pm_cat 3 as = true) (body : ∀ J : pm_J, pm_Cl l g (fun _ => none) d mc ms (pm_Rq mc ms Q) bk_X4_findTwin J → J 0 (pm_l0 3 as) [] A 0 0) : pm_Mt l g 139 d mc ms as A Q := pm_Mt_of (isI := false) 4 bk_X4_findTwin me_X4_findTwin (plainFor_of_name (by decide +kernel)) (by decide +kernel) (fun h => by cases h) ok_X4_findTwin hca body
def bk_X4_findTwinApart : pm_B := [(0, [(.iconst 0, 1, 0, 0, 0), (.istore_n 3, 1, 3, 0, 0), (.iconst 0, 1, 0, 0, 0), (.istore 4, 2, 4, 0, 0)], 5),
  (5, [(.iload 4, 2, 4, 0, 0), (.iload_n 2, 1, 2, 0, 0), (.iadd, 1, 0, 0, 0), (.aload_n 1, 1, 1, 0, 0), (.getfield 20, 3, 7, 3, 0), (.if_icmp .ge 98, 3, 111, 0, 0), (.iload_n 3, 1, 3, 0, 0), (.iload 4, 2, 4, 0, 0), (.invokestatic 71, 3, 51, 2, 0), (.istore_n 3, 1, 3, 0, 0)], 23),
  (23, [(.iload_n 3, 1, 3, 0, 0), (.iload_n 2, 1, 2, 0, 0), (.iadd, 1, 0, 0, 0), (.aload_n 1, 1, 1, 0, 0), (.getfield 20, 3, 7, 3, 0), (.if_icmp .ge 30, 3, 60, 0, 0), (.aload_n 1, 1, 1, 0, 0), (.iload 4, 2, 4, 0, 0), (.iload_n 3, 1, 3, 0, 0), (.invokestatic 57, 3, 137, 3, 0), (.aload_n 1, 1, 1, 0, 0), (.iload 4, 2, 4, 0, 0), (.iload_n 2, 1, 2, 0, 0), (.iadd, 1, 0, 0, 0), (.iload_n 3, 1, 3, 0, 0), (.iload_n 2, 1, 2, 0, 0), (.iadd, 1, 0, 0, 0), (.invokestatic 57, 3, 137, 3, 0), (.if_icmp .ne 9, 3, 60, 0, 0), (.iinc 3 1, 3, 3, 0, 1), (.goto (-34), 3, 23, 0, 0)], 60),
  (60, [(.iload_n 3, 1, 3, 0, 0), (.iload 4, 2, 4, 0, 0), (.isub, 1, 0, 0, 0), (.istore 5, 2, 5, 0, 0), (.iload 5, 2, 5, 0, 0), (.aload_n 0, 1, 0, 0, 0), (.getfield 64, 3, 4, 2, 0), (.if_icmp .gt 21, 3, 93, 0, 0), (.iload 5, 2, 5, 0, 0), (.aload_n 0, 1, 0, 0, 0), (.getfield 64, 3, 4, 2, 0), (.if_icmp .ne 24, 3, 105, 0, 0), (.iload 4, 2, 4, 0, 0), (.aload_n 0, 1, 0, 0, 0), (.getfield 61, 3, 4, 1, 0), (.if_icmp .ge 15, 3, 105, 0, 0)], 93),
  (93, [(.aload_n 0, 1, 0, 0, 0), (.iload 4, 2, 4, 0, 0), (.putfield 61, 3, 4, 1, 0), (.aload_n 0, 1, 0, 0, 0), (.iload 5, 2, 5, 0, 0), (.putfield 64, 3, 4, 2, 0)], 105),
  (105, [(.iinc 4 1, 3, 4, 0, 1), (.goto (-103), 3, 5, 0, 0)], 111),
  (111, [(.return_, 1, 0, 0, 0)], 112)]
set_option maxRecDepth 100000 in
theorem ok_X4_findTwinApart : pm_oks 4 false 6 none cX4_findTwinApart bk_X4_findTwinApart = true := oksF_ok (by decide +kernel)
set_option maxRecDepth 100000 in
theorem me_X4_findTwinApart : pm_me 140 = (yX4_findTwinApart, cX4_findTwinApart, 6, none, 2, 0) := rfl
theorem mt_X4_findTwinApart {l : Launch} {g : pm_G} {d mc ms : Nat} {as : List Value} {A : pm_H} {Q : Option Value → pm_H → Prop} (hca : pm_cat 6 as = true) (body : ∀ J : pm_J, pm_Cl l g (fun _ => none) d mc ms (pm_Rq mc ms Q) bk_X4_findTwinApart J → J 0 (pm_l0 6 as) [] A 0 0) : pm_Mt l g 140 d mc ms as A Q := pm_Mt_of (isI := false) 4 bk_X4_findTwinApart me_X4_findTwinApart (plainFor_of_name (by decide +kernel)) (by decide +kernel) (fun h => by cases h) ok_X4_findTwinApart hca body
def bk_X3_init : pm_B := [(0, [(.aload_n 0, 1, 0, 0, 0), (.invokespecial 3, 3, 0, 0, 0), (.aload_n 0, 1, 0, 0, 0), (.bipush 9, 2, 0, 0, 9), (.sipush 161, 3, 0, 0, 161), (.multianewarray 9 2, 4, 9, 161, 0), (.putfield 11, 3, 3, 0, 1), (.return_, 1, 0, 0, 0)], 18)]
set_option maxRecDepth 100000 in
theorem ok_X3_init : pm_oks 3 true 1 none cX3_init bk_X3_init = true := oksF_ok (by decide +kernel)
set_option maxRecDepth 100000 in
theorem me_X3_init : pm_me 10 = (yX3_init, cX3_init, 1, none, 0, 2) := rfl
theorem mt_X3_init {l : Launch} {g : pm_G} {d mc ms : Nat} {as : List Value} {A : pm_H} {Q : Option Value → pm_H → Prop} (hca : pm_cat 1 as = true) (body : ∀ J : pm_J, pm_Cl l g (fun _ => none) d mc ms (pm_Rq mc ms Q) bk_X3_init J → J 0 (pm_l0 1 as) [] A 0 0) : pm_Mt l g 10 d mc ms as A Q := pm_Mt_of (isI := true) 3 bk_X3_init me_X3_init (plainFor_of_name (by decide +kernel)) (by decide +kernel) (fun _ => by decide +kernel) ok_X3_init hca body
def bk_X3_greedy : pm_B := [(0, [(.aload_n 2, 1, 2, 0, 0), (.invokevirtual 16, 3, 56, 0, 2), (.iconst 0, 1, 0, 0, 0), (.istore 5, 2, 5, 0, 0), (.iconst 0, 1, 0, 0, 0), (.istore 6, 2, 6, 0, 0)], 10),
  (10, [(.iload 6, 2, 6, 0, 0), (.aload_n 1, 1, 1, 0, 0), (.getfield 21, 3, 7, 3, 0), (.if_icmp .ge 58, 3, 74, 0, 0), (.aload_n 2, 1, 2, 0, 0), (.aload_n 1, 1, 1, 0, 0), (.getfield 27, 3, 7, 0, 0), (.iload 6, 2, 6, 0, 0), (.iaload, 1, 0, 0, 0), (.invokevirtual 31, 3, 57, 1, 2), (.aload_n 2, 1, 2, 0, 0), (.getfield 35, 3, 2, 3, 0), (.iload_n 3, 1, 3, 0, 0), (.if_icmp .le 33, 3, 68, 0, 0), (.iload 5, 2, 5, 0, 0), (.iload 4, 2, 4, 0, 0), (.if_icmp .ne 8, 3, 50, 0, 0), (.iload 6, 2, 6, 0, 0), (.iconst 1, 1, 0, 0, 1), (.isub, 1, 0, 0, 0), (.ireturn, 1, 0, 0, 0)], 50),
  (50, [(.iinc 5 1, 3, 5, 0, 1), (.aload_n 2, 1, 2, 0, 0), (.invokevirtual 16, 3, 56, 0, 2), (.aload_n 2, 1, 2, 0, 0), (.aload_n 1, 1, 1, 0, 0), (.getfield 27, 3, 7, 0, 0), (.iload 6, 2, 6, 0, 0), (.iaload, 1, 0, 0, 0), (.invokevirtual 31, 3, 57, 1, 2)], 68),
  (68, [(.iinc 6 1, 3, 6, 0, 1), (.goto (-61), 3, 10, 0, 0)], 74),
  (74, [(.iload 4, 2, 4, 0, 0), (.iconst (-1), 1, 0, 0, -1), (.if_icmp .ne 19, 3, 96, 0, 0), (.aload_n 1, 1, 1, 0, 0), (.getfield 21, 3, 7, 3, 0), (.ifCond .ne 7, 3, 91, 0, 0), (.iconst 0, 1, 0, 0, 0), (.goto 7, 3, 95, 0, 0)], 91),
  (91, [(.iload 5, 2, 5, 0, 0), (.iconst 1, 1, 0, 0, 1), (.iadd, 1, 0, 0, 0)], 95),
  (95, [(.ireturn, 1, 0, 0, 0)], 96),
  (96, [(.iload 5, 2, 5, 0, 0), (.iload 4, 2, 4, 0, 0), (.if_icmp .ne 12, 3, 112, 0, 0), (.aload_n 1, 1, 1, 0, 0), (.getfield 21, 3, 7, 3, 0), (.iconst 1, 1, 0, 0, 1), (.isub, 1, 0, 0, 0), (.goto 4, 3, 113, 0, 0)], 112),
  (112, [(.iconst (-1), 1, 0, 0, -1)], 113),
  (113, [(.ireturn, 1, 0, 0, 0)], 114)]
set_option maxRecDepth 100000 in
theorem ok_X3_greedy : pm_oks 3 false 7 (some .int) cX3_greedy bk_X3_greedy = true := oksF_ok (by decide +kernel)
set_option maxRecDepth 100000 in
theorem me_X3_greedy : pm_me 142 = (yX3_greedy, cX3_greedy, 7, (some .int), 4, 0) := rfl
theorem mt_X3_greedy {l : Launch} {g : pm_G} {d mc ms : Nat} {as : List Value} {A : pm_H} {Q : Option Value → pm_H → Prop} (hca : pm_cat 7 as = true) (body : ∀ J : pm_J, pm_Cl l g (fun _ => none) d mc ms (pm_Rq mc ms Q) bk_X3_greedy J → J 0 (pm_l0 7 as) [] A 0 0) : pm_Mt l g 142 d mc ms as A Q := pm_Mt_of (isI := false) 3 bk_X3_greedy me_X3_greedy (plainFor_of_name (by decide +kernel)) (by decide +kernel) (fun h => by cases h) ok_X3_greedy hca body
def bk_X3_weighUp : pm_B := [(0, [(.iconst 0, 1, 0, 0, 0), (.istore 4, 2, 4, 0, 0)], 3),
  (3, [(.iload 4, 2, 4, 0, 0), (.iload_n 3, 1, 3, 0, 0), (.if_icmp .gt 20, 3, 26, 0, 0), (.aload_n 0, 1, 0, 0, 0), (.getfield 11, 3, 3, 0, 0), (.iload 4, 2, 4, 0, 0), (.aaload, 1, 0, 0, 0), (.iconst (-1), 1, 0, 0, -1), (.invokestatic 38, 3, 4, 2, 0), (.iinc 4 1, 3, 4, 0, 1), (.goto (-20), 3, 3, 0, 0)], 26),
  (26, [(.aload_n 0, 1, 0, 0, 0), (.getfield 11, 3, 3, 0, 0), (.iconst 0, 1, 0, 0, 0), (.aaload, 1, 0, 0, 0), (.aload_n 1, 1, 1, 0, 0), (.getfield 21, 3, 7, 3, 0), (.iconst 0, 1, 0, 0, 0), (.iastore, 1, 0, 0, 0), (.aload_n 1, 1, 1, 0, 0), (.getfield 21, 3, 7, 3, 0), (.iconst 1, 1, 0, 0, 1), (.isub, 1, 0, 0, 0), (.istore 4, 2, 4, 0, 0)], 46),
  (46, [(.iload 4, 2, 4, 0, 0), (.ifCond .lt 110, 3, 158, 0, 0), (.aload_n 2, 1, 2, 0, 0), (.invokevirtual 16, 3, 56, 0, 2), (.iload 4, 2, 4, 0, 0), (.istore 5, 2, 5, 0, 0)], 59),
  (59, [(.iload 5, 2, 5, 0, 0), (.aload_n 1, 1, 1, 0, 0), (.getfield 21, 3, 7, 3, 0), (.if_icmp .ge 87, 3, 152, 0, 0), (.aload_n 2, 1, 2, 0, 0), (.aload_n 1, 1, 1, 0, 0), (.getfield 27, 3, 7, 0, 0), (.iload 5, 2, 5, 0, 0), (.iaload, 1, 0, 0, 0), (.invokevirtual 31, 3, 57, 1, 2), (.iconst 1, 1, 0, 0, 1), (.istore 6, 2, 6, 0, 0)], 82),
  (82, [(.iload 6, 2, 6, 0, 0), (.iload_n 3, 1, 3, 0, 0), (.if_icmp .gt 61, 3, 146, 0, 0), (.aload_n 0, 1, 0, 0, 0), (.getfield 11, 3, 3, 0, 0), (.iload 6, 2, 6, 0, 0), (.iconst 1, 1, 0, 0, 1), (.isub, 1, 0, 0, 0), (.aaload, 1, 0, 0, 0), (.iload 5, 2, 5, 0, 0), (.iconst 1, 1, 0, 0, 1), (.iadd, 1, 0, 0, 0), (.iaload, 1, 0, 0, 0), (.istore 7, 2, 7, 0, 0), (.iload 7, 2, 7, 0, 0), (.iconst (-1), 1, 0, 0, -1), (.if_icmp .eq 33, 3, 140, 0, 0), (.aload_n 0, 1, 0, 0, 0), (.getfield 11, 3, 3, 0, 0), (.iload 6, 2, 6, 0, 0), (.aaload, 1, 0, 0, 0), (.iload 4, 2, 4, 0, 0), (.aload_n 0, 1, 0, 0, 0), (.getfield 11, 3, 3, 0, 0), (.iload 6, 2, 6, 0, 0), (.aaload, 1, 0, 0, 0), (.iload 4, 2, 4, 0, 0), (.iaload, 1, 0, 0, 0), (.aload_n 2, 1, 2, 0, 0), (.getfield 35, 3, 2, 3, 0), (.iload 7, 2, 7, 0, 0), (.iadd, 1, 0, 0, 0), (.invokestatic 44, 3, 51, 2, 0), (.iastore, 1, 0, 0, 0)], 140),
  (140, [(.iinc 6 1, 3, 6, 0, 1), (.goto (-61), 3, 82, 0, 0)], 146),
  (146, [(.iinc 5 1, 3, 5, 0, 1), (.goto (-90), 3, 59, 0, 0)], 152),
  (152, [(.iinc 4 (-1), 3, 4, 0, -1), (.goto (-109), 3, 46, 0, 0)], 158),
  (158, [(.return_, 1, 0, 0, 0)], 159)]
set_option maxRecDepth 100000 in
theorem ok_X3_weighUp : pm_oks 3 false 8 none cX3_weighUp bk_X3_weighUp = true := oksF_ok (by decide +kernel)
set_option maxRecDepth 100000 in
theorem me_X3_weighUp : pm_me 144 = (yX3_weighUp, cX3_weighUp, 8, none, 3, 0) := rfl
theorem mt_X3_weighUp {l : Launch} {g : pm_G} {d mc ms : Nat} {as : List Value} {A : pm_H} {Q : Option Value → pm_H → Prop} (hca : pm_cat 8 as = true) (body : ∀ J : pm_J, pm_Cl l g (fun _ => none) d mc ms (pm_Rq mc ms Q) bk_X3_weighUp J → J 0 (pm_l0 8 as) [] A 0 0) : pm_Mt l g 144 d mc ms as A Q := pm_Mt_of (isI := false) 3 bk_X3_weighUp me_X3_weighUp (plainFor_of_name (by decide +kernel)) (by decide +kernel) (fun h => by cases h) ok_X3_weighUp hca body
def bk_X3_worthOf : pm_B := [(0, [(.iload_n 1, 1, 1, 0, 0), (.ifCond .lt 24, 3, 25, 0, 0), (.iload_n 1, 1, 1, 0, 0), (.bipush 8, 2, 0, 0, 8), (.if_icmp .gt 18, 3, 25, 0, 0), (.iload_n 2, 1, 2, 0, 0), (.ifCond .lt 14, 3, 25, 0, 0), (.iload_n 2, 1, 2, 0, 0), (.sipush 160, 3, 0, 0, 160), (.if_icmp .gt 7, 3, 25, 0, 0), (.iconst 1, 1, 0, 0, 1), (.goto 4, 3, 26, 0, 0)], 25),
  (25, [(.iconst 0, 1, 0, 0, 0)], 26),
  (26, [(.istore_n 3, 1, 3, 0, 0), (.iload_n 3, 1, 3, 0, 0), (.ifCond .eq 14, 3, 42, 0, 0), (.aload_n 0, 1, 0, 0, 0), (.getfield 11, 3, 3, 0, 0), (.iload_n 1, 1, 1, 0, 0), (.aaload, 1, 0, 0, 0), (.iload_n 2, 1, 2, 0, 0), (.iaload, 1, 0, 0, 0), (.goto 4, 3, 43, 0, 0)], 42),
  (42, [(.iconst (-1), 1, 0, 0, -1)], 43),
  (43, [(.ireturn, 1, 0, 0, 0)], 44)]
set_option maxRecDepth 100000 in
theorem ok_X3_worthOf : pm_oks 3 false 4 (some .int) cX3_worthOf bk_X3_worthOf = true := oksF_ok (by decide +kernel)
set_option maxRecDepth 100000 in
theorem me_X3_worthOf : pm_me 145 = (yX3_worthOf, cX3_worthOf, 4, (some .int), 2, 0) := rfl
theorem mt_X3_worthOf {l : Launch} {g : pm_G} {d mc ms : Nat} {as : List Value} {A : pm_H} {Q : Option Value → pm_H → Prop} (hca : pm_cat 4 as = true) (body : ∀ J : pm_J, pm_Cl l g (fun _ => none) d mc ms (pm_Rq mc ms Q) bk_X3_worthOf J → J 0 (pm_l0 4 as) [] A 0 0) : pm_Mt l g 145 d mc ms as A Q := pm_Mt_of (isI := false) 3 bk_X3_worthOf me_X3_worthOf (plainFor_of_name (by decide +kernel)) (by decide +kernel) (fun h => by cases h) ok_X3_worthOf hca body
def bk_X3_lastPlaceOf : pm_B := [(0, [(.iconst (-1), 1, 0, 0, -1), (.istore 5, 2, 5, 0, 0), (.iconst 0, 1, 0, 0, 0), (.istore 6, 2, 6, 0, 0)], 6),
  (6, [(.iload 6, 2, 6, 0, 0), (.iload 4, 2, 4, 0, 0), (.if_icmp .gt 25, 3, 35, 0, 0), (.aload_n 0, 1, 0, 0, 0), (.aload_n 1, 1, 1, 0, 0), (.aload_n 2, 1, 2, 0, 0), (.iload 5, 2, 5, 0, 0), (.iconst 1, 1, 0, 0, 1), (.iadd, 1, 0, 0, 0), (.iload_n 3, 1, 3, 0, 0), (.iload 6, 2, 6, 0, 0), (.isub, 1, 0, 0, 0), (.invokevirtual 50, 3, 147, 4, 3), (.istore 5, 2, 5, 0, 0), (.iinc 6 1, 3, 6, 0, 1), (.goto (-26), 3, 6, 0, 0)], 35),
  (35, [(.iload 5, 2, 5, 0, 0), (.ireturn, 1, 0, 0, 0)], 38)]
set_option maxRecDepth 100000 in
theorem ok_X3_lastPlaceOf : pm_oks 3 false 7 (some .int) cX3_lastPlaceOf bk_X3_lastPlaceOf = true := oksF_ok (by decide +kernel)
set_option maxRecDepth 100000 in
theorem me_X3_lastPlaceOf : pm_me 146 = (yX3_lastPlaceOf, cX3_lastPlaceOf, 7, (some .int), 4, 0) := rfl
theorem mt_X3_lastPlaceOf {l : Launch} {g : pm_G} {d mc ms : Nat} {as : List Value} {A : pm_H} {Q : Option Value → pm_H → Prop} (hca : pm_cat 7 as = true) (body : ∀ J : pm_J, pm_Cl l g (fun _ => none) d mc ms (pm_Rq mc ms Q) bk_X3_lastPlaceOf J → J 0 (pm_l0 7 as) [] A 0 0) : pm_Mt l g 146 d mc ms as A Q := pm_Mt_of (isI := false) 3 bk_X3_lastPlaceOf me_X3_lastPlaceOf (plainFor_of_name (by decide +kernel)) (by decide +kernel) (fun h => by cases h) ok_X3_lastPlaceOf hca body
def bk_X3_shortestBestEnd : pm_B := [(0, [(.aload_n 2, 1, 2, 0, 0), (.invokevirtual 16, 3, 56, 0, 2), (.iload_n 3, 1, 3, 0, 0), (.istore 5, 2, 5, 0, 0)], 7),
  (7, [(.iload 5, 2, 5, 0, 0), (.aload_n 1, 1, 1, 0, 0), (.getfield 21, 3, 7, 3, 0), (.if_icmp .ge 60, 3, 73, 0, 0), (.aload_n 2, 1, 2, 0, 0), (.aload_n 1, 1, 1, 0, 0), (.getfield 27, 3, 7, 0, 0), (.iload 5, 2, 5, 0, 0), (.iaload, 1, 0, 0, 0), (.invokevirtual 31, 3, 57, 1, 2), (.aload_n 0, 1, 0, 0, 0), (.iload 4, 2, 4, 0, 0), (.iconst 1, 1, 0, 0, 1), (.isub, 1, 0, 0, 0), (.iload 5, 2, 5, 0, 0), (.iconst 1, 1, 0, 0, 1), (.iadd, 1, 0, 0, 0), (.invokevirtual 54, 3, 145, 2, 3), (.istore 6, 2, 6, 0, 0), (.iload 6, 2, 6, 0, 0), (.iconst (-1), 1, 0, 0, -1), (.if_icmp .eq 23, 3, 67, 0, 0), (.aload_n 2, 1, 2, 0, 0), (.getfield 35, 3, 2, 3, 0), (.iload 6, 2, 6, 0, 0), (.iadd, 1, 0, 0, 0), (.aload_n 0, 1, 0, 0, 0), (.iload 4, 2, 4, 0, 0), (.iload_n 3, 1, 3, 0, 0), (.invokevirtual 54, 3, 145, 2, 3), (.if_icmp .ne 6, 3, 67, 0, 0), (.iload 5, 2, 5, 0, 0), (.ireturn, 1, 0, 0, 0)], 67),
  (67, [(.iinc 5 1, 3, 5, 0, 1), (.goto (-63), 3, 7, 0, 0)], 73),
  (73, [(.iconst (-1), 1, 0, 0, -1), (.ireturn, 1, 0, 0, 0)], 75)]
set_option maxRecDepth 100000 in
theorem ok_X3_shortestBestEnd : pm_oks 3 false 7 (some .int) cX3_shortestBestEnd bk_X3_shortestBestEnd = true := oksF_ok (by decide +kernel)
set_option maxRecDepth 100000 in
theorem me_X3_shortestBestEnd : pm_me 147 = (yX3_shortestBestEnd, cX3_shortestBestEnd, 7, (some .int), 4, 0) := rfl
theorem mt_X3_shortestBestEnd {l : Launch} {g : pm_G} {d mc ms : Nat} {as : List Value} {A : pm_H} {Q : Option Value → pm_H → Prop} (hca : pm_cat 7 as = true) (body : ∀ J : pm_J, pm_Cl l g (fun _ => none) d mc ms (pm_Rq mc ms Q) bk_X3_shortestBestEnd J → J 0 (pm_l0 7 as) [] A 0 0) : pm_Mt l g 147 d mc ms as A Q := pm_Mt_of (isI := false) 3 bk_X3_shortestBestEnd me_X3_shortestBestEnd (plainFor_of_name (by decide +kernel)) (by decide +kernel) (fun h => by cases h) ok_X3_shortestBestEnd hca body
def bk_X5_init : pm_B := [(0, [(.aload_n 0, 1, 0, 0, 0), (.invokespecial 3, 3, 0, 0, 0), (.aload_n 0, 1, 0, 0, 0), (.bipush 30, 2, 0, 0, 30), (.newarray .int, 2, 30, 0, 0), (.putfield 9, 3, 5, 0, 1), (.aload_n 0, 1, 0, 0, 0), (.bipush 30, 2, 0, 0, 30), (.newarray .int, 2, 30, 0, 0), (.putfield 15, 3, 5, 1, 1), (.aload_n 0, 1, 0, 0, 0), (.bipush 30, 2, 0, 0, 30), (.newarray .int, 2, 30, 0, 0), (.putfield 18, 3, 5, 2, 1), (.aload_n 0, 1, 0, 0, 0), (.bipush 30, 2, 0, 0, 30), (.newarray .int, 2, 30, 0, 0), (.putfield 21, 3, 5, 3, 1), (.aload_n 0, 1, 0, 0, 0), (.bipush 30, 2, 0, 0, 30), (.newarray .int, 2, 30, 0, 0), (.putfield 24, 3, 5, 4, 1), (.return_, 1, 0, 0, 0)], 45)]
set_option maxRecDepth 100000 in
theorem ok_X5_init : pm_oks 5 true 1 none cX5_init bk_X5_init = true := oksF_ok (by decide +kernel)
set_option maxRecDepth 100000 in
theorem me_X5_init : pm_me 11 = (yX5_init, cX5_init, 1, none, 0, 2) := rfl
theorem mt_X5_init {l : Launch} {g : pm_G} {d mc ms : Nat} {as : List Value} {A : pm_H} {Q : Option Value → pm_H → Prop} (hca : pm_cat 1 as = true) (body : ∀ J : pm_J, pm_Cl l g (fun _ => none) d mc ms (pm_Rq mc ms Q) bk_X5_init J → J 0 (pm_l0 1 as) [] A 0 0) : pm_Mt l g 11 d mc ms as A Q := pm_Mt_of (isI := true) 5 bk_X5_init me_X5_init (plainFor_of_name (by decide +kernel)) (by decide +kernel) (fun _ => by decide +kernel) ok_X5_init hca body
