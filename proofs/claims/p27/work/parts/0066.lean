
set_option maxRecDepth 100000 in
theorem ok_X1_evenestEnd : pm_oks 1 false 9 (some .int) cX1_evenestEnd bk_X1_evenestEnd = true := oksF_ok (by decide +kernel)
set_option maxRecDepth 100000 in
theorem me_X1_evenestEnd : pm_me 97 = (yX1_evenestEnd, cX1_evenestEnd, 9, (some .int), 4, 0) := rfl
theorem mt_X1_evenestEnd {l : Launch} {g : pm_G} {d mc ms : Nat} {as : List Value} {A : pm_H} {Q : Option Value → pm_H → Prop} (hca : pm_cat 9 as = true) (body : ∀ J : pm_J, pm_Cl l g (fun _ => none) d mc ms (pm_Rq mc ms Q) bk_X1_evenestEnd J → J 0 (pm_l0 9 as) [] A 0 0) : pm_Mt l g 97 d mc ms as A Q := pm_Mt_of (isI := false) 1 bk_X1_evenestEnd me_X1_evenestEnd (plainFor_of_name (by decide +kernel)) (by decide +kernel) (fun h => by cases h) ok_X1_evenestEnd hca body
def bk_X1_findNearestOfTwo : pm_B := [(0, [(.aload_n 0, 1, 0, 0, 0), (.invokevirtual 28, 3, 82, 0, 1), (.iconst (-1), 1, 0, 0, -1), (.istore 4, 2, 4, 0, 0), (.iconst (-1), 1, 0, 0, -1), (.istore 5, 2, 5, 0, 0), (.iconst 0, 1, 0, 0, 0), (.istore 6, 2, 6, 0, 0)], 13),
  (13, [(.iload 6, 2, 6, 0, 0), (.aload_n 1, 1, 1, 0, 0), (.getfield 40, 3, 7, 3, 0), (.if_icmp .ge 70, 3, 89, 0, 0), (.aload_n 1, 1, 1, 0, 0), (.getfield 43, 3, 7, 0, 0), (.iload 6, 2, 6, 0, 0), (.iaload, 1, 0, 0, 0), (.iload_n 2, 1, 2, 0, 0), (.if_icmp .ne 24, 3, 54, 0, 0), (.iload 6, 2, 6, 0, 0), (.istore 4, 2, 4, 0, 0), (.iload 5, 2, 5, 0, 0), (.iconst (-1), 1, 0, 0, -1), (.if_icmp .eq 43, 3, 83, 0, 0), (.aload_n 0, 1, 0, 0, 0), (.iload 5, 2, 5, 0, 0), (.iload 6, 2, 6, 0, 0), (.invokevirtual 36, 3, 83, 2, 1), (.goto 32, 3, 83, 0, 0)], 54),
  (54, [(.aload_n 1, 1, 1, 0, 0), (.getfield 43, 3, 7, 0, 0), (.iload 6, 2, 6, 0, 0), (.iaload, 1, 0, 0, 0), (.iload_n 3, 1, 3, 0, 0), (.if_icmp .ne 21, 3, 83, 0, 0), (.iload 6, 2, 6, 0, 0), (.istore 5, 2, 5, 0, 0), (.iload 4, 2, 4, 0, 0), (.iconst (-1), 1, 0, 0, -1), (.if_icmp .eq 11, 3, 83, 0, 0), (.aload_n 0, 1, 0, 0, 0), (.iload 4, 2, 4, 0, 0), (.iload 6, 2, 6, 0, 0), (.invokevirtual 36, 3, 83, 2, 1)], 83),
  (83, [(.iinc 6 1, 3, 6, 0, 1), (.goto (-73), 3, 13, 0, 0)], 89),
  (89, [(.return_, 1, 0, 0, 0)], 90)]
set_option maxRecDepth 100000 in
theorem ok_X1_findNearestOfTwo : pm_oks 1 false 7 none cX1_findNearestOfTwo bk_X1_findNearestOfTwo = true := oksF_ok (by decide +kernel)
set_option maxRecDepth 100000 in
theorem me_X1_findNearestOfTwo : pm_me 99 = (yX1_findNearestOfTwo, cX1_findNearestOfTwo, 7, none, 3, 0) := rfl
theorem mt_X1_findNearestOfTwo {l : Launch} {g : pm_G} {d mc ms : Nat} {as : List Value} {A : pm_H} {Q : Option Value → pm_H → Prop} (hca : pm_cat 7 as = true) (body : ∀ J : pm_J, pm_Cl l g (fun _ => none) d mc ms (pm_Rq mc ms Q) bk_X1_findNearestOfTwo J → J 0 (pm_l0 7 as) [] A 0 0) : pm_Mt l g 99 d mc ms as A Q := pm_Mt_of (isI := false) 1 bk_X1_findNearestOfTwo me_X1_findNearestOfTwo (plainFor_of_name (by decide +kernel)) (by decide +kernel) (fun h => by cases h) ok_X1_findNearestOfTwo hca body
def bk_X6_init : pm_B := [(0, [(.aload_n 0, 1, 0, 0, 0), (.invokespecial 3, 3, 0, 0, 0), (.aload_n 0, 1, 0, 0, 0), (.bipush 24, 2, 0, 0, 24), (.newarray .int, 2, 24, 0, 0), (.putfield 9, 3, 6, 0, 1), (.return_, 1, 0, 0, 0)], 13)]
set_option maxRecDepth 100000 in
theorem ok_X6_init : pm_oks 6 true 1 none cX6_init bk_X6_init = true := oksF_ok (by decide +kernel)
set_option maxRecDepth 100000 in
theorem me_X6_init : pm_me 7 = (yX6_init, cX6_init, 1, none, 0, 2) := rfl
theorem mt_X6_init {l : Launch} {g : pm_G} {d mc ms : Nat} {as : List Value} {A : pm_H} {Q : Option Value → pm_H → Prop} (hca : pm_cat 1 as = true) (body : ∀ J : pm_J, pm_Cl l g (fun _ => none) d mc ms (pm_Rq mc ms Q) bk_X6_init J → J 0 (pm_l0 1 as) [] A 0 0) : pm_Mt l g 7 d mc ms as A Q := pm_Mt_of (isI := true) 6 bk_X6_init me_X6_init (plainFor_of_name (by decide +kernel)) (by decide +kernel) (fun _ => by decide +kernel) ok_X6_init hca body
def bk_X6_forColours : pm_B := [(0, [(.aload_n 2, 1, 2, 0, 0), (.invokevirtual 22, 3, 56, 0, 2), (.iload_n 3, 1, 3, 0, 0), (.istore 5, 2, 5, 0, 0)], 7),
  (7, [(.iload 5, 2, 5, 0, 0), (.aload_n 1, 1, 1, 0, 0), (.getfield 27, 3, 7, 3, 0), (.if_icmp .ge 32, 3, 45, 0, 0), (.aload_n 2, 1, 2, 0, 0), (.aload_n 1, 1, 1, 0, 0), (.getfield 32, 3, 7, 0, 0), (.iload 5, 2, 5, 0, 0), (.iaload, 1, 0, 0, 0), (.invokevirtual 35, 3, 57, 1, 2), (.aload_n 2, 1, 2, 0, 0), (.getfield 39, 3, 2, 3, 0), (.iload 4, 2, 4, 0, 0), (.if_icmp .lt 6, 3, 39, 0, 0), (.iload 5, 2, 5, 0, 0), (.ireturn, 1, 0, 0, 0)], 39),
  (39, [(.iinc 5 1, 3, 5, 0, 1), (.goto (-35), 3, 7, 0, 0)], 45),
  (45, [(.iconst (-1), 1, 0, 0, -1), (.ireturn, 1, 0, 0, 0)], 47)]
set_option maxRecDepth 100000 in
theorem ok_X6_forColours : pm_oks 6 false 6 (some .int) cX6_forColours bk_X6_forColours = true := oksF_ok (by decide +kernel)
set_option maxRecDepth 100000 in
theorem me_X6_forColours : pm_me 101 = (yX6_forColours, cX6_forColours, 6, (some .int), 4, 0) := rfl
theorem mt_X6_forColours {l : Launch} {g : pm_G} {d mc ms : Nat} {as : List Value} {A : pm_H} {Q : Option Value → pm_H → Prop} (hca : pm_cat 6 as = true) (body : ∀ J : pm_J, pm_Cl l g (fun _ => none) d mc ms (pm_Rq mc ms Q) bk_X6_forColours J → J 0 (pm_l0 6 as) [] A 0 0) : pm_Mt l g 101 d mc ms as A Q := pm_Mt_of (isI := false) 6 bk_X6_forColours me_X6_forColours (plainFor_of_name (by decide +kernel)) (by decide +kernel) (fun h => by cases h) ok_X6_forColours hca body
def bk_X6_backForColours : pm_B := [(0, [(.aload_n 2, 1, 2, 0, 0), (.invokevirtual 22, 3, 56, 0, 2), (.iload_n 3, 1, 3, 0, 0), (.istore 5, 2, 5, 0, 0)], 7),
  (7, [(.iload 5, 2, 5, 0, 0), (.ifCond .lt 32, 3, 41, 0, 0), (.aload_n 2, 1, 2, 0, 0), (.aload_n 1, 1, 1, 0, 0), (.getfield 32, 3, 7, 0, 0), (.iload 5, 2, 5, 0, 0), (.iaload, 1, 0, 0, 0), (.invokevirtual 35, 3, 57, 1, 2), (.aload_n 2, 1, 2, 0, 0), (.getfield 39, 3, 2, 3, 0), (.iload 4, 2, 4, 0, 0), (.if_icmp .lt 6, 3, 35, 0, 0), (.iload 5, 2, 5, 0, 0), (.ireturn, 1, 0, 0, 0)], 35),
  (35, [(.iinc 5 (-1), 3, 5, 0, -1), (.goto (-31), 3, 7, 0, 0)], 41),
  (41, [(.iconst (-1), 1, 0, 0, -1), (.ireturn, 1, 0, 0, 0)], 43)]
set_option maxRecDepth 100000 in
theorem ok_X6_backForColours : pm_oks 6 false 6 (some .int) cX6_backForColours bk_X6_backForColours = true := oksF_ok (by decide +kernel)
set_option maxRecDepth 100000 in
theorem me_X6_backForColours : pm_me 103 = (yX6_backForColours, cX6_backForColours, 6, (some .int), 4, 0) := rfl
theorem mt_X6_backForColours {l : Launch} {g : pm_G} {d mc ms : Nat} {as : List Value} {A : pm_H} {Q : Option Value → pm_H → Prop} (hca : pm_cat 6 as = true) (body : ∀ J : pm_J, pm_Cl l g (fun _ => none) d mc ms (pm_Rq mc ms Q) bk_X6_backForColours J → J 0 (pm_l0 6 as) [] A 0 0) : pm_Mt l g 103 d mc ms as A Q := pm_Mt_of (isI := false) 6 bk_X6_backForColours me_X6_backForColours (plainFor_of_name (by decide +kernel)) (by decide +kernel) (fun h => by cases h) ok_X6_backForColours hca body
def bk_X6_forMass : pm_B := [(0, [(.aload_n 2, 1, 2, 0, 0), (.invokevirtual 22, 3, 56, 0, 2), (.iload_n 3, 1, 3, 0, 0), (.istore 5, 2, 5, 0, 0)], 7),
  (7, [(.iload 5, 2, 5, 0, 0), (.aload_n 1, 1, 1, 0, 0), (.getfield 27, 3, 7, 3, 0), (.if_icmp .ge 32, 3, 45, 0, 0), (.aload_n 2, 1, 2, 0, 0), (.aload_n 1, 1, 1, 0, 0), (.getfield 32, 3, 7, 0, 0), (.iload 5, 2, 5, 0, 0), (.iaload, 1, 0, 0, 0), (.invokevirtual 35, 3, 57, 1, 2), (.aload_n 2, 1, 2, 0, 0), (.getfield 42, 3, 2, 5, 0), (.iload 4, 2, 4, 0, 0), (.if_icmp .lt 6, 3, 39, 0, 0), (.iload 5, 2, 5, 0, 0), (.ireturn, 1, 0, 0, 0)], 39),
  (39, [(.iinc 5 1, 3, 5, 0, 1), (.goto (-35), 3, 7, 0, 0)], 45),
  (45, [(.iconst (-1), 1, 0, 0, -1), (.ireturn, 1, 0, 0, 0)], 47)]
set_option maxRecDepth 100000 in
theorem ok_X6_forMass : pm_oks 6 false 6 (some .int) cX6_forMass bk_X6_forMass = true := oksF_ok (by decide +kernel)
set_option maxRecDepth 100000 in
theorem me_X6_forMass : pm_me 105 = (yX6_forMass, cX6_forMass, 6, (some .int), 4, 0) := rfl
