
theorem mt_X2_take {l : Launch} {g : pm_G} {d mc ms : Nat} {as : List Value} {A : pm_H} {Q : Option Value → pm_H → Prop} (hca : pm_cat 2 as = true) (body : ∀ J : pm_J, pm_Cl l g (fun _ => none) d mc ms (pm_Rq mc ms Q) bk_X2_take J → J 0 (pm_l0 2 as) [] A 0 0) : pm_Mt l g 57 d mc ms as A Q := pm_Mt_of (isI := false) 2 bk_X2_take me_X2_take (plainFor_of_name (by decide +kernel)) (by decide +kernel) (fun h => by cases h) ok_X2_take hca body
def bk_X2_kindsFrom : pm_B := [(0, [(.iconst 0, 1, 0, 0, 0), (.istore_n 2, 1, 2, 0, 0), (.iconst 0, 1, 0, 0, 0), (.istore_n 3, 1, 3, 0, 0)], 4),
  (4, [(.iload_n 3, 1, 3, 0, 0), (.bipush 24, 2, 0, 0, 24), (.if_icmp .ge 22, 3, 29, 0, 0), (.aload_n 0, 1, 0, 0, 0), (.getfield 9, 3, 2, 0, 0), (.iload_n 3, 1, 3, 0, 0), (.iaload, 1, 0, 0, 0), (.iload_n 1, 1, 1, 0, 0), (.if_icmp .lt 6, 3, 23, 0, 0), (.iinc 2 1, 3, 2, 0, 1)], 23),
  (23, [(.iinc 3 1, 3, 3, 0, 1), (.goto (-22), 3, 4, 0, 0)], 29),
  (29, [(.iload_n 2, 1, 2, 0, 0), (.ireturn, 1, 0, 0, 0)], 31)]
set_option maxRecDepth 100000 in
theorem ok_X2_kindsFrom : pm_oks 2 false 4 (some .int) cX2_kindsFrom bk_X2_kindsFrom = true := oksF_ok (by decide +kernel)
set_option maxRecDepth 100000 in
theorem me_X2_kindsFrom : pm_me 64 = (yX2_kindsFrom, cX2_kindsFrom, 4, (some .int), 1, 0) := rfl
theorem mt_X2_kindsFrom {l : Launch} {g : pm_G} {d mc ms : Nat} {as : List Value} {A : pm_H} {Q : Option Value → pm_H → Prop} (hca : pm_cat 4 as = true) (body : ∀ J : pm_J, pm_Cl l g (fun _ => none) d mc ms (pm_Rq mc ms Q) bk_X2_kindsFrom J → J 0 (pm_l0 4 as) [] A 0 0) : pm_Mt l g 64 d mc ms as A Q := pm_Mt_of (isI := false) 2 bk_X2_kindsFrom me_X2_kindsFrom (plainFor_of_name (by decide +kernel)) (by decide +kernel) (fun h => by cases h) ok_X2_kindsFrom hca body
def bk_X2_kindsOfJust : pm_B := [(0, [(.iconst 0, 1, 0, 0, 0), (.istore_n 2, 1, 2, 0, 0), (.iconst 0, 1, 0, 0, 0), (.istore_n 3, 1, 3, 0, 0)], 4),
  (4, [(.iload_n 3, 1, 3, 0, 0), (.bipush 24, 2, 0, 0, 24), (.if_icmp .ge 22, 3, 29, 0, 0), (.aload_n 0, 1, 0, 0, 0), (.getfield 9, 3, 2, 0, 0), (.iload_n 3, 1, 3, 0, 0), (.iaload, 1, 0, 0, 0), (.iload_n 1, 1, 1, 0, 0), (.if_icmp .ne 6, 3, 23, 0, 0), (.iinc 2 1, 3, 2, 0, 1)], 23),
  (23, [(.iinc 3 1, 3, 3, 0, 1), (.goto (-22), 3, 4, 0, 0)], 29),
  (29, [(.iload_n 2, 1, 2, 0, 0), (.ireturn, 1, 0, 0, 0)], 31)]
set_option maxRecDepth 100000 in
theorem ok_X2_kindsOfJust : pm_oks 2 false 4 (some .int) cX2_kindsOfJust bk_X2_kindsOfJust = true := oksF_ok (by decide +kernel)
set_option maxRecDepth 100000 in
theorem me_X2_kindsOfJust : pm_me 77 = (yX2_kindsOfJust, cX2_kindsOfJust, 4, (some .int), 1, 0) := rfl
theorem mt_X2_kindsOfJust {l : Launch} {g : pm_G} {d mc ms : Nat} {as : List Value} {A : pm_H} {Q : Option Value → pm_H → Prop} (hca : pm_cat 4 as = true) (body : ∀ J : pm_J, pm_Cl l g (fun _ => none) d mc ms (pm_Rq mc ms Q) bk_X2_kindsOfJust J → J 0 (pm_l0 4 as) [] A 0 0) : pm_Mt l g 77 d mc ms as A Q := pm_Mt_of (isI := false) 2 bk_X2_kindsOfJust me_X2_kindsOfJust (plainFor_of_name (by decide +kernel)) (by decide +kernel) (fun h => by cases h) ok_X2_kindsOfJust hca body
def bk_X2_largerThanPart : pm_B := [(0, [(.iconst 0, 1, 0, 0, 0), (.istore_n 2, 1, 2, 0, 0), (.iconst 0, 1, 0, 0, 0), (.istore_n 3, 1, 3, 0, 0)], 4),
  (4, [(.iload_n 3, 1, 3, 0, 0), (.bipush 24, 2, 0, 0, 24), (.if_icmp .ge 34, 3, 41, 0, 0), (.aload_n 0, 1, 0, 0, 0), (.getfield 9, 3, 2, 0, 0), (.iload_n 3, 1, 3, 0, 0), (.iaload, 1, 0, 0, 0), (.i2l, 1, 0, 0, 0), (.iload_n 1, 1, 1, 0, 0), (.i2l, 1, 0, 0, 0), (.lmul, 1, 0, 0, 0), (.aload_n 0, 1, 0, 0, 0), (.getfield 24, 3, 2, 2, 0), (.i2l, 1, 0, 0, 0), (.lcmp, 1, 0, 0, 0), (.ifCond .le 9, 3, 35, 0, 0), (.iload_n 2, 1, 2, 0, 0), (.iconst 1, 1, 0, 0, 1), (.iload_n 3, 1, 3, 0, 0), (.ishl, 1, 0, 0, 0), (.ior, 1, 0, 0, 0), (.istore_n 2, 1, 2, 0, 0)], 35),
  (35, [(.iinc 3 1, 3, 3, 0, 1), (.goto (-34), 3, 4, 0, 0)], 41),
  (41, [(.iload_n 2, 1, 2, 0, 0), (.ireturn, 1, 0, 0, 0)], 43)]
set_option maxRecDepth 100000 in
theorem ok_X2_largerThanPart : pm_oks 2 false 4 (some .int) cX2_largerThanPart bk_X2_largerThanPart = true := oksF_ok (by decide +kernel)
set_option maxRecDepth 100000 in
theorem me_X2_largerThanPart : pm_me 79 = (yX2_largerThanPart, cX2_largerThanPart, 4, (some .int), 1, 0) := rfl
theorem mt_X2_largerThanPart {l : Launch} {g : pm_G} {d mc ms : Nat} {as : List Value} {A : pm_H} {Q : Option Value → pm_H → Prop} (hca : pm_cat 4 as = true) (body : ∀ J : pm_J, pm_Cl l g (fun _ => none) d mc ms (pm_Rq mc ms Q) bk_X2_largerThanPart J → J 0 (pm_l0 4 as) [] A 0 0) : pm_Mt l g 79 d mc ms as A Q := pm_Mt_of (isI := false) 2 bk_X2_largerThanPart me_X2_largerThanPart (plainFor_of_name (by decide +kernel)) (by decide +kernel) (fun h => by cases h) ok_X2_largerThanPart hca body
def bk_X2_placesOfLargest : pm_B := [(0, [(.iconst 0, 1, 0, 0, 0), (.istore_n 2, 1, 2, 0, 0), (.iconst 0, 1, 0, 0, 0), (.istore_n 3, 1, 3, 0, 0), (.iconst 0, 1, 0, 0, 0), (.istore 4, 2, 4, 0, 0)], 7),
  (7, [(.iload 4, 2, 4, 0, 0), (.iload_n 1, 1, 1, 0, 0), (.if_icmp .ge 48, 3, 58, 0, 0), (.iload 4, 2, 4, 0, 0), (.bipush 24, 2, 0, 0, 24), (.if_icmp .ge 41, 3, 58, 0, 0), (.aload_n 0, 1, 0, 0, 0), (.iload_n 2, 1, 2, 0, 0), (.invokevirtual 53, 3, 92, 1, 2), (.istore 5, 2, 5, 0, 0), (.iload 5, 2, 5, 0, 0), (.iconst (-1), 1, 0, 0, -1), (.if_icmp .ne 5, 3, 35, 0, 0), (.iload_n 3, 1, 3, 0, 0), (.ireturn, 1, 0, 0, 0)], 35),
  (35, [(.iload_n 2, 1, 2, 0, 0), (.iconst 1, 1, 0, 0, 1), (.iload 5, 2, 5, 0, 0), (.ishl, 1, 0, 0, 0), (.ior, 1, 0, 0, 0), (.istore_n 2, 1, 2, 0, 0), (.iload_n 3, 1, 3, 0, 0), (.aload_n 0, 1, 0, 0, 0), (.getfield 9, 3, 2, 0, 0), (.iload 5, 2, 5, 0, 0), (.iaload, 1, 0, 0, 0), (.iadd, 1, 0, 0, 0), (.istore_n 3, 1, 3, 0, 0), (.iinc 4 1, 3, 4, 0, 1), (.goto (-48), 3, 7, 0, 0)], 58),
  (58, [(.iload_n 3, 1, 3, 0, 0), (.ireturn, 1, 0, 0, 0)], 60)]
set_option maxRecDepth 100000 in
theorem ok_X2_placesOfLargest : pm_oks 2 false 6 (some .int) cX2_placesOfLargest bk_X2_placesOfLargest = true := oksF_ok (by decide +kernel)
set_option maxRecDepth 100000 in
theorem me_X2_placesOfLargest : pm_me 91 = (yX2_placesOfLargest, cX2_placesOfLargest, 6, (some .int), 1, 0) := rfl
theorem mt_X2_placesOfLargest {l : Launch} {g : pm_G} {d mc ms : Nat} {as : List Value} {A : pm_H} {Q : Option Value → pm_H → Prop} (hca : pm_cat 6 as = true) (body : ∀ J : pm_J, pm_Cl l g (fun _ => none) d mc ms (pm_Rq mc ms Q) bk_X2_placesOfLargest J → J 0 (pm_l0 6 as) [] A 0 0) : pm_Mt l g 91 d mc ms as A Q := pm_Mt_of (isI := false) 2 bk_X2_placesOfLargest me_X2_placesOfLargest (plainFor_of_name (by decide +kernel)) (by decide +kernel) (fun h => by cases h) ok_X2_placesOfLargest hca body

