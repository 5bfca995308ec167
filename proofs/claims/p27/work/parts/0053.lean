
def bk_X10_was : pm_B := [(0, [(.aload_n 0, 1, 0, 0, 0), (.getfield 12, 3, 10, 0, 0), (.iload_n 1, 1, 1, 0, 0), (.invokevirtual 332, 3, 149, 1, 9), (.astore 4, 2, 4, 0, 0), (.aload 4, 2, 4, 0, 0), (.ifnonnull 5, 3, 17, 0, 0), (.iconst (-1), 1, 0, 0, -1), (.ireturn, 1, 0, 0, 0)], 17),
  (17, [(.iload_n 2, 1, 2, 0, 0), (.iconst (-1), 1, 0, 0, -1), (.if_icmp .ne 11, 3, 30, 0, 0), (.aload 4, 2, 4, 0, 0), (.getfield 103, 3, 7, 3, 0), (.goto 10, 3, 37, 0, 0)], 30),
  (30, [(.aload 4, 2, 4, 0, 0), (.iload_n 2, 1, 2, 0, 0), (.iload_n 3, 1, 3, 0, 0), (.invokevirtual 143, 3, 44, 2, 7)], 37),
  (37, [(.ireturn, 1, 0, 0, 0)], 38)]
set_option maxRecDepth 100000 in
theorem ok_X10_was : pm_oks 10 false 5 (some .int) cX10_was bk_X10_was = true := oksF_ok (by decide +kernel)
set_option maxRecDepth 100000 in
theorem me_X10_was : pm_me 148 = (yX10_was, cX10_was, 5, (some .int), 3, 0) := rfl
theorem mt_X10_was {l : Launch} {g : pm_G} {d mc ms : Nat} {as : List Value} {A : pm_H} {Q : Option Value → pm_H → Prop} (hca : pm_cat 5 as = true) (body : ∀ J : pm_J, pm_Cl l g (fun _ => none) d mc ms (pm_Rq mc ms Q) bk_X10_was J → J 0 (pm_l0 5 as) [] A 0 0) : pm_Mt l g 148 d mc ms as A Q := pm_Mt_of (isI := false) 10 bk_X10_was me_X10_was (plainFor_of_name (by decide +kernel)) (by decide +kernel) (fun h => by cases h) ok_X10_was hca body
def bk_X10_counted : pm_B := [(0, [(.aload_n 0, 1, 0, 0, 0), (.getfield 12, 3, 10, 0, 0), (.iload_n 1, 1, 1, 0, 0), (.invokevirtual 332, 3, 149, 1, 9), (.astore 4, 2, 4, 0, 0), (.aload 4, 2, 4, 0, 0), (.ifnull 24, 3, 36, 0, 0), (.aload 4, 2, 4, 0, 0), (.iload_n 2, 1, 2, 0, 0), (.iload_n 3, 1, 3, 0, 0), (.invokevirtual 111, 3, 14, 2, 7), (.ifCond .eq 14, 3, 36, 0, 0), (.aload_n 0, 1, 0, 0, 0), (.aload 4, 2, 4, 0, 0), (.iload_n 2, 1, 2, 0, 0), (.iload_n 3, 1, 3, 0, 0), (.invokevirtual 159, 3, 54, 3, 10), (.goto 4, 3, 37, 0, 0)], 36),
  (36, [(.iconst (-1), 1, 0, 0, -1)], 37),
  (37, [(.ireturn, 1, 0, 0, 0)], 38)]
set_option maxRecDepth 100000 in
theorem ok_X10_counted : pm_oks 10 false 5 (some .int) cX10_counted bk_X10_counted = true := oksF_ok (by decide +kernel)
set_option maxRecDepth 100000 in
theorem me_X10_counted : pm_me 150 = (yX10_counted, cX10_counted, 5, (some .int), 3, 0) := rfl
theorem mt_X10_counted {l : Launch} {g : pm_G} {d mc ms : Nat} {as : List Value} {A : pm_H} {Q : Option Value → pm_H → Prop} (hca : pm_cat 5 as = true) (body : ∀ J : pm_J, pm_Cl l g (fun _ => none) d mc ms (pm_Rq mc ms Q) bk_X10_counted J → J 0 (pm_l0 5 as) [] A 0 0) : pm_Mt l g 150 d mc ms as A Q := pm_Mt_of (isI := false) 10 bk_X10_counted me_X10_counted (plainFor_of_name (by decide +kernel)) (by decide +kernel) (fun h => by cases h) ok_X10_counted hca body
def bk_X10_touched : pm_B := [(0, [(.aload_n 0, 1, 0, 0, 0), (.getfield 12, 3, 10, 0, 0), (.iload_n 1, 1, 1, 0, 0), (.invokevirtual 332, 3, 149, 1, 9), (.astore_n 2, 1, 2, 0, 0), (.aload_n 2, 1, 2, 0, 0), (.ifnull 15, 3, 25, 0, 0), (.iload_n 1, 1, 1, 0, 0), (.iconst 1, 1, 0, 0, 1), (.if_icmp .lt 10, 3, 25, 0, 0), (.aload_n 2, 1, 2, 0, 0), (.getfield 336, 3, 7, 4, 0), (.goto 4, 3, 26, 0, 0)], 25),
  (25, [(.iconst (-1), 1, 0, 0, -1)], 26),
  (26, [(.ireturn, 1, 0, 0, 0)], 27)]
set_option maxRecDepth 100000 in
theorem ok_X10_touched : pm_oks 10 false 3 (some .int) cX10_touched bk_X10_touched = true := oksF_ok (by decide +kernel)
set_option maxRecDepth 100000 in
theorem me_X10_touched : pm_me 151 = (yX10_touched, cX10_touched, 3, (some .int), 1, 0) := rfl
theorem mt_X10_touched {l : Launch} {g : pm_G} {d mc ms : Nat} {as : List Value} {A : pm_H} {Q : Option Value → pm_H → Prop} (hca : pm_cat 3 as = true) (body : ∀ J : pm_J, pm_Cl l g (fun _ => none) d mc ms (pm_Rq mc ms Q) bk_X10_touched J → J 0 (pm_l0 3 as) [] A 0 0) : pm_Mt l g 151 d mc ms as A Q := pm_Mt_of (isI := false) 10 bk_X10_touched me_X10_touched (plainFor_of_name (by decide +kernel)) (by decide +kernel) (fun h => by cases h) ok_X10_touched hca body
def bk_X10_since : pm_B := [(0, [(.aload_n 0, 1, 0, 0, 0), (.getfield 12, 3, 10, 0, 0), (.iload_n 1, 1, 1, 0, 0), (.invokevirtual 339, 3, 153, 1, 9), (.ireturn, 1, 0, 0, 0)], 9)]
set_option maxRecDepth 100000 in
theorem ok_X10_since : pm_oks 10 false 2 (some .int) cX10_since bk_X10_since = true := oksF_ok (by decide +kernel)
set_option maxRecDepth 100000 in
theorem me_X10_since : pm_me 152 = (yX10_since, cX10_since, 2, (some .int), 1, 0) := rfl
theorem mt_X10_since {l : Launch} {g : pm_G} {d mc ms : Nat} {as : List Value} {A : pm_H} {Q : Option Value → pm_H → Prop} (hca : pm_cat 2 as = true) (body : ∀ J : pm_J, pm_Cl l g (fun _ => none) d mc ms (pm_Rq mc ms Q) bk_X10_since J → J 0 (pm_l0 2 as) [] A 0 0) : pm_Mt l g 152 d mc ms as A Q := pm_Mt_of (isI := false) 10 bk_X10_since me_X10_since (plainFor_of_name (by decide +kernel)) (by decide +kernel) (fun h => by cases h) ok_X10_since hca body
def bk_X10_changed : pm_B := [(0, [(.aload_n 0, 1, 0, 0, 0), (.getfield 12, 3, 10, 0, 0), (.iload_n 1, 1, 1, 0, 0), (.invokevirtual 332, 3, 149, 1, 9), (.astore_n 3, 1, 3, 0, 0), (.aload_n 3, 1, 3, 0, 0), (.ifnull 24, 3, 34, 0, 0), (.iload_n 2, 1, 2, 0, 0), (.ifCond .lt 20, 3, 34, 0, 0), (.iload_n 2, 1, 2, 0, 0), (.iconst 3, 1, 0, 0, 3), (.if_icmp .gt 15, 3, 34, 0, 0), (.aload_n 0, 1, 0, 0, 0), (.getfield 12, 3, 10, 0, 0), (.aload_n 3, 1, 3, 0, 0), (.iload_n 2, 1, 2, 0, 0), (.invokevirtual 342, 3, 156, 2, 9), (.goto 4, 3, 35, 0, 0)], 34),
  (34, [(.iconst (-1), 1, 0, 0, -1)], 35),
  (35, [(.ireturn, 1, 0, 0, 0)], 36)]
set_option maxRecDepth 100000 in
theorem ok_X10_changed : pm_oks 10 false 4 (some .int) cX10_changed bk_X10_changed = true := oksF_ok (by decide +kernel)
set_option maxRecDepth 100000 in
theorem me_X10_changed : pm_me 155 = (yX10_changed, cX10_changed, 4, (some .int), 2, 0) := rfl
theorem mt_X10_changed {l : Launch} {g : pm_G} {d mc ms : Nat} {as : List Value} {A : pm_H} {Q : Option Value → pm_H → Prop} (hca : pm_cat 4 as = true) (body : ∀ J : pm_J, pm_Cl l g (fun _ => none) d mc ms (pm_Rq mc ms Q) bk_X10_changed J → J 0 (pm_l0 4 as) [] A 0 0) : pm_Mt l g 155 d mc ms as A Q := pm_Mt_of (isI := false) 10 bk_X10_changed me_X10_changed (plainFor_of_name (by decide +kernel)) (by decide +kernel) (fun h => by cases h) ok_X10_changed hca body
def bk_X10_ask : pm_B := [(0, [(.aload_n 0, 1, 0, 0, 0), (.getfield 12, 3, 10, 0, 0), (.getfield 80, 3, 9, 4, 0), (.astore_n 3, 1, 3, 0, 0), (.aload_n 3, 1, 3, 0, 0), (.iload_n 1, 1, 1, 0, 0), (.invokevirtual 346, 3, 154, 1, 7), (.ifCond .eq 24, 3, 37, 0, 0), (.aload_n 3, 1, 3, 0, 0), (.iload_n 2, 1, 2, 0, 0), (.invokevirtual 346, 3, 154, 1, 7), (.ifCond .eq 16, 3, 37, 0, 0), (.aload_n 0, 1, 0, 0, 0), (.getfield 68, 3, 10, 8, 0), (.iconst (-1), 1, 0, 0, -1), (.iload_n 1, 1, 1, 0, 0), (.iload_n 2, 1, 2, 0, 0), (.invokevirtual 349, 3, 159, 3, 5), (.goto 4, 3, 38, 0, 0)], 37),
  (37, [(.iconst (-1), 1, 0, 0, -1)], 38),
  (38, [(.ireturn, 1, 0, 0, 0)], 39)]
set_option maxRecDepth 100000 in
theorem ok_X10_ask : pm_oks 10 false 4 (some .int) cX10_ask bk_X10_ask = true := oksF_ok (by decide +kernel)
set_option maxRecDepth 100000 in
theorem me_X10_ask : pm_me 158 = (yX10_ask, cX10_ask, 4, (some .int), 2, 0) := rfl
theorem mt_X10_ask {l : Launch} {g : pm_G} {d mc ms : Nat} {as : List Value} {A : pm_H} {Q : Option Value → pm_H → Prop} (hca : pm_cat 4 as = true) (body : ∀ J : pm_J, pm_Cl l g (fun _ => none) d mc ms (pm_Rq mc ms Q) bk_X10_ask J → J 0 (pm_l0 4 as) [] A 0 0) : pm_Mt l g 158 d mc ms as A Q := pm_Mt_of (isI := false) 10 bk_X10_ask me_X10_ask (plainFor_of_name (by decide +kernel)) (by decide +kernel) (fun h => by cases h) ok_X10_ask hca body
