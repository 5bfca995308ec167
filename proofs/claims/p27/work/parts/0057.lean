
set_option maxRecDepth 100000 in
theorem me_X9_add : pm_me 28 = (yX9_add, cX9_add, 2, none, 1, 0) := rfl
theorem mt_X9_add {l : Launch} {g : pm_G} {d mc ms : Nat} {as : List Value} {A : pm_H} {Q : Option Value → pm_H → Prop} (hca : pm_cat 2 as = true) (body : ∀ J : pm_J, pm_Cl l g (fun _ => none) d mc ms (pm_Rq mc ms Q) bk_X9_add J → J 0 (pm_l0 2 as) [] A 0 0) : pm_Mt l g 28 d mc ms as A Q := pm_Mt_of (isI := false) 9 bk_X9_add me_X9_add (plainFor_of_name (by decide +kernel)) (by decide +kernel) (fun h => by cases h) ok_X9_add hca body
def bk_X9_keepThoseOf : pm_B := [(0, [(.iload_n 2, 1, 2, 0, 0), (.istore 4, 2, 4, 0, 0)], 3),
  (3, [(.iload 4, 2, 4, 0, 0), (.iload_n 3, 1, 3, 0, 0), (.if_icmp .gt 42, 3, 48, 0, 0), (.aload_n 0, 1, 0, 0, 0), (.getfield 25, 3, 9, 4, 0), (.iload 4, 2, 4, 0, 0), (.invokevirtual 48, 3, 19, 1, 7), (.ifCond .eq 30, 3, 48, 0, 0), (.aload_n 0, 1, 0, 0, 0), (.getfield 25, 3, 9, 4, 0), (.getfield 52, 3, 7, 0, 0), (.iload 4, 2, 4, 0, 0), (.iaload, 1, 0, 0, 0), (.iload_n 1, 1, 1, 0, 0), (.if_icmp .ne 10, 3, 42, 0, 0), (.aload_n 0, 1, 0, 0, 0), (.iload 4, 2, 4, 0, 0), (.iload_n 1, 1, 1, 0, 0), (.invokevirtual 66, 3, 23, 2, 9)], 42),
  (42, [(.iinc 4 1, 3, 4, 0, 1), (.goto (-42), 3, 3, 0, 0)], 48),
  (48, [(.return_, 1, 0, 0, 0)], 49)]
set_option maxRecDepth 100000 in
theorem ok_X9_keepThoseOf : pm_oks 9 false 5 none cX9_keepThoseOf bk_X9_keepThoseOf = true := oksF_ok (by decide +kernel)
set_option maxRecDepth 100000 in
theorem me_X9_keepThoseOf : pm_me 33 = (yX9_keepThoseOf, cX9_keepThoseOf, 5, none, 3, 0) := rfl
theorem mt_X9_keepThoseOf {l : Launch} {g : pm_G} {d mc ms : Nat} {as : List Value} {A : pm_H} {Q : Option Value → pm_H → Prop} (hca : pm_cat 5 as = true) (body : ∀ J : pm_J, pm_Cl l g (fun _ => none) d mc ms (pm_Rq mc ms Q) bk_X9_keepThoseOf J → J 0 (pm_l0 5 as) [] A 0 0) : pm_Mt l g 33 d mc ms as A Q := pm_Mt_of (isI := false) 9 bk_X9_keepThoseOf me_X9_keepThoseOf (plainFor_of_name (by decide +kernel)) (by decide +kernel) (fun h => by cases h) ok_X9_keepThoseOf hca body
def bk_X9_behind : pm_B := [(0, [(.iload_n 1, 1, 1, 0, 0), (.ifCond .lt 26, 3, 27, 0, 0), (.iload_n 1, 1, 1, 0, 0), (.aload_n 0, 1, 0, 0, 0), (.getfield 32, 3, 9, 5, 0), (.if_icmp .gt 18, 3, 27, 0, 0), (.iload_n 1, 1, 1, 0, 0), (.aload_n 0, 1, 0, 0, 0), (.getfield 32, 3, 9, 5, 0), (.bipush 40, 2, 0, 0, 40), (.isub, 1, 0, 0, 0), (.if_icmp .le 7, 3, 27, 0, 0), (.iconst 1, 1, 0, 0, 1), (.goto 4, 3, 28, 0, 0)], 27),
  (27, [(.iconst 0, 1, 0, 0, 0)], 28),
  (28, [(.istore_n 2, 1, 2, 0, 0), (.iload_n 2, 1, 2, 0, 0), (.ifCond .eq 15, 3, 45, 0, 0), (.aload_n 0, 1, 0, 0, 0), (.getfield 11, 3, 9, 0, 0), (.iload_n 1, 1, 1, 0, 0), (.bipush 41, 2, 0, 0, 41), (.irem, 1, 0, 0, 0), (.aaload, 1, 0, 0, 0), (.goto 4, 3, 46, 0, 0)], 45),
  (45, [(.aconst_null, 1, 0, 0, 0)], 46),
  (46, [(.areturn, 1, 0, 0, 0)], 47)]
set_option maxRecDepth 100000 in
theorem ok_X9_behind : pm_oks 9 false 3 (some (.object "SpanColours$Row")) cX9_behind bk_X9_behind = true := oksF_ok (by decide +kernel)
set_option maxRecDepth 100000 in
theorem me_X9_behind : pm_me 149 = (yX9_behind, cX9_behind, 3, (some (.object "SpanColours$Row")), 1, 0) := rfl
theorem mt_X9_behind {l : Launch} {g : pm_G} {d mc ms : Nat} {as : List Value} {A : pm_H} {Q : Option Value → pm_H → Prop} (hca : pm_cat 3 as = true) (body : ∀ J : pm_J, pm_Cl l g (fun _ => none) d mc ms (pm_Rq mc ms Q) bk_X9_behind J → J 0 (pm_l0 3 as) [] A 0 0) : pm_Mt l g 149 d mc ms as A Q := pm_Mt_of (isI := false) 9 bk_X9_behind me_X9_behind (plainFor_of_name (by decide +kernel)) (by decide +kernel) (fun h => by cases h) ok_X9_behind hca body
def bk_X9_steadySince : pm_B := [(0, [(.aload_n 0, 1, 0, 0, 0), (.getfield 25, 3, 9, 4, 0), (.iload_n 1, 1, 1, 0, 0), (.invokevirtual 85, 3, 46, 1, 7), (.istore_n 2, 1, 2, 0, 0), (.iload_n 2, 1, 2, 0, 0), (.iconst (-1), 1, 0, 0, -1), (.if_icmp .ne 5, 3, 16, 0, 0), (.iconst (-1), 1, 0, 0, -1), (.ireturn, 1, 0, 0, 0)], 16),
  (16, [(.aload_n 0, 1, 0, 0, 0), (.getfield 25, 3, 9, 4, 0), (.iload_n 2, 1, 2, 0, 0), (.invokevirtual 58, 3, 20, 1, 7), (.istore_n 3, 1, 3, 0, 0), (.aload_n 0, 1, 0, 0, 0), (.getfield 32, 3, 9, 5, 0), (.iconst 1, 1, 0, 0, 1), (.isub, 1, 0, 0, 0), (.istore 4, 2, 4, 0, 0)], 33),
  (33, [(.iload 4, 2, 4, 0, 0), (.ifCond .lt 51, 3, 86, 0, 0), (.aload_n 0, 1, 0, 0, 0), (.iload 4, 2, 4, 0, 0), (.invokevirtual 88, 3, 149, 1, 9), (.astore 5, 2, 5, 0, 0), (.aload 5, 2, 5, 0, 0), (.ifnull 27, 3, 75, 0, 0), (.aload 5, 2, 5, 0, 0), (.iload_n 1, 1, 1, 0, 0), (.invokevirtual 92, 3, 154, 1, 7), (.ifCond .eq 18, 3, 75, 0, 0), (.aload 5, 2, 5, 0, 0), (.aload 5, 2, 5, 0, 0), (.iload_n 1, 1, 1, 0, 0), (.invokevirtual 85, 3, 46, 1, 7), (.invokevirtual 58, 3, 20, 1, 7), (.iload_n 3, 1, 3, 0, 0), (.if_icmp .eq 8, 3, 80, 0, 0)], 75),
  (75, [(.iload 4, 2, 4, 0, 0), (.iconst 1, 1, 0, 0, 1), (.iadd, 1, 0, 0, 0), (.ireturn, 1, 0, 0, 0)], 80),
  (80, [(.iinc 4 (-1), 3, 4, 0, -1), (.goto (-50), 3, 33, 0, 0)], 86),
  (86, [(.iconst 0, 1, 0, 0, 0), (.ireturn, 1, 0, 0, 0)], 88)]
set_option maxRecDepth 100000 in
theorem ok_X9_steadySince : pm_oks 9 false 6 (some .int) cX9_steadySince bk_X9_steadySince = true := oksF_ok (by decide +kernel)
set_option maxRecDepth 100000 in
theorem me_X9_steadySince : pm_me 153 = (yX9_steadySince, cX9_steadySince, 6, (some .int), 1, 0) := rfl
theorem mt_X9_steadySince {l : Launch} {g : pm_G} {d mc ms : Nat} {as : List Value} {A : pm_H} {Q : Option Value → pm_H → Prop} (hca : pm_cat 6 as = true) (body : ∀ J : pm_J, pm_Cl l g (fun _ => none) d mc ms (pm_Rq mc ms Q) bk_X9_steadySince J → J 0 (pm_l0 6 as) [] A 0 0) : pm_Mt l g 153 d mc ms as A Q := pm_Mt_of (isI := false) 9 bk_X9_steadySince me_X9_steadySince (plainFor_of_name (by decide +kernel)) (by decide +kernel) (fun h => by cases h) ok_X9_steadySince hca body
def bk_X9_unlikeNow : pm_B := [(0, [(.iconst 0, 1, 0, 0, 0), (.istore_n 3, 1, 3, 0, 0), (.iconst 0, 1, 0, 0, 0), (.istore 4, 2, 4, 0, 0)], 5),
  (5, [(.iload 4, 2, 4, 0, 0), (.aload_n 0, 1, 0, 0, 0), (.getfield 25, 3, 9, 4, 0), (.getfield 36, 3, 7, 3, 0), (.if_icmp .ge 47, 3, 61, 0, 0), (.aload_n 1, 1, 1, 0, 0), (.aload_n 0, 1, 0, 0, 0), (.getfield 25, 3, 9, 4, 0), (.getfield 55, 3, 7, 1, 0), (.iload 4, 2, 4, 0, 0), (.iaload, 1, 0, 0, 0), (.invokevirtual 85, 3, 46, 1, 7), (.istore 5, 2, 5, 0, 0), (.iload 5, 2, 5, 0, 0), (.iconst (-1), 1, 0, 0, -1), (.if_icmp .eq 19, 3, 55, 0, 0), (.aload_n 0, 1, 0, 0, 0), (.aload_n 1, 1, 1, 0, 0), (.iload 5, 2, 5, 0, 0), (.iload 4, 2, 4, 0, 0), (.iload_n 2, 1, 2, 0, 0), (.invokevirtual 95, 3, 157, 4, 9), (.ifCond .eq 6, 3, 55, 0, 0), (.iinc 3 1, 3, 3, 0, 1)], 55),
  (55, [(.iinc 4 1, 3, 4, 0, 1), (.goto (-53), 3, 5, 0, 0)], 61),
  (61, [(.iload_n 3, 1, 3, 0, 0), (.ireturn, 1, 0, 0, 0)], 63)]
set_option maxRecDepth 100000 in
theorem ok_X9_unlikeNow : pm_oks 9 false 6 (some .int) cX9_unlikeNow bk_X9_unlikeNow = true := oksF_ok (by decide +kernel)
set_option maxRecDepth 100000 in
theorem me_X9_unlikeNow : pm_me 156 = (yX9_unlikeNow, cX9_unlikeNow, 6, (some .int), 2, 0) := rfl
theorem mt_X9_unlikeNow {l : Launch} {g : pm_G} {d mc ms : Nat} {as : List Value} {A : pm_H} {Q : Option Value → pm_H → Prop} (hca : pm_cat 6 as = true) (body : ∀ J : pm_J, pm_Cl l g (fun _ => none) d mc ms (pm_Rq mc ms Q) bk_X9_unlikeNow J → J 0 (pm_l0 6 as) [] A 0 0) : pm_Mt l g 156 d mc ms as A Q := pm_Mt_of (isI := false) 9 bk_X9_unlikeNow me_X9_unlikeNow (plainFor_of_name (by decide +kernel)) (by decide +kernel) (fun h => by cases h) ok_X9_unlikeNow hca body
