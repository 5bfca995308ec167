
def bk_X3_weighUp : pm_B := [(0, [(.iconst 0, 1, 0, 0, 0), (.istore 4, 2, 4, 0, 0)], 3),
  (3, [(.iload 4, 2, 4, 0, 0), (.iload_n 3, 1, 3, 0, 0), (.if_icmp .gt 20, 3, 26, 0, 0), (.aload_n 0, 1, 0, 0, 0), (.getfield 11, 3, 3, 0, 0), (.iload 4, 2, 4, 0, 0), (.aaload, 1, 0, 0, 0), (.iconst (-1), 1, 0, 0, -1), (.invokestatic 38, 3, 4, 2, 0), (.iinc 4 1, 3, 4, 0, 1), (.goto (-20), 3, 3, 0, 0)], 26),
  (26, [(.aload_n 0, 1, 0, 0, 0), (.getfield 11, 3, 3, 0, 0), (.iconst 0, 1, 0, 0, 0), (.aaload, 1, 0, 0, 0), (.aload_n 1, 1, 1, 0, 0), (.getfield 21, 3, 7, 3, 0), (.iconst 0, 1, 0, 0, 0), (.iastore, 1, 0, 0, 0), (.aload_n 1, 1, 1, 0, 0), (.getfield 21, 3, 7, 3, 0), (.iconst 1, 1, 0, 0, 1), (.isub, 1, 0, 0, 0), (.istore 4, 2, 4, 0, 0)], 46),
  (46, [(.iload 4, 2, 4, 0, 0), (.ifCond .lt 110, 3, 158, 0, 0), (.aload_n 2, 1, 2, 0, 0), (.invokevirtual 16, 3, 56, 0, 2), (.iload 4, 2, 4, 0, 0), (.istore 5, 2, 5, 0, 0)], 59),
  (59, [(.iload 5, 2, 5, 0, 0), (.aload_n 1, 1, 1, 0, 0), (.getfield 21, 3, 7, 3, 0), (.if_icmp .ge 87, 3, 152, 0, 0), (.aload_n 2, 1, 2, 0, 0), (.aload_n 1, 1, 1, 0, 0), (.getfield 27, 3, 7, 0, 0), (.iload 5, 2, 5, 0, 0), (.iaload, 1, 0, 0, 0), (.invokevirtual 31, 3, 57, 1, 2), (.iconst 1, 1, 0, 0, 1), (.istore 6, 2, 6, 0, 0)], 82),
  (82, [(.iload 6, 2, 6, 0, 0), (.iload_n 3, 1, 3, 0, 0), (.if_icmp .gt 61, 3, 146, 0, 0), (.aload_n 0, 1, 0, 0, 0), (.getfield 11, 3, 3, 0, 0), (.iload 6, 2, 6, 0, 0), (.iconst 1, 1, 0, 0, 1), (.isub, 1, 0, 0, 0), (.aaload, 1, 0, 0, 0), (.iload 5, 2, 5, 0, 0), (.iconst 1, 1, 0, 0, 1), (.iadd, 1, 0, 0, 0), (.iaload, 1, 0, 0, 0), (.istore 7, 2, 7, 0, 0), (.iload 7, 2, 7, 0, 0), (.iconst (-1), 1, 0, 0, -1), (.if_icmp .eq 33, 3, 140, 0, 0), (.aload_n 0, 1, 0, 0, 0), (.getfield 11, 3, 3, 0, 0), (.iload 6, 2, 6, 0, 0), (.aaload, 1, 0, 0, 0), (.iload 4, 2, 4, 0, 0), (.aload_n 0, 1, 0, 0, 0), (.getfield 11, 3, 3, 0, 0), (.iload 6, 2, 6, 0, 0), (.aaload, 1, 0, 0, 0), (.iload 4, 2, 4, 0, 0), (.iaload, 1, 0, 0, 0), (.aload_n 2, 1, 2, 0, 0), (.getfield 35, 3, 2, 3, 0), (.iload 7, 2, 7, 0, 0), (.iadd, 1, 0, 0, 0), (.invokestatic 44, 3, 51, 2, 0), (.iastore, 1, 0, 0, 0)], 140),
  (140, [(.iinc 6 1, 3, 6, 0, 1), (.goto (-61), 3, 82, 0, 0)], 146),
  (146, [(.iinc 5 1, 3, 5, 0, 1), (.goto (-90), 3, 59, 0, 0)], 152),
  (152, [(.iinc 4 (-1), 3, 4, 0, -1), (.goto (-109), 3, 46, 0, 0)], 158),
  (158, [(.return_, 1, 0, 0, 0)], 159)]
set_option maxRecDepth 100000 in
theorem ok_X3_weighUp : pm_oks 3 false 8 none cX3_weighUp bk_X3_weighUp = true := oksF_ok (by decide +kernel)
set_option maxRecDepth 100000 in
theorem me_X3_weighUp : pm_me 144 = (yX3_weighUp, cX3_weighUp, 8, none, 3, 0) := rfl
theorem mt_X3_weighUp {l : Launch} {g : pm_G} {d mc ms : Nat} {as : List Value} {A : pm_H} {Q : Option Value → pm_H → Prop} (hca : pm_cat 8 as = true) (body : ∀ J : pm_J, pm_Cl l g (fun _ => none) d mc ms (pm_Rq mc ms Q) bk_X3_weighUp J → J 0 (pm_l0 8 as) [] A 0 0) : pm_Mt l g 144 d mc ms as A Q := pm_Mt_of (isI := false) 3 bk_X3_weighUp me_X3_weighUp (plainFor_of_name (by decide +kernel)) (by decide +kernel) (fun h => by cases h) ok_X3_weighUp hca body
def bk_X3_worthOf : pm_B := [(0, [(.iload_n 1, 1, 1, 0, 0), (.ifCond .lt 24, 3, 25, 0, 0), (.iload_n 1, 1, 1, 0, 0), (.bipush 8, 2, 0, 0, 8), (.if_icmp .gt 18, 3, 25, 0, 0), (.iload_n 2, 1, 2, 0, 0), (.ifCond .lt 14, 3, 25, 0, 0), (.iload_n 2, 1, 2, 0, 0), (.sipush 160, 3, 0, 0, 160), (.if_icmp .gt 7, 3, 25, 0, 0), (.iconst 1, 1, 0, 0, 1), (.goto 4, 3, 26, 0, 0)], 25),
  (25, [(.iconst 0, 1, 0, 0, 0)], 26),
  (26, [(.istore_n 3, 1, 3, 0, 0), (.iload_n 3, 1, 3, 0, 0), (.ifCond .eq 14, 3, 42, 0, 0), (.aload_n 0, 1, 0, 0, 0), (.getfield 11, 3, 3, 0, 0), (.iload_n 1, 1, 1, 0, 0), (.aaload, 1, 0, 0, 0), (.iload_n 2, 1, 2, 0, 0), (.iaload, 1, 0, 0, 0), (.goto 4, 3, 43, 0, 0)], 42),
  (42, [(.iconst (-1), 1, 0, 0, -1)], 43),
  (43, [(.ireturn, 1, 0, 0, 0)], 44)]
set_option maxRecDepth 100000 in
theorem ok_X3_worthOf : pm_oks 3 false 4 (some .int) cX3_worthOf bk_X3_worthOf = true := oksF_ok (by decide +kernel)
set_option maxRecDepth 100000 in
theorem me_X3_worthOf : pm_me 145 = (yX3_worthOf, cX3_worthOf, 4, (some .int), 2, 0) := rfl
theorem mt_X3_worthOf {l : Launch} {g : pm_G} {d mc ms : Nat} {as : List Value} {A : pm_H} {Q : Option Value → pm_H → Prop} (hca : pm_cat 4 as = true) (body : ∀ J : pm_J, pm_Cl l g (fun _ => none) d mc ms (pm_Rq mc ms Q) bk_X3_worthOf J → J 0 (pm_l0 4 as) [] A 0 0) : pm_Mt l g 145 d mc ms as A Q := pm_Mt_of (isI := false) 3 bk_X3_worthOf me_X3_worthOf (plainFor_of_name (by decide +kernel)) (by decide +kernel) (fun h => by cases h) ok_X3_worthOf hca body
def bk_X3_lastPlaceOf : pm_B := [(0, [(.iconst (-1), 1, 0, 0, -1), (.istore 5, 2, 5, 0, 0), (.iconst 0, 1, 0, 0, 0), (.istore 6, 2, 6, 0, 0)], 6),
  (6, [(.iload 6, 2, 6, 0, 0), (.iload 4, 2, 4, 0, 0), (.if_icmp .gt 25, 3, 35, 0, 0), (.aload_n 0, 1, 0, 0, 0), (.aload_n 1, 1, 1, 0, 0), (.aload_n 2, 1, 2, 0, 0), (.iload 5, 2, 5, 0, 0), (.iconst 1, 1, 0, 0, 1), (.iadd, 1, 0, 0, 0), (.iload_n 3, 1, 3, 0, 0), (.iload 6, 2, 6, 0, 0), (.isub, 1, 0, 0, 0), (.invokevirtual 50, 3, 147, 4, 3), (.istore 5, 2, 5, 0, 0), (.iinc 6 1, 3, 6, 0, 1), (.goto (-26), 3, 6, 0, 0)], 35),
  (35, [(.iload 5, 2, 5, 0, 0), (.ireturn, 1, 0, 0, 0)], 38)]
set_option maxRecDepth 100000 in
theorem ok_X3_lastPlaceOf : pm_oks 3 false 7 (some .int) cX3_lastPlaceOf bk_X3_lastPlaceOf = true := oksF_ok (by decide +kernel)
set_option maxRecDepth 100000 in
theorem me_X3_lastPlaceOf : pm_me 146 = (yX3_lastPlaceOf, cX3_lastPlaceOf, 7, (some .int), 4, 0) := rfl
theorem mt_X3_lastPlaceOf {l : Launch} {g : pm_G} {d mc ms : Nat} {as : List Value} {A : pm_H} {Q : Option Value → pm_H → Prop} (hca : pm_cat 7 as = true) (body : ∀ J : pm_J, pm_Cl l g (fun _ => none) d mc ms (pm_Rq mc ms Q) bk_X3_lastPlaceOf J → J 0 (pm_l0 7 as) [] A 0 0) : pm_Mt l g 146 d mc ms as A Q := pm_Mt_of (isI := false) 3 bk_X3_lastPlaceOf me_X3_lastPlaceOf (plainFor_of_name (by decide +kernel)) (by decide +kernel) (fun h => by cases h) ok_X3_lastPlaceOf hca body
def bk_X3_shortestBestEnd : pm_B := [(0, [(.aload_n 2, 1, 2, 0, 0), (.invokevirtual 16, 3, 56, 0, 2), (.iload_n 3, 1, 3, 0, 0), (.istore 5, 2, 5, 0, 0)], 7),
  (7, [(.iload 5, 2, 5, 0, 0), (.aload_n 1, 1, 1, 0, 0), (.getfield 21, 3, 7, 3, 0), (.if_icmp .ge 60, 3, 73, 0, 0), (.aload_n 2, 1, 2, 0, 0), (.aload_n 1, 1, 1, 0, 0), (.getfield 27, 3, 7, 0, 0), (.iload 5, 2, 5, 0, 0), (.iaload, 1, 0, 0, 0), (.invokevirtual 31, 3, 57, 1, 2), (.aload_n 0, 1, 0, 0, 0), (.iload 4, 2, 4, 0, 0), (.iconst 1, 1, 0, 0, 1), (.isub, 1, 0, 0, 0), (.iload 5, 2, 5, 0, 0), (.iconst 1, 1, 0, 0, 1), (.iadd, 1, 0, 0, 0), (.invokevirtual 54, 3, 145, 2, 3), (.istore 6, 2, 6, 0, 0), (.iload 6, 2, 6, 0, 0), (.iconst (-1), 1, 0, 0, -1), (.if_icmp .eq 23, 3, 67, 0, 0), (.aload_n 2, 1, 2, 0, 0), (.getfield 35, 3, 2, 3, 0), (.iload 6, 2, 6, 0, 0), (.iadd, 1, 0, 0, 0), (.aload_n 0, 1, 0, 0, 0), (.iload 4, 2, 4, 0, 0), (.iload_n 3, 1, 3, 0, 0), (.invokevirtual 54, 3, 145, 2, 3), (.if_icmp .ne 6, 3, 67, 0, 0), (.iload 5, 2, 5, 0, 0), (.ireturn, 1, 0, 0, 0)], 67),
  (67, [(.iinc 5 1, 3, 5, 0, 1), (.goto (-63), 3, 7, 0, 0)], 73),
  (73, [(.iconst (-1), 1, 0, 0, -1), (.ireturn, 1, 0, 0, 0)], 75)]
set_option maxRecDepth 100000 in
theorem ok_X3_shortestBestEnd : pm_oks 3 false 7 (some .int) cX3_shortestBestEnd bk_X3_shortestBestEnd = true := oksF_ok (by decide +kernel)
set_option maxRecDepth 100000 in
theorem me_X3_shortestBestEnd : pm_me 147 = (yX3_shortestBestEnd, cX3_shortestBestEnd, 7, (some .int), 4, 0) := rfl
theorem mt_X3_shortestBestEnd {l : Launch} {g : pm_G} {d mc ms : Nat} {as : List Value} {A : pm_H} {Q : Option Value → pm_H → Prop} (hca : pm_cat 7 as = true) (body : ∀ J : pm_J, pm_Cl l g (fun _ => none) d mc ms (pm_Rq mc ms Q) bk_X3_shortestBestEnd J → J 0 (pm_l0 7 as) [] A 0 0) : pm_Mt l g 147 d mc ms as A Q := pm_Mt_of (isI := false) 3 bk_X3_shortestBestEnd me_X3_shortestBestEnd (plainFor_of_name (by decide +kernel)) (by decide +kernel) (fun h => by cases h) ok_X3_shortestBestEnd hca body
