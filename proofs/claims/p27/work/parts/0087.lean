
set_option maxRecDepth 100000 in
theorem ok_X11_count : pm_oks 11 false 3 (some .int) cX11_count bk_X11_count = true := oksF_ok (by decide +kernel)
set_option maxRecDepth 100000 in
theorem me_X11_count : pm_me 208 = (yX11_count, cX11_count, 3, (some .int), 2, 0) := rfl
theorem mt_X11_count {l : Launch} {g : pm_G} {d mc ms : Nat} {as : List Value} {A : pm_H} {Q : Option Value → pm_H → Prop} (hca : pm_cat 3 as = true) (body : ∀ J : pm_J, pm_Cl l g (fun _ => none) d mc ms (pm_Rq mc ms Q) bk_X11_count J → J 0 (pm_l0 3 as) [] A 0 0) : pm_Mt l g 208 d mc ms as A Q := pm_Mt_of (isI := false) 11 bk_X11_count me_X11_count (plainFor_of_name (by decide +kernel)) (by decide +kernel) (fun h => by cases h) ok_X11_count hca body
def bk_X11_countOf : pm_B := [(0, [(.aload_n 0, 1, 0, 0, 0), (.iload_n 1, 1, 1, 0, 0), (.iload_n 2, 1, 2, 0, 0), (.invokevirtual 161, 3, 206, 2, 11), (.invokestatic 165, 3, 207, 1, 0), (.ireturn, 1, 0, 0, 0)], 10)]
set_option maxRecDepth 100000 in
theorem ok_X11_countOf : pm_oks 11 false 3 (some .int) cX11_countOf bk_X11_countOf = true := oksF_ok (by decide +kernel)
set_option maxRecDepth 100000 in
theorem me_X11_countOf : pm_me 209 = (yX11_countOf, cX11_countOf, 3, (some .int), 2, 0) := rfl
theorem mt_X11_countOf {l : Launch} {g : pm_G} {d mc ms : Nat} {as : List Value} {A : pm_H} {Q : Option Value → pm_H → Prop} (hca : pm_cat 3 as = true) (body : ∀ J : pm_J, pm_Cl l g (fun _ => none) d mc ms (pm_Rq mc ms Q) bk_X11_countOf J → J 0 (pm_l0 3 as) [] A 0 0) : pm_Mt l g 209 d mc ms as A Q := pm_Mt_of (isI := false) 11 bk_X11_countOf me_X11_countOf (plainFor_of_name (by decide +kernel)) (by decide +kernel) (fun h => by cases h) ok_X11_countOf hca body
def bk_X11_weight : pm_B := [(0, [(.aload_n 0, 1, 0, 0, 0), (.iload_n 1, 1, 1, 0, 0), (.iload_n 2, 1, 2, 0, 0), (.invokevirtual 129, 3, 180, 2, 11), (.ifCond .eq 16, 3, 22, 0, 0), (.aload_n 0, 1, 0, 0, 0), (.aload_n 0, 1, 0, 0, 0), (.iload_n 1, 1, 1, 0, 0), (.iload_n 2, 1, 2, 0, 0), (.invokevirtual 161, 3, 206, 2, 11), (.invokevirtual 174, 3, 211, 1, 11), (.goto 4, 3, 23, 0, 0)], 22),
  (22, [(.iconst (-1), 1, 0, 0, -1)], 23),
  (23, [(.ireturn, 1, 0, 0, 0)], 24)]
set_option maxRecDepth 100000 in
theorem ok_X11_weight : pm_oks 11 false 3 (some .int) cX11_weight bk_X11_weight = true := oksF_ok (by decide +kernel)
set_option maxRecDepth 100000 in
theorem me_X11_weight : pm_me 210 = (yX11_weight, cX11_weight, 3, (some .int), 2, 0) := rfl
theorem mt_X11_weight {l : Launch} {g : pm_G} {d mc ms : Nat} {as : List Value} {A : pm_H} {Q : Option Value → pm_H → Prop} (hca : pm_cat 3 as = true) (body : ∀ J : pm_J, pm_Cl l g (fun _ => none) d mc ms (pm_Rq mc ms Q) bk_X11_weight J → J 0 (pm_l0 3 as) [] A 0 0) : pm_Mt l g 210 d mc ms as A Q := pm_Mt_of (isI := false) 11 bk_X11_weight me_X11_weight (plainFor_of_name (by decide +kernel)) (by decide +kernel) (fun h => by cases h) ok_X11_weight hca body
def bk_X11_weightOf : pm_B := [(0, [(.iconst 0, 1, 0, 0, 0), (.istore_n 2, 1, 2, 0, 0), (.iconst 0, 1, 0, 0, 0), (.istore_n 3, 1, 3, 0, 0)], 4),
  (4, [(.iload_n 3, 1, 3, 0, 0), (.bipush 24, 2, 0, 0, 24), (.if_icmp .ge 31, 3, 38, 0, 0), (.iload_n 2, 1, 2, 0, 0), (.iload_n 1, 1, 1, 0, 0), (.iload_n 3, 1, 3, 0, 0), (.ishr, 1, 0, 0, 0), (.iconst 1, 1, 0, 0, 1), (.iand, 1, 0, 0, 0), (.iconst 1, 1, 0, 0, 1), (.if_icmp .ne 12, 3, 29, 0, 0), (.aload_n 0, 1, 0, 0, 0), (.getfield 16, 3, 11, 2, 0), (.iload_n 3, 1, 3, 0, 0), (.iaload, 1, 0, 0, 0), (.goto 4, 3, 30, 0, 0)], 29),
  (29, [(.iconst 0, 1, 0, 0, 0)], 30),
  (30, [(.iadd, 1, 0, 0, 0), (.istore_n 2, 1, 2, 0, 0), (.iinc 3 1, 3, 3, 0, 1), (.goto (-31), 3, 4, 0, 0)], 38),
  (38, [(.iload_n 2, 1, 2, 0, 0), (.ireturn, 1, 0, 0, 0)], 40)]
set_option maxRecDepth 100000 in
theorem ok_X11_weightOf : pm_oks 11 false 4 (some .int) cX11_weightOf bk_X11_weightOf = true := oksF_ok (by decide +kernel)
set_option maxRecDepth 100000 in
theorem me_X11_weightOf : pm_me 211 = (yX11_weightOf, cX11_weightOf, 4, (some .int), 1, 0) := rfl
theorem mt_X11_weightOf {l : Launch} {g : pm_G} {d mc ms : Nat} {as : List Value} {A : pm_H} {Q : Option Value → pm_H → Prop} (hca : pm_cat 4 as = true) (body : ∀ J : pm_J, pm_Cl l g (fun _ => none) d mc ms (pm_Rq mc ms Q) bk_X11_weightOf J → J 0 (pm_l0 4 as) [] A 0 0) : pm_Mt l g 211 d mc ms as A Q := pm_Mt_of (isI := false) 11 bk_X11_weightOf me_X11_weightOf (plainFor_of_name (by decide +kernel)) (by decide +kernel) (fun h => by cases h) ok_X11_weightOf hca body
def bk_X11_set : pm_B := [(0, [(.aload_n 0, 1, 0, 0, 0), (.iload_n 1, 1, 1, 0, 0), (.iload_n 2, 1, 2, 0, 0), (.invokevirtual 129, 3, 180, 2, 11), (.ifCond .eq 12, 3, 18, 0, 0), (.aload_n 0, 1, 0, 0, 0), (.iload_n 1, 1, 1, 0, 0), (.iload_n 2, 1, 2, 0, 0), (.invokevirtual 161, 3, 206, 2, 11), (.goto 4, 3, 19, 0, 0)], 18),
  (18, [(.iconst (-1), 1, 0, 0, -1)], 19),
  (19, [(.ireturn, 1, 0, 0, 0)], 20)]
set_option maxRecDepth 100000 in
theorem ok_X11_set : pm_oks 11 false 3 (some .int) cX11_set bk_X11_set = true := oksF_ok (by decide +kernel)
set_option maxRecDepth 100000 in
theorem me_X11_set : pm_me 212 = (yX11_set, cX11_set, 3, (some .int), 2, 0) := rfl
theorem mt_X11_set {l : Launch} {g : pm_G} {d mc ms : Nat} {as : List Value} {A : pm_H} {Q : Option Value → pm_H → Prop} (hca : pm_cat 3 as = true) (body : ∀ J : pm_J, pm_Cl l g (fun _ => none) d mc ms (pm_Rq mc ms Q) bk_X11_set J → J 0 (pm_l0 3 as) [] A 0 0) : pm_Mt l g 212 d mc ms as A Q := pm_Mt_of (isI := false) 11 bk_X11_set me_X11_set (plainFor_of_name (by decide +kernel)) (by decide +kernel) (fun h => by cases h) ok_X11_set hca body
def bk_X11_times : pm_B := [(0, [(.aload_n 0, 1, 0, 0, 0), (.iload_n 1, 1, 1, 0, 0), (.iload_n 2, 1, 2, 0, 0), (.invokevirtual 129, 3, 180, 2, 11), (.ifCond .eq 20, 3, 26, 0, 0), (.iload_n 3, 1, 3, 0, 0), (.invokestatic 122, 3, 170, 1, 0), (.ifCond .eq 13, 3, 26, 0, 0), (.aload_n 0, 1, 0, 0, 0), (.iload_n 1, 1, 1, 0, 0), (.iload_n 2, 1, 2, 0, 0), (.iload_n 3, 1, 3, 0, 0), (.invokevirtual 148, 3, 200, 3, 11), (.goto 4, 3, 27, 0, 0)], 26),
  (26, [(.iconst (-1), 1, 0, 0, -1)], 27),
  (27, [(.ireturn, 1, 0, 0, 0)], 28)]
set_option maxRecDepth 100000 in
theorem ok_X11_times : pm_oks 11 false 4 (some .int) cX11_times bk_X11_times = true := oksF_ok (by decide +kernel)
set_option maxRecDepth 100000 in
theorem me_X11_times : pm_me 213 = (yX11_times, cX11_times, 4, (some .int), 3, 0) := rfl
theorem mt_X11_times {l : Launch} {g : pm_G} {d mc ms : Nat} {as : List Value} {A : pm_H} {Q : Option Value → pm_H → Prop} (hca : pm_cat 4 as = true) (body : ∀ J : pm_J, pm_Cl l g (fun _ => none) d mc ms (pm_Rq mc ms Q) bk_X11_times J → J 0 (pm_l0 4 as) [] A 0 0) : pm_Mt l g 213 d mc ms as A Q := pm_Mt_of (isI := false) 11 bk_X11_times me_X11_times (plainFor_of_name (by decide +kernel)) (by decide +kernel) (fun h => by cases h) ok_X11_times hca body
def bk_X11_often : pm_B := [(0, [(.aload_n 0, 1, 0, 0, 0), (.iload_n 1, 1, 1, 0, 0), (.iload_n 2, 1, 2, 0, 0), (.invokevirtual 129, 3, 180, 2, 11), (.ifCond .eq 8, 3, 14, 0, 0), (.iload_n 3, 1, 3, 0, 0), (.iconst 1, 1, 0, 0, 1), (.if_icmp .ge 5, 3, 16, 0, 0)], 14),
  (14, [(.iconst (-1), 1, 0, 0, -1), (.ireturn, 1, 0, 0, 0)], 16),
  (16, [(.iconst 0, 1, 0, 0, 0), (.istore 4, 2, 4, 0, 0), (.iconst 0, 1, 0, 0, 0), (.istore 5, 2, 5, 0, 0)], 22),
  (22, [(.iload 5, 2, 5, 0, 0), (.bipush 24, 2, 0, 0, 24), (.if_icmp .ge 31, 3, 57, 0, 0), (.iload 4, 2, 4, 0, 0), (.aload_n 0, 1, 0, 0, 0), (.iload_n 1, 1, 1, 0, 0), (.iload_n 2, 1, 2, 0, 0), (.iload 5, 2, 5, 0, 0), (.invokevirtual 148, 3, 200, 3, 11), (.iload_n 3, 1, 3, 0, 0), (.if_icmp .lt 7, 3, 47, 0, 0), (.iconst 1, 1, 0, 0, 1), (.goto 4, 3, 48, 0, 0)], 47),
  (47, [(.iconst 0, 1, 0, 0, 0)], 48),
  (48, [(.iadd, 1, 0, 0, 0), (.istore 4, 2, 4, 0, 0), (.iinc 5 1, 3, 5, 0, 1), (.goto (-32), 3, 22, 0, 0)], 57),
  (57, [(.iload 4, 2, 4, 0, 0), (.ireturn, 1, 0, 0, 0)], 60)]
set_option maxRecDepth 100000 in
theorem ok_X11_often : pm_oks 11 false 6 (some .int) cX11_often bk_X11_often = true := oksF_ok (by decide +kernel)
