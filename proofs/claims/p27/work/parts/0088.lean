
set_option maxRecDepth 100000 in
theorem me_X11_often : pm_me 214 = (yX11_often, cX11_often, 6, (some .int), 3, 0) := rfl
theorem mt_X11_often {l : Launch} {g : pm_G} {d mc ms : Nat} {as : List Value} {A : pm_H} {Q : Option Value → pm_H → Prop} (hca : pm_cat 6 as = true) (body : ∀ J : pm_J, pm_Cl l g (fun _ => none) d mc ms (pm_Rq mc ms Q) bk_X11_often J → J 0 (pm_l0 6 as) [] A 0 0) : pm_Mt l g 214 d mc ms as A Q := pm_Mt_of (isI := false) 11 bk_X11_often me_X11_often (plainFor_of_name (by decide +kernel)) (by decide +kernel) (fun h => by cases h) ok_X11_often hca body
def bk_X11_tally : pm_B := [(0, [(.aload_n 0, 1, 0, 0, 0), (.iload_n 1, 1, 1, 0, 0), (.iload_n 2, 1, 2, 0, 0), (.invokevirtual 129, 3, 180, 2, 11), (.ifCond .eq 8, 3, 14, 0, 0), (.iload_n 3, 1, 3, 0, 0), (.iconst 1, 1, 0, 0, 1), (.if_icmp .ge 5, 3, 16, 0, 0)], 14),
  (14, [(.iconst (-1), 1, 0, 0, -1), (.ireturn, 1, 0, 0, 0)], 16),
  (16, [(.iconst 0, 1, 0, 0, 0), (.istore 4, 2, 4, 0, 0), (.iconst 0, 1, 0, 0, 0), (.istore 5, 2, 5, 0, 0)], 22),
  (22, [(.iload 5, 2, 5, 0, 0), (.bipush 24, 2, 0, 0, 24), (.if_icmp .ge 31, 3, 57, 0, 0), (.iload 4, 2, 4, 0, 0), (.aload_n 0, 1, 0, 0, 0), (.iload_n 1, 1, 1, 0, 0), (.iload_n 2, 1, 2, 0, 0), (.iload 5, 2, 5, 0, 0), (.invokevirtual 148, 3, 200, 3, 11), (.iload_n 3, 1, 3, 0, 0), (.if_icmp .ne 7, 3, 47, 0, 0), (.iconst 1, 1, 0, 0, 1), (.goto 4, 3, 48, 0, 0)], 47),
  (47, [(.iconst 0, 1, 0, 0, 0)], 48),
  (48, [(.iadd, 1, 0, 0, 0), (.istore 4, 2, 4, 0, 0), (.iinc 5 1, 3, 5, 0, 1), (.goto (-32), 3, 22, 0, 0)], 57),
  (57, [(.iload 4, 2, 4, 0, 0), (.ireturn, 1, 0, 0, 0)], 60)]
set_option maxRecDepth 100000 in
theorem ok_X11_tally : pm_oks 11 false 6 (some .int) cX11_tally bk_X11_tally = true := oksF_ok (by decide +kernel)
set_option maxRecDepth 100000 in
theorem me_X11_tally : pm_me 215 = (yX11_tally, cX11_tally, 6, (some .int), 3, 0) := rfl
theorem mt_X11_tally {l : Launch} {g : pm_G} {d mc ms : Nat} {as : List Value} {A : pm_H} {Q : Option Value → pm_H → Prop} (hca : pm_cat 6 as = true) (body : ∀ J : pm_J, pm_Cl l g (fun _ => none) d mc ms (pm_Rq mc ms Q) bk_X11_tally J → J 0 (pm_l0 6 as) [] A 0 0) : pm_Mt l g 215 d mc ms as A Q := pm_Mt_of (isI := false) 11 bk_X11_tally me_X11_tally (plainFor_of_name (by decide +kernel)) (by decide +kernel) (fun h => by cases h) ok_X11_tally hca body
def bk_X11_major : pm_B := [(0, [(.aload_n 0, 1, 0, 0, 0), (.iload_n 1, 1, 1, 0, 0), (.iload_n 2, 1, 2, 0, 0), (.invokevirtual 129, 3, 180, 2, 11), (.ifCond .ne 5, 3, 11, 0, 0), (.iconst (-1), 1, 0, 0, -1), (.ireturn, 1, 0, 0, 0)], 11),
  (11, [(.iconst 0, 1, 0, 0, 0), (.istore_n 3, 1, 3, 0, 0)], 13),
  (13, [(.iload_n 3, 1, 3, 0, 0), (.bipush 24, 2, 0, 0, 24), (.if_icmp .ge 28, 3, 44, 0, 0), (.iconst 2, 1, 0, 0, 2), (.aload_n 0, 1, 0, 0, 0), (.iload_n 1, 1, 1, 0, 0), (.iload_n 2, 1, 2, 0, 0), (.iload_n 3, 1, 3, 0, 0), (.invokevirtual 148, 3, 200, 3, 11), (.imul, 1, 0, 0, 0), (.iload_n 2, 1, 2, 0, 0), (.iload_n 1, 1, 1, 0, 0), (.isub, 1, 0, 0, 0), (.iconst 1, 1, 0, 0, 1), (.iadd, 1, 0, 0, 0), (.if_icmp .le 5, 3, 38, 0, 0), (.iload_n 3, 1, 3, 0, 0), (.ireturn, 1, 0, 0, 0)], 38),
  (38, [(.iinc 3 1, 3, 3, 0, 1), (.goto (-28), 3, 13, 0, 0)], 44),
  (44, [(.iconst (-1), 1, 0, 0, -1), (.ireturn, 1, 0, 0, 0)], 46)]
set_option maxRecDepth 100000 in
theorem ok_X11_major : pm_oks 11 false 4 (some .int) cX11_major bk_X11_major = true := oksF_ok (by decide +kernel)
set_option maxRecDepth 100000 in
theorem me_X11_major : pm_me 216 = (yX11_major, cX11_major, 4, (some .int), 2, 0) := rfl
theorem mt_X11_major {l : Launch} {g : pm_G} {d mc ms : Nat} {as : List Value} {A : pm_H} {Q : Option Value → pm_H → Prop} (hca : pm_cat 4 as = true) (body : ∀ J : pm_J, pm_Cl l g (fun _ => none) d mc ms (pm_Rq mc ms Q) bk_X11_major J → J 0 (pm_l0 4 as) [] A 0 0) : pm_Mt l g 216 d mc ms as A Q := pm_Mt_of (isI := false) 11 bk_X11_major me_X11_major (plainFor_of_name (by decide +kernel)) (by decide +kernel) (fun h => by cases h) ok_X11_major hca body
def bk_X11_report : pm_B := [(0, [(.aload_n 0, 1, 0, 0, 0), (.iload_n 1, 1, 1, 0, 0), (.iload_n 2, 1, 2, 0, 0), (.invokevirtual 129, 3, 180, 2, 11), (.ifCond .eq 23, 3, 29, 0, 0), (.iload_n 3, 1, 3, 0, 0), (.iconst 0, 1, 0, 0, 0), (.bipush 24, 2, 0, 0, 24), (.invokestatic 74, 3, 169, 3, 0), (.ifCond .eq 13, 3, 29, 0, 0), (.iload 4, 2, 4, 0, 0), (.iconst 0, 1, 0, 0, 0), (.iconst 2, 1, 0, 0, 2), (.invokestatic 74, 3, 169, 3, 0), (.ifCond .ne 5, 3, 31, 0, 0)], 29),
  (29, [(.iconst (-1), 1, 0, 0, -1), (.ireturn, 1, 0, 0, 0)], 31),
  (31, [(.aload_n 0, 1, 0, 0, 0), (.iload_n 1, 1, 1, 0, 0), (.iload_n 2, 1, 2, 0, 0), (.iload_n 3, 1, 3, 0, 0), (.invokevirtual 181, 3, 218, 3, 11), (.istore 5, 2, 5, 0, 0), (.iload 5, 2, 5, 0, 0), (.ifCond .ge 5, 3, 47, 0, 0), (.iconst (-1), 1, 0, 0, -1), (.ireturn, 1, 0, 0, 0)], 47),
  (47, [(.iload 4, 2, 4, 0, 0), (.ifCond .ne 8, 3, 57, 0, 0), (.iload 5, 2, 5, 0, 0), (.goto 25, 3, 79, 0, 0)], 57),
  (57, [(.iload 4, 2, 4, 0, 0), (.iconst 1, 1, 0, 0, 1), (.if_icmp .ne 13, 3, 73, 0, 0), (.aload_n 0, 1, 0, 0, 0), (.getfield 7, 3, 11, 0, 0), (.iload 5, 2, 5, 0, 0), (.iaload, 1, 0, 0, 0), (.goto 9, 3, 79, 0, 0)], 73),
  (73, [(.aload_n 0, 1, 0, 0, 0), (.iload 5, 2, 5, 0, 0), (.invokevirtual 85, 3, 173, 1, 11)], 79),
  (79, [(.ireturn, 1, 0, 0, 0)], 80)]
set_option maxRecDepth 100000 in
theorem ok_X11_report : pm_oks 11 false 6 (some .int) cX11_report bk_X11_report = true := oksF_ok (by decide +kernel)
set_option maxRecDepth 100000 in
theorem me_X11_report : pm_me 217 = (yX11_report, cX11_report, 6, (some .int), 4, 0) := rfl
theorem mt_X11_report {l : Launch} {g : pm_G} {d mc ms : Nat} {as : List Value} {A : pm_H} {Q : Option Value → pm_H → Prop} (hca : pm_cat 6 as = true) (body : ∀ J : pm_J, pm_Cl l g (fun _ => none) d mc ms (pm_Rq mc ms Q) bk_X11_report J → J 0 (pm_l0 6 as) [] A 0 0) : pm_Mt l g 217 d mc ms as A Q := pm_Mt_of (isI := false) 11 bk_X11_report me_X11_report (plainFor_of_name (by decide +kernel)) (by decide +kernel) (fun h => by cases h) ok_X11_report hca body
def bk_X11_reported : pm_B := [(0, [(.ldc 177, 2, 0, 0, -268435456), (.istore 4, 2, 4, 0, 0), (.iconst (-1), 1, 0, 0, -1), (.istore 5, 2, 5, 0, 0), (.iconst 0, 1, 0, 0, 0), (.istore 6, 2, 6, 0, 0)], 10),
  (10, [(.iload 6, 2, 6, 0, 0), (.iload_n 3, 1, 3, 0, 0), (.if_icmp .gt 91, 3, 104, 0, 0), (.iconst (-1), 1, 0, 0, -1), (.istore 7, 2, 7, 0, 0), (.iload_n 1, 1, 1, 0, 0), (.istore 8, 2, 8, 0, 0)], 22),
  (22, [(.iload 8, 2, 8, 0, 0), (.iload_n 2, 1, 2, 0, 0), (.if_icmp .gt 54, 3, 79, 0, 0), (.aload_n 0, 1, 0, 0, 0), (.iload 8, 2, 8, 0, 0), (.invokevirtual 78, 3, 174, 1, 11), (.iload_n 1, 1, 1, 0, 0), (.if_icmp .ge 38, 3, 73, 0, 0), (.aload_n 0, 1, 0, 0, 0), (.iload 8, 2, 8, 0, 0), (.invokevirtual 178, 3, 219, 1, 11), (.iload 4, 2, 4, 0, 0), (.if_icmp .le 27, 3, 73, 0, 0), (.iload 7, 2, 7, 0, 0), (.ifCond .lt 18, 3, 69, 0, 0), (.aload_n 0, 1, 0, 0, 0), (.iload 8, 2, 8, 0, 0), (.invokevirtual 178, 3, 219, 1, 11), (.aload_n 0, 1, 0, 0, 0), (.iload 7, 2, 7, 0, 0), (.invokevirtual 178, 3, 219, 1, 11), (.if_icmp .ge 7, 3, 73, 0, 0)], 69),
  (69, [(.iload 8, 2, 8, 0, 0), (.istore 7, 2, 7, 0, 0)], 73),
  (73, [(.iinc 8 1, 3, 8, 0, 1), (.goto (-54), 3, 22, 0, 0)], 79),
  (79, [(.iload 7, 2, 7, 0, 0), (.ifCond .ge 5, 3, 86, 0, 0), (.iconst (-1), 1, 0, 0, -1), (.ireturn, 1, 0, 0, 0)], 86),
  (86, [(.aload_n 0, 1, 0, 0, 0), (.iload 7, 2, 7, 0, 0), (.invokevirtual 178, 3, 219, 1, 11), (.istore 4, 2, 4, 0, 0), (.iload 7, 2, 7, 0, 0), (.istore 5, 2, 5, 0, 0), (.iinc 6 1, 3, 6, 0, 1), (.goto (-91), 3, 10, 0, 0)], 104),
  (104, [(.iload 5, 2, 5, 0, 0), (.ireturn, 1, 0, 0, 0)], 107)]
set_option maxRecDepth 100000 in
theorem ok_X11_reported : pm_oks 11 false 9 (some .int) cX11_reported bk_X11_reported = true := oksF_ok (by decide +kernel)
set_option maxRecDepth 100000 in
theorem me_X11_reported : pm_me 218 = (yX11_reported, cX11_reported, 9, (some .int), 3, 0) := rfl
