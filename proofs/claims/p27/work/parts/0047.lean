
def bk_X10_report : pm_B := [(0, [(.aload_n 0, 1, 0, 0, 0), (.getfield 12, 3, 10, 0, 0), (.getfield 80, 3, 9, 4, 0), (.astore 5, 2, 5, 0, 0), (.aload 5, 2, 5, 0, 0), (.iload_n 1, 1, 1, 0, 0), (.iload_n 2, 1, 2, 0, 0), (.invokevirtual 111, 3, 14, 2, 7), (.ifCond .ne 5, 3, 21, 0, 0), (.iconst (-1), 1, 0, 0, -1), (.ireturn, 1, 0, 0, 0)], 21),
  (21, [(.aload_n 0, 1, 0, 0, 0), (.getfield 26, 3, 10, 2, 0), (.aload 5, 2, 5, 0, 0), (.iload_n 1, 1, 1, 0, 0), (.iload_n 2, 1, 2, 0, 0), (.iload_n 3, 1, 3, 0, 0), (.invokevirtual 197, 3, 66, 4, 0), (.istore 6, 2, 6, 0, 0), (.iload 4, 2, 4, 0, 0), (.tableswitch 48 0 2 #[27, 30, 39], 27, 37, 0, 0)], 64),
  (64, [(.iload 6, 2, 6, 0, 0), (.ireturn, 1, 0, 0, 0)], 67),
  (67, [(.aload 5, 2, 5, 0, 0), (.iload 6, 2, 6, 0, 0), (.iconst 0, 1, 0, 0, 0), (.invokevirtual 143, 3, 44, 2, 7), (.ireturn, 1, 0, 0, 0)], 76),
  (76, [(.aload 5, 2, 5, 0, 0), (.iload 6, 2, 6, 0, 0), (.iconst 2, 1, 0, 0, 2), (.invokevirtual 143, 3, 44, 2, 7), (.ireturn, 1, 0, 0, 0)], 85),
  (85, [(.iconst (-1), 1, 0, 0, -1), (.ireturn, 1, 0, 0, 0)], 87)]
set_option maxRecDepth 100000 in
theorem ok_X10_report : pm_oks 10 false 7 (some .int) cX10_report bk_X10_report = true := oksF_ok (by decide +kernel)
set_option maxRecDepth 100000 in
theorem me_X10_report : pm_me 65 = (yX10_report, cX10_report, 7, (some .int), 4, 0) := rfl
theorem mt_X10_report {l : Launch} {g : pm_G} {d mc ms : Nat} {as : List Value} {A : pm_H} {Q : Option Value → pm_H → Prop} (hca : pm_cat 7 as = true) (body : ∀ J : pm_J, pm_Cl l g (fun _ => none) d mc ms (pm_Rq mc ms Q) bk_X10_report J → J 0 (pm_l0 7 as) [] A 0 0) : pm_Mt l g 65 d mc ms as A Q := pm_Mt_of (isI := false) 10 bk_X10_report me_X10_report (plainFor_of_name (by decide +kernel)) (by decide +kernel) (fun h => by cases h) ok_X10_report hca body
def bk_X10_kth : pm_B := [(0, [(.aload_n 0, 1, 0, 0, 0), (.iload_n 1, 1, 1, 0, 0), (.iload_n 2, 1, 2, 0, 0), (.invokevirtual 182, 3, 59, 2, 10), (.ifCond .eq 29, 3, 35, 0, 0), (.aload_n 0, 1, 0, 0, 0), (.getfield 26, 3, 10, 2, 0), (.aload_n 0, 1, 0, 0, 0), (.getfield 12, 3, 10, 0, 0), (.getfield 80, 3, 9, 4, 0), (.aload_n 0, 1, 0, 0, 0), (.getfield 19, 3, 10, 1, 0), (.iload_n 1, 1, 1, 0, 0), (.iload_n 2, 1, 2, 0, 0), (.iload_n 3, 1, 3, 0, 0), (.iload 4, 2, 4, 0, 0), (.invokevirtual 201, 3, 68, 6, 0), (.goto 4, 3, 36, 0, 0)], 35),
  (35, [(.iconst (-1), 1, 0, 0, -1)], 36),
  (36, [(.ireturn, 1, 0, 0, 0)], 37)]
set_option maxRecDepth 100000 in
theorem ok_X10_kth : pm_oks 10 false 5 (some .int) cX10_kth bk_X10_kth = true := oksF_ok (by decide +kernel)
set_option maxRecDepth 100000 in
theorem me_X10_kth : pm_me 67 = (yX10_kth, cX10_kth, 5, (some .int), 4, 0) := rfl
theorem mt_X10_kth {l : Launch} {g : pm_G} {d mc ms : Nat} {as : List Value} {A : pm_H} {Q : Option Value → pm_H → Prop} (hca : pm_cat 5 as = true) (body : ∀ J : pm_J, pm_Cl l g (fun _ => none) d mc ms (pm_Rq mc ms Q) bk_X10_kth J → J 0 (pm_l0 5 as) [] A 0 0) : pm_Mt l g 67 d mc ms as A Q := pm_Mt_of (isI := false) 10 bk_X10_kth me_X10_kth (plainFor_of_name (by decide +kernel)) (by decide +kernel) (fun h => by cases h) ok_X10_kth hca body
def bk_X10_absent : pm_B := [(0, [(.aload_n 0, 1, 0, 0, 0), (.iload_n 1, 1, 1, 0, 0), (.iload_n 2, 1, 2, 0, 0), (.invokevirtual 182, 3, 59, 2, 10), (.ifCond .eq 26, 3, 32, 0, 0), (.aload_n 0, 1, 0, 0, 0), (.getfield 26, 3, 10, 2, 0), (.ldc 205, 2, 0, 0, 16777215), (.aload_n 0, 1, 0, 0, 0), (.getfield 19, 3, 10, 1, 0), (.getfield 188, 3, 2, 4, 0), (.iconst (-1), 1, 0, 0, -1), (.ixor, 1, 0, 0, 0), (.iand, 1, 0, 0, 0), (.iload_n 3, 1, 3, 0, 0), (.invokevirtual 206, 3, 71, 2, 0), (.goto 4, 3, 33, 0, 0)], 32),
  (32, [(.iconst (-1), 1, 0, 0, -1)], 33),
  (33, [(.ireturn, 1, 0, 0, 0)], 34)]
set_option maxRecDepth 100000 in
theorem ok_X10_absent : pm_oks 10 false 4 (some .int) cX10_absent bk_X10_absent = true := oksF_ok (by decide +kernel)
set_option maxRecDepth 100000 in
theorem me_X10_absent : pm_me 73 = (yX10_absent, cX10_absent, 4, (some .int), 3, 0) := rfl
theorem mt_X10_absent {l : Launch} {g : pm_G} {d mc ms : Nat} {as : List Value} {A : pm_H} {Q : Option Value → pm_H → Prop} (hca : pm_cat 4 as = true) (body : ∀ J : pm_J, pm_Cl l g (fun _ => none) d mc ms (pm_Rq mc ms Q) bk_X10_absent J → J 0 (pm_l0 4 as) [] A 0 0) : pm_Mt l g 73 d mc ms as A Q := pm_Mt_of (isI := false) 10 bk_X10_absent me_X10_absent (plainFor_of_name (by decide +kernel)) (by decide +kernel) (fun h => by cases h) ok_X10_absent hca body
def bk_X10_both : pm_B := [(0, [(.aload_n 0, 1, 0, 0, 0), (.iload_n 1, 1, 1, 0, 0), (.iload_n 2, 1, 2, 0, 0), (.invokevirtual 182, 3, 59, 2, 10), (.ifCond .ne 5, 3, 11, 0, 0), (.iconst (-1), 1, 0, 0, -1), (.ireturn, 1, 0, 0, 0)], 11),
  (11, [(.aload_n 0, 1, 0, 0, 0), (.getfield 19, 3, 10, 1, 0), (.getfield 188, 3, 2, 4, 0), (.istore 6, 2, 6, 0, 0), (.aload_n 0, 1, 0, 0, 0), (.iload_n 3, 1, 3, 0, 0), (.iload 4, 2, 4, 0, 0), (.invokevirtual 182, 3, 59, 2, 10), (.ifCond .ne 5, 3, 32, 0, 0), (.iconst (-1), 1, 0, 0, -1), (.ireturn, 1, 0, 0, 0)], 32),
  (32, [(.aload_n 0, 1, 0, 0, 0), (.getfield 19, 3, 10, 1, 0), (.getfield 188, 3, 2, 4, 0), (.istore 7, 2, 7, 0, 0), (.iload 5, 2, 5, 0, 0), (.tableswitch 54 0 2 #[25, 34, 45], 25, 43, 0, 0)], 68),
  (68, [(.iload 6, 2, 6, 0, 0), (.iload 7, 2, 7, 0, 0), (.iand, 1, 0, 0, 0), (.invokestatic 209, 3, 75, 1, 0), (.ireturn, 1, 0, 0, 0)], 77),
  (77, [(.iload 6, 2, 6, 0, 0), (.iload 7, 2, 7, 0, 0), (.iconst (-1), 1, 0, 0, -1), (.ixor, 1, 0, 0, 0), (.iand, 1, 0, 0, 0), (.invokestatic 209, 3, 75, 1, 0), (.ireturn, 1, 0, 0, 0)], 88),
  (88, [(.iload 6, 2, 6, 0, 0), (.iload 7, 2, 7, 0, 0), (.ior, 1, 0, 0, 0), (.invokestatic 209, 3, 75, 1, 0), (.ireturn, 1, 0, 0, 0)], 97),
  (97, [(.iconst (-1), 1, 0, 0, -1), (.ireturn, 1, 0, 0, 0)], 99)]
set_option maxRecDepth 100000 in
theorem ok_X10_both : pm_oks 10 false 8 (some .int) cX10_both bk_X10_both = true := oksF_ok (by decide +kernel)
set_option maxRecDepth 100000 in
theorem me_X10_both : pm_me 74 = (yX10_both, cX10_both, 8, (some .int), 5, 0) := rfl
theorem mt_X10_both {l : Launch} {g : pm_G} {d mc ms : Nat} {as : List Value} {A : pm_H} {Q : Option Value → pm_H → Prop} (hca : pm_cat 8 as = true) (body : ∀ J : pm_J, pm_Cl l g (fun _ => none) d mc ms (pm_Rq mc ms Q) bk_X10_both J → J 0 (pm_l0 8 as) [] A 0 0) : pm_Mt l g 74 d mc ms as A Q := pm_Mt_of (isI := false) 10 bk_X10_both me_X10_both (plainFor_of_name (by decide +kernel)) (by decide +kernel) (fun h => by cases h) ok_X10_both hca body
def bk_X10_tally : pm_B := [(0, [(.iload_n 3, 1, 3, 0, 0), (.iconst 1, 1, 0, 0, 1), (.if_icmp .lt 23, 3, 25, 0, 0), (.aload_n 0, 1, 0, 0, 0), (.iload_n 1, 1, 1, 0, 0), (.iload_n 2, 1, 2, 0, 0), (.invokevirtual 182, 3, 59, 2, 10), (.ifCond .eq 14, 3, 25, 0, 0), (.aload_n 0, 1, 0, 0, 0), (.getfield 19, 3, 10, 1, 0), (.iload_n 3, 1, 3, 0, 0), (.invokevirtual 214, 3, 77, 1, 2), (.goto 4, 3, 26, 0, 0)], 25),
  (25, [(.iconst (-1), 1, 0, 0, -1)], 26),
  (26, [(.ireturn, 1, 0, 0, 0)], 27)]
set_option maxRecDepth 100000 in
theorem ok_X10_tally : pm_oks 10 false 4 (some .int) cX10_tally bk_X10_tally = true := oksF_ok (by decide +kernel)
set_option maxRecDepth 100000 in
theorem me_X10_tally : pm_me 76 = (yX10_tally, cX10_tally, 4, (some .int), 3, 0) := rfl
theorem mt_X10_tally {l : Launch} {g : pm_G} {d mc ms : Nat} {as : List Value} {A : pm_H} {Q : Option Value → pm_H → Prop} (hca : pm_cat 4 as = true) (body : ∀ J : pm_J, pm_Cl l g (fun _ => none) d mc ms (pm_Rq mc ms Q) bk_X10_tally J → J 0 (pm_l0 4 as) [] A 0 0) : pm_Mt l g 76 d mc ms as A Q := pm_Mt_of (isI := false) 10 bk_X10_tally me_X10_tally (plainFor_of_name (by decide +kernel)) (by decide +kernel) (fun h => by cases h) ok_X10_tally hca body
