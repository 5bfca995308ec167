/-! blocks, by a program -/
def bk_X10_report : pm_B := [(0, [(.aload_n 0, 1, 0, 0, 0), (.getfield 12, 3, 10, 0, 0), (.getfield 80, 3, 9, 4, 0), (.astore 5, 2, 5, 0, 0), (.aload 5, 2, 5, 0, 0), (.iload_n 1, 1, 1, 0, 0), (.iload_n 2, 1, 2, 0, 0), (.invokevirtual 111, 3, 14, 2, 7), (.ifCond .ne 5, 3, 21, 0, 0), (.iconst (-1), 1, 0, 0, -1), (.ireturn, 1, 0, 0, 0)], 21),
  (21, [(.aload_n 0, 1, 0, 0, 0), (.getfield 26, 3, 10, 2, 0), (.aload 5, 2, 5, 0, 0), (.iload_n 1, 1, 1, 0, 0), (.iload_n 2, 1, 2, 0, 0), (.iload_n 3, 1, 3, 0, 0), (.invokevirtual 197, 3, 66, 4, 0), (.istore 6, 2, 6, 0, 0), (.iload 4, 2, 4, 0, 0), (.tableswitch 48 0 2 #[27, 30, 39], 27, 37, 0, 0)], 64),
  (64, [(.iload 6, 2, 6, 0, 0), (.ireturn, 1, 0, 0, 0)], 67),
  (67, [(.aload 5, 2, 5, 0, 0), (.iload 6, 2, 6, 0, 0), (.iconst 0, 1, 0, 0, 0), (.invokevirtual 143, 3, 44, 2, 7), (.ireturn, 1, 0, 0, 0)], 76),
  (76, [(.aload 5, 2, 5, 0, 0), (.iload 6, 2, 6, 0, 0), (.iconst 2, 1, 0, 0, 2), (.invokevirtual 143, 3, 44, 2, 7), (.ireturn, 1, 0, 0, 0)], 85),
  (85, [(.iconst (-1), 1, 0, 0, -1), (.ireturn, 1, 0, 0, 0)], 87)]
set_option maxRecDepth 100000 in
theorem ok_X10_report : pm_oks 10 false 7 (some .int) cX10_report bk_X10_report = true := oksF_ok (by decide +kernel)
set_option maxRecDepth 100000 in
theorem me_X10_report : pm_me 65 = (yX10_report, cX10_report, 7, (some .int), 4, 0) := rfl
theorem mt_X10_report {l : Launch} {g : pm_G} {d mc ms : Nat} {as : List Value} {A : pm_H} {Q : Option Value → pm_H → Prop} (hca : pm_cat 7 as = true) (body : ∀ J : pm_J, pm_Cl l g (fun _ => none) d mc ms (pm_Rq mc ms Q) bk_X10_report J → J 0 (pm_l0 7 as) [] A 0 0) : pm_Mt l g 65 d mc ms as A Q := pm_Mt_of (isI := false) 10 bk_X10_report me_X10_report (plainFor_of_name (by decide +kernel)) (by decide +kernel) (fun h => by cases h) ok_X10_report hca body
def bk_X10_kth : pm_B := [(0, [(.aload_n 0, 1, 0, 0, 0), (.iload_n 1, 1, 1, 0, 0), (.iload_n 2, 1, 2, 0, 0), (.invokevirtual 182, 3, 59, 2, 10), (.ifCond .eq 29, 3, 35, 0, 0), (.aload_n 0, 1, 0, 0, 0), (.getfield 26, 3, 10, 2, 0), (.aload_n 0, 1, 0, 0, 0), (.getfield 12, 3, 10, 0, 0), (.getfield 80, 3, 9, 4, 0), (.aload_n 0, 1, 0, 0, 0), (.getfield 19, 3, 10, 1, 0), (.iload_n 1, 1, 1, 0, 0), (.iload_n 2, 1, 2, 0, 0), (.iload_n 3, 1, 3, 0, 0), (.iload 4, 2, 4, 0, 0), (.invokevirtual 201, 3, 68, 6, 0), (.goto 4, 3, 36, 0, 0)], 35),
  (35, [(.iconst (-1), 1, 0, 0, -1)], 36),
  (36, [(.ireturn, 1, 0, 0, 0)], 37)]
set_option maxRecDepth 100000 in
theorem ok_X10_kth : pm_oks 10 false 5 (some .int) cX10_kth bk_X10_kth = true := oksF_ok (by decide +kernel)
set_option maxRecDepth 100000 in
theorem me_X10_kth : pm_me 67 = (yX10_kth, cX10_kth, 5, (some .int), 4, 0) := rfl
theorem mt_X10_kth {l : Launch} {g : pm_G} {d mc ms : Nat} {as : List Value} {A : pm_H} {Q : Option Value → pm_H → Prop} (hca : pm_cat 5 as = true) (body : ∀ J : pm_J, pm_Cl l g (fun _ => none) d mc ms (pm_Rq mc ms Q) bk_X10_kth J → J 0 (pm_l0 5 as) [] A 0 0) : pm_Mt l g 67 d mc ms as A Q := pm_Mt_of (isI := false) 10 bk_X10_kth me_X10_kth (plainFor_of_name (by decide +kernel)) (by decide +kernel) (fun h => by cases h) ok_X10_kth hca body
def bk_X10_absent : pm_B := [(0, [(.aload_n 0, 1, 0, 0, 0), (.iload_n 1, 1, 1, 0, 0), (.iload_n 2, 1, 2, 0, 0), (.invokevirtual 182, 3, 59, 2, 10), (.ifCond .eq 26, 3, 32, 0, 0), (.aload_n 0, 1, 0, 0, 0), (.getfield 26, 3, 10, 2, 0), (.ldc 205, 2, 0, 0, 16777215), (.aload_n 0, 1, 0, 0, 0), (.getfield 19, 3, 10, 1, 0), (.getfield 188, 3, 2, 4, 0), (.iconst (-1), 1, 0, 0, -1), (.ixor, 1, 0, 0, 0), (.iand, 1, 0, 0, 0), (.iload_n 3, 1, 3, 0, 0), (.invokevirtual 206, 3, 71, 2, 0), (.goto 4, 3, 33, 0, 0)], 32),
  (32, [(.iconst (-1), 1, 0, 0, -1)], 33),
  (33, [(.ireturn, 1, 0, 0, 0)], 34)]
set_option maxRecDepth 100000 in
theorem ok_X10_absent : pm_oks 10 false 4 (some .int) cX10_absent bk_X10_absent = true := oksF_ok (by decide +kernel)
set_option maxRecDepth 100000 in
theorem me_X10_absent : pm_me 73 = (yX10_absent, cX10_absent, 4, (some .int), 3, 0) := rfl
theorem mt_X10_absent {l : Launch} {g : pm_G} {d mc ms : Nat} {as : List Value} {A : pm_H} {Q : Option Value → pm_H → Prop} (hca : pm_cat 4 as = true) (body : ∀ J : pm_J, pm_Cl l g (fun _ => none) d mc ms (pm_Rq mc ms Q) bk_X10_absent J → J 0 (pm_l0 4 as) [] A 0 0) : pm_Mt l g 73 d mc ms as A Q := pm_Mt_of (isI := false) 10 bk_X10_absent me_X10_absent (plainFor_of_name (by decide +kernel)) (by decide +kernel) (fun h => by cases h) ok_X10_absent hca body
def bk_X10_both : pm_B := [(0, [(.aload_n 0, 1, 0, 0, 0), (.iload_n 1, 1, 1, 0, 0), (.iload_n 2, 1, 2, 0, 0), (.invokevirtual 182, 3, 59, 2, 10), (.ifCond .ne 5, 3, 11, 0, 0), (.iconst (-1), 1, 0, 0, -1), (.ireturn, 1, 0, 0, 0)], 11),
  (11, [(.aload_n 0, 1, 0, 0, 0), (.getfield 19, 3, 10, 1, 0), (.getfield 188, 3, 2, 4, 0), (.istore 6, 2, 6, 0, 0), (.aload_n 0, 1, 0, 0, 0), (.iload_n 3, 1, 3, 0, 0), (.iload 4, 2, 4, 0, 0), (.invokevirtual 182, 3, 59, 2, 10), (.ifCond .ne 5, 3, 32, 0, 0), (.iconst (-1), 1, 0, 0, -1), (.ireturn, 1, 0, 0, 0)], 32),
  (32, [(.aload_n 0, 1, 0, 0, 0), (.getfield 19, 3, 10, 1, 0), (.getfield 188, 3, 2, 4, 0), (.istore 7, 2, 7, 0, 0), (.iload 5, 2, 5, 0, 0), (.tableswitch 54 0 2 #[25, 34, 45], 25, 43, 0, 0)], 68),
  (68, [(.iload 6, 2, 6, 0, 0), (.iload 7, 2, 7, 0, 0), (.iand, 1, 0, 0, 0), (.invokestatic 209, 3, 75, 1, 0), (.ireturn, 1, 0, 0, 0)], 77),
  (77, [(.iload 6, 2, 6, 0, 0), (.iload 7, 2, 7, 0, 0), (.iconst (-1), 1, 0, 0, -1), (.ixor, 1, 0, 0, 0), (.iand, 1, 0, 0, 0), (.invokestatic 209, 3, 75, 1, 0), (.ireturn, 1, 0, 0, 0)], 88),
  (88, [(.iload 6, 2, 6, 0, 0), (.iload 7, 2, 7, 0, 0), (.ior, 1, 0, 0, 0), (.invokestatic 209, 3, 75, 1, 0), (.ireturn, 1, 0, 0, 0)], 97),
  (97, [(.iconst (-1), 1, 0, 0, -1), (.ireturn, 1, 0, 0, 0)], 99)]
set_option maxRecDepth 100000 in
theorem ok_X10_both : pm_oks 10 false 8 (some .int) cX10_both bk_X10_both = true := oksF_ok (by decide +kernel)
set_option maxRecDepth 100000 in
theorem me_X10_both : pm_me 74 = (yX10_both, cX10_both, 8, (some .int), 5, 0) := rfl
theorem mt_X10_both {l : Launch} {g : pm_G} {d mc ms : Nat} {as : List Value} {A : pm_H} {Q : Option Value → pm_H → Prop} (hca : pm_cat 8 as = true) (body : ∀ J : pm_J, pm_Cl l g (fun _ => none) d mc ms (pm_Rq mc ms Q) bk_X10_both J → J 0 (pm_l0 8 as) [] A 0 0) : pm_Mt l g 74 d mc ms as A Q := pm_Mt_of (isI := false) 10 bk_X10_both me_X10_both (plainFor_of_name (by decide +kernel)) (by decide +kernel) (fun h => by cases h) ok_X10_both hca body
def bk_X10_tally : pm_B := [(0, [(.iload_n 3, 1, 3, 0, 0), (.iconst 1, 1, 0, 0, 1), (.if_icmp .lt 23, 3, 25, 0, 0), (.aload_n 0, 1, 0, 0, 0), (.iload_n 1, 1, 1, 0, 0), (.iload_n 2, 1, 2, 0, 0), (.invokevirtual 182, 3, 59, 2, 10), (.ifCond .eq 14, 3, 25, 0, 0), (.aload_n 0, 1, 0, 0, 0), (.getfield 19, 3, 10, 1, 0), (.iload_n 3, 1, 3, 0, 0), (.invokevirtual 214, 3, 77, 1, 2), (.goto 4, 3, 26, 0, 0)], 25),
  (25, [(.iconst (-1), 1, 0, 0, -1)], 26),
  (26, [(.ireturn, 1, 0, 0, 0)], 27)]
set_option maxRecDepth 100000 in
theorem ok_X10_tally : pm_oks 10 false 4 (some .int) cX10_tally bk_X10_tally = true := oksF_ok (by decide +kernel)
set_option maxRecDepth 100000 in
theorem me_X10_tally : pm_me 76 = (yX10_tally, cX10_tally, 4, (some .int), 3, 0) := rfl
theorem mt_X10_tally {l : Launch} {g : pm_G} {d mc ms : Nat} {as : List Value} {A : pm_H} {Q : Option Value → pm_H → Prop} (hca : pm_cat 4 as = true) (body : ∀ J : pm_J, pm_Cl l g (fun _ => none) d mc ms (pm_Rq mc ms Q) bk_X10_tally J → J 0 (pm_l0 4 as) [] A 0 0) : pm_Mt l g 76 d mc ms as A Q := pm_Mt_of (isI := false) 10 bk_X10_tally me_X10_tally (plainFor_of_name (by decide +kernel)) (by decide +kernel) (fun h => by cases h) ok_X10_tally hca body
def bk_X10_major : pm_B := [(0, [(.aload_n 0, 1, 0, 0, 0), (.iload_n 1, 1, 1, 0, 0), (.iload_n 2, 1, 2, 0, 0), (.invokevirtual 182, 3, 59, 2, 10), (.ifCond .eq 22, 3, 28, 0, 0), (.aload_n 0, 1, 0, 0, 0), (.getfield 26, 3, 10, 2, 0), (.aload_n 0, 1, 0, 0, 0), (.getfield 19, 3, 10, 1, 0), (.iconst 2, 1, 0, 0, 2), (.invokevirtual 217, 3, 79, 1, 2), (.iconst 0, 1, 0, 0, 0), (.invokevirtual 206, 3, 71, 2, 0), (.goto 4, 3, 29, 0, 0)], 28),
  (28, [(.iconst (-1), 1, 0, 0, -1)], 29),
  (29, [(.ireturn, 1, 0, 0, 0)], 30)]
set_option maxRecDepth 100000 in
theorem ok_X10_major : pm_oks 10 false 3 (some .int) cX10_major bk_X10_major = true := oksF_ok (by decide +kernel)
set_option maxRecDepth 100000 in
theorem me_X10_major : pm_me 78 = (yX10_major, cX10_major, 3, (some .int), 2, 0) := rfl
theorem mt_X10_major {l : Launch} {g : pm_G} {d mc ms : Nat} {as : List Value} {A : pm_H} {Q : Option Value → pm_H → Prop} (hca : pm_cat 3 as = true) (body : ∀ J : pm_J, pm_Cl l g (fun _ => none) d mc ms (pm_Rq mc ms Q) bk_X10_major J → J 0 (pm_l0 3 as) [] A 0 0) : pm_Mt l g 78 d mc ms as A Q := pm_Mt_of (isI := false) 10 bk_X10_major me_X10_major (plainFor_of_name (by decide +kernel)) (by decide +kernel) (fun h => by cases h) ok_X10_major hca body
def bk_X10_close : pm_B := [(0, [(.aload_n 0, 1, 0, 0, 0), (.getfield 12, 3, 10, 0, 0), (.getfield 80, 3, 9, 4, 0), (.astore 4, 2, 4, 0, 0), (.aload 4, 2, 4, 0, 0), (.iload_n 1, 1, 1, 0, 0), (.iload_n 2, 1, 2, 0, 0), (.invokevirtual 111, 3, 14, 2, 7), (.ifCond .ne 5, 3, 21, 0, 0), (.iconst (-1), 1, 0, 0, -1), (.ireturn, 1, 0, 0, 0)], 21),
  (21, [(.aload_n 0, 1, 0, 0, 0), (.getfield 33, 3, 10, 3, 0), (.aload 4, 2, 4, 0, 0), (.iload_n 1, 1, 1, 0, 0), (.iload_n 2, 1, 2, 0, 0), (.invokevirtual 220, 3, 81, 3, 1), (.aload_n 0, 1, 0, 0, 0), (.getfield 33, 3, 10, 3, 0), (.iload_n 3, 1, 3, 0, 0), (.invokevirtual 223, 3, 84, 1, 1), (.ireturn, 1, 0, 0, 0)], 41)]
set_option maxRecDepth 100000 in
theorem ok_X10_close : pm_oks 10 false 5 (some .int) cX10_close bk_X10_close = true := oksF_ok (by decide +kernel)
set_option maxRecDepth 100000 in
theorem me_X10_close : pm_me 80 = (yX10_close, cX10_close, 5, (some .int), 3, 0) := rfl
theorem mt_X10_close {l : Launch} {g : pm_G} {d mc ms : Nat} {as : List Value} {A : pm_H} {Q : Option Value → pm_H → Prop} (hca : pm_cat 5 as = true) (body : ∀ J : pm_J, pm_Cl l g (fun _ => none) d mc ms (pm_Rq mc ms Q) bk_X10_close J → J 0 (pm_l0 5 as) [] A 0 0) : pm_Mt l g 80 d mc ms as A Q := pm_Mt_of (isI := false) 10 bk_X10_close me_X10_close (plainFor_of_name (by decide +kernel)) (by decide +kernel) (fun h => by cases h) ok_X10_close hca body
def bk_X10_sides : pm_B := [(0, [(.aload_n 0, 1, 0, 0, 0), (.getfield 12, 3, 10, 0, 0), (.getfield 80, 3, 9, 4, 0), (.astore_n 3, 1, 3, 0, 0), (.aload_n 3, 1, 3, 0, 0), (.iload_n 1, 1, 1, 0, 0), (.iload_n 2, 1, 2, 0, 0), (.invokevirtual 111, 3, 14, 2, 7), (.ifCond .eq 16, 3, 30, 0, 0), (.aload_n 0, 1, 0, 0, 0), (.getfield 33, 3, 10, 3, 0), (.aload_n 3, 1, 3, 0, 0), (.iload_n 1, 1, 1, 0, 0), (.iload_n 2, 1, 2, 0, 0), (.invokevirtual 226, 3, 86, 3, 1), (.goto 4, 3, 31, 0, 0)], 30),
  (30, [(.iconst (-1), 1, 0, 0, -1)], 31),
  (31, [(.ireturn, 1, 0, 0, 0)], 32)]
set_option maxRecDepth 100000 in
theorem ok_X10_sides : pm_oks 10 false 4 (some .int) cX10_sides bk_X10_sides = true := oksF_ok (by decide +kernel)
set_option maxRecDepth 100000 in
theorem me_X10_sides : pm_me 85 = (yX10_sides, cX10_sides, 4, (some .int), 2, 0) := rfl
theorem mt_X10_sides {l : Launch} {g : pm_G} {d mc ms : Nat} {as : List Value} {A : pm_H} {Q : Option Value → pm_H → Prop} (hca : pm_cat 4 as = true) (body : ∀ J : pm_J, pm_Cl l g (fun _ => none) d mc ms (pm_Rq mc ms Q) bk_X10_sides J → J 0 (pm_l0 4 as) [] A 0 0) : pm_Mt l g 85 d mc ms as A Q := pm_Mt_of (isI := false) 10 bk_X10_sides me_X10_sides (plainFor_of_name (by decide +kernel)) (by decide +kernel) (fun h => by cases h) ok_X10_sides hca body
def bk_X10_cover : pm_B := [(0, [(.aload_n 0, 1, 0, 0, 0), (.getfield 12, 3, 10, 0, 0), (.getfield 80, 3, 9, 4, 0), (.astore_n 3, 1, 3, 0, 0), (.aload_n 3, 1, 3, 0, 0), (.iload_n 1, 1, 1, 0, 0), (.iload_n 2, 1, 2, 0, 0), (.invokevirtual 111, 3, 14, 2, 7), (.ifCond .eq 20, 3, 34, 0, 0), (.aload_n 0, 1, 0, 0, 0), (.getfield 33, 3, 10, 3, 0), (.aload_n 3, 1, 3, 0, 0), (.aload_n 0, 1, 0, 0, 0), (.getfield 19, 3, 10, 1, 0), (.iload_n 1, 1, 1, 0, 0), (.iload_n 2, 1, 2, 0, 0), (.invokevirtual 229, 3, 89, 4, 1), (.goto 4, 3, 35, 0, 0)], 34),
  (34, [(.iconst (-1), 1, 0, 0, -1)], 35),
  (35, [(.ireturn, 1, 0, 0, 0)], 36)]
set_option maxRecDepth 100000 in
theorem ok_X10_cover : pm_oks 10 false 4 (some .int) cX10_cover bk_X10_cover = true := oksF_ok (by decide +kernel)
set_option maxRecDepth 100000 in
theorem me_X10_cover : pm_me 88 = (yX10_cover, cX10_cover, 4, (some .int), 2, 0) := rfl
theorem mt_X10_cover {l : Launch} {g : pm_G} {d mc ms : Nat} {as : List Value} {A : pm_H} {Q : Option Value → pm_H → Prop} (hca : pm_cat 4 as = true) (body : ∀ J : pm_J, pm_Cl l g (fun _ => none) d mc ms (pm_Rq mc ms Q) bk_X10_cover J → J 0 (pm_l0 4 as) [] A 0 0) : pm_Mt l g 88 d mc ms as A Q := pm_Mt_of (isI := false) 10 bk_X10_cover me_X10_cover (plainFor_of_name (by decide +kernel)) (by decide +kernel) (fun h => by cases h) ok_X10_cover hca body
def bk_X10_least : pm_B := [(0, [(.iload_n 3, 1, 3, 0, 0), (.iconst 1, 1, 0, 0, 1), (.if_icmp .lt 31, 3, 33, 0, 0), (.aload_n 0, 1, 0, 0, 0), (.iload_n 1, 1, 1, 0, 0), (.iload_n 2, 1, 2, 0, 0), (.invokevirtual 182, 3, 59, 2, 10), (.ifCond .eq 22, 3, 33, 0, 0), (.aload_n 0, 1, 0, 0, 0), (.getfield 19, 3, 10, 1, 0), (.getfield 233, 3, 2, 2, 0), (.aload_n 0, 1, 0, 0, 0), (.getfield 19, 3, 10, 1, 0), (.iload_n 3, 1, 3, 0, 0), (.invokevirtual 236, 3, 91, 1, 2), (.isub, 1, 0, 0, 0), (.goto 4, 3, 34, 0, 0)], 33),
  (33, [(.iconst (-1), 1, 0, 0, -1)], 34),
  (34, [(.ireturn, 1, 0, 0, 0)], 35)]
set_option maxRecDepth 100000 in
theorem ok_X10_least : pm_oks 10 false 4 (some .int) cX10_least bk_X10_least = true := oksF_ok (by decide +kernel)
set_option maxRecDepth 100000 in
theorem me_X10_least : pm_me 90 = (yX10_least, cX10_least, 4, (some .int), 3, 0) := rfl
theorem mt_X10_least {l : Launch} {g : pm_G} {d mc ms : Nat} {as : List Value} {A : pm_H} {Q : Option Value → pm_H → Prop} (hca : pm_cat 4 as = true) (body : ∀ J : pm_J, pm_Cl l g (fun _ => none) d mc ms (pm_Rq mc ms Q) bk_X10_least J → J 0 (pm_l0 4 as) [] A 0 0) : pm_Mt l g 90 d mc ms as A Q := pm_Mt_of (isI := false) 10 bk_X10_least me_X10_least (plainFor_of_name (by decide +kernel)) (by decide +kernel) (fun h => by cases h) ok_X10_least hca body
def bk_X10_fair : pm_B := [(0, [(.iload_n 3, 1, 3, 0, 0), (.iconst 1, 1, 0, 0, 1), (.if_icmp .lt 23, 3, 25, 0, 0), (.aload_n 0, 1, 0, 0, 0), (.iload_n 1, 1, 1, 0, 0), (.iload_n 2, 1, 2, 0, 0), (.invokevirtual 182, 3, 59, 2, 10), (.ifCond .eq 14, 3, 25, 0, 0), (.aload_n 0, 1, 0, 0, 0), (.getfield 19, 3, 10, 1, 0), (.iload_n 3, 1, 3, 0, 0), (.invokevirtual 217, 3, 79, 1, 2), (.goto 4, 3, 26, 0, 0)], 25),
  (25, [(.iconst (-1), 1, 0, 0, -1)], 26),
  (26, [(.ireturn, 1, 0, 0, 0)], 27)]
set_option maxRecDepth 100000 in
theorem ok_X10_fair : pm_oks 10 false 4 (some .int) cX10_fair bk_X10_fair = true := oksF_ok (by decide +kernel)
set_option maxRecDepth 100000 in
theorem me_X10_fair : pm_me 93 = (yX10_fair, cX10_fair, 4, (some .int), 3, 0) := rfl
theorem mt_X10_fair {l : Launch} {g : pm_G} {d mc ms : Nat} {as : List Value} {A : pm_H} {Q : Option Value → pm_H → Prop} (hca : pm_cat 4 as = true) (body : ∀ J : pm_J, pm_Cl l g (fun _ => none) d mc ms (pm_Rq mc ms Q) bk_X10_fair J → J 0 (pm_l0 4 as) [] A 0 0) : pm_Mt l g 93 d mc ms as A Q := pm_Mt_of (isI := false) 10 bk_X10_fair me_X10_fair (plainFor_of_name (by decide +kernel)) (by decide +kernel) (fun h => by cases h) ok_X10_fair hca body
def bk_X10_alike : pm_B := [(0, [(.aload_n 0, 1, 0, 0, 0), (.iload_n 1, 1, 1, 0, 0), (.iload_n 2, 1, 2, 0, 0), (.invokevirtual 182, 3, 59, 2, 10), (.ifCond .eq 13, 3, 19, 0, 0), (.aload_n 0, 1, 0, 0, 0), (.getfield 19, 3, 10, 1, 0), (.invokevirtual 239, 3, 95, 0, 2), (.goto 4, 3, 20, 0, 0)], 19),
  (19, [(.iconst (-1), 1, 0, 0, -1)], 20),
  (20, [(.ireturn, 1, 0, 0, 0)], 21)]
set_option maxRecDepth 100000 in
theorem ok_X10_alike : pm_oks 10 false 3 (some .int) cX10_alike bk_X10_alike = true := oksF_ok (by decide +kernel)
set_option maxRecDepth 100000 in
theorem me_X10_alike : pm_me 94 = (yX10_alike, cX10_alike, 3, (some .int), 2, 0) := rfl
theorem mt_X10_alike {l : Launch} {g : pm_G} {d mc ms : Nat} {as : List Value} {A : pm_H} {Q : Option Value → pm_H → Prop} (hca : pm_cat 3 as = true) (body : ∀ J : pm_J, pm_Cl l g (fun _ => none) d mc ms (pm_Rq mc ms Q) bk_X10_alike J → J 0 (pm_l0 3 as) [] A 0 0) : pm_Mt l g 94 d mc ms as A Q := pm_Mt_of (isI := false) 10 bk_X10_alike me_X10_alike (plainFor_of_name (by decide +kernel)) (by decide +kernel) (fun h => by cases h) ok_X10_alike hca body
def bk_X10_even : pm_B := [(0, [(.aload_n 0, 1, 0, 0, 0), (.getfield 12, 3, 10, 0, 0), (.getfield 80, 3, 9, 4, 0), (.astore_n 3, 1, 3, 0, 0), (.aload_n 3, 1, 3, 0, 0), (.iload_n 1, 1, 1, 0, 0), (.iload_n 2, 1, 2, 0, 0), (.invokevirtual 111, 3, 14, 2, 7), (.ifCond .eq 20, 3, 34, 0, 0), (.aload_n 0, 1, 0, 0, 0), (.getfield 33, 3, 10, 3, 0), (.aload_n 3, 1, 3, 0, 0), (.aload_n 0, 1, 0, 0, 0), (.getfield 19, 3, 10, 1, 0), (.iload_n 1, 1, 1, 0, 0), (.iload_n 2, 1, 2, 0, 0), (.invokevirtual 242, 3, 97, 4, 1), (.goto 4, 3, 35, 0, 0)], 34),
  (34, [(.iconst (-1), 1, 0, 0, -1)], 35),
  (35, [(.ireturn, 1, 0, 0, 0)], 36)]
set_option maxRecDepth 100000 in
theorem ok_X10_even : pm_oks 10 false 4 (some .int) cX10_even bk_X10_even = true := oksF_ok (by decide +kernel)
set_option maxRecDepth 100000 in
theorem me_X10_even : pm_me 96 = (yX10_even, cX10_even, 4, (some .int), 2, 0) := rfl
theorem mt_X10_even {l : Launch} {g : pm_G} {d mc ms : Nat} {as : List Value} {A : pm_H} {Q : Option Value → pm_H → Prop} (hca : pm_cat 4 as = true) (body : ∀ J : pm_J, pm_Cl l g (fun _ => none) d mc ms (pm_Rq mc ms Q) bk_X10_even J → J 0 (pm_l0 4 as) [] A 0 0) : pm_Mt l g 96 d mc ms as A Q := pm_Mt_of (isI := false) 10 bk_X10_even me_X10_even (plainFor_of_name (by decide +kernel)) (by decide +kernel) (fun h => by cases h) ok_X10_even hca body
def bk_X10_apart : pm_B := [(0, [(.iload_n 1, 1, 1, 0, 0), (.iload_n 2, 1, 2, 0, 0), (.invokestatic 130, 3, 38, 2, 0), (.ifCond .ne 5, 3, 10, 0, 0), (.iconst (-1), 1, 0, 0, -1), (.ireturn, 1, 0, 0, 0)], 10),
  (10, [(.aload_n 0, 1, 0, 0, 0), (.getfield 33, 3, 10, 3, 0), (.aload_n 0, 1, 0, 0, 0), (.getfield 12, 3, 10, 0, 0), (.getfield 80, 3, 9, 4, 0), (.iload_n 1, 1, 1, 0, 0), (.iload_n 2, 1, 2, 0, 0), (.invokevirtual 245, 3, 99, 3, 1), (.aload_n 0, 1, 0, 0, 0), (.getfield 33, 3, 10, 3, 0), (.iload_n 3, 1, 3, 0, 0), (.invokevirtual 223, 3, 84, 1, 1), (.ireturn, 1, 0, 0, 0)], 35)]
set_option maxRecDepth 100000 in
theorem ok_X10_apart : pm_oks 10 false 4 (some .int) cX10_apart bk_X10_apart = true := oksF_ok (by decide +kernel)
set_option maxRecDepth 100000 in
theorem me_X10_apart : pm_me 98 = (yX10_apart, cX10_apart, 4, (some .int), 3, 0) := rfl
theorem mt_X10_apart {l : Launch} {g : pm_G} {d mc ms : Nat} {as : List Value} {A : pm_H} {Q : Option Value → pm_H → Prop} (hca : pm_cat 4 as = true) (body : ∀ J : pm_J, pm_Cl l g (fun _ => none) d mc ms (pm_Rq mc ms Q) bk_X10_apart J → J 0 (pm_l0 4 as) [] A 0 0) : pm_Mt l g 98 d mc ms as A Q := pm_Mt_of (isI := false) 10 bk_X10_apart me_X10_apart (plainFor_of_name (by decide +kernel)) (by decide +kernel) (fun h => by cases h) ok_X10_apart hca body
def bk_X10_reach : pm_B := [(0, [(.aload_n 0, 1, 0, 0, 0), (.getfield 12, 3, 10, 0, 0), (.getfield 80, 3, 9, 4, 0), (.astore_n 3, 1, 3, 0, 0), (.iload_n 2, 1, 2, 0, 0), (.iconst 1, 1, 0, 0, 1), (.if_icmp .lt 28, 3, 38, 0, 0), (.aload_n 3, 1, 3, 0, 0), (.iload_n 1, 1, 1, 0, 0), (.invokevirtual 248, 3, 19, 1, 7), (.ifCond .eq 20, 3, 38, 0, 0), (.aload_n 0, 1, 0, 0, 0), (.getfield 40, 3, 10, 4, 0), (.aload_n 3, 1, 3, 0, 0), (.aload_n 0, 1, 0, 0, 0), (.getfield 19, 3, 10, 1, 0), (.iload_n 1, 1, 1, 0, 0), (.iload_n 2, 1, 2, 0, 0), (.invokevirtual 251, 3, 101, 4, 6), (.goto 4, 3, 39, 0, 0)], 38),
  (38, [(.iconst (-1), 1, 0, 0, -1)], 39),
  (39, [(.ireturn, 1, 0, 0, 0)], 40)]
set_option maxRecDepth 100000 in
theorem ok_X10_reach : pm_oks 10 false 4 (some .int) cX10_reach bk_X10_reach = true := oksF_ok (by decide +kernel)
set_option maxRecDepth 100000 in
theorem me_X10_reach : pm_me 100 = (yX10_reach, cX10_reach, 4, (some .int), 2, 0) := rfl
theorem mt_X10_reach {l : Launch} {g : pm_G} {d mc ms : Nat} {as : List Value} {A : pm_H} {Q : Option Value → pm_H → Prop} (hca : pm_cat 4 as = true) (body : ∀ J : pm_J, pm_Cl l g (fun _ => none) d mc ms (pm_Rq mc ms Q) bk_X10_reach J → J 0 (pm_l0 4 as) [] A 0 0) : pm_Mt l g 100 d mc ms as A Q := pm_Mt_of (isI := false) 10 bk_X10_reach me_X10_reach (plainFor_of_name (by decide +kernel)) (by decide +kernel) (fun h => by cases h) ok_X10_reach hca body
def bk_X10_reachBack : pm_B := [(0, [(.aload_n 0, 1, 0, 0, 0), (.getfield 12, 3, 10, 0, 0), (.getfield 80, 3, 9, 4, 0), (.astore_n 3, 1, 3, 0, 0), (.iload_n 2, 1, 2, 0, 0), (.iconst 1, 1, 0, 0, 1), (.if_icmp .lt 28, 3, 38, 0, 0), (.aload_n 3, 1, 3, 0, 0), (.iload_n 1, 1, 1, 0, 0), (.invokevirtual 248, 3, 19, 1, 7), (.ifCond .eq 20, 3, 38, 0, 0), (.aload_n 0, 1, 0, 0, 0), (.getfield 40, 3, 10, 4, 0), (.aload_n 3, 1, 3, 0, 0), (.aload_n 0, 1, 0, 0, 0), (.getfield 19, 3, 10, 1, 0), (.iload_n 1, 1, 1, 0, 0), (.iload_n 2, 1, 2, 0, 0), (.invokevirtual 254, 3, 103, 4, 6), (.goto 4, 3, 39, 0, 0)], 38),
  (38, [(.iconst (-1), 1, 0, 0, -1)], 39),
  (39, [(.ireturn, 1, 0, 0, 0)], 40)]
set_option maxRecDepth 100000 in
theorem ok_X10_reachBack : pm_oks 10 false 4 (some .int) cX10_reachBack bk_X10_reachBack = true := oksF_ok (by decide +kernel)
set_option maxRecDepth 100000 in
theorem me_X10_reachBack : pm_me 102 = (yX10_reachBack, cX10_reachBack, 4, (some .int), 2, 0) := rfl
theorem mt_X10_reachBack {l : Launch} {g : pm_G} {d mc ms : Nat} {as : List Value} {A : pm_H} {Q : Option Value → pm_H → Prop} (hca : pm_cat 4 as = true) (body : ∀ J : pm_J, pm_Cl l g (fun _ => none) d mc ms (pm_Rq mc ms Q) bk_X10_reachBack J → J 0 (pm_l0 4 as) [] A 0 0) : pm_Mt l g 102 d mc ms as A Q := pm_Mt_of (isI := false) 10 bk_X10_reachBack me_X10_reachBack (plainFor_of_name (by decide +kernel)) (by decide +kernel) (fun h => by cases h) ok_X10_reachBack hca body
def bk_X10_load : pm_B := [(0, [(.aload_n 0, 1, 0, 0, 0), (.getfield 12, 3, 10, 0, 0), (.getfield 80, 3, 9, 4, 0), (.astore_n 3, 1, 3, 0, 0), (.iload_n 2, 1, 2, 0, 0), (.iconst 1, 1, 0, 0, 1), (.if_icmp .lt 28, 3, 38, 0, 0), (.aload_n 3, 1, 3, 0, 0), (.iload_n 1, 1, 1, 0, 0), (.invokevirtual 248, 3, 19, 1, 7), (.ifCond .eq 20, 3, 38, 0, 0), (.aload_n 0, 1, 0, 0, 0), (.getfield 40, 3, 10, 4, 0), (.aload_n 3, 1, 3, 0, 0), (.aload_n 0, 1, 0, 0, 0), (.getfield 19, 3, 10, 1, 0), (.iload_n 1, 1, 1, 0, 0), (.iload_n 2, 1, 2, 0, 0), (.invokevirtual 257, 3, 105, 4, 6), (.goto 4, 3, 39, 0, 0)], 38),
  (38, [(.iconst (-1), 1, 0, 0, -1)], 39),
  (39, [(.ireturn, 1, 0, 0, 0)], 40)]
set_option maxRecDepth 100000 in
theorem ok_X10_load : pm_oks 10 false 4 (some .int) cX10_load bk_X10_load = true := oksF_ok (by decide +kernel)
set_option maxRecDepth 100000 in
theorem me_X10_load : pm_me 104 = (yX10_load, cX10_load, 4, (some .int), 2, 0) := rfl
theorem mt_X10_load {l : Launch} {g : pm_G} {d mc ms : Nat} {as : List Value} {A : pm_H} {Q : Option Value → pm_H → Prop} (hca : pm_cat 4 as = true) (body : ∀ J : pm_J, pm_Cl l g (fun _ => none) d mc ms (pm_Rq mc ms Q) bk_X10_load J → J 0 (pm_l0 4 as) [] A 0 0) : pm_Mt l g 104 d mc ms as A Q := pm_Mt_of (isI := false) 10 bk_X10_load me_X10_load (plainFor_of_name (by decide +kernel)) (by decide +kernel) (fun h => by cases h) ok_X10_load hca body
def bk_X10_window : pm_B := [(0, [(.iload_n 1, 1, 1, 0, 0), (.ldc 205, 2, 0, 0, 16777215), (.iand, 1, 0, 0, 0), (.istore_n 3, 1, 3, 0, 0), (.iload_n 3, 1, 3, 0, 0), (.ifCond .ne 5, 3, 11, 0, 0), (.iconst (-1), 1, 0, 0, -1), (.ireturn, 1, 0, 0, 0)], 11),
  (11, [(.aload_n 0, 1, 0, 0, 0), (.getfield 40, 3, 10, 4, 0), (.aload_n 0, 1, 0, 0, 0), (.getfield 12, 3, 10, 0, 0), (.getfield 80, 3, 9, 4, 0), (.iload_n 3, 1, 3, 0, 0), (.invokevirtual 260, 3, 107, 2, 6), (.iload_n 2, 1, 2, 0, 0), (.iconst 2, 1, 0, 0, 2), (.if_icmp .ne 13, 3, 41, 0, 0), (.aload_n 0, 1, 0, 0, 0), (.getfield 40, 3, 10, 4, 0), (.getfield 264, 3, 6, 4, 0), (.goto 11, 3, 49, 0, 0)], 41),
  (41, [(.aload_n 0, 1, 0, 0, 0), (.getfield 40, 3, 10, 4, 0), (.iload_n 2, 1, 2, 0, 0), (.invokevirtual 267, 3, 110, 1, 6)], 49),
  (49, [(.ireturn, 1, 0, 0, 0)], 50)]
set_option maxRecDepth 100000 in
theorem ok_X10_window : pm_oks 10 false 4 (some .int) cX10_window bk_X10_window = true := oksF_ok (by decide +kernel)
set_option maxRecDepth 100000 in
theorem me_X10_window : pm_me 106 = (yX10_window, cX10_window, 4, (some .int), 2, 0) := rfl
theorem mt_X10_window {l : Launch} {g : pm_G} {d mc ms : Nat} {as : List Value} {A : pm_H} {Q : Option Value → pm_H → Prop} (hca : pm_cat 4 as = true) (body : ∀ J : pm_J, pm_Cl l g (fun _ => none) d mc ms (pm_Rq mc ms Q) bk_X10_window J → J 0 (pm_l0 4 as) [] A 0 0) : pm_Mt l g 106 d mc ms as A Q := pm_Mt_of (isI := false) 10 bk_X10_window me_X10_window (plainFor_of_name (by decide +kernel)) (by decide +kernel) (fun h => by cases h) ok_X10_window hca body
def bk_X10_longest : pm_B := [(0, [(.iload_n 1, 1, 1, 0, 0), (.iconst 1, 1, 0, 0, 1), (.if_icmp .ge 5, 3, 7, 0, 0), (.iconst (-1), 1, 0, 0, -1), (.ireturn, 1, 0, 0, 0)], 7),
  (7, [(.aload_n 0, 1, 0, 0, 0), (.getfield 40, 3, 10, 4, 0), (.aload_n 0, 1, 0, 0, 0), (.getfield 12, 3, 10, 0, 0), (.getfield 80, 3, 9, 4, 0), (.aload_n 0, 1, 0, 0, 0), (.getfield 19, 3, 10, 1, 0), (.iload_n 1, 1, 1, 0, 0), (.invokevirtual 270, 3, 112, 3, 6), (.aload_n 0, 1, 0, 0, 0), (.getfield 40, 3, 10, 4, 0), (.iload_n 2, 1, 2, 0, 0), (.invokevirtual 267, 3, 110, 1, 6), (.ireturn, 1, 0, 0, 0)], 35)]
set_option maxRecDepth 100000 in
theorem ok_X10_longest : pm_oks 10 false 3 (some .int) cX10_longest bk_X10_longest = true := oksF_ok (by decide +kernel)
set_option maxRecDepth 100000 in
theorem me_X10_longest : pm_me 111 = (yX10_longest, cX10_longest, 3, (some .int), 2, 0) := rfl
theorem mt_X10_longest {l : Launch} {g : pm_G} {d mc ms : Nat} {as : List Value} {A : pm_H} {Q : Option Value → pm_H → Prop} (hca : pm_cat 3 as = true) (body : ∀ J : pm_J, pm_Cl l g (fun _ => none) d mc ms (pm_Rq mc ms Q) bk_X10_longest J → J 0 (pm_l0 3 as) [] A 0 0) : pm_Mt l g 111 d mc ms as A Q := pm_Mt_of (isI := false) 10 bk_X10_longest me_X10_longest (plainFor_of_name (by decide +kernel)) (by decide +kernel) (fun h => by cases h) ok_X10_longest hca body
def bk_X10_unlike : pm_B := [(0, [(.aload_n 0, 1, 0, 0, 0), (.getfield 40, 3, 10, 4, 0), (.aload_n 0, 1, 0, 0, 0), (.getfield 12, 3, 10, 0, 0), (.getfield 80, 3, 9, 4, 0), (.invokevirtual 274, 3, 116, 1, 6), (.aload_n 0, 1, 0, 0, 0), (.getfield 40, 3, 10, 4, 0), (.iload_n 1, 1, 1, 0, 0), (.invokevirtual 267, 3, 110, 1, 6), (.ireturn, 1, 0, 0, 0)], 23)]
set_option maxRecDepth 100000 in
theorem ok_X10_unlike : pm_oks 10 false 2 (some .int) cX10_unlike bk_X10_unlike = true := oksF_ok (by decide +kernel)
set_option maxRecDepth 100000 in
theorem me_X10_unlike : pm_me 115 = (yX10_unlike, cX10_unlike, 2, (some .int), 1, 0) := rfl
theorem mt_X10_unlike {l : Launch} {g : pm_G} {d mc ms : Nat} {as : List Value} {A : pm_H} {Q : Option Value → pm_H → Prop} (hca : pm_cat 2 as = true) (body : ∀ J : pm_J, pm_Cl l g (fun _ => none) d mc ms (pm_Rq mc ms Q) bk_X10_unlike J → J 0 (pm_l0 2 as) [] A 0 0) : pm_Mt l g 115 d mc ms as A Q := pm_Mt_of (isI := false) 10 bk_X10_unlike me_X10_unlike (plainFor_of_name (by decide +kernel)) (by decide +kernel) (fun h => by cases h) ok_X10_unlike hca body
def bk_X10_heaviest : pm_B := [(0, [(.iload_n 1, 1, 1, 0, 0), (.iconst 1, 1, 0, 0, 1), (.if_icmp .lt 17, 3, 19, 0, 0), (.iload_n 1, 1, 1, 0, 0), (.aload_n 0, 1, 0, 0, 0), (.getfield 12, 3, 10, 0, 0), (.getfield 80, 3, 9, 4, 0), (.getfield 103, 3, 7, 3, 0), (.if_icmp .le 5, 3, 21, 0, 0)], 19),
  (19, [(.iconst (-1), 1, 0, 0, -1), (.ireturn, 1, 0, 0, 0)], 21),
  (21, [(.aload_n 0, 1, 0, 0, 0), (.getfield 40, 3, 10, 4, 0), (.aload_n 0, 1, 0, 0, 0), (.getfield 12, 3, 10, 0, 0), (.getfield 80, 3, 9, 4, 0), (.aload_n 0, 1, 0, 0, 0), (.getfield 19, 3, 10, 1, 0), (.iload_n 1, 1, 1, 0, 0), (.invokevirtual 278, 3, 118, 3, 6), (.iload_n 2, 1, 2, 0, 0), (.ifCond .ne 13, 3, 54, 0, 0), (.aload_n 0, 1, 0, 0, 0), (.getfield 40, 3, 10, 4, 0), (.getfield 281, 3, 6, 1, 0), (.goto 19, 3, 70, 0, 0)], 54),
  (54, [(.iload_n 2, 1, 2, 0, 0), (.iconst 1, 1, 0, 0, 1), (.if_icmp .ne 13, 3, 69, 0, 0), (.aload_n 0, 1, 0, 0, 0), (.getfield 40, 3, 10, 4, 0), (.getfield 284, 3, 6, 3, 0), (.goto 4, 3, 70, 0, 0)], 69),
  (69, [(.iconst (-1), 1, 0, 0, -1)], 70),
  (70, [(.ireturn, 1, 0, 0, 0)], 71)]
set_option maxRecDepth 100000 in
theorem ok_X10_heaviest : pm_oks 10 false 3 (some .int) cX10_heaviest bk_X10_heaviest = true := oksF_ok (by decide +kernel)
set_option maxRecDepth 100000 in
theorem me_X10_heaviest : pm_me 117 = (yX10_heaviest, cX10_heaviest, 3, (some .int), 2, 0) := rfl
theorem mt_X10_heaviest {l : Launch} {g : pm_G} {d mc ms : Nat} {as : List Value} {A : pm_H} {Q : Option Value → pm_H → Prop} (hca : pm_cat 3 as = true) (body : ∀ J : pm_J, pm_Cl l g (fun _ => none) d mc ms (pm_Rq mc ms Q) bk_X10_heaviest J → J 0 (pm_l0 3 as) [] A 0 0) : pm_Mt l g 117 d mc ms as A Q := pm_Mt_of (isI := false) 10 bk_X10_heaviest me_X10_heaviest (plainFor_of_name (by decide +kernel)) (by decide +kernel) (fun h => by cases h) ok_X10_heaviest hca body
def bk_X10_distance : pm_B := [(0, [(.aload_n 0, 1, 0, 0, 0), (.getfield 12, 3, 10, 0, 0), (.getfield 80, 3, 9, 4, 0), (.astore_n 2, 1, 2, 0, 0), (.aload_n 2, 1, 2, 0, 0), (.iload_n 1, 1, 1, 0, 0), (.invokevirtual 248, 3, 19, 1, 7), (.ifCond .eq 13, 3, 26, 0, 0), (.aload_n 2, 1, 2, 0, 0), (.getfield 287, 3, 7, 2, 0), (.iload_n 1, 1, 1, 0, 0), (.iaload, 1, 0, 0, 0), (.iconst (-1), 1, 0, 0, -1), (.if_icmp .ne 5, 3, 28, 0, 0)], 26),
  (26, [(.iconst (-1), 1, 0, 0, -1), (.ireturn, 1, 0, 0, 0)], 28),
  (28, [(.aload_n 0, 1, 0, 0, 0), (.aload_n 2, 1, 2, 0, 0), (.aload_n 2, 1, 2, 0, 0), (.getfield 287, 3, 7, 2, 0), (.iload_n 1, 1, 1, 0, 0), (.iaload, 1, 0, 0, 0), (.iconst 1, 1, 0, 0, 1), (.iadd, 1, 0, 0, 0), (.iload_n 1, 1, 1, 0, 0), (.iconst 1, 1, 0, 0, 1), (.isub, 1, 0, 0, 0), (.invokevirtual 159, 3, 54, 3, 10), (.ireturn, 1, 0, 0, 0)], 45)]
set_option maxRecDepth 100000 in
theorem ok_X10_distance : pm_oks 10 false 3 (some .int) cX10_distance bk_X10_distance = true := oksF_ok (by decide +kernel)
set_option maxRecDepth 100000 in
theorem me_X10_distance : pm_me 119 = (yX10_distance, cX10_distance, 3, (some .int), 1, 0) := rfl
theorem mt_X10_distance {l : Launch} {g : pm_G} {d mc ms : Nat} {as : List Value} {A : pm_H} {Q : Option Value → pm_H → Prop} (hca : pm_cat 3 as = true) (body : ∀ J : pm_J, pm_Cl l g (fun _ => none) d mc ms (pm_Rq mc ms Q) bk_X10_distance J → J 0 (pm_l0 3 as) [] A 0 0) : pm_Mt l g 119 d mc ms as A Q := pm_Mt_of (isI := false) 10 bk_X10_distance me_X10_distance (plainFor_of_name (by decide +kernel)) (by decide +kernel) (fun h => by cases h) ok_X10_distance hca body
def bk_X10_misses : pm_B := [(0, [(.iload_n 1, 1, 1, 0, 0), (.iload_n 2, 1, 2, 0, 0), (.invokestatic 290, 3, 121, 2, 0), (.ifCond .ne 5, 3, 10, 0, 0), (.iconst (-1), 1, 0, 0, -1), (.ireturn, 1, 0, 0, 0)], 10),
  (10, [(.aload_n 0, 1, 0, 0, 0), (.getfield 47, 3, 10, 5, 0), (.aload_n 0, 1, 0, 0, 0), (.getfield 12, 3, 10, 0, 0), (.getfield 80, 3, 9, 4, 0), (.aload_n 0, 1, 0, 0, 0), (.getfield 12, 3, 10, 0, 0), (.getfield 80, 3, 9, 4, 0), (.getfield 103, 3, 7, 3, 0), (.iconst 1, 1, 0, 0, 1), (.isub, 1, 0, 0, 0), (.iload_n 1, 1, 1, 0, 0), (.iload_n 2, 1, 2, 0, 0), (.invokevirtual 293, 3, 122, 4, 8), (.aload_n 0, 1, 0, 0, 0), (.getfield 47, 3, 10, 5, 0), (.getfield 297, 3, 8, 3, 0), (.ireturn, 1, 0, 0, 0)], 46)]
set_option maxRecDepth 100000 in
theorem ok_X10_misses : pm_oks 10 false 3 (some .int) cX10_misses bk_X10_misses = true := oksF_ok (by decide +kernel)
set_option maxRecDepth 100000 in
theorem me_X10_misses : pm_me 120 = (yX10_misses, cX10_misses, 3, (some .int), 2, 0) := rfl
theorem mt_X10_misses {l : Launch} {g : pm_G} {d mc ms : Nat} {as : List Value} {A : pm_H} {Q : Option Value → pm_H → Prop} (hca : pm_cat 3 as = true) (body : ∀ J : pm_J, pm_Cl l g (fun _ => none) d mc ms (pm_Rq mc ms Q) bk_X10_misses J → J 0 (pm_l0 3 as) [] A 0 0) : pm_Mt l g 120 d mc ms as A Q := pm_Mt_of (isI := false) 10 bk_X10_misses me_X10_misses (plainFor_of_name (by decide +kernel)) (by decide +kernel) (fun h => by cases h) ok_X10_misses hca body
def bk_X10_shelf : pm_B := [(0, [(.aload_n 0, 1, 0, 0, 0), (.getfield 12, 3, 10, 0, 0), (.getfield 80, 3, 9, 4, 0), (.iload_n 1, 1, 1, 0, 0), (.invokevirtual 248, 3, 19, 1, 7), (.ifCond .eq 11, 3, 22, 0, 0), (.iload_n 2, 1, 2, 0, 0), (.iload_n 3, 1, 3, 0, 0), (.invokestatic 290, 3, 121, 2, 0), (.ifCond .ne 5, 3, 24, 0, 0)], 22),
  (22, [(.iconst (-1), 1, 0, 0, -1), (.ireturn, 1, 0, 0, 0)], 24),
  (24, [(.aload_n 0, 1, 0, 0, 0), (.getfield 47, 3, 10, 5, 0), (.aload_n 0, 1, 0, 0, 0), (.getfield 12, 3, 10, 0, 0), (.getfield 80, 3, 9, 4, 0), (.iload_n 1, 1, 1, 0, 0), (.iload_n 2, 1, 2, 0, 0), (.iload_n 3, 1, 3, 0, 0), (.invokevirtual 293, 3, 122, 4, 8), (.aload_n 0, 1, 0, 0, 0), (.getfield 47, 3, 10, 5, 0), (.getfield 300, 3, 8, 4, 0), (.ireturn, 1, 0, 0, 0)], 49)]
set_option maxRecDepth 100000 in
theorem ok_X10_shelf : pm_oks 10 false 4 (some .int) cX10_shelf bk_X10_shelf = true := oksF_ok (by decide +kernel)
set_option maxRecDepth 100000 in
theorem me_X10_shelf : pm_me 126 = (yX10_shelf, cX10_shelf, 4, (some .int), 3, 0) := rfl
theorem mt_X10_shelf {l : Launch} {g : pm_G} {d mc ms : Nat} {as : List Value} {A : pm_H} {Q : Option Value → pm_H → Prop} (hca : pm_cat 4 as = true) (body : ∀ J : pm_J, pm_Cl l g (fun _ => none) d mc ms (pm_Rq mc ms Q) bk_X10_shelf J → J 0 (pm_l0 4 as) [] A 0 0) : pm_Mt l g 126 d mc ms as A Q := pm_Mt_of (isI := false) 10 bk_X10_shelf me_X10_shelf (plainFor_of_name (by decide +kernel)) (by decide +kernel) (fun h => by cases h) ok_X10_shelf hca body
def bk_X10_suffices : pm_B := [(0, [(.iload_n 1, 1, 1, 0, 0), (.ifCond .ge 5, 3, 6, 0, 0), (.iconst (-1), 1, 0, 0, -1), (.ireturn, 1, 0, 0, 0)], 6),
  (6, [(.iconst 1, 1, 0, 0, 1), (.istore_n 3, 1, 3, 0, 0)], 8),
  (8, [(.iload_n 3, 1, 3, 0, 0), (.bipush 24, 2, 0, 0, 24), (.if_icmp .gt 58, 3, 69, 0, 0), (.iload_n 3, 1, 3, 0, 0), (.iload_n 2, 1, 2, 0, 0), (.invokestatic 290, 3, 121, 2, 0), (.ifCond .eq 50, 3, 69, 0, 0), (.aload_n 0, 1, 0, 0, 0), (.getfield 47, 3, 10, 5, 0), (.aload_n 0, 1, 0, 0, 0), (.getfield 12, 3, 10, 0, 0), (.getfield 80, 3, 9, 4, 0), (.aload_n 0, 1, 0, 0, 0), (.getfield 12, 3, 10, 0, 0), (.getfield 80, 3, 9, 4, 0), (.getfield 103, 3, 7, 3, 0), (.iconst 1, 1, 0, 0, 1), (.isub, 1, 0, 0, 0), (.iload_n 3, 1, 3, 0, 0), (.iload_n 2, 1, 2, 0, 0), (.invokevirtual 293, 3, 122, 4, 8), (.aload_n 0, 1, 0, 0, 0), (.getfield 47, 3, 10, 5, 0), (.getfield 297, 3, 8, 3, 0), (.iload_n 1, 1, 1, 0, 0), (.if_icmp .gt 5, 3, 63, 0, 0), (.iload_n 3, 1, 3, 0, 0), (.ireturn, 1, 0, 0, 0)], 63),
  (63, [(.iinc 3 1, 3, 3, 0, 1), (.goto (-58), 3, 8, 0, 0)], 69),
  (69, [(.iconst (-1), 1, 0, 0, -1), (.ireturn, 1, 0, 0, 0)], 71)]
set_option maxRecDepth 100000 in
theorem ok_X10_suffices : pm_oks 10 false 4 (some .int) cX10_suffices bk_X10_suffices = true := oksF_ok (by decide +kernel)
set_option maxRecDepth 100000 in
theorem me_X10_suffices : pm_me 127 = (yX10_suffices, cX10_suffices, 4, (some .int), 2, 0) := rfl
theorem mt_X10_suffices {l : Launch} {g : pm_G} {d mc ms : Nat} {as : List Value} {A : pm_H} {Q : Option Value → pm_H → Prop} (hca : pm_cat 4 as = true) (body : ∀ J : pm_J, pm_Cl l g (fun _ => none) d mc ms (pm_Rq mc ms Q) bk_X10_suffices J → J 0 (pm_l0 4 as) [] A 0 0) : pm_Mt l g 127 d mc ms as A Q := pm_Mt_of (isI := false) 10 bk_X10_suffices me_X10_suffices (plainFor_of_name (by decide +kernel)) (by decide +kernel) (fun h => by cases h) ok_X10_suffices hca body
def bk_X10_just : pm_B := [(0, [(.iload_n 1, 1, 1, 0, 0), (.iconst 1, 1, 0, 0, 1), (.if_icmp .ge 5, 3, 7, 0, 0), (.iconst 0, 1, 0, 0, 0), (.ireturn, 1, 0, 0, 0)], 7),
  (7, [(.aload_n 0, 1, 0, 0, 0), (.getfield 12, 3, 10, 0, 0), (.getfield 80, 3, 9, 4, 0), (.astore_n 2, 1, 2, 0, 0), (.aload_n 0, 1, 0, 0, 0), (.getfield 54, 3, 10, 6, 0), (.aload_n 2, 1, 2, 0, 0), (.aload_n 0, 1, 0, 0, 0), (.getfield 19, 3, 10, 1, 0), (.iload_n 1, 1, 1, 0, 0), (.invokevirtual 301, 3, 129, 3, 4), (.aload_n 0, 1, 0, 0, 0), (.getfield 54, 3, 10, 6, 0), (.aload_n 2, 1, 2, 0, 0), (.aload_n 0, 1, 0, 0, 0), (.getfield 19, 3, 10, 1, 0), (.iload_n 1, 1, 1, 0, 0), (.iconst 1, 1, 0, 0, 1), (.isub, 1, 0, 0, 0), (.invokevirtual 301, 3, 129, 3, 4), (.isub, 1, 0, 0, 0), (.ireturn, 1, 0, 0, 0)], 45)]
set_option maxRecDepth 100000 in
theorem ok_X10_just : pm_oks 10 false 3 (some .int) cX10_just bk_X10_just = true := oksF_ok (by decide +kernel)
set_option maxRecDepth 100000 in
theorem me_X10_just : pm_me 128 = (yX10_just, cX10_just, 3, (some .int), 1, 0) := rfl
theorem mt_X10_just {l : Launch} {g : pm_G} {d mc ms : Nat} {as : List Value} {A : pm_H} {Q : Option Value → pm_H → Prop} (hca : pm_cat 3 as = true) (body : ∀ J : pm_J, pm_Cl l g (fun _ => none) d mc ms (pm_Rq mc ms Q) bk_X10_just J → J 0 (pm_l0 3 as) [] A 0 0) : pm_Mt l g 128 d mc ms as A Q := pm_Mt_of (isI := false) 10 bk_X10_just me_X10_just (plainFor_of_name (by decide +kernel)) (by decide +kernel) (fun h => by cases h) ok_X10_just hca body
def bk_X10_all : pm_B := [(0, [(.aload_n 0, 1, 0, 0, 0), (.getfield 12, 3, 10, 0, 0), (.getfield 80, 3, 9, 4, 0), (.astore_n 1, 1, 1, 0, 0), (.lconst 0, 1, 0, 0, 0), (.lstore_n 2, 1, 2, 0, 0), (.iconst 0, 1, 0, 0, 0), (.istore 4, 2, 4, 0, 0)], 13),
  (13, [(.iload 4, 2, 4, 0, 0), (.aload_n 1, 1, 1, 0, 0), (.getfield 103, 3, 7, 3, 0), (.if_icmp .ge 32, 3, 51, 0, 0), (.lload_n 2, 1, 2, 0, 0), (.iload 4, 2, 4, 0, 0), (.aload_n 1, 1, 1, 0, 0), (.getfield 287, 3, 7, 2, 0), (.iload 4, 2, 4, 0, 0), (.iaload, 1, 0, 0, 0), (.isub, 1, 0, 0, 0), (.i2l, 1, 0, 0, 0), (.aload_n 1, 1, 1, 0, 0), (.getfield 103, 3, 7, 3, 0), (.iload 4, 2, 4, 0, 0), (.isub, 1, 0, 0, 0), (.i2l, 1, 0, 0, 0), (.lmul, 1, 0, 0, 0), (.ladd, 1, 0, 0, 0), (.lstore_n 2, 1, 2, 0, 0), (.iinc 4 1, 3, 4, 0, 1), (.goto (-35), 3, 13, 0, 0)], 51),
  (51, [(.lload_n 2, 1, 2, 0, 0), (.lreturn, 1, 0, 0, 0)], 53)]
set_option maxRecDepth 100000 in
theorem ok_X10_all : pm_oks 10 false 5 (some .long) cX10_all bk_X10_all = true := oksF_ok (by decide +kernel)
set_option maxRecDepth 100000 in
theorem me_X10_all : pm_me 130 = (yX10_all, cX10_all, 5, (some .long), 0, 0) := rfl
theorem mt_X10_all {l : Launch} {g : pm_G} {d mc ms : Nat} {as : List Value} {A : pm_H} {Q : Option Value → pm_H → Prop} (hca : pm_cat 5 as = true) (body : ∀ J : pm_J, pm_Cl l g (fun _ => none) d mc ms (pm_Rq mc ms Q) bk_X10_all J → J 0 (pm_l0 5 as) [] A 0 0) : pm_Mt l g 130 d mc ms as A Q := pm_Mt_of (isI := false) 10 bk_X10_all me_X10_all (plainFor_of_name (by decide +kernel)) (by decide +kernel) (fun h => by cases h) ok_X10_all hca body
def bk_X10_sets : pm_B := [(0, [(.iload_n 1, 1, 1, 0, 0), (.iconst 1, 1, 0, 0, 1), (.if_icmp .lt 39, 3, 41, 0, 0), (.iload_n 1, 1, 1, 0, 0), (.aload_n 0, 1, 0, 0, 0), (.getfield 12, 3, 10, 0, 0), (.getfield 80, 3, 9, 4, 0), (.getfield 103, 3, 7, 3, 0), (.if_icmp .gt 25, 3, 41, 0, 0), (.aload_n 0, 1, 0, 0, 0), (.getfield 54, 3, 10, 6, 0), (.aload_n 0, 1, 0, 0, 0), (.getfield 12, 3, 10, 0, 0), (.getfield 80, 3, 9, 4, 0), (.aload_n 0, 1, 0, 0, 0), (.getfield 19, 3, 10, 1, 0), (.iload_n 1, 1, 1, 0, 0), (.invokevirtual 305, 3, 132, 3, 4), (.goto 4, 3, 42, 0, 0)], 41),
  (41, [(.iconst 0, 1, 0, 0, 0)], 42),
  (42, [(.ireturn, 1, 0, 0, 0)], 43)]
set_option maxRecDepth 100000 in
theorem ok_X10_sets : pm_oks 10 false 2 (some .int) cX10_sets bk_X10_sets = true := oksF_ok (by decide +kernel)
set_option maxRecDepth 100000 in
theorem me_X10_sets : pm_me 131 = (yX10_sets, cX10_sets, 2, (some .int), 1, 0) := rfl
theorem mt_X10_sets {l : Launch} {g : pm_G} {d mc ms : Nat} {as : List Value} {A : pm_H} {Q : Option Value → pm_H → Prop} (hca : pm_cat 2 as = true) (body : ∀ J : pm_J, pm_Cl l g (fun _ => none) d mc ms (pm_Rq mc ms Q) bk_X10_sets J → J 0 (pm_l0 2 as) [] A 0 0) : pm_Mt l g 131 d mc ms as A Q := pm_Mt_of (isI := false) 10 bk_X10_sets me_X10_sets (plainFor_of_name (by decide +kernel)) (by decide +kernel) (fun h => by cases h) ok_X10_sets hca body
def bk_X10_match : pm_B := [(0, [(.aload_n 0, 1, 0, 0, 0), (.getfield 12, 3, 10, 0, 0), (.getfield 80, 3, 9, 4, 0), (.iload_n 1, 1, 1, 0, 0), (.iload_n 2, 1, 2, 0, 0), (.invokevirtual 111, 3, 14, 2, 7), (.ifCond .eq 8, 3, 20, 0, 0), (.iload_n 3, 1, 3, 0, 0), (.iconst (-1), 1, 0, 0, -1), (.if_icmp .ge 5, 3, 22, 0, 0)], 20),
  (20, [(.iconst (-1), 1, 0, 0, -1), (.ireturn, 1, 0, 0, 0)], 22),
  (22, [(.aload_n 0, 1, 0, 0, 0), (.getfield 54, 3, 10, 6, 0), (.aload_n 0, 1, 0, 0, 0), (.getfield 12, 3, 10, 0, 0), (.getfield 80, 3, 9, 4, 0), (.iload_n 1, 1, 1, 0, 0), (.iload_n 2, 1, 2, 0, 0), (.iload_n 3, 1, 3, 0, 0), (.invokevirtual 308, 3, 135, 4, 4), (.ireturn, 1, 0, 0, 0)], 40)]
set_option maxRecDepth 100000 in
theorem ok_X10_match : pm_oks 10 false 4 (some .int) cX10_match bk_X10_match = true := oksF_ok (by decide +kernel)
set_option maxRecDepth 100000 in
theorem me_X10_match : pm_me 134 = (yX10_match, cX10_match, 4, (some .int), 3, 0) := rfl
theorem mt_X10_match {l : Launch} {g : pm_G} {d mc ms : Nat} {as : List Value} {A : pm_H} {Q : Option Value → pm_H → Prop} (hca : pm_cat 4 as = true) (body : ∀ J : pm_J, pm_Cl l g (fun _ => none) d mc ms (pm_Rq mc ms Q) bk_X10_match J → J 0 (pm_l0 4 as) [] A 0 0) : pm_Mt l g 134 d mc ms as A Q := pm_Mt_of (isI := false) 10 bk_X10_match me_X10_match (plainFor_of_name (by decide +kernel)) (by decide +kernel) (fun h => by cases h) ok_X10_match hca body
def bk_X10_twin : pm_B := [(0, [(.aload_n 0, 1, 0, 0, 0), (.getfield 54, 3, 10, 6, 0), (.aload_n 0, 1, 0, 0, 0), (.getfield 12, 3, 10, 0, 0), (.getfield 80, 3, 9, 4, 0), (.invokevirtual 311, 3, 139, 1, 4), (.aload_n 0, 1, 0, 0, 0), (.getfield 54, 3, 10, 6, 0), (.getfield 314, 3, 4, 2, 0), (.ifCond .ne 5, 3, 26, 0, 0), (.iconst (-1), 1, 0, 0, -1), (.ireturn, 1, 0, 0, 0)], 26),
  (26, [(.iload_n 1, 1, 1, 0, 0), (.ifCond .ne 13, 3, 40, 0, 0), (.aload_n 0, 1, 0, 0, 0), (.getfield 54, 3, 10, 6, 0), (.getfield 317, 3, 4, 1, 0), (.goto 19, 3, 56, 0, 0)], 40),
  (40, [(.iload_n 1, 1, 1, 0, 0), (.iconst 1, 1, 0, 0, 1), (.if_icmp .ne 13, 3, 55, 0, 0), (.aload_n 0, 1, 0, 0, 0), (.getfield 54, 3, 10, 6, 0), (.getfield 314, 3, 4, 2, 0), (.goto 4, 3, 56, 0, 0)], 55),
  (55, [(.iconst (-1), 1, 0, 0, -1)], 56),
  (56, [(.ireturn, 1, 0, 0, 0)], 57)]
set_option maxRecDepth 100000 in
theorem ok_X10_twin : pm_oks 10 false 2 (some .int) cX10_twin bk_X10_twin = true := oksF_ok (by decide +kernel)
set_option maxRecDepth 100000 in
theorem me_X10_twin : pm_me 138 = (yX10_twin, cX10_twin, 2, (some .int), 1, 0) := rfl
theorem mt_X10_twin {l : Launch} {g : pm_G} {d mc ms : Nat} {as : List Value} {A : pm_H} {Q : Option Value → pm_H → Prop} (hca : pm_cat 2 as = true) (body : ∀ J : pm_J, pm_Cl l g (fun _ => none) d mc ms (pm_Rq mc ms Q) bk_X10_twin J → J 0 (pm_l0 2 as) [] A 0 0) : pm_Mt l g 138 d mc ms as A Q := pm_Mt_of (isI := false) 10 bk_X10_twin me_X10_twin (plainFor_of_name (by decide +kernel)) (by decide +kernel) (fun h => by cases h) ok_X10_twin hca body
def bk_X10_parts : pm_B := [(0, [(.iload_n 1, 1, 1, 0, 0), (.iconst 1, 1, 0, 0, 1), (.if_icmp .lt 31, 3, 33, 0, 0), (.iload_n 2, 1, 2, 0, 0), (.iconst (-1), 1, 0, 0, -1), (.if_icmp .lt 26, 3, 33, 0, 0), (.aload_n 0, 1, 0, 0, 0), (.getfield 61, 3, 10, 7, 0), (.aload_n 0, 1, 0, 0, 0), (.getfield 12, 3, 10, 0, 0), (.getfield 80, 3, 9, 4, 0), (.aload_n 0, 1, 0, 0, 0), (.getfield 19, 3, 10, 1, 0), (.iload_n 1, 1, 1, 0, 0), (.iload_n 2, 1, 2, 0, 0), (.invokevirtual 320, 3, 142, 4, 3), (.goto 4, 3, 34, 0, 0)], 33),
  (33, [(.iconst (-1), 1, 0, 0, -1)], 34),
  (34, [(.ireturn, 1, 0, 0, 0)], 35)]
set_option maxRecDepth 100000 in
theorem ok_X10_parts : pm_oks 10 false 3 (some .int) cX10_parts bk_X10_parts = true := oksF_ok (by decide +kernel)
set_option maxRecDepth 100000 in
theorem me_X10_parts : pm_me 141 = (yX10_parts, cX10_parts, 3, (some .int), 2, 0) := rfl
theorem mt_X10_parts {l : Launch} {g : pm_G} {d mc ms : Nat} {as : List Value} {A : pm_H} {Q : Option Value → pm_H → Prop} (hca : pm_cat 3 as = true) (body : ∀ J : pm_J, pm_Cl l g (fun _ => none) d mc ms (pm_Rq mc ms Q) bk_X10_parts J → J 0 (pm_l0 3 as) [] A 0 0) : pm_Mt l g 141 d mc ms as A Q := pm_Mt_of (isI := false) 10 bk_X10_parts me_X10_parts (plainFor_of_name (by decide +kernel)) (by decide +kernel) (fun h => by cases h) ok_X10_parts hca body
def bk_X10_best : pm_B := [(0, [(.iload_n 1, 1, 1, 0, 0), (.iconst 1, 1, 0, 0, 1), (.if_icmp .lt 33, 3, 35, 0, 0), (.iload_n 1, 1, 1, 0, 0), (.bipush 8, 2, 0, 0, 8), (.if_icmp .gt 27, 3, 35, 0, 0), (.iload_n 1, 1, 1, 0, 0), (.aload_n 0, 1, 0, 0, 0), (.getfield 12, 3, 10, 0, 0), (.getfield 80, 3, 9, 4, 0), (.getfield 103, 3, 7, 3, 0), (.if_icmp .gt 13, 3, 35, 0, 0), (.iload_n 2, 1, 2, 0, 0), (.iconst (-1), 1, 0, 0, -1), (.if_icmp .lt 8, 3, 35, 0, 0), (.iload_n 2, 1, 2, 0, 0), (.iload_n 1, 1, 1, 0, 0), (.if_icmp .lt 5, 3, 37, 0, 0)], 35),
  (35, [(.iconst (-1), 1, 0, 0, -1), (.ireturn, 1, 0, 0, 0)], 37),
  (37, [(.aload_n 0, 1, 0, 0, 0), (.getfield 61, 3, 10, 7, 0), (.aload_n 0, 1, 0, 0, 0), (.getfield 12, 3, 10, 0, 0), (.getfield 80, 3, 9, 4, 0), (.aload_n 0, 1, 0, 0, 0), (.getfield 19, 3, 10, 1, 0), (.iload_n 1, 1, 1, 0, 0), (.invokevirtual 323, 3, 144, 3, 3), (.iload_n 2, 1, 2, 0, 0), (.iconst (-1), 1, 0, 0, -1), (.if_icmp .ne 15, 3, 73, 0, 0), (.aload_n 0, 1, 0, 0, 0), (.getfield 61, 3, 10, 7, 0), (.iload_n 1, 1, 1, 0, 0), (.iconst 0, 1, 0, 0, 0), (.invokevirtual 326, 3, 145, 2, 3), (.goto 23, 3, 93, 0, 0)], 73),
  (73, [(.aload_n 0, 1, 0, 0, 0), (.getfield 61, 3, 10, 7, 0), (.aload_n 0, 1, 0, 0, 0), (.getfield 12, 3, 10, 0, 0), (.getfield 80, 3, 9, 4, 0), (.aload_n 0, 1, 0, 0, 0), (.getfield 19, 3, 10, 1, 0), (.iload_n 1, 1, 1, 0, 0), (.iload_n 2, 1, 2, 0, 0), (.invokevirtual 329, 3, 146, 4, 3)], 93),
  (93, [(.ireturn, 1, 0, 0, 0)], 94)]
set_option maxRecDepth 100000 in
theorem ok_X10_best : pm_oks 10 false 3 (some .int) cX10_best bk_X10_best = true := oksF_ok (by decide +kernel)
set_option maxRecDepth 100000 in
theorem me_X10_best : pm_me 143 = (yX10_best, cX10_best, 3, (some .int), 2, 0) := rfl
theorem mt_X10_best {l : Launch} {g : pm_G} {d mc ms : Nat} {as : List Value} {A : pm_H} {Q : Option Value → pm_H → Prop} (hca : pm_cat 3 as = true) (body : ∀ J : pm_J, pm_Cl l g (fun _ => none) d mc ms (pm_Rq mc ms Q) bk_X10_best J → J 0 (pm_l0 3 as) [] A 0 0) : pm_Mt l g 143 d mc ms as A Q := pm_Mt_of (isI := false) 10 bk_X10_best me_X10_best (plainFor_of_name (by decide +kernel)) (by decide +kernel) (fun h => by cases h) ok_X10_best hca body
def bk_X10_was : pm_B := [(0, [(.aload_n 0, 1, 0, 0, 0), (.getfield 12, 3, 10, 0, 0), (.iload_n 1, 1, 1, 0, 0), (.invokevirtual 332, 3, 149, 1, 9), (.astore 4, 2, 4, 0, 0), (.aload 4, 2, 4, 0, 0), (.ifnonnull 5, 3, 17, 0, 0), (.iconst (-1), 1, 0, 0, -1), (.ireturn, 1, 0, 0, 0)], 17),
  (17, [(.iload_n 2, 1, 2, 0, 0), (.iconst (-1), 1, 0, 0, -1), (.if_icmp .ne 11, 3, 30, 0, 0), (.aload 4, 2, 4, 0, 0), (.getfield 103, 3, 7, 3, 0), (.goto 10, 3, 37, 0, 0)], 30),
  (30, [(.aload 4, 2, 4, 0, 0), (.iload_n 2, 1, 2, 0, 0), (.iload_n 3, 1, 3, 0, 0), (.invokevirtual 143, 3, 44, 2, 7)], 37),
  (37, [(.ireturn, 1, 0, 0, 0)], 38)]
set_option maxRecDepth 100000 in
theorem ok_X10_was : pm_oks 10 false 5 (some .int) cX10_was bk_X10_was = true := oksF_ok (by decide +kernel)
set_option maxRecDepth 100000 in
theorem me_X10_was : pm_me 148 = (yX10_was, cX10_was, 5, (some .int), 3, 0) := rfl
theorem mt_X10_was {l : Launch} {g : pm_G} {d mc ms : Nat} {as : List Value} {A : pm_H} {Q : Option Value → pm_H → Prop} (hca : pm_cat 5 as = true) (body : ∀ J : pm_J, pm_Cl l g (fun _ => none) d mc ms (pm_Rq mc ms Q) bk_X10_was J → J 0 (pm_l0 5 as) [] A 0 0) : pm_Mt l g 148 d mc ms as A Q := pm_Mt_of (isI := false) 10 bk_X10_was me_X10_was (plainFor_of_name (by decide +kernel)) (by decide +kernel) (fun h => by cases h) ok_X10_was hca body
def bk_X10_counted : pm_B := [(0, [(.aload_n 0, 1, 0, 0, 0), (.getfield 12, 3, 10, 0, 0), (.iload_n 1, 1, 1, 0, 0), (.invokevirtual 332, 3, 149, 1, 9), (.astore 4, 2, 4, 0, 0), (.aload 4, 2, 4, 0, 0), (.ifnull 24, 3, 36, 0, 0), (.aload 4, 2, 4, 0, 0), (.iload_n 2, 1, 2, 0, 0), (.iload_n 3, 1, 3, 0, 0), (.invokevirtual 111, 3, 14, 2, 7), (.ifCond .eq 14, 3, 36, 0, 0), (.aload_n 0, 1, 0, 0, 0), (.aload 4, 2, 4, 0, 0), (.iload_n 2, 1, 2, 0, 0), (.iload_n 3, 1, 3, 0, 0), (.invokevirtual 159, 3, 54, 3, 10), (.goto 4, 3, 37, 0, 0)], 36),
  (36, [(.iconst (-1), 1, 0, 0, -1)], 37),
  (37, [(.ireturn, 1, 0, 0, 0)], 38)]
set_option maxRecDepth 100000 in
theorem ok_X10_counted : pm_oks 10 false 5 (some .int) cX10_counted bk_X10_counted = true := oksF_ok (by decide +kernel)
set_option maxRecDepth 100000 in
theorem me_X10_counted : pm_me 150 = (yX10_counted, cX10_counted, 5, (some .int), 3, 0) := rfl
theorem mt_X10_counted {l : Launch} {g : pm_G} {d mc ms : Nat} {as : List Value} {A : pm_H} {Q : Option Value → pm_H → Prop} (hca : pm_cat 5 as = true) (body : ∀ J : pm_J, pm_Cl l g (fun _ => none) d mc ms (pm_Rq mc ms Q) bk_X10_counted J → J 0 (pm_l0 5 as) [] A 0 0) : pm_Mt l g 150 d mc ms as A Q := pm_Mt_of (isI := false) 10 bk_X10_counted me_X10_counted (plainFor_of_name (by decide +kernel)) (by decide +kernel) (fun h => by cases h) ok_X10_counted hca body
def bk_X10_touched : pm_B := [(0, [(.aload_n 0, 1, 0, 0, 0), (.getfield 12, 3, 10, 0, 0), (.iload_n 1, 1, 1, 0, 0), (.invokevirtual 332, 3, 149, 1, 9), (.astore_n 2, 1, 2, 0, 0), (.aload_n 2, 1, 2, 0, 0), (.ifnull 15, 3, 25, 0, 0), (.iload_n 1, 1, 1, 0, 0), (.iconst 1, 1, 0, 0, 1), (.if_icmp .lt 10, 3, 25, 0, 0), (.aload_n 2, 1, 2, 0, 0), (.getfield 336, 3, 7, 4, 0), (.goto 4, 3, 26, 0, 0)], 25),
  (25, [(.iconst (-1), 1, 0, 0, -1)], 26),
  (26, [(.ireturn, 1, 0, 0, 0)], 27)]
set_option maxRecDepth 100000 in
theorem ok_X10_touched : pm_oks 10 false 3 (some .int) cX10_touched bk_X10_touched = true := oksF_ok (by decide +kernel)
set_option maxRecDepth 100000 in
theorem me_X10_touched : pm_me 151 = (yX10_touched, cX10_touched, 3, (some .int), 1, 0) := rfl
theorem mt_X10_touched {l : Launch} {g : pm_G} {d mc ms : Nat} {as : List Value} {A : pm_H} {Q : Option Value → pm_H → Prop} (hca : pm_cat 3 as = true) (body : ∀ J : pm_J, pm_Cl l g (fun _ => none) d mc ms (pm_Rq mc ms Q) bk_X10_touched J → J 0 (pm_l0 3 as) [] A 0 0) : pm_Mt l g 151 d mc ms as A Q := pm_Mt_of (isI := false) 10 bk_X10_touched me_X10_touched (plainFor_of_name (by decide +kernel)) (by decide +kernel) (fun h => by cases h) ok_X10_touched hca body
def bk_X10_since : pm_B := [(0, [(.aload_n 0, 1, 0, 0, 0), (.getfield 12, 3, 10, 0, 0), (.iload_n 1, 1, 1, 0, 0), (.invokevirtual 339, 3, 153, 1, 9), (.ireturn, 1, 0, 0, 0)], 9)]
set_option maxRecDepth 100000 in
theorem ok_X10_since : pm_oks 10 false 2 (some .int) cX10_since bk_X10_since = true := oksF_ok (by decide +kernel)
set_option maxRecDepth 100000 in
theorem me_X10_since : pm_me 152 = (yX10_since, cX10_since, 2, (some .int), 1, 0) := rfl
theorem mt_X10_since {l : Launch} {g : pm_G} {d mc ms : Nat} {as : List Value} {A : pm_H} {Q : Option Value → pm_H → Prop} (hca : pm_cat 2 as = true) (body : ∀ J : pm_J, pm_Cl l g (fun _ => none) d mc ms (pm_Rq mc ms Q) bk_X10_since J → J 0 (pm_l0 2 as) [] A 0 0) : pm_Mt l g 152 d mc ms as A Q := pm_Mt_of (isI := false) 10 bk_X10_since me_X10_since (plainFor_of_name (by decide +kernel)) (by decide +kernel) (fun h => by cases h) ok_X10_since hca body
def bk_X10_changed : pm_B := [(0, [(.aload_n 0, 1, 0, 0, 0), (.getfield 12, 3, 10, 0, 0), (.iload_n 1, 1, 1, 0, 0), (.invokevirtual 332, 3, 149, 1, 9), (.astore_n 3, 1, 3, 0, 0), (.aload_n 3, 1, 3, 0, 0), (.ifnull 24, 3, 34, 0, 0), (.iload_n 2, 1, 2, 0, 0), (.ifCond .lt 20, 3, 34, 0, 0), (.iload_n 2, 1, 2, 0, 0), (.iconst 3, 1, 0, 0, 3), (.if_icmp .gt 15, 3, 34, 0, 0), (.aload_n 0, 1, 0, 0, 0), (.getfield 12, 3, 10, 0, 0), (.aload_n 3, 1, 3, 0, 0), (.iload_n 2, 1, 2, 0, 0), (.invokevirtual 342, 3, 156, 2, 9), (.goto 4, 3, 35, 0, 0)], 34),
  (34, [(.iconst (-1), 1, 0, 0, -1)], 35),
  (35, [(.ireturn, 1, 0, 0, 0)], 36)]
set_option maxRecDepth 100000 in
theorem ok_X10_changed : pm_oks 10 false 4 (some .int) cX10_changed bk_X10_changed = true := oksF_ok (by decide +kernel)
set_option maxRecDepth 100000 in
theorem me_X10_changed : pm_me 155 = (yX10_changed, cX10_changed, 4, (some .int), 2, 0) := rfl
theorem mt_X10_changed {l : Launch} {g : pm_G} {d mc ms : Nat} {as : List Value} {A : pm_H} {Q : Option Value → pm_H → Prop} (hca : pm_cat 4 as = true) (body : ∀ J : pm_J, pm_Cl l g (fun _ => none) d mc ms (pm_Rq mc ms Q) bk_X10_changed J → J 0 (pm_l0 4 as) [] A 0 0) : pm_Mt l g 155 d mc ms as A Q := pm_Mt_of (isI := false) 10 bk_X10_changed me_X10_changed (plainFor_of_name (by decide +kernel)) (by decide +kernel) (fun h => by cases h) ok_X10_changed hca body
def bk_X10_ask : pm_B := [(0, [(.aload_n 0, 1, 0, 0, 0), (.getfield 12, 3, 10, 0, 0), (.getfield 80, 3, 9, 4, 0), (.astore_n 3, 1, 3, 0, 0), (.aload_n 3, 1, 3, 0, 0), (.iload_n 1, 1, 1, 0, 0), (.invokevirtual 346, 3, 154, 1, 7), (.ifCond .eq 24, 3, 37, 0, 0), (.aload_n 3, 1, 3, 0, 0), (.iload_n 2, 1, 2, 0, 0), (.invokevirtual 346, 3, 154, 1, 7), (.ifCond .eq 16, 3, 37, 0, 0), (.aload_n 0, 1, 0, 0, 0), (.getfield 68, 3, 10, 8, 0), (.iconst (-1), 1, 0, 0, -1), (.iload_n 1, 1, 1, 0, 0), (.iload_n 2, 1, 2, 0, 0), (.invokevirtual 349, 3, 159, 3, 5), (.goto 4, 3, 38, 0, 0)], 37),
  (37, [(.iconst (-1), 1, 0, 0, -1)], 38),
  (38, [(.ireturn, 1, 0, 0, 0)], 39)]
set_option maxRecDepth 100000 in
theorem ok_X10_ask : pm_oks 10 false 4 (some .int) cX10_ask bk_X10_ask = true := oksF_ok (by decide +kernel)
set_option maxRecDepth 100000 in
theorem me_X10_ask : pm_me 158 = (yX10_ask, cX10_ask, 4, (some .int), 2, 0) := rfl
theorem mt_X10_ask {l : Launch} {g : pm_G} {d mc ms : Nat} {as : List Value} {A : pm_H} {Q : Option Value → pm_H → Prop} (hca : pm_cat 4 as = true) (body : ∀ J : pm_J, pm_Cl l g (fun _ => none) d mc ms (pm_Rq mc ms Q) bk_X10_ask J → J 0 (pm_l0 4 as) [] A 0 0) : pm_Mt l g 158 d mc ms as A Q := pm_Mt_of (isI := false) 10 bk_X10_ask me_X10_ask (plainFor_of_name (by decide +kernel)) (by decide +kernel) (fun h => by cases h) ok_X10_ask hca body
def bk_X10_askOf : pm_B := [(0, [(.aload_n 0, 1, 0, 0, 0), (.getfield 12, 3, 10, 0, 0), (.iload_n 1, 1, 1, 0, 0), (.invokevirtual 332, 3, 149, 1, 9), (.astore 4, 2, 4, 0, 0), (.aload 4, 2, 4, 0, 0), (.ifnull 21, 3, 33, 0, 0), (.aload 4, 2, 4, 0, 0), (.iload_n 2, 1, 2, 0, 0), (.invokevirtual 346, 3, 154, 1, 7), (.ifCond .eq 12, 3, 33, 0, 0), (.aload 4, 2, 4, 0, 0), (.iload_n 3, 1, 3, 0, 0), (.invokevirtual 346, 3, 154, 1, 7), (.ifCond .ne 5, 3, 35, 0, 0)], 33),
  (33, [(.iconst (-1), 1, 0, 0, -1), (.ireturn, 1, 0, 0, 0)], 35),
  (35, [(.aload_n 0, 1, 0, 0, 0), (.getfield 68, 3, 10, 8, 0), (.iload_n 1, 1, 1, 0, 0), (.iload_n 2, 1, 2, 0, 0), (.iload_n 3, 1, 3, 0, 0), (.invokevirtual 349, 3, 159, 3, 5), (.ireturn, 1, 0, 0, 0)], 46)]
set_option maxRecDepth 100000 in
theorem ok_X10_askOf : pm_oks 10 false 5 (some .int) cX10_askOf bk_X10_askOf = true := oksF_ok (by decide +kernel)
set_option maxRecDepth 100000 in
theorem me_X10_askOf : pm_me 160 = (yX10_askOf, cX10_askOf, 5, (some .int), 3, 0) := rfl
theorem mt_X10_askOf {l : Launch} {g : pm_G} {d mc ms : Nat} {as : List Value} {A : pm_H} {Q : Option Value → pm_H → Prop} (hca : pm_cat 5 as = true) (body : ∀ J : pm_J, pm_Cl l g (fun _ => none) d mc ms (pm_Rq mc ms Q) bk_X10_askOf J → J 0 (pm_l0 5 as) [] A 0 0) : pm_Mt l g 160 d mc ms as A Q := pm_Mt_of (isI := false) 10 bk_X10_askOf me_X10_askOf (plainFor_of_name (by decide +kernel)) (by decide +kernel) (fun h => by cases h) ok_X10_askOf hca body
