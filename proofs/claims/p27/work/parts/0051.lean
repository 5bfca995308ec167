
def bk_X10_misses : pm_B := [(0, [(.iload_n 1, 1, 1, 0, 0), (.iload_n 2, 1, 2, 0, 0), (.invokestatic 290, 3, 121, 2, 0), (.ifCond .ne 5, 3, 10, 0, 0), (.iconst (-1), 1, 0, 0, -1), (.ireturn, 1, 0, 0, 0)], 10),
  (10, [(.aload_n 0, 1, 0, 0, 0), (.getfield 47, 3, 10, 5, 0), (.aload_n 0, 1, 0, 0, 0), (.getfield 12, 3, 10, 0, 0), (.getfield 80, 3, 9, 4, 0), (.aload_n 0, 1, 0, 0, 0), (.getfield 12, 3, 10, 0, 0), (.getfield 80, 3, 9, 4, 0), (.getfield 103, 3, 7, 3, 0), (.iconst 1, 1, 0, 0, 1), (.isub, 1, 0, 0, 0), (.iload_n 1, 1, 1, 0, 0), (.iload_n 2, 1, 2, 0, 0), (.invokevirtual 293, 3, 122, 4, 8), (.aload_n 0, 1, 0, 0, 0), (.getfield 47, 3, 10, 5, 0), (.getfield 297, 3, 8, 3, 0), (.ireturn, 1, 0, 0, 0)], 46)]
set_option maxRecDepth 100000 in
theorem ok_X10_misses : pm_oks 10 false 3 (some .int) cX10_misses bk_X10_misses = true := oksF_ok (by decide +kernel)
set_option maxRecDepth 100000 in
theorem me_X10_misses : pm_me 120 = (yX10_misses, cX10_misses, 3, (some .int), 2, 0) := rfl
theorem mt_X10_misses {l : Launch} {g : pm_G} {d mc ms : Nat} {as : List Value} {A : pm_H} {Q : Option Value → pm_H → Prop} (hca : pm_cat 3 as = true) (body : ∀ J : pm_J, pm_Cl l g (fun _ => none) d mc ms (pm_Rq mc ms Q) bk_X10_misses J → J 0 (pm_l0 3 as) [] A 0 0) : pm_Mt l g 120 d mc ms as A Q := pm_Mt_of (isI := false) 10 bk_X10_misses me_X10_misses (plainFor_of_name (by decide +kernel)) (by decide +kernel) (fun h => by cases h) ok_X10_misses hca body
def bk_X10_shelf : pm_B := [(0, [(.aload_n 0, 1, 0, 0, 0), (.getfield 12, 3, 10, 0, 0), (.getfield 80, 3, 9, 4, 0), (.iload_n 1, 1, 1, 0, 0), (.invokevirtual 248, 3, 19, 1, 7), (.ifCond .eq 11, 3, 22, 0, 0), (.iload_n 2, 1, 2, 0, 0), (.iload_n 3, 1, 3, 0, 0), (.invokestatic 290, 3, 121, 2, 0), (.ifCond .ne 5, 3, 24, 0, 0)], 22),
  (22, [(.iconst (-1), 1, 0, 0, -1), (.ireturn, 1, 0, 0, 0)], 24),
  (24, [(.aload_n 0, 1, 0, 0, 0), (.getfield 47, 3, 10, 5, 0), (.aload_n 0, 1, 0, 0, 0), (.getfield 12, 3, 10, 0, 0), (.getfield 80, 3, 9, 4, 0), (.iload_n 1, 1, 1, 0, 0), (.iload_n 2, 1, 2, 0, 0), (.iload_n 3, 1, 3, 0, 0), (.invokevirtual 293, 3, 122, 4, 8), (.aload_n 0, 1, 0, 0, 0), (.getfield 47, 3, 10, 5, 0), (.getfield 300, 3, 8, 4, 0), (.ireturn, 1, 0, 0, 0)], 49)]
set_option maxRecDepth 100000 in
theorem ok_X10_shelf : pm_oks 10 false 4 (some .int) cX10_shelf bk_X10_shelf = true := oksF_ok (by decide +kernel)
set_option maxRecDepth 100000 in
theorem me_X10_shelf : pm_me 126 = (yX10_shelf, cX10_shelf, 4, (some .int), 3, 0) := rfl
theorem mt_X10_shelf {l : Launch} {g : pm_G} {d mc ms : Nat} {as : List Value} {A : pm_H} {Q : Option Value → pm_H → Prop} (hca : pm_cat 4 as = true) (body : ∀ J : pm_J, pm_Cl l g (fun _ => none) d mc ms (pm_Rq mc ms Q) bk_X10_shelf J → J 0 (pm_l0 4 as) [] A 0 0) : pm_Mt l g 126 d mc ms as A Q := pm_Mt_of (isI := false) 10 bk_X10_shelf me_X10_shelf (plainFor_of_name (by decide +kernel)) (by decide +kernel) (fun h => by cases h) ok_X10_shelf hca body
def bk_X10_suffices : pm_B := [(0, [(.iload_n 1, 1, 1, 0, 0), (.ifCond .ge 5, 3, 6, 0, 0), (.iconst (-1), 1, 0, 0, -1), (.ireturn, 1, 0, 0, 0)], 6),
  (6, [(.iconst 1, 1, 0, 0, 1), (.istore_n 3, 1, 3, 0, 0)], 8),
  (8, [(.iload_n 3, 1, 3, 0, 0), (.bipush 24, 2, 0, 0, 24), (.if_icmp .gt 58, 3, 69, 0, 0), (.iload_n 3, 1, 3, 0, 0), (.iload_n 2, 1, 2, 0, 0), (.invokestatic 290, 3, 121, 2, 0), (.ifCond .eq 50, 3, 69, 0, 0), (.aload_n 0, 1, 0, 0, 0), (.getfield 47, 3, 10, 5, 0), (.aload_n 0, 1, 0, 0, 0), (.getfield 12, 3, 10, 0, 0), (.getfield 80, 3, 9, 4, 0), (.aload_n 0, 1, 0, 0, 0), (.getfield 12, 3, 10, 0, 0), (.getfield 80, 3, 9, 4, 0), (.getfield 103, 3, 7, 3, 0), (.iconst 1, 1, 0, 0, 1), (.isub, 1, 0, 0, 0), (.iload_n 3, 1, 3, 0, 0), (.iload_n 2, 1, 2, 0, 0), (.invokevirtual 293, 3, 122, 4, 8), (.aload_n 0, 1, 0, 0, 0), (.getfield 47, 3, 10, 5, 0), (.getfield 297, 3, 8, 3, 0), (.iload_n 1, 1, 1, 0, 0), (.if_icmp .gt 5, 3, 63, 0, 0), (.iload_n 3, 1, 3, 0, 0), (.ireturn, 1, 0, 0, 0)], 63),
  (63, [(.iinc 3 1, 3, 3, 0, 1), (.goto (-58), 3, 8, 0, 0)], 69),
  (69, [(.iconst (-1), 1, 0, 0, -1), (.ireturn, 1, 0, 0, 0)], 71)]
set_option maxRecDepth 100000 in
theorem ok_X10_suffices : pm_oks 10 false 4 (some .int) cX10_suffices bk_X10_suffices = true := oksF_ok (by decide +kernel)
set_option maxRecDepth 100000 in
theorem me_X10_suffices : pm_me 127 = (yX10_suffices, cX10_suffices, 4, (some .int), 2, 0) := rfl
theorem mt_X10_suffices {l : Launch} {g : pm_G} {d mc ms : Nat} {as : List Value} {A : pm_H} {Q : Option Value → pm_H → Prop} (hca : pm_cat 4 as = true) (body : ∀ J : pm_J, pm_Cl l g (fun _ => none) d mc ms (pm_Rq mc ms Q) bk_X10_suffices J → J 0 (pm_l0 4 as) [] A 0 0) : pm_Mt l g 127 d mc ms as A Q := pm_Mt_of (isI := false) 10 bk_X10_suffices me_X10_suffices (plainFor_of_name (by decide +kernel)) (by decide +kernel) (fun h => by cases h) ok_X10_suffices hca body
def bk_X10_just : pm_B := [(0, [(.iload_n 1, 1, 1, 0, 0), (.iconst 1, 1, 0, 0, 1), (.if_icmp .ge 5, 3, 7, 0, 0), (.iconst 0, 1, 0, 0, 0), (.ireturn, 1, 0, 0, 0)], 7),
  (7, [(.aload_n 0, 1, 0, 0, 0), (.getfield 12, 3, 10, 0, 0), (.getfield 80, 3, 9, 4, 0), (.astore_n 2, 1, 2, 0, 0), (.aload_n 0, 1, 0, 0, 0), (.getfield 54, 3, 10, 6, 0), (.aload_n 2, 1, 2, 0, 0), (.aload_n 0, 1, 0, 0, 0), (.getfield 19, 3, 10, 1, 0), (.iload_n 1, 1, 1, 0, 0), (.invokevirtual 301, 3, 129, 3, 4), (.aload_n 0, 1, 0, 0, 0), (.getfield 54, 3, 10, 6, 0), (.aload_n 2, 1, 2, 0, 0), (.aload_n 0, 1, 0, 0, 0), (.getfield 19, 3, 10, 1, 0), (.iload_n 1, 1, 1, 0, 0), (.iconst 1, 1, 0, 0, 1), (.isub, 1, 0, 0, 0), (.invokevirtual 301, 3, 129, 3, 4), (.isub, 1, 0, 0, 0), (.ireturn, 1, 0, 0, 0)], 45)]
set_option maxRecDepth 100000 in
theorem ok_X10_just : pm_oks 10 false 3 (some .int) cX10_just bk_X10_just = true := oksF_ok (by decide +kernel)
set_option maxRecDepth 100000 in
theorem me_X10_just : pm_me 128 = (yX10_just, cX10_just, 3, (some .int), 1, 0) := rfl
theorem mt_X10_just {l : Launch} {g : pm_G} {d mc ms : Nat} {as : List Value} {A : pm_H} {Q : Option Value → pm_H → Prop} (hca : pm_cat 3 as = true) (body : ∀ J : pm_J, pm_Cl l g (fun _ => none) d mc ms (pm_Rq mc ms Q) bk_X10_just J → J 0 (pm_l0 3 as) [] A 0 0) : pm_Mt l g 128 d mc ms as A Q := pm_Mt_of (isI := false) 10 bk_X10_just me_X10_just (plainFor_of_name (by decide +kernel)) (by decide +kernel) (fun h => by cases h) ok_X10_just hca body
def bk_X10_all : pm_B := [(0, [(.aload_n 0, 1, 0, 0, 0), (.getfield 12, 3, 10, 0, 0), (.getfield 80, 3, 9, 4, 0), (.astore_n 1, 1, 1, 0, 0), (.lconst 0, 1, 0, 0, 0), (.lstore_n 2, 1, 2, 0, 0), (.iconst 0, 1, 0, 0, 0), (.istore 4, 2, 4, 0, 0)], 13),
  (13, [(.iload 4, 2, 4, 0, 0), (.aload_n 1, 1, 1, 0, 0), (.getfield 103, 3, 7, 3, 0), (.if_icmp .ge 32, 3, 51, 0, 0), (.lload_n 2, 1, 2, 0, 0), (.iload 4, 2, 4, 0, 0), (.aload_n 1, 1, 1, 0, 0), (.getfield 287, 3, 7, 2, 0), (.iload 4, 2, 4, 0, 0), (.iaload, 1, 0, 0, 0), (.isub, 1, 0, 0, 0), (.i2l, 1, 0, 0, 0), (.aload_n 1, 1, 1, 0, 0), (.getfield 103, 3, 7, 3, 0), (.iload 4, 2, 4, 0, 0), (.isub, 1, 0, 0, 0), (.i2l, 1, 0, 0, 0), (.lmul, 1, 0, 0, 0), (.ladd, 1, 0, 0, 0), (.lstore_n 2, 1, 2, 0, 0), (.iinc 4 1, 3, 4, 0, 1), (.goto (-35), 3, 13, 0, 0)], 51),
  (51, [(.lload_n 2, 1, 2, 0, 0), (.lreturn, 1, 0, 0, 0)], 53)]
set_option maxRecDepth 100000 in
theorem ok_X10_all : pm_oks 10 false 5 (some .long) cX10_all bk_X10_all = true := oksF_ok (by decide +kernel)
set_option maxRecDepth 100000 in
theorem me_X10_all : pm_me 130 = (yX10_all, cX10_all, 5, (some .long), 0, 0) := rfl
theorem mt_X10_all {l : Launch} {g : pm_G} {d mc ms : Nat} {as : List Value} {A : pm_H} {Q : Option Value → pm_H → Prop} (hca : pm_cat 5 as = true) (body : ∀ J : pm_J, pm_Cl l g (fun _ => none) d mc ms (pm_Rq mc ms Q) bk_X10_all J → J 0 (pm_l0 5 as) [] A 0 0) : pm_Mt l g 130 d mc ms as A Q := pm_Mt_of (isI := false) 10 bk_X10_all me_X10_all (plainFor_of_name (by decide +kernel)) (by decide +kernel) (fun h => by cases h) ok_X10_all hca body
