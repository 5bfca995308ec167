
def bk_X7_widestGap : pm_B := [(0, [(.iconst (-1), 1, 0, 0, -1), (.istore_n 2, 1, 2, 0, 0), (.iconst 0, 1, 0, 0, 0), (.istore_n 3, 1, 3, 0, 0)], 4),
  (4, [(.iload_n 3, 1, 3, 0, 0), (.aload_n 0, 1, 0, 0, 0), (.getfield 21, 3, 7, 3, 0), (.if_icmp .ge 44, 3, 53, 0, 0), (.aload_n 0, 1, 0, 0, 0), (.getfield 9, 3, 7, 0, 0), (.iload_n 3, 1, 3, 0, 0), (.iaload, 1, 0, 0, 0), (.iload_n 1, 1, 1, 0, 0), (.if_icmp .ne 28, 3, 47, 0, 0), (.aload_n 0, 1, 0, 0, 0), (.getfield 18, 3, 7, 2, 0), (.iload_n 3, 1, 3, 0, 0), (.iaload, 1, 0, 0, 0), (.iconst (-1), 1, 0, 0, -1), (.if_icmp .eq 18, 3, 47, 0, 0), (.iload_n 2, 1, 2, 0, 0), (.iload_n 3, 1, 3, 0, 0), (.aload_n 0, 1, 0, 0, 0), (.getfield 18, 3, 7, 2, 0), (.iload_n 3, 1, 3, 0, 0), (.iaload, 1, 0, 0, 0), (.isub, 1, 0, 0, 0), (.iconst 1, 1, 0, 0, 1), (.isub, 1, 0, 0, 0), (.invokestatic 39, 3, 51, 2, 0), (.istore_n 2, 1, 2, 0, 0)], 47),
  (47, [(.iinc 3 1, 3, 3, 0, 1), (.goto (-46), 3, 4, 0, 0)], 53),
  (53, [(.iload_n 2, 1, 2, 0, 0), (.ireturn, 1, 0, 0, 0)], 55)]
set_option maxRecDepth 100000 in
theorem ok_X7_widestGap : pm_oks 7 false 4 (some .int) cX7_widestGap bk_X7_widestGap = true := oksF_ok (by decide +kernel)
set_option maxRecDepth 100000 in
theorem me_X7_widestGap : pm_me 50 = (yX7_widestGap, cX7_widestGap, 4, (some .int), 1, 0) := rfl
theorem mt_X7_widestGap {l : Launch} {g : pm_G} {d mc ms : Nat} {as : List Value} {A : pm_H} {Q : Option Value → pm_H → Prop} (hca : pm_cat 4 as = true) (body : ∀ J : pm_J, pm_Cl l g (fun _ => none) d mc ms (pm_Rq mc ms Q) bk_X7_widestGap J → J 0 (pm_l0 4 as) [] A 0 0) : pm_Mt l g 50 d mc ms as A Q := pm_Mt_of (isI := false) 7 bk_X7_widestGap me_X7_widestGap (plainFor_of_name (by decide +kernel)) (by decide +kernel) (fun h => by cases h) ok_X7_widestGap hca body
def bk_X7_hasName : pm_B := [(0, [(.aload_n 0, 1, 0, 0, 0), (.iload_n 1, 1, 1, 0, 0), (.invokevirtual 36, 3, 46, 1, 7), (.iconst (-1), 1, 0, 0, -1), (.if_icmp .eq 7, 3, 13, 0, 0), (.iconst 1, 1, 0, 0, 1), (.goto 4, 3, 14, 0, 0)], 13),
  (13, [(.iconst 0, 1, 0, 0, 0)], 14),
  (14, [(.ireturn, 1, 1, 0, 0)], 15)]
set_option maxRecDepth 100000 in
theorem ok_X7_hasName : pm_oks 7 false 2 (some .boolean) cX7_hasName bk_X7_hasName = true := oksF_ok (by decide +kernel)
set_option maxRecDepth 100000 in
theorem me_X7_hasName : pm_me 154 = (yX7_hasName, cX7_hasName, 2, (some .boolean), 1, 0) := rfl
theorem mt_X7_hasName {l : Launch} {g : pm_G} {d mc ms : Nat} {as : List Value} {A : pm_H} {Q : Option Value → pm_H → Prop} (hca : pm_cat 2 as = true) (body : ∀ J : pm_J, pm_Cl l g (fun _ => none) d mc ms (pm_Rq mc ms Q) bk_X7_hasName J → J 0 (pm_l0 2 as) [] A 0 0) : pm_Mt l g 154 d mc ms as A Q := pm_Mt_of (isI := false) 7 bk_X7_hasName me_X7_hasName (plainFor_of_name (by decide +kernel)) (by decide +kernel) (fun h => by cases h) ok_X7_hasName hca body
def bk_X2_init : pm_B := [(0, [(.aload_n 0, 1, 0, 0, 0), (.invokespecial 3, 3, 0, 0, 0), (.aload_n 0, 1, 0, 0, 0), (.bipush 24, 2, 0, 0, 24), (.newarray .int, 2, 24, 0, 0), (.putfield 9, 3, 2, 0, 1), (.aload_n 0, 1, 0, 0, 0), (.bipush 24, 2, 0, 0, 24), (.newarray .int, 2, 24, 0, 0), (.putfield 15, 3, 2, 1, 1), (.aload_n 0, 1, 0, 0, 0), (.getfield 15, 3, 2, 1, 0), (.iconst 1, 1, 0, 0, 1), (.invokestatic 18, 3, 4, 2, 0), (.return_, 1, 0, 0, 0)], 29)]
set_option maxRecDepth 100000 in
theorem ok_X2_init : pm_oks 2 true 1 none cX2_init bk_X2_init = true := oksF_ok (by decide +kernel)
set_option maxRecDepth 100000 in
theorem me_X2_init : pm_me 3 = (yX2_init, cX2_init, 1, none, 0, 2) := rfl
theorem mt_X2_init {l : Launch} {g : pm_G} {d mc ms : Nat} {as : List Value} {A : pm_H} {Q : Option Value → pm_H → Prop} (hca : pm_cat 1 as = true) (body : ∀ J : pm_J, pm_Cl l g (fun _ => none) d mc ms (pm_Rq mc ms Q) bk_X2_init J → J 0 (pm_l0 1 as) [] A 0 0) : pm_Mt l g 3 d mc ms as A Q := pm_Mt_of (isI := true) 2 bk_X2_init me_X2_init (plainFor_of_name (by decide +kernel)) (by decide +kernel) (fun _ => by decide +kernel) ok_X2_init hca body
def bk_X2_read : pm_B := [(0, [(.aload_n 0, 1, 0, 0, 0), (.invokevirtual 37, 3, 56, 0, 2), (.iload_n 2, 1, 2, 0, 0), (.istore 4, 2, 4, 0, 0)], 7),
  (7, [(.iload 4, 2, 4, 0, 0), (.iload_n 3, 1, 3, 0, 0), (.if_icmp .gt 29, 3, 39, 0, 0), (.aload_n 1, 1, 1, 0, 0), (.iload 4, 2, 4, 0, 0), (.invokevirtual 40, 3, 19, 1, 7), (.ifCond .eq 20, 3, 39, 0, 0), (.aload_n 0, 1, 0, 0, 0), (.aload_n 1, 1, 1, 0, 0), (.getfield 46, 3, 7, 0, 0), (.iload 4, 2, 4, 0, 0), (.iaload, 1, 0, 0, 0), (.invokevirtual 49, 3, 57, 1, 2), (.iinc 4 1, 3, 4, 0, 1), (.goto (-29), 3, 7, 0, 0)], 39),
  (39, [(.return_, 1, 0, 0, 0)], 40)]
set_option maxRecDepth 100000 in
theorem ok_X2_read : pm_oks 2 false 5 none cX2_read bk_X2_read = true := oksF_ok (by decide +kernel)
set_option maxRecDepth 100000 in
theorem me_X2_read : pm_me 55 = (yX2_read, cX2_read, 5, none, 3, 0) := rfl
theorem mt_X2_read {l : Launch} {g : pm_G} {d mc ms : Nat} {as : List Value} {A : pm_H} {Q : Option Value → pm_H → Prop} (hca : pm_cat 5 as = true) (body : ∀ J : pm_J, pm_Cl l g (fun _ => none) d mc ms (pm_Rq mc ms Q) bk_X2_read J → J 0 (pm_l0 5 as) [] A 0 0) : pm_Mt l g 55 d mc ms as A Q := pm_Mt_of (isI := false) 2 bk_X2_read me_X2_read (plainFor_of_name (by decide +kernel)) (by decide +kernel) (fun h => by cases h) ok_X2_read hca body
def bk_X2_clear : pm_B := [(0, [(.aload_n 0, 1, 0, 0, 0), (.getfield 9, 3, 2, 0, 0), (.iconst 0, 1, 0, 0, 0), (.invokestatic 18, 3, 4, 2, 0), (.aload_n 0, 1, 0, 0, 0), (.iconst 0, 1, 0, 0, 0), (.putfield 24, 3, 2, 2, 0), (.aload_n 0, 1, 0, 0, 0), (.iconst 0, 1, 0, 0, 0), (.putfield 28, 3, 2, 3, 0), (.aload_n 0, 1, 0, 0, 0), (.iconst 0, 1, 0, 0, 0), (.putfield 31, 3, 2, 4, 0), (.aload_n 0, 1, 0, 0, 0), (.iconst 0, 1, 0, 0, 0), (.putfield 34, 3, 2, 5, 0), (.return_, 1, 0, 0, 0)], 29)]
set_option maxRecDepth 100000 in
theorem ok_X2_clear : pm_oks 2 false 1 none cX2_clear bk_X2_clear = true := oksF_ok (by decide +kernel)
set_option maxRecDepth 100000 in
theorem me_X2_clear : pm_me 56 = (yX2_clear, cX2_clear, 1, none, 0, 0) := rfl
theorem mt_X2_clear {l : Launch} {g : pm_G} {d mc ms : Nat} {as : List Value} {A : pm_H} {Q : Option Value → pm_H → Prop} (hca : pm_cat 1 as = true) (body : ∀ J : pm_J, pm_Cl l g (fun _ => none) d mc ms (pm_Rq mc ms Q) bk_X2_clear J → J 0 (pm_l0 1 as) [] A 0 0) : pm_Mt l g 56 d mc ms as A Q := pm_Mt_of (isI := false) 2 bk_X2_clear me_X2_clear (plainFor_of_name (by decide +kernel)) (by decide +kernel) (fun h => by cases h) ok_X2_clear hca body
def bk_X2_take : pm_B := [(0, [(.aload_n 0, 1, 0, 0, 0), (.dup, 1, 0, 0, 0), (.getfield 24, 3, 2, 2, 0), (.iconst 1, 1, 0, 0, 1), (.iadd, 1, 0, 0, 0), (.putfield 24, 3, 2, 2, 0), (.aload_n 0, 1, 0, 0, 0), (.getfield 9, 3, 2, 0, 0), (.iload_n 1, 1, 1, 0, 0), (.dup2, 1, 0, 0, 0), (.iaload, 1, 0, 0, 0), (.iconst 1, 1, 0, 0, 1), (.iadd, 1, 0, 0, 0), (.iastore, 1, 0, 0, 0), (.aload_n 0, 1, 0, 0, 0), (.getfield 9, 3, 2, 0, 0), (.iload_n 1, 1, 1, 0, 0), (.iaload, 1, 0, 0, 0), (.iconst 1, 1, 0, 0, 1), (.if_icmp .ne 40, 3, 67, 0, 0), (.aload_n 0, 1, 0, 0, 0), (.dup, 1, 0, 0, 0), (.getfield 28, 3, 2, 3, 0), (.iconst 1, 1, 0, 0, 1), (.iadd, 1, 0, 0, 0), (.putfield 28, 3, 2, 3, 0), (.aload_n 0, 1, 0, 0, 0), (.dup, 1, 0, 0, 0), (.getfield 31, 3, 2, 4, 0), (.iconst 1, 1, 0, 0, 1), (.iload_n 1, 1, 1, 0, 0), (.ishl, 1, 0, 0, 0), (.ior, 1, 0, 0, 0), (.putfield 31, 3, 2, 4, 0), (.aload_n 0, 1, 0, 0, 0), (.dup, 1, 0, 0, 0), (.getfield 34, 3, 2, 5, 0), (.aload_n 0, 1, 0, 0, 0), (.getfield 15, 3, 2, 1, 0), (.iload_n 1, 1, 1, 0, 0), (.iaload, 1, 0, 0, 0), (.iadd, 1, 0, 0, 0), (.putfield 34, 3, 2, 5, 0)], 67),
  (67, [(.return_, 1, 0, 0, 0)], 68)]
set_option maxRecDepth 100000 in
theorem ok_X2_take : pm_oks 2 false 2 none cX2_take bk_X2_take = true := oksF_ok (by decide +kernel)
set_option maxRecDepth 100000 in
theorem me_X2_take : pm_me 57 = (yX2_take, cX2_take, 2, none, 1, 0) := rfl
