
theorem mt_X4_isAmong {l : Launch} {g : pm_G} {d mc ms : Nat} {as : List Value} {A : pm_H} {Q : Option Value → pm_H → Prop} (hca : pm_cat 4 as = true) (body : ∀ J : pm_J, pm_Cl l g (fun _ => none) d mc ms (pm_Rq mc ms Q) bk_X4_isAmong J → J 0 (pm_l0 4 as) [] A 0 0) : pm_Mt l g 133 d mc ms as A Q := pm_Mt_of (isI := false) 4 bk_X4_isAmong me_X4_isAmong (plainFor_of_name (by decide +kernel)) (by decide +kernel) (fun h => by cases h) ok_X4_isAmong hca body
def bk_X4_matching : pm_B := [(0, [(.iconst 0, 1, 0, 0, 0), (.istore 5, 2, 5, 0, 0), (.iconst 0, 1, 0, 0, 0), (.istore 6, 2, 6, 0, 0)], 6),
  (6, [(.iload 6, 2, 6, 0, 0), (.iload_n 3, 1, 3, 0, 0), (.iadd, 1, 0, 0, 0), (.iload_n 2, 1, 2, 0, 0), (.isub, 1, 0, 0, 0), (.aload_n 1, 1, 1, 0, 0), (.getfield 20, 3, 7, 3, 0), (.if_icmp .ge 37, 3, 53, 0, 0), (.aload_n 1, 1, 1, 0, 0), (.iload_n 2, 1, 2, 0, 0), (.iload 6, 2, 6, 0, 0), (.iload_n 3, 1, 3, 0, 0), (.iload_n 2, 1, 2, 0, 0), (.isub, 1, 0, 0, 0), (.iconst 1, 1, 0, 0, 1), (.iadd, 1, 0, 0, 0), (.invokestatic 53, 3, 136, 4, 0), (.ifCond .eq 16, 3, 47, 0, 0), (.iload 5, 2, 5, 0, 0), (.iload 4, 2, 4, 0, 0), (.if_icmp .ne 6, 3, 44, 0, 0), (.iload 6, 2, 6, 0, 0), (.ireturn, 1, 0, 0, 0)], 44),
  (44, [(.iinc 5 1, 3, 5, 0, 1)], 47),
  (47, [(.iinc 6 1, 3, 6, 0, 1), (.goto (-44), 3, 6, 0, 0)], 53),
  (53, [(.iload 4, 2, 4, 0, 0), (.iconst (-1), 1, 0, 0, -1), (.if_icmp .ne 8, 3, 64, 0, 0), (.iload 5, 2, 5, 0, 0), (.goto 4, 3, 65, 0, 0)], 64),
  (64, [(.iconst (-1), 1, 0, 0, -1)], 65),
  (65, [(.ireturn, 1, 0, 0, 0)], 66)]
set_option maxRecDepth 100000 in
theorem ok_X4_matching : pm_oks 4 false 7 (some .int) cX4_matching bk_X4_matching = true := oksF_ok (by decide +kernel)
set_option maxRecDepth 100000 in
theorem me_X4_matching : pm_me 135 = (yX4_matching, cX4_matching, 7, (some .int), 4, 0) := rfl
theorem mt_X4_matching {l : Launch} {g : pm_G} {d mc ms : Nat} {as : List Value} {A : pm_H} {Q : Option Value → pm_H → Prop} (hca : pm_cat 7 as = true) (body : ∀ J : pm_J, pm_Cl l g (fun _ => none) d mc ms (pm_Rq mc ms Q) bk_X4_matching J → J 0 (pm_l0 7 as) [] A 0 0) : pm_Mt l g 135 d mc ms as A Q := pm_Mt_of (isI := false) 4 bk_X4_matching me_X4_matching (plainFor_of_name (by decide +kernel)) (by decide +kernel) (fun h => by cases h) ok_X4_matching hca body
def bk_X4_areMatching : pm_B := [(0, [(.iconst 0, 1, 0, 0, 0), (.istore 4, 2, 4, 0, 0)], 3),
  (3, [(.iload 4, 2, 4, 0, 0), (.iload_n 3, 1, 3, 0, 0), (.if_icmp .ge 32, 3, 38, 0, 0), (.aload_n 0, 1, 0, 0, 0), (.iload_n 1, 1, 1, 0, 0), (.iload_n 1, 1, 1, 0, 0), (.iload 4, 2, 4, 0, 0), (.iadd, 1, 0, 0, 0), (.invokestatic 57, 3, 137, 3, 0), (.aload_n 0, 1, 0, 0, 0), (.iload_n 2, 1, 2, 0, 0), (.iload_n 2, 1, 2, 0, 0), (.iload 4, 2, 4, 0, 0), (.iadd, 1, 0, 0, 0), (.invokestatic 57, 3, 137, 3, 0), (.if_icmp .eq 5, 3, 32, 0, 0), (.iconst 0, 1, 0, 0, 0), (.ireturn, 1, 1, 0, 0)], 32),
  (32, [(.iinc 4 1, 3, 4, 0, 1), (.goto (-32), 3, 3, 0, 0)], 38),
  (38, [(.iconst 1, 1, 0, 0, 1), (.ireturn, 1, 1, 0, 0)], 40)]
set_option maxRecDepth 100000 in
theorem ok_X4_areMatching : pm_oks 4 false 5 (some .boolean) cX4_areMatching bk_X4_areMatching = true := oksF_ok (by decide +kernel)
set_option maxRecDepth 100000 in
theorem me_X4_areMatching : pm_me 136 = (yX4_areMatching, cX4_areMatching, 5, (some .boolean), 4, 1) := rfl
theorem mt_X4_areMatching {l : Launch} {g : pm_G} {d mc ms : Nat} {as : List Value} {A : pm_H} {Q : Option Value → pm_H → Prop} (hca : pm_cat 5 as = true) (body : ∀ J : pm_J, pm_Cl l g (fun _ => none) d mc ms (pm_Rq mc ms Q) bk_X4_areMatching J → J 0 (pm_l0 5 as) [] A 0 0) : pm_Mt l g 136 d mc ms as A Q := pm_Mt_of (isI := false) 4 bk_X4_areMatching me_X4_areMatching (plainFor_of_name (by decide +kernel)) (by decide +kernel) (fun h => by cases h) ok_X4_areMatching hca body
def bk_X4_stepWithin : pm_B := [(0, [(.aload_n 0, 1, 0, 0, 0), (.getfield 50, 3, 7, 2, 0), (.iload_n 2, 1, 2, 0, 0), (.iaload, 1, 0, 0, 0), (.iload_n 1, 1, 1, 0, 0), (.if_icmp .lt 14, 3, 21, 0, 0), (.iload_n 2, 1, 2, 0, 0), (.aload_n 0, 1, 0, 0, 0), (.getfield 50, 3, 7, 2, 0), (.iload_n 2, 1, 2, 0, 0), (.iaload, 1, 0, 0, 0), (.isub, 1, 0, 0, 0), (.goto 4, 3, 22, 0, 0)], 21),
  (21, [(.iconst 0, 1, 0, 0, 0)], 22),
  (22, [(.ireturn, 1, 0, 0, 0)], 23)]
set_option maxRecDepth 100000 in
theorem ok_X4_stepWithin : pm_oks 4 false 3 (some .int) cX4_stepWithin bk_X4_stepWithin = true := oksF_ok (by decide +kernel)
set_option maxRecDepth 100000 in
theorem me_X4_stepWithin : pm_me 137 = (yX4_stepWithin, cX4_stepWithin, 3, (some .int), 3, 1) := rfl
theorem mt_X4_stepWithin {l : Launch} {g : pm_G} {d mc ms : Nat} {as : List Value} {A : pm_H} {Q : Option Value → pm_H → Prop} (hca : pm_cat 3 as = true) (body : ∀ J : pm_J, pm_Cl l g (fun _ => none) d mc ms (pm_Rq mc ms Q) bk_X4_stepWithin J → J 0 (pm_l0 3 as) [] A 0 0) : pm_Mt l g 137 d mc ms as A Q := pm_Mt_of (isI := false) 4 bk_X4_stepWithin me_X4_stepWithin (plainFor_of_name (by decide +kernel)) (by decide +kernel) (fun h => by cases h) ok_X4_stepWithin hca body
def bk_X4_findTwin : pm_B := [(0, [(.aload_n 0, 1, 0, 0, 0), (.iconst (-1), 1, 0, 0, -1), (.putfield 61, 3, 4, 1, 0), (.aload_n 0, 1, 0, 0, 0), (.iconst 0, 1, 0, 0, 0), (.putfield 64, 3, 4, 2, 0), (.iconst 1, 1, 0, 0, 1), (.istore_n 2, 1, 2, 0, 0)], 12),
  (12, [(.iload_n 2, 1, 2, 0, 0), (.aload_n 1, 1, 1, 0, 0), (.getfield 20, 3, 7, 3, 0), (.if_icmp .ge 15, 3, 32, 0, 0), (.aload_n 0, 1, 0, 0, 0), (.aload_n 1, 1, 1, 0, 0), (.iload_n 2, 1, 2, 0, 0), (.invokevirtual 67, 3, 140, 2, 4), (.iinc 2 1, 3, 2, 0, 1), (.goto (-17), 3, 12, 0, 0)], 32),
  (32, [(.return_, 1, 0, 0, 0)], 33)]
set_option maxRecDepth 100000 in
theorem ok_X4_findTwin : pm_oks 4 false 3 none cX4_findTwin bk_X4_findTwin = true := oksF_ok (by decide +kernel)
set_option maxRecDepth 100000 in
theorem me_X4_findTwin : pm_me 139 = (yX4_findTwin, cX4_findTwin, 3, none, 1, 0) := rfl
theorem mt_X4_findTwin {l : Launch} {g : pm_G} {d mc ms : Nat} {as : List Value} {A : pm_H} {Q : Option Value → pm_H → Prop} (hca : pm_cat 3 as = true) (body : ∀ J : pm_J, pm_Cl l g (fun _ => none) d mc ms (pm_Rq mc ms Q) bk_X4_findTwin J → J 0 (pm_l0 3 as) [] A 0 0) : pm_Mt l g 139 d mc ms as A Q := pm_Mt_of (isI := false) 4 bk_X4_findTwin me_X4_findTwin (plainFor_of_name (by decide +kernel)) (by decide +kernel) (fun h => by cases h) ok_X4_findTwin hca body
