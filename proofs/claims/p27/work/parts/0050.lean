
def bk_X10_window : pm_B := [(0, [(.iload_n 1, 1, 1, 0, 0), (.ldc 205, 2, 0, 0, 16777215), (.iand, 1, 0, 0, 0), (.istore_n 3, 1, 3, 0, 0), (.iload_n 3, 1, 3, 0, 0), (.ifCond .ne 5, 3, 11, 0, 0), (.iconst (-1), 1, 0, 0, -1), (.ireturn, 1, 0, 0, 0)], 11),
  (11, [(.aload_n 0, 1, 0, 0, 0), (.getfield 40, 3, 10, 4, 0), (.aload_n 0, 1, 0, 0, 0), (.getfield 12, 3, 10, 0, 0), (.getfield 80, 3, 9, 4, 0), (.iload_n 3, 1, 3, 0, 0), (.invokevirtual 260, 3, 107, 2, 6), (.iload_n 2, 1, 2, 0, 0), (.iconst 2, 1, 0, 0, 2), (.if_icmp .ne 13, 3, 41, 0, 0), (.aload_n 0, 1, 0, 0, 0), (.getfield 40, 3, 10, 4, 0), (.getfield 264, 3, 6, 4, 0), (.goto 11, 3, 49, 0, 0)], 41),
  (41, [(.aload_n 0, 1, 0, 0, 0), (.getfield 40, 3, 10, 4, 0), (.iload_n 2, 1, 2, 0, 0), (.invokevirtual 267, 3, 110, 1, 6)], 49),
  (49, [(.ireturn, 1, 0, 0, 0)], 50)]
set_option maxRecDepth 100000 in
theorem ok_X10_window : pm_oks 10 false 4 (some .int) cX10_window bk_X10_window = true := oksF_ok (by decide +kernel)
set_option maxRecDepth 100000 in
theorem me_X10_window : pm_me 106 = (yX10_window, cX10_window, 4, (some .int), 2, 0) := rfl
theorem mt_X10_window {l : Launch} {g : pm_G} {d mc ms : Nat} {as : List Value} {A : pm_H} {Q : Option Value → pm_H → Prop} (hca : pm_cat 4 as = true) (body : ∀ J : pm_J, pm_Cl l g (fun _ => none) d mc ms (pm_Rq mc ms Q) bk_X10_window J → J 0 (pm_l0 4 as) [] A 0 0) : pm_Mt l g 106 d mc ms as A Q := pm_Mt_of (isI := false) 10 bk_X10_window me_X10_window (plainFor_of_name (by decide +kernel)) (by decide +kernel) (fun h => by cases h) ok_X10_window hca body
def bk_X10_longest : pm_B := [(0, [(.iload_n 1, 1, 1, 0, 0), (.iconst 1, 1, 0, 0, 1), (.if_icmp .ge 5, 3, 7, 0, 0), (.iconst (-1), 1, 0, 0, -1), (.ireturn, 1, 0, 0, 0)], 7),
  (7, [(.aload_n 0, 1, 0, 0, 0), (.getfield 40, 3, 10, 4, 0), (.aload_n 0, 1, 0, 0, 0), (.getfield 12, 3, 10, 0, 0), (.getfield 80, 3, 9, 4, 0), (.aload_n 0, 1, 0, 0, 0), (.getfield 19, 3, 10, 1, 0), (.iload_n 1, 1, 1, 0, 0), (.invokevirtual 270, 3, 112, 3, 6), (.aload_n 0, 1, 0, 0, 0), (.getfield 40, 3, 10, 4, 0), (.iload_n 2, 1, 2, 0, 0), (.invokevirtual 267, 3, 110, 1, 6), (.ireturn, 1, 0, 0, 0)], 35)]
set_option maxRecDepth 100000 in
theorem ok_X10_longest : pm_oks 10 false 3 (some .int) cX10_longest bk_X10_longest = true := oksF_ok (by decide +kernel)
set_option maxRecDepth 100000 in
theorem me_X10_longest : pm_me 111 = (yX10_longest, cX10_longest, 3, (some .int), 2, 0) := rfl
theorem mt_X10_longest {l : Launch} {g : pm_G} {d mc ms : Nat} {as : List Value} {A : pm_H} {Q : Option Value → pm_H → Prop} (hca : pm_cat 3 as = true) (body : ∀ J : pm_J, pm_Cl l g (fun _ => none) d mc ms (pm_Rq mc ms Q) bk_X10_longest J → J 0 (pm_l0 3 as) [] A 0 0) : pm_Mt l g 111 d mc ms as A Q := pm_Mt_of (isI := false) 10 bk_X10_longest me_X10_longest (plainFor_of_name (by decide +kernel)) (by decide +kernel) (fun h => by cases h) ok_X10_longest hca body
def bk_X10_unlike : pm_B := [(0, [(.aload_n 0, 1, 0, 0, 0), (.getfield 40, 3, 10, 4, 0), (.aload_n 0, 1, 0, 0, 0), (.getfield 12, 3, 10, 0, 0), (.getfield 80, 3, 9, 4, 0), (.invokevirtual 274, 3, 116, 1, 6), (.aload_n 0, 1, 0, 0, 0), (.getfield 40, 3, 10, 4, 0), (.iload_n 1, 1, 1, 0, 0), (.invokevirtual 267, 3, 110, 1, 6), (.ireturn, 1, 0, 0, 0)], 23)]
set_option maxRecDepth 100000 in
theorem ok_X10_unlike : pm_oks 10 false 2 (some .int) cX10_unlike bk_X10_unlike = true := oksF_ok (by decide +kernel)
set_option maxRecDepth 100000 in
theorem me_X10_unlike : pm_me 115 = (yX10_unlike, cX10_unlike, 2, (some .int), 1, 0) := rfl
theorem mt_X10_unlike {l : Launch} {g : pm_G} {d mc ms : Nat} {as : List Value} {A : pm_H} {Q : Option Value → pm_H → Prop} (hca : pm_cat 2 as = true) (body : ∀ J : pm_J, pm_Cl l g (fun _ => none) d mc ms (pm_Rq mc ms Q) bk_X10_unlike J → J 0 (pm_l0 2 as) [] A 0 0) : pm_Mt l g 115 d mc ms as A Q := pm_Mt_of (isI := false) 10 bk_X10_unlike me_X10_unlike (plainFor_of_name (by decide +kernel)) (by decide +kernel) (fun h => by cases h) ok_X10_unlike hca body
def bk_X10_heaviest : pm_B := [(0, [(.iload_n 1, 1, 1, 0, 0), (.iconst 1, 1, 0, 0, 1), (.if_icmp .lt 17, 3, 19, 0, 0), (.iload_n 1, 1, 1, 0, 0), (.aload_n 0, 1, 0, 0, 0), (.getfield 12, 3, 10, 0, 0), (.getfield 80, 3, 9, 4, 0), (.getfield 103, 3, 7, 3, 0), (.if_icmp .le 5, 3, 21, 0, 0)], 19),
  (19, [(.iconst (-1), 1, 0, 0, -1), (.ireturn, 1, 0, 0, 0)], 21),
  (21, [(.aload_n 0, 1, 0, 0, 0), (.getfield 40, 3, 10, 4, 0), (.aload_n 0, 1, 0, 0, 0), (.getfield 12, 3, 10, 0, 0), (.getfield 80, 3, 9, 4, 0), (.aload_n 0, 1, 0, 0, 0), (.getfield 19, 3, 10, 1, 0), (.iload_n 1, 1, 1, 0, 0), (.invokevirtual 278, 3, 118, 3, 6), (.iload_n 2, 1, 2, 0, 0), (.ifCond .ne 13, 3, 54, 0, 0), (.aload_n 0, 1, 0, 0, 0), (.getfield 40, 3, 10, 4, 0), (.getfield 281, 3, 6, 1, 0), (.goto 19, 3, 70, 0, 0)], 54),
  (54, [(.iload_n 2, 1, 2, 0, 0), (.iconst 1, 1, 0, 0, 1), (.if_icmp .ne 13, 3, 69, 0, 0), (.aload_n 0, 1, 0, 0, 0), (.getfield 40, 3, 10, 4, 0), (.getfield 284, 3, 6, 3, 0), (.goto 4, 3, 70, 0, 0)], 69),
  (69, [(.iconst (-1), 1, 0, 0, -1)], 70),
  (70, [(.ireturn, 1, 0, 0, 0)], 71)]
set_option maxRecDepth 100000 in
theorem ok_X10_heaviest : pm_oks 10 false 3 (some .int) cX10_heaviest bk_X10_heaviest = true := oksF_ok (by decide +kernel)
set_option maxRecDepth 100000 in
theorem me_X10_heaviest : pm_me 117 = (yX10_heaviest, cX10_heaviest, 3, (some .int), 2, 0) := rfl
theorem mt_X10_heaviest {l : Launch} {g : pm_G} {d mc ms : Nat} {as : List Value} {A : pm_H} {Q : Option Value → pm_H → Prop} (hca : pm_cat 3 as = true) (body : ∀ J : pm_J, pm_Cl l g (fun _ => none) d mc ms (pm_Rq mc ms Q) bk_X10_heaviest J → J 0 (pm_l0 3 as) [] A 0 0) : pm_Mt l g 117 d mc ms as A Q := pm_Mt_of (isI := false) 10 bk_X10_heaviest me_X10_heaviest (plainFor_of_name (by decide +kernel)) (by decide +kernel) (fun h => by cases h) ok_X10_heaviest hca body
def bk_X10_distance : pm_B := [(0, [(.aload_n 0, 1, 0, 0, 0), (.getfield 12, 3, 10, 0, 0), (.getfield 80, 3, 9, 4, 0), (.astore_n 2, 1, 2, 0, 0), (.aload_n 2, 1, 2, 0, 0), (.iload_n 1, 1, 1, 0, 0), (.invokevirtual 248, 3, 19, 1, 7), (.ifCond .eq 13, 3, 26, 0, 0), (.aload_n 2, 1, 2, 0, 0), (.getfield 287, 3, 7, 2, 0), (.iload_n 1, 1, 1, 0, 0), (.iaload, 1, 0, 0, 0), (.iconst (-1), 1, 0, 0, -1), (.if_icmp .ne 5, 3, 28, 0, 0)], 26),
  (26, [(.iconst (-1), 1, 0, 0, -1), (.ireturn, 1, 0, 0, 0)], 28),
  (28, [(.aload_n 0, 1, 0, 0, 0), (.aload_n 2, 1, 2, 0, 0), (.aload_n 2, 1, 2, 0, 0), (.getfield 287, 3, 7, 2, 0), (.iload_n 1, 1, 1, 0, 0), (.iaload, 1, 0, 0, 0), (.iconst 1, 1, 0, 0, 1), (.iadd, 1, 0, 0, 0), (.iload_n 1, 1, 1, 0, 0), (.iconst 1, 1, 0, 0, 1), (.isub, 1, 0, 0, 0), (.invokevirtual 159, 3, 54, 3, 10), (.ireturn, 1, 0, 0, 0)], 45)]
set_option maxRecDepth 100000 in
theorem ok_X10_distance : pm_oks 10 false 3 (some .int) cX10_distance bk_X10_distance = true := oksF_ok (by decide +kernel)
set_option maxRecDepth 100000 in
theorem me_X10_distance : pm_me 119 = (yX10_distance, cX10_distance, 3, (some .int), 1, 0) := rfl
theorem mt_X10_distance {l : Launch} {g : pm_G} {d mc ms : Nat} {as : List Value} {A : pm_H} {Q : Option Value → pm_H → Prop} (hca : pm_cat 3 as = true) (body : ∀ J : pm_J, pm_Cl l g (fun _ => none) d mc ms (pm_Rq mc ms Q) bk_X10_distance J → J 0 (pm_l0 3 as) [] A 0 0) : pm_Mt l g 119 d mc ms as A Q := pm_Mt_of (isI := false) 10 bk_X10_distance me_X10_distance (plainFor_of_name (by decide +kernel)) (by decide +kernel) (fun h => by cases h) ok_X10_distance hca body
