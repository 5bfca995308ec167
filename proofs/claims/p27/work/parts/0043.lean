
theorem mt_X10_copy {l : Launch} {g : pm_G} {d mc ms : Nat} {as : List Value} {A : pm_H} {Q : Option Value → pm_H → Prop} (hca : pm_cat 6 as = true) (body : ∀ J : pm_J, pm_Cl l g (fun _ => none) d mc ms (pm_Rq mc ms Q) bk_X10_copy J → J 0 (pm_l0 6 as) [] A 0 0) : pm_Mt l g 36 d mc ms as A Q := pm_Mt_of (isI := false) 10 bk_X10_copy me_X10_copy (plainFor_of_name (by decide +kernel)) (by decide +kernel) (fun h => by cases h) ok_X10_copy hca body
def bk_X10_merge : pm_B := [(0, [(.iload_n 1, 1, 1, 0, 0), (.iload_n 2, 1, 2, 0, 0), (.invokestatic 130, 3, 38, 2, 0), (.ifCond .ne 5, 3, 10, 0, 0), (.iconst (-1), 1, 0, 0, -1), (.ireturn, 1, 0, 0, 0)], 10),
  (10, [(.aload_n 0, 1, 0, 0, 0), (.getfield 12, 3, 10, 0, 0), (.getfield 80, 3, 9, 4, 0), (.astore_n 3, 1, 3, 0, 0), (.aload_n 0, 1, 0, 0, 0), (.getfield 12, 3, 10, 0, 0), (.invokevirtual 92, 3, 16, 0, 9), (.iconst 0, 1, 0, 0, 0), (.istore 4, 2, 4, 0, 0)], 28),
  (28, [(.iload 4, 2, 4, 0, 0), (.aload_n 3, 1, 3, 0, 0), (.getfield 103, 3, 7, 3, 0), (.if_icmp .ge 40, 3, 74, 0, 0), (.aload_n 0, 1, 0, 0, 0), (.getfield 12, 3, 10, 0, 0), (.iload 4, 2, 4, 0, 0), (.aload_n 3, 1, 3, 0, 0), (.getfield 126, 3, 7, 0, 0), (.iload 4, 2, 4, 0, 0), (.iaload, 1, 0, 0, 0), (.iload_n 1, 1, 1, 0, 0), (.if_icmp .ne 7, 3, 58, 0, 0), (.iload_n 2, 1, 2, 0, 0), (.goto 10, 3, 65, 0, 0)], 58),
  (58, [(.aload_n 3, 1, 3, 0, 0), (.getfield 126, 3, 7, 0, 0), (.iload 4, 2, 4, 0, 0), (.iaload, 1, 0, 0, 0)], 65),
  (65, [(.invokevirtual 115, 3, 23, 2, 9), (.iinc 4 1, 3, 4, 0, 1), (.goto (-43), 3, 28, 0, 0)], 74),
  (74, [(.aload_n 0, 1, 0, 0, 0), (.getfield 12, 3, 10, 0, 0), (.invokevirtual 107, 3, 24, 0, 9), (.ireturn, 1, 0, 0, 0)], 82)]
set_option maxRecDepth 100000 in
theorem ok_X10_merge : pm_oks 10 false 5 (some .int) cX10_merge bk_X10_merge = true := oksF_ok (by decide +kernel)
set_option maxRecDepth 100000 in
theorem me_X10_merge : pm_me 37 = (yX10_merge, cX10_merge, 5, (some .int), 2, 0) := rfl
theorem mt_X10_merge {l : Launch} {g : pm_G} {d mc ms : Nat} {as : List Value} {A : pm_H} {Q : Option Value → pm_H → Prop} (hca : pm_cat 5 as = true) (body : ∀ J : pm_J, pm_Cl l g (fun _ => none) d mc ms (pm_Rq mc ms Q) bk_X10_merge J → J 0 (pm_l0 5 as) [] A 0 0) : pm_Mt l g 37 d mc ms as A Q := pm_Mt_of (isI := false) 10 bk_X10_merge me_X10_merge (plainFor_of_name (by decide +kernel)) (by decide +kernel) (fun h => by cases h) ok_X10_merge hca body
def bk_X10_areUnlikeColours : pm_B := [(0, [(.iload_n 0, 1, 0, 0, 0), (.invokestatic 72, 3, 15, 1, 0), (.ifCond .eq 19, 3, 23, 0, 0), (.iload_n 1, 1, 1, 0, 0), (.invokestatic 72, 3, 15, 1, 0), (.ifCond .eq 12, 3, 23, 0, 0), (.iload_n 0, 1, 0, 0, 0), (.iload_n 1, 1, 1, 0, 0), (.if_icmp .eq 7, 3, 23, 0, 0), (.iconst 1, 1, 0, 0, 1), (.goto 4, 3, 24, 0, 0)], 23),
  (23, [(.iconst 0, 1, 0, 0, 0)], 24),
  (24, [(.ireturn, 1, 1, 0, 0)], 25)]
set_option maxRecDepth 100000 in
theorem ok_X10_areUnlikeColours : pm_oks 10 false 2 (some .boolean) cX10_areUnlikeColours bk_X10_areUnlikeColours = true := oksF_ok (by decide +kernel)
set_option maxRecDepth 100000 in
theorem me_X10_areUnlikeColours : pm_me 38 = (yX10_areUnlikeColours, cX10_areUnlikeColours, 2, (some .boolean), 2, 1) := rfl
theorem mt_X10_areUnlikeColours {l : Launch} {g : pm_G} {d mc ms : Nat} {as : List Value} {A : pm_H} {Q : Option Value → pm_H → Prop} (hca : pm_cat 2 as = true) (body : ∀ J : pm_J, pm_Cl l g (fun _ => none) d mc ms (pm_Rq mc ms Q) bk_X10_areUnlikeColours J → J 0 (pm_l0 2 as) [] A 0 0) : pm_Mt l g 38 d mc ms as A Q := pm_Mt_of (isI := false) 10 bk_X10_areUnlikeColours me_X10_areUnlikeColours (plainFor_of_name (by decide +kernel)) (by decide +kernel) (fun h => by cases h) ok_X10_areUnlikeColours hca body
def bk_X10_exchange : pm_B := [(0, [(.iload_n 1, 1, 1, 0, 0), (.iload_n 2, 1, 2, 0, 0), (.invokestatic 130, 3, 38, 2, 0), (.ifCond .ne 5, 3, 10, 0, 0), (.iconst (-1), 1, 0, 0, -1), (.ireturn, 1, 0, 0, 0)], 10),
  (10, [(.aload_n 0, 1, 0, 0, 0), (.getfield 12, 3, 10, 0, 0), (.getfield 80, 3, 9, 4, 0), (.astore_n 3, 1, 3, 0, 0), (.aload_n 0, 1, 0, 0, 0), (.getfield 12, 3, 10, 0, 0), (.invokevirtual 92, 3, 16, 0, 9), (.iconst 0, 1, 0, 0, 0), (.istore 4, 2, 4, 0, 0)], 28),
  (28, [(.iload 4, 2, 4, 0, 0), (.aload_n 3, 1, 3, 0, 0), (.getfield 103, 3, 7, 3, 0), (.if_icmp .ge 49, 3, 83, 0, 0), (.aload_n 3, 1, 3, 0, 0), (.getfield 126, 3, 7, 0, 0), (.iload 4, 2, 4, 0, 0), (.iaload, 1, 0, 0, 0), (.istore 5, 2, 5, 0, 0), (.aload_n 0, 1, 0, 0, 0), (.getfield 12, 3, 10, 0, 0), (.iload 4, 2, 4, 0, 0), (.iload 5, 2, 5, 0, 0), (.iload_n 1, 1, 1, 0, 0), (.if_icmp .ne 7, 3, 62, 0, 0), (.iload_n 2, 1, 2, 0, 0), (.goto 15, 3, 74, 0, 0)], 62),
  (62, [(.iload 5, 2, 5, 0, 0), (.iload_n 2, 1, 2, 0, 0), (.if_icmp .ne 7, 3, 72, 0, 0), (.iload_n 1, 1, 1, 0, 0), (.goto 5, 3, 74, 0, 0)], 72),
  (72, [(.iload 5, 2, 5, 0, 0)], 74),
  (74, [(.invokevirtual 115, 3, 23, 2, 9), (.iinc 4 1, 3, 4, 0, 1), (.goto (-52), 3, 28, 0, 0)], 83),
  (83, [(.aload_n 0, 1, 0, 0, 0), (.getfield 12, 3, 10, 0, 0), (.invokevirtual 107, 3, 24, 0, 9), (.ireturn, 1, 0, 0, 0)], 91)]
set_option maxRecDepth 100000 in
theorem ok_X10_exchange : pm_oks 10 false 6 (some .int) cX10_exchange bk_X10_exchange = true := oksF_ok (by decide +kernel)
set_option maxRecDepth 100000 in
theorem me_X10_exchange : pm_me 39 = (yX10_exchange, cX10_exchange, 6, (some .int), 2, 0) := rfl
theorem mt_X10_exchange {l : Launch} {g : pm_G} {d mc ms : Nat} {as : List Value} {A : pm_H} {Q : Option Value → pm_H → Prop} (hca : pm_cat 6 as = true) (body : ∀ J : pm_J, pm_Cl l g (fun _ => none) d mc ms (pm_Rq mc ms Q) bk_X10_exchange J → J 0 (pm_l0 6 as) [] A 0 0) : pm_Mt l g 39 d mc ms as A Q := pm_Mt_of (isI := false) 10 bk_X10_exchange me_X10_exchange (plainFor_of_name (by decide +kernel)) (by decide +kernel) (fun h => by cases h) ok_X10_exchange hca body
def bk_X10_draw : pm_B := [(0, [(.iload_n 1, 1, 1, 0, 0), (.ifCond .lt 26, 3, 27, 0, 0), (.iload_n 1, 1, 1, 0, 0), (.sipush 9999, 3, 0, 0, 9999), (.if_icmp .gt 19, 3, 27, 0, 0), (.iload_n 2, 1, 2, 0, 0), (.iconst 1, 1, 0, 0, 1), (.if_icmp .lt 14, 3, 27, 0, 0), (.iload_n 2, 1, 2, 0, 0), (.sipush 160, 3, 0, 0, 160), (.if_icmp .gt 7, 3, 27, 0, 0), (.iconst 1, 1, 0, 0, 1), (.goto 4, 3, 28, 0, 0)], 27),
  (27, [(.iconst 0, 1, 0, 0, 0)], 28),
  (28, [(.istore 4, 2, 4, 0, 0), (.iload 4, 2, 4, 0, 0), (.ifCond .eq 25, 3, 57, 0, 0), (.iload_n 3, 1, 3, 0, 0), (.iconst 1, 1, 0, 0, 1), (.if_icmp .lt 20, 3, 57, 0, 0), (.iload_n 3, 1, 3, 0, 0), (.bipush 24, 2, 0, 0, 24), (.if_icmp .gt 14, 3, 57, 0, 0), (.aload_n 0, 1, 0, 0, 0), (.getfield 12, 3, 10, 0, 0), (.iload_n 2, 1, 2, 0, 0), (.invokevirtual 89, 3, 27, 1, 9), (.ifCond .ne 5, 3, 59, 0, 0)], 57),
  (57, [(.iconst (-1), 1, 0, 0, -1), (.ireturn, 1, 0, 0, 0)], 59),
  (59, [(.aload_n 0, 1, 0, 0, 0), (.getfield 12, 3, 10, 0, 0), (.invokevirtual 92, 3, 16, 0, 9), (.aload_n 0, 1, 0, 0, 0), (.getfield 12, 3, 10, 0, 0), (.iconst 0, 1, 0, 0, 0), (.aload_n 0, 1, 0, 0, 0), (.getfield 12, 3, 10, 0, 0), (.getfield 80, 3, 9, 4, 0), (.getfield 103, 3, 7, 3, 0), (.iconst 1, 1, 0, 0, 1), (.isub, 1, 0, 0, 0), (.invokevirtual 95, 3, 18, 2, 9), (.iload_n 1, 1, 1, 0, 0), (.istore 5, 2, 5, 0, 0), (.iconst 0, 1, 0, 0, 0), (.istore 6, 2, 6, 0, 0)], 92),
  (92, [(.iload 6, 2, 6, 0, 0), (.iload_n 2, 1, 2, 0, 0), (.if_icmp .ge 35, 3, 130, 0, 0), (.iload 5, 2, 5, 0, 0), (.sipush 137, 3, 0, 0, 137), (.imul, 1, 0, 0, 0), (.bipush 71, 2, 0, 0, 71), (.iadd, 1, 0, 0, 0), (.sipush 10007, 3, 0, 0, 10007), (.irem, 1, 0, 0, 0), (.istore 5, 2, 5, 0, 0), (.aload_n 0, 1, 0, 0, 0), (.getfield 12, 3, 10, 0, 0), (.iload 5, 2, 5, 0, 0), (.iload_n 3, 1, 3, 0, 0), (.irem, 1, 0, 0, 0), (.invokevirtual 99, 3, 28, 1, 9), (.iinc 6 1, 3, 6, 0, 1), (.goto (-35), 3, 92, 0, 0)], 130),
  (130, [(.aload_n 0, 1, 0, 0, 0), (.getfield 12, 3, 10, 0, 0), (.invokevirtual 107, 3, 24, 0, 9), (.ireturn, 1, 0, 0, 0)], 138)]
set_option maxRecDepth 100000 in
theorem ok_X10_draw : pm_oks 10 false 7 (some .int) cX10_draw bk_X10_draw = true := oksF_ok (by decide +kernel)
