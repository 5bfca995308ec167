
def bk_X8_goesRather : pm_B := [(0, [(.iload_n 3, 1, 3, 0, 0), (.ifCond .ne 24, 3, 25, 0, 0), (.aload_n 0, 1, 0, 0, 0), (.getfield 15, 3, 8, 1, 0), (.iload_n 1, 1, 1, 0, 0), (.iaload, 1, 0, 0, 0), (.aload_n 0, 1, 0, 0, 0), (.getfield 15, 3, 8, 1, 0), (.iload_n 2, 1, 2, 0, 0), (.iaload, 1, 0, 0, 0), (.if_icmp .ge 7, 3, 23, 0, 0), (.iconst 1, 1, 0, 0, 1), (.goto 4, 3, 24, 0, 0)], 23),
  (23, [(.iconst 0, 1, 0, 0, 0)], 24),
  (24, [(.ireturn, 1, 1, 0, 0)], 25),
  (25, [(.aload_n 0, 1, 0, 0, 0), (.getfield 18, 3, 8, 2, 0), (.iload_n 1, 1, 1, 0, 0), (.iaload, 1, 0, 0, 0), (.aload_n 0, 1, 0, 0, 0), (.getfield 18, 3, 8, 2, 0), (.iload_n 2, 1, 2, 0, 0), (.iaload, 1, 0, 0, 0), (.if_icmp .le 7, 3, 44, 0, 0), (.iconst 1, 1, 0, 0, 1), (.goto 4, 3, 45, 0, 0)], 44),
  (44, [(.iconst 0, 1, 0, 0, 0)], 45),
  (45, [(.ireturn, 1, 1, 0, 0)], 46)]
set_option maxRecDepth 100000 in
theorem ok_X8_goesRather : pm_oks 8 false 4 (some .boolean) cX8_goesRather bk_X8_goesRather = true := oksF_ok (by decide +kernel)
set_option maxRecDepth 100000 in
theorem me_X8_goesRather : pm_me 125 = (yX8_goesRather, cX8_goesRather, 4, (some .boolean), 3, 0) := rfl
theorem mt_X8_goesRather {l : Launch} {g : pm_G} {d mc ms : Nat} {as : List Value} {A : pm_H} {Q : Option Value → pm_H → Prop} (hca : pm_cat 4 as = true) (body : ∀ J : pm_J, pm_Cl l g (fun _ => none) d mc ms (pm_Rq mc ms Q) bk_X8_goesRather J → J 0 (pm_l0 4 as) [] A 0 0) : pm_Mt l g 125 d mc ms as A Q := pm_Mt_of (isI := false) 8 bk_X8_goesRather me_X8_goesRather (plainFor_of_name (by decide +kernel)) (by decide +kernel) (fun h => by cases h) ok_X8_goesRather hca body
def bk_X4_init : pm_B := [(0, [(.aload_n 0, 1, 0, 0, 0), (.invokespecial 3, 3, 0, 0, 0), (.aload_n 0, 1, 0, 0, 0), (.sipush 160, 3, 0, 0, 160), (.newarray .int, 2, 160, 0, 0), (.putfield 9, 3, 4, 0, 1), (.return_, 1, 0, 0, 0)], 14)]
set_option maxRecDepth 100000 in
theorem ok_X4_init : pm_oks 4 true 1 none cX4_init bk_X4_init = true := oksF_ok (by decide +kernel)
set_option maxRecDepth 100000 in
theorem me_X4_init : pm_me 9 = (yX4_init, cX4_init, 1, none, 0, 2) := rfl
theorem mt_X4_init {l : Launch} {g : pm_G} {d mc ms : Nat} {as : List Value} {A : pm_H} {Q : Option Value → pm_H → Prop} (hca : pm_cat 1 as = true) (body : ∀ J : pm_J, pm_Cl l g (fun _ => none) d mc ms (pm_Rq mc ms Q) bk_X4_init J → J 0 (pm_l0 1 as) [] A 0 0) : pm_Mt l g 9 d mc ms as A Q := pm_Mt_of (isI := true) 4 bk_X4_init me_X4_init (plainFor_of_name (by decide +kernel)) (by decide +kernel) (fun _ => by decide +kernel) ok_X4_init hca body
def bk_X4_spansUpTo : pm_B := [(0, [(.aload_n 2, 1, 2, 0, 0), (.invokevirtual 15, 3, 56, 0, 2), (.iconst 0, 1, 0, 0, 0), (.istore 4, 2, 4, 0, 0), (.iconst 0, 1, 0, 0, 0), (.istore 5, 2, 5, 0, 0), (.iconst 0, 1, 0, 0, 0), (.istore 6, 2, 6, 0, 0)], 13),
  (13, [(.iload 6, 2, 6, 0, 0), (.aload_n 1, 1, 1, 0, 0), (.getfield 20, 3, 7, 3, 0), (.if_icmp .ge 64, 3, 83, 0, 0), (.aload_n 2, 1, 2, 0, 0), (.aload_n 1, 1, 1, 0, 0), (.getfield 26, 3, 7, 0, 0), (.iload 6, 2, 6, 0, 0), (.iaload, 1, 0, 0, 0), (.invokevirtual 29, 3, 57, 1, 2)], 33),
  (33, [(.aload_n 2, 1, 2, 0, 0), (.getfield 33, 3, 2, 3, 0), (.iload_n 3, 1, 3, 0, 0), (.if_icmp .le 27, 3, 65, 0, 0), (.iload 5, 2, 5, 0, 0), (.iload 6, 2, 6, 0, 0), (.if_icmp .gt 20, 3, 65, 0, 0), (.aload_n 2, 1, 2, 0, 0), (.aload_n 1, 1, 1, 0, 0), (.getfield 26, 3, 7, 0, 0), (.iload 5, 2, 5, 0, 0), (.iaload, 1, 0, 0, 0), (.invokevirtual 36, 3, 113, 1, 2), (.iinc 5 1, 3, 5, 0, 1), (.goto (-29), 3, 33, 0, 0)], 65),
  (65, [(.iload 4, 2, 4, 0, 0), (.iload 6, 2, 6, 0, 0), (.iload 5, 2, 5, 0, 0), (.isub, 1, 0, 0, 0), (.iconst 1, 1, 0, 0, 1), (.iadd, 1, 0, 0, 0), (.iadd, 1, 0, 0, 0), (.istore 4, 2, 4, 0, 0), (.iinc 6 1, 3, 6, 0, 1), (.goto (-67), 3, 13, 0, 0)], 83),
  (83, [(.iload 4, 2, 4, 0, 0), (.ireturn, 1, 0, 0, 0)], 86)]
set_option maxRecDepth 100000 in
theorem ok_X4_spansUpTo : pm_oks 4 false 7 (some .int) cX4_spansUpTo bk_X4_spansUpTo = true := oksF_ok (by decide +kernel)
set_option maxRecDepth 100000 in
theorem me_X4_spansUpTo : pm_me 129 = (yX4_spansUpTo, cX4_spansUpTo, 7, (some .int), 3, 0) := rfl
theorem mt_X4_spansUpTo {l : Launch} {g : pm_G} {d mc ms : Nat} {as : List Value} {A : pm_H} {Q : Option Value → pm_H → Prop} (hca : pm_cat 7 as = true) (body : ∀ J : pm_J, pm_Cl l g (fun _ => none) d mc ms (pm_Rq mc ms Q) bk_X4_spansUpTo J → J 0 (pm_l0 7 as) [] A 0 0) : pm_Mt l g 129 d mc ms as A Q := pm_Mt_of (isI := false) 4 bk_X4_spansUpTo me_X4_spansUpTo (plainFor_of_name (by decide +kernel)) (by decide +kernel) (fun h => by cases h) ok_X4_spansUpTo hca body
def bk_X4_unlikeSets : pm_B := [(0, [(.aload_n 2, 1, 2, 0, 0), (.aload_n 1, 1, 1, 0, 0), (.iconst 0, 1, 0, 0, 0), (.iload_n 3, 1, 3, 0, 0), (.iconst 1, 1, 0, 0, 1), (.isub, 1, 0, 0, 0), (.invokevirtual 39, 3, 55, 3, 2), (.iconst 0, 1, 0, 0, 0), (.istore 4, 2, 4, 0, 0), (.iconst 0, 1, 0, 0, 0), (.istore 5, 2, 5, 0, 0)], 15),
  (15, [(.iload 5, 2, 5, 0, 0), (.iload_n 3, 1, 3, 0, 0), (.iadd, 1, 0, 0, 0), (.aload_n 1, 1, 1, 0, 0), (.getfield 20, 3, 7, 3, 0), (.if_icmp .gt 69, 3, 92, 0, 0), (.iload 5, 2, 5, 0, 0), (.ifCond .le 31, 3, 59, 0, 0), (.aload_n 2, 1, 2, 0, 0), (.aload_n 1, 1, 1, 0, 0), (.getfield 26, 3, 7, 0, 0), (.iload 5, 2, 5, 0, 0), (.iconst 1, 1, 0, 0, 1), (.isub, 1, 0, 0, 0), (.iaload, 1, 0, 0, 0), (.invokevirtual 36, 3, 113, 1, 2), (.aload_n 2, 1, 2, 0, 0), (.aload_n 1, 1, 1, 0, 0), (.getfield 26, 3, 7, 0, 0), (.iload 5, 2, 5, 0, 0), (.iload_n 3, 1, 3, 0, 0), (.iadd, 1, 0, 0, 0), (.iconst 1, 1, 0, 0, 1), (.isub, 1, 0, 0, 0), (.iaload, 1, 0, 0, 0), (.invokevirtual 29, 3, 57, 1, 2)], 59),
  (59, [(.aload_n 0, 1, 0, 0, 0), (.aload_n 2, 1, 2, 0, 0), (.getfield 43, 3, 2, 4, 0), (.iload 4, 2, 4, 0, 0), (.invokevirtual 46, 3, 133, 2, 4), (.ifCond .ne 17, 3, 86, 0, 0), (.aload_n 0, 1, 0, 0, 0), (.getfield 9, 3, 4, 0, 0), (.iload 4, 2, 4, 0, 0), (.aload_n 2, 1, 2, 0, 0), (.getfield 43, 3, 2, 4, 0), (.iastore, 1, 0, 0, 0), (.iinc 4 1, 3, 4, 0, 1)], 86),
  (86, [(.iinc 5 1, 3, 5, 0, 1), (.goto (-74), 3, 15, 0, 0)], 92),
  (92, [(.iload 4, 2, 4, 0, 0), (.ireturn, 1, 0, 0, 0)], 95)]
set_option maxRecDepth 100000 in
theorem ok_X4_unlikeSets : pm_oks 4 false 6 (some .int) cX4_unlikeSets bk_X4_unlikeSets = true := oksF_ok (by decide +kernel)
set_option maxRecDepth 100000 in
theorem me_X4_unlikeSets : pm_me 132 = (yX4_unlikeSets, cX4_unlikeSets, 6, (some .int), 3, 0) := rfl
theorem mt_X4_unlikeSets {l : Launch} {g : pm_G} {d mc ms : Nat} {as : List Value} {A : pm_H} {Q : Option Value → pm_H → Prop} (hca : pm_cat 6 as = true) (body : ∀ J : pm_J, pm_Cl l g (fun _ => none) d mc ms (pm_Rq mc ms Q) bk_X4_unlikeSets J → J 0 (pm_l0 6 as) [] A 0 0) : pm_Mt l g 132 d mc ms as A Q := pm_Mt_of (isI := false) 4 bk_X4_unlikeSets me_X4_unlikeSets (plainFor_of_name (by decide +kernel)) (by decide +kernel) (fun h => by cases h) ok_X4_unlikeSets hca body
def bk_X4_isAmong : pm_B := [(0, [(.iconst 0, 1, 0, 0, 0), (.istore_n 3, 1, 3, 0, 0)], 2),
  (2, [(.iload_n 3, 1, 3, 0, 0), (.iload_n 2, 1, 2, 0, 0), (.if_icmp .ge 21, 3, 25, 0, 0), (.aload_n 0, 1, 0, 0, 0), (.getfield 9, 3, 4, 0, 0), (.iload_n 3, 1, 3, 0, 0), (.iaload, 1, 0, 0, 0), (.iload_n 1, 1, 1, 0, 0), (.if_icmp .ne 5, 3, 19, 0, 0), (.iconst 1, 1, 0, 0, 1), (.ireturn, 1, 1, 0, 0)], 19),
  (19, [(.iinc 3 1, 3, 3, 0, 1), (.goto (-20), 3, 2, 0, 0)], 25),
  (25, [(.iconst 0, 1, 0, 0, 0), (.ireturn, 1, 1, 0, 0)], 27)]
set_option maxRecDepth 100000 in
theorem ok_X4_isAmong : pm_oks 4 false 4 (some .boolean) cX4_isAmong bk_X4_isAmong = true := oksF_ok (by decide +kernel)
set_option maxRecDepth 100000 in
theorem me_X4_isAmong : pm_me 133 = (yX4_isAmong, cX4_isAmong, 4, (some .boolean), 2, 0) := rfl
