
theorem mt_X8_init {l : Launch} {g : pm_G} {d mc ms : Nat} {as : List Value} {A : pm_H} {Q : Option Value → pm_H → Prop} (hca : pm_cat 1 as = true) (body : ∀ J : pm_J, pm_Cl l g (fun _ => none) d mc ms (pm_Rq mc ms Q) bk_X8_init J → J 0 (pm_l0 1 as) [] A 0 0) : pm_Mt l g 8 d mc ms as A Q := pm_Mt_of (isI := true) 8 bk_X8_init me_X8_init (plainFor_of_name (by decide +kernel)) (by decide +kernel) (fun _ => by decide +kernel) ok_X8_init hca body
def bk_X8_canBe : pm_B := [(0, [(.iload_n 0, 1, 0, 0, 0), (.iconst 1, 1, 0, 0, 1), (.if_icmp .lt 22, 3, 24, 0, 0), (.iload_n 0, 1, 0, 0, 0), (.bipush 24, 2, 0, 0, 24), (.if_icmp .gt 16, 3, 24, 0, 0), (.iload_n 1, 1, 1, 0, 0), (.ifCond .eq 8, 3, 20, 0, 0), (.iload_n 1, 1, 1, 0, 0), (.iconst 1, 1, 0, 0, 1), (.if_icmp .ne 7, 3, 24, 0, 0)], 20),
  (20, [(.iconst 1, 1, 0, 0, 1), (.goto 4, 3, 25, 0, 0)], 24),
  (24, [(.iconst 0, 1, 0, 0, 0)], 25),
  (25, [(.ireturn, 1, 1, 0, 0)], 26)]
set_option maxRecDepth 100000 in
theorem ok_X8_canBe : pm_oks 8 false 2 (some .boolean) cX8_canBe bk_X8_canBe = true := oksF_ok (by decide +kernel)
set_option maxRecDepth 100000 in
theorem me_X8_canBe : pm_me 121 = (yX8_canBe, cX8_canBe, 2, (some .boolean), 2, 1) := rfl
theorem mt_X8_canBe {l : Launch} {g : pm_G} {d mc ms : Nat} {as : List Value} {A : pm_H} {Q : Option Value → pm_H → Prop} (hca : pm_cat 2 as = true) (body : ∀ J : pm_J, pm_Cl l g (fun _ => none) d mc ms (pm_Rq mc ms Q) bk_X8_canBe J → J 0 (pm_l0 2 as) [] A 0 0) : pm_Mt l g 121 d mc ms as A Q := pm_Mt_of (isI := false) 8 bk_X8_canBe me_X8_canBe (plainFor_of_name (by decide +kernel)) (by decide +kernel) (fun h => by cases h) ok_X8_canBe hca body
def bk_X8_goThrough : pm_B := [(0, [(.aload_n 0, 1, 0, 0, 0), (.aload_n 1, 1, 1, 0, 0), (.invokevirtual 21, 3, 123, 1, 8), (.aload_n 0, 1, 0, 0, 0), (.iconst 0, 1, 0, 0, 0), (.putfield 25, 3, 8, 3, 0), (.aload_n 0, 1, 0, 0, 0), (.iconst 0, 1, 0, 0, 0), (.putfield 29, 3, 8, 4, 0), (.iconst 0, 1, 0, 0, 0), (.istore 5, 2, 5, 0, 0)], 18),
  (18, [(.iload 5, 2, 5, 0, 0), (.iload_n 2, 1, 2, 0, 0), (.if_icmp .gt 115, 3, 136, 0, 0), (.aload_n 1, 1, 1, 0, 0), (.iload 5, 2, 5, 0, 0), (.invokevirtual 32, 3, 19, 1, 7), (.ifCond .eq 106, 3, 136, 0, 0), (.aload_n 1, 1, 1, 0, 0), (.getfield 38, 3, 7, 0, 0), (.iload 5, 2, 5, 0, 0), (.iaload, 1, 0, 0, 0), (.istore 6, 2, 6, 0, 0), (.aload_n 0, 1, 0, 0, 0), (.getfield 29, 3, 8, 4, 0), (.iconst 1, 1, 0, 0, 1), (.iload 6, 2, 6, 0, 0), (.ishl, 1, 0, 0, 0), (.iand, 1, 0, 0, 0), (.ifCond .ne 56, 3, 107, 0, 0), (.aload_n 0, 1, 0, 0, 0), (.dup, 1, 0, 0, 0), (.getfield 25, 3, 8, 3, 0), (.iconst 1, 1, 0, 0, 1), (.iadd, 1, 0, 0, 0), (.putfield 25, 3, 8, 3, 0), (.aload_n 0, 1, 0, 0, 0), (.getfield 29, 3, 8, 4, 0), (.invokestatic 41, 3, 75, 1, 0), (.iload_n 3, 1, 3, 0, 0), (.if_icmp .lt 22, 3, 94, 0, 0), (.aload_n 0, 1, 0, 0, 0), (.dup, 1, 0, 0, 0), (.getfield 29, 3, 8, 4, 0), (.iconst 1, 1, 0, 0, 1), (.aload_n 0, 1, 0, 0, 0), (.iload 4, 2, 4, 0, 0), (.invokevirtual 47, 3, 124, 1, 8), (.ishl, 1, 0, 0, 0), (.iconst (-1), 1, 0, 0, -1), (.ixor, 1, 0, 0, 0), (.iand, 1, 0, 0, 0), (.putfield 29, 3, 8, 4, 0)], 94),
  (94, [(.aload_n 0, 1, 0, 0, 0), (.dup, 1, 0, 0, 0), (.getfield 29, 3, 8, 4, 0), (.iconst 1, 1, 0, 0, 1), (.iload 6, 2, 6, 0, 0), (.ishl, 1, 0, 0, 0), (.ior, 1, 0, 0, 0), (.putfield 29, 3, 8, 4, 0)], 107),
  (107, [(.aload_n 0, 1, 0, 0, 0), (.getfield 15, 3, 8, 1, 0), (.iload 6, 2, 6, 0, 0), (.iload 5, 2, 5, 0, 0), (.iastore, 1, 0, 0, 0), (.aload_n 0, 1, 0, 0, 0), (.getfield 18, 3, 8, 2, 0), (.iload 6, 2, 6, 0, 0), (.aload_n 0, 1, 0, 0, 0), (.getfield 9, 3, 8, 0, 0), (.iload 5, 2, 5, 0, 0), (.iaload, 1, 0, 0, 0), (.iastore, 1, 0, 0, 0), (.iinc 5 1, 3, 5, 0, 1), (.goto (-115), 3, 18, 0, 0)], 136),
  (136, [(.return_, 1, 0, 0, 0)], 137)]
set_option maxRecDepth 100000 in
theorem ok_X8_goThrough : pm_oks 8 false 7 none cX8_goThrough bk_X8_goThrough = true := oksF_ok (by decide +kernel)
set_option maxRecDepth 100000 in
theorem me_X8_goThrough : pm_me 122 = (yX8_goThrough, cX8_goThrough, 7, none, 4, 0) := rfl
theorem mt_X8_goThrough {l : Launch} {g : pm_G} {d mc ms : Nat} {as : List Value} {A : pm_H} {Q : Option Value → pm_H → Prop} (hca : pm_cat 7 as = true) (body : ∀ J : pm_J, pm_Cl l g (fun _ => none) d mc ms (pm_Rq mc ms Q) bk_X8_goThrough J → J 0 (pm_l0 7 as) [] A 0 0) : pm_Mt l g 122 d mc ms as A Q := pm_Mt_of (isI := false) 8 bk_X8_goThrough me_X8_goThrough (plainFor_of_name (by decide +kernel)) (by decide +kernel) (fun h => by cases h) ok_X8_goThrough hca body
def bk_X8_findNextAlike : pm_B := [(0, [(.aload_n 0, 1, 0, 0, 0), (.getfield 9, 3, 8, 0, 0), (.sipush 160, 3, 0, 0, 160), (.invokestatic 50, 3, 4, 2, 0), (.iconst 0, 1, 0, 0, 0), (.istore_n 2, 1, 2, 0, 0)], 12),
  (12, [(.iload_n 2, 1, 2, 0, 0), (.aload_n 1, 1, 1, 0, 0), (.getfield 56, 3, 7, 3, 0), (.if_icmp .ge 31, 3, 48, 0, 0), (.aload_n 1, 1, 1, 0, 0), (.getfield 59, 3, 7, 2, 0), (.iload_n 2, 1, 2, 0, 0), (.iaload, 1, 0, 0, 0), (.iconst (-1), 1, 0, 0, -1), (.if_icmp .eq 15, 3, 42, 0, 0), (.aload_n 0, 1, 0, 0, 0), (.getfield 9, 3, 8, 0, 0), (.aload_n 1, 1, 1, 0, 0), (.getfield 59, 3, 7, 2, 0), (.iload_n 2, 1, 2, 0, 0), (.iaload, 1, 0, 0, 0), (.iload_n 2, 1, 2, 0, 0), (.iastore, 1, 0, 0, 0)], 42),
  (42, [(.iinc 2 1, 3, 2, 0, 1), (.goto (-33), 3, 12, 0, 0)], 48),
  (48, [(.return_, 1, 0, 0, 0)], 49)]
set_option maxRecDepth 100000 in
theorem ok_X8_findNextAlike : pm_oks 8 false 3 none cX8_findNextAlike bk_X8_findNextAlike = true := oksF_ok (by decide +kernel)
set_option maxRecDepth 100000 in
theorem me_X8_findNextAlike : pm_me 123 = (yX8_findNextAlike, cX8_findNextAlike, 3, none, 1, 0) := rfl
theorem mt_X8_findNextAlike {l : Launch} {g : pm_G} {d mc ms : Nat} {as : List Value} {A : pm_H} {Q : Option Value → pm_H → Prop} (hca : pm_cat 3 as = true) (body : ∀ J : pm_J, pm_Cl l g (fun _ => none) d mc ms (pm_Rq mc ms Q) bk_X8_findNextAlike J → J 0 (pm_l0 3 as) [] A 0 0) : pm_Mt l g 123 d mc ms as A Q := pm_Mt_of (isI := false) 8 bk_X8_findNextAlike me_X8_findNextAlike (plainFor_of_name (by decide +kernel)) (by decide +kernel) (fun h => by cases h) ok_X8_findNextAlike hca body
def bk_X8_oneToGo : pm_B := [(0, [(.iconst (-1), 1, 0, 0, -1), (.istore_n 2, 1, 2, 0, 0), (.iconst 0, 1, 0, 0, 0), (.istore_n 3, 1, 3, 0, 0)], 4),
  (4, [(.iload_n 3, 1, 3, 0, 0), (.bipush 24, 2, 0, 0, 24), (.if_icmp .ge 37, 3, 44, 0, 0), (.aload_n 0, 1, 0, 0, 0), (.getfield 29, 3, 8, 4, 0), (.iconst 1, 1, 0, 0, 1), (.iload_n 3, 1, 3, 0, 0), (.ishl, 1, 0, 0, 0), (.iand, 1, 0, 0, 0), (.ifCond .eq 20, 3, 38, 0, 0), (.iload_n 2, 1, 2, 0, 0), (.iconst (-1), 1, 0, 0, -1), (.if_icmp .eq 13, 3, 36, 0, 0), (.aload_n 0, 1, 0, 0, 0), (.iload_n 3, 1, 3, 0, 0), (.iload_n 2, 1, 2, 0, 0), (.iload_n 1, 1, 1, 0, 0), (.invokevirtual 62, 3, 125, 3, 8), (.ifCond .eq 5, 3, 38, 0, 0)], 36),
  (36, [(.iload_n 3, 1, 3, 0, 0), (.istore_n 2, 1, 2, 0, 0)], 38),
  (38, [(.iinc 3 1, 3, 3, 0, 1), (.goto (-37), 3, 4, 0, 0)], 44),
  (44, [(.iload_n 2, 1, 2, 0, 0), (.iconst 0, 1, 0, 0, 0), (.invokestatic 66, 3, 51, 2, 0), (.ireturn, 1, 0, 0, 0)], 50)]
set_option maxRecDepth 100000 in
theorem ok_X8_oneToGo : pm_oks 8 false 4 (some .int) cX8_oneToGo bk_X8_oneToGo = true := oksF_ok (by decide +kernel)
set_option maxRecDepth 100000 in
theorem me_X8_oneToGo : pm_me 124 = (yX8_oneToGo, cX8_oneToGo, 4, (some .int), 1, 0) := rfl
theorem mt_X8_oneToGo {l : Launch} {g : pm_G} {d mc ms : Nat} {as : List Value} {A : pm_H} {Q : Option Value → pm_H → Prop} (hca : pm_cat 4 as = true) (body : ∀ J : pm_J, pm_Cl l g (fun _ => none) d mc ms (pm_Rq mc ms Q) bk_X8_oneToGo J → J 0 (pm_l0 4 as) [] A 0 0) : pm_Mt l g 124 d mc ms as A Q := pm_Mt_of (isI := false) 8 bk_X8_oneToGo me_X8_oneToGo (plainFor_of_name (by decide +kernel)) (by decide +kernel) (fun h => by cases h) ok_X8_oneToGo hca body
