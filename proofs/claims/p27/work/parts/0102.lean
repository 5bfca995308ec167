
theorem mt_X11_goOver {l : Launch} {g : pm_G} {d mc ms : Nat} {as : List Value} {A : pm_H} {Q : Option Value → pm_H → Prop} (hca : pm_cat 6 as = true) (body : ∀ J : pm_J, pm_Cl l g (fun _ => none) d mc ms (pm_Rq mc ms Q) bk_X11_goOver J → J 0 (pm_l0 6 as) [] A 0 0) : pm_Mt l g 259 d mc ms as A Q := pm_Mt_of (isI := false) 11 bk_X11_goOver me_X11_goOver (plainFor_of_name (by decide +kernel)) (by decide +kernel) (fun h => by cases h) ok_X11_goOver hca body
def bk_X11_goner : pm_B := [(0, [(.iconst (-1), 1, 0, 0, -1), (.istore_n 3, 1, 3, 0, 0), (.iconst (-1), 1, 0, 0, -1), (.istore 4, 2, 4, 0, 0), (.iconst 0, 1, 0, 0, 0), (.istore 5, 2, 5, 0, 0)], 8),
  (8, [(.iload 5, 2, 5, 0, 0), (.bipush 24, 2, 0, 0, 24), (.if_icmp .ge 66, 3, 78, 0, 0), (.aload_n 0, 1, 0, 0, 0), (.getfield 230, 3, 11, 24, 0), (.iload 5, 2, 5, 0, 0), (.ishr, 1, 0, 0, 0), (.iconst 1, 1, 0, 0, 1), (.iand, 1, 0, 0, 0), (.ifCond .ne 6, 3, 30, 0, 0), (.goto 45, 3, 72, 0, 0)], 30),
  (30, [(.iload_n 2, 1, 2, 0, 0), (.ifCond .ne 15, 3, 46, 0, 0), (.iload_n 1, 1, 1, 0, 0), (.aload_n 0, 1, 0, 0, 0), (.iload 5, 2, 5, 0, 0), (.iload_n 1, 1, 1, 0, 0), (.invokevirtual 233, 3, 261, 2, 11), (.isub, 1, 0, 0, 0), (.goto 10, 3, 53, 0, 0)], 46),
  (46, [(.aload_n 0, 1, 0, 0, 0), (.iload 5, 2, 5, 0, 0), (.iload_n 1, 1, 1, 0, 0), (.invokevirtual 223, 3, 247, 2, 11)], 53),
  (53, [(.istore 6, 2, 6, 0, 0), (.iload 6, 2, 6, 0, 0), (.iload 4, 2, 4, 0, 0), (.if_icmp .gt 6, 3, 65, 0, 0), (.goto 10, 3, 72, 0, 0)], 65),
  (65, [(.iload 5, 2, 5, 0, 0), (.istore_n 3, 1, 3, 0, 0), (.iload 6, 2, 6, 0, 0), (.istore 4, 2, 4, 0, 0)], 72),
  (72, [(.iinc 5 1, 3, 5, 0, 1), (.goto (-67), 3, 8, 0, 0)], 78),
  (78, [(.iload_n 3, 1, 3, 0, 0), (.ireturn, 1, 0, 0, 0)], 80)]
set_option maxRecDepth 100000 in
theorem ok_X11_goner : pm_oks 11 false 7 (some .int) cX11_goner bk_X11_goner = true := oksF_ok (by decide +kernel)
set_option maxRecDepth 100000 in
theorem me_X11_goner : pm_me 260 = (yX11_goner, cX11_goner, 7, (some .int), 2, 0) := rfl
theorem mt_X11_goner {l : Launch} {g : pm_G} {d mc ms : Nat} {as : List Value} {A : pm_H} {Q : Option Value → pm_H → Prop} (hca : pm_cat 7 as = true) (body : ∀ J : pm_J, pm_Cl l g (fun _ => none) d mc ms (pm_Rq mc ms Q) bk_X11_goner J → J 0 (pm_l0 7 as) [] A 0 0) : pm_Mt l g 260 d mc ms as A Q := pm_Mt_of (isI := false) 11 bk_X11_goner me_X11_goner (plainFor_of_name (by decide +kernel)) (by decide +kernel) (fun h => by cases h) ok_X11_goner hca body
def bk_X11_lastAhead : pm_B := [(0, [(.iload_n 2, 1, 2, 0, 0), (.iconst 1, 1, 0, 0, 1), (.isub, 1, 0, 0, 0), (.istore_n 3, 1, 3, 0, 0)], 4),
  (4, [(.aload_n 0, 1, 0, 0, 0), (.getfield 7, 3, 11, 0, 0), (.iload_n 3, 1, 3, 0, 0), (.iaload, 1, 0, 0, 0), (.iload_n 1, 1, 1, 0, 0), (.if_icmp .eq 9, 3, 20, 0, 0), (.iinc 3 (-1), 3, 3, 0, -1), (.goto (-13), 3, 4, 0, 0)], 20),
  (20, [(.iload_n 3, 1, 3, 0, 0), (.ireturn, 1, 0, 0, 0)], 22)]
set_option maxRecDepth 100000 in
theorem ok_X11_lastAhead : pm_oks 11 false 4 (some .int) cX11_lastAhead bk_X11_lastAhead = true := oksF_ok (by decide +kernel)
set_option maxRecDepth 100000 in
theorem me_X11_lastAhead : pm_me 261 = (yX11_lastAhead, cX11_lastAhead, 4, (some .int), 2, 0) := rfl
theorem mt_X11_lastAhead {l : Launch} {g : pm_G} {d mc ms : Nat} {as : List Value} {A : pm_H} {Q : Option Value → pm_H → Prop} (hca : pm_cat 4 as = true) (body : ∀ J : pm_J, pm_Cl l g (fun _ => none) d mc ms (pm_Rq mc ms Q) bk_X11_lastAhead J → J 0 (pm_l0 4 as) [] A 0 0) : pm_Mt l g 261 d mc ms as A Q := pm_Mt_of (isI := false) 11 bk_X11_lastAhead me_X11_lastAhead (plainFor_of_name (by decide +kernel)) (by decide +kernel) (fun h => by cases h) ok_X11_lastAhead hca body
def bk_X11_shelf : pm_B := [(0, [(.aload_n 0, 1, 0, 0, 0), (.iload_n 1, 1, 1, 0, 0), (.invokevirtual 119, 3, 168, 1, 11), (.ifCond .eq 11, 3, 16, 0, 0), (.iload_n 2, 1, 2, 0, 0), (.iload_n 3, 1, 3, 0, 0), (.invokestatic 239, 3, 258, 2, 0), (.ifCond .ne 5, 3, 18, 0, 0)], 16),
  (16, [(.iconst (-1), 1, 0, 0, -1), (.ireturn, 1, 0, 0, 0)], 18),
  (18, [(.aload_n 0, 1, 0, 0, 0), (.iload_n 1, 1, 1, 0, 0), (.iload_n 2, 1, 2, 0, 0), (.iload_n 3, 1, 3, 0, 0), (.invokevirtual 242, 3, 259, 3, 11), (.istore 4, 2, 4, 0, 0), (.iload 4, 2, 4, 0, 0), (.ifCond .ge 7, 3, 36, 0, 0), (.iconst (-1), 1, 0, 0, -1), (.goto 7, 3, 40, 0, 0)], 36),
  (36, [(.aload_n 0, 1, 0, 0, 0), (.getfield 230, 3, 11, 24, 0)], 40),
  (40, [(.ireturn, 1, 0, 0, 0)], 41)]
set_option maxRecDepth 100000 in
theorem ok_X11_shelf : pm_oks 11 false 5 (some .int) cX11_shelf bk_X11_shelf = true := oksF_ok (by decide +kernel)
set_option maxRecDepth 100000 in
theorem me_X11_shelf : pm_me 262 = (yX11_shelf, cX11_shelf, 5, (some .int), 3, 0) := rfl
theorem mt_X11_shelf {l : Launch} {g : pm_G} {d mc ms : Nat} {as : List Value} {A : pm_H} {Q : Option Value → pm_H → Prop} (hca : pm_cat 5 as = true) (body : ∀ J : pm_J, pm_Cl l g (fun _ => none) d mc ms (pm_Rq mc ms Q) bk_X11_shelf J → J 0 (pm_l0 5 as) [] A 0 0) : pm_Mt l g 262 d mc ms as A Q := pm_Mt_of (isI := false) 11 bk_X11_shelf me_X11_shelf (plainFor_of_name (by decide +kernel)) (by decide +kernel) (fun h => by cases h) ok_X11_shelf hca body
def bk_X11_suffices : pm_B := [(0, [(.iload_n 1, 1, 1, 0, 0), (.ifCond .lt 12, 3, 13, 0, 0), (.iload_n 2, 1, 2, 0, 0), (.iconst 0, 1, 0, 0, 0), (.iconst 1, 1, 0, 0, 1), (.invokestatic 74, 3, 169, 3, 0), (.ifCond .ne 5, 3, 15, 0, 0)], 13),
  (13, [(.iconst (-1), 1, 0, 0, -1), (.ireturn, 1, 0, 0, 0)], 15),
  (15, [(.iconst 1, 1, 0, 0, 1), (.istore_n 3, 1, 3, 0, 0)], 17),
  (17, [(.iload_n 3, 1, 3, 0, 0), (.bipush 24, 2, 0, 0, 24), (.if_icmp .gt 27, 3, 47, 0, 0), (.aload_n 0, 1, 0, 0, 0), (.aload_n 0, 1, 0, 0, 0), (.getfield 70, 3, 11, 7, 0), (.iconst 1, 1, 0, 0, 1), (.isub, 1, 0, 0, 0), (.iload_n 3, 1, 3, 0, 0), (.iload_n 2, 1, 2, 0, 0), (.invokevirtual 242, 3, 259, 3, 11), (.iload_n 1, 1, 1, 0, 0), (.if_icmp .gt 5, 3, 41, 0, 0), (.iload_n 3, 1, 3, 0, 0), (.ireturn, 1, 0, 0, 0)], 41),
  (41, [(.iinc 3 1, 3, 3, 0, 1), (.goto (-27), 3, 17, 0, 0)], 47),
  (47, [(.iconst (-1), 1, 0, 0, -1), (.ireturn, 1, 0, 0, 0)], 49)]
set_option maxRecDepth 100000 in
theorem ok_X11_suffices : pm_oks 11 false 4 (some .int) cX11_suffices bk_X11_suffices = true := oksF_ok (by decide +kernel)
set_option maxRecDepth 100000 in
theorem me_X11_suffices : pm_me 263 = (yX11_suffices, cX11_suffices, 4, (some .int), 2, 0) := rfl
theorem mt_X11_suffices {l : Launch} {g : pm_G} {d mc ms : Nat} {as : List Value} {A : pm_H} {Q : Option Value → pm_H → Prop} (hca : pm_cat 4 as = true) (body : ∀ J : pm_J, pm_Cl l g (fun _ => none) d mc ms (pm_Rq mc ms Q) bk_X11_suffices J → J 0 (pm_l0 4 as) [] A 0 0) : pm_Mt l g 263 d mc ms as A Q := pm_Mt_of (isI := false) 11 bk_X11_suffices me_X11_suffices (plainFor_of_name (by decide +kernel)) (by decide +kernel) (fun h => by cases h) ok_X11_suffices hca body
def bk_X11_just : pm_B := [(0, [(.iconst 0, 1, 0, 0, 0), (.istore_n 2, 1, 2, 0, 0), (.iconst 0, 1, 0, 0, 0), (.istore_n 3, 1, 3, 0, 0)], 4),
  (4, [(.iload_n 3, 1, 3, 0, 0), (.aload_n 0, 1, 0, 0, 0), (.getfield 70, 3, 11, 7, 0), (.if_icmp .ge 61, 3, 70, 0, 0), (.iconst 0, 1, 0, 0, 0), (.istore 4, 2, 4, 0, 0), (.iload_n 3, 1, 3, 0, 0), (.istore 5, 2, 5, 0, 0)], 18),
  (18, [(.iload 5, 2, 5, 0, 0), (.aload_n 0, 1, 0, 0, 0), (.getfield 70, 3, 11, 7, 0), (.if_icmp .ge 40, 3, 64, 0, 0), (.iload 4, 2, 4, 0, 0), (.iconst 1, 1, 0, 0, 1), (.aload_n 0, 1, 0, 0, 0), (.getfield 7, 3, 11, 0, 0), (.iload 5, 2, 5, 0, 0), (.iaload, 1, 0, 0, 0), (.ishl, 1, 0, 0, 0), (.ior, 1, 0, 0, 0), (.istore 4, 2, 4, 0, 0), (.iload_n 2, 1, 2, 0, 0), (.iload 4, 2, 4, 0, 0), (.invokestatic 165, 3, 207, 1, 0), (.iload_n 1, 1, 1, 0, 0), (.if_icmp .ne 7, 3, 55, 0, 0), (.iconst 1, 1, 0, 0, 1), (.goto 4, 3, 56, 0, 0)], 55),
  (55, [(.iconst 0, 1, 0, 0, 0)], 56),
  (56, [(.iadd, 1, 0, 0, 0), (.istore_n 2, 1, 2, 0, 0), (.iinc 5 1, 3, 5, 0, 1), (.goto (-43), 3, 18, 0, 0)], 64),
  (64, [(.iinc 3 1, 3, 3, 0, 1), (.goto (-63), 3, 4, 0, 0)], 70),
  (70, [(.iload_n 2, 1, 2, 0, 0), (.ireturn, 1, 0, 0, 0)], 72)]
