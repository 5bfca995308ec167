
def bk_X11_hadBond : pm_B := [(0, [(.aload_n 0, 1, 0, 0, 0), (.iload_n 1, 1, 1, 0, 0), (.iload_n 2, 1, 2, 0, 0), (.invokevirtual 212, 3, 236, 2, 11), (.istore 4, 2, 4, 0, 0), (.iload 4, 2, 4, 0, 0), (.ifCond .lt 18, 3, 28, 0, 0), (.aload_n 0, 1, 0, 0, 0), (.iload_n 1, 1, 1, 0, 0), (.iload 4, 2, 4, 0, 0), (.invokevirtual 200, 3, 230, 2, 11), (.iload_n 3, 1, 3, 0, 0), (.if_icmp .ne 7, 3, 28, 0, 0), (.iconst 1, 1, 0, 0, 1), (.goto 4, 3, 29, 0, 0)], 28),
  (28, [(.iconst 0, 1, 0, 0, 0)], 29),
  (29, [(.ireturn, 1, 1, 0, 0)], 30)]
set_option maxRecDepth 100000 in
theorem ok_X11_hadBond : pm_oks 11 false 5 (some .boolean) cX11_hadBond bk_X11_hadBond = true := oksF_ok (by decide +kernel)
set_option maxRecDepth 100000 in
theorem me_X11_hadBond : pm_me 235 = (yX11_hadBond, cX11_hadBond, 5, (some .boolean), 3, 0) := rfl
theorem mt_X11_hadBond {l : Launch} {g : pm_G} {d mc ms : Nat} {as : List Value} {A : pm_H} {Q : Option Value → pm_H → Prop} (hca : pm_cat 5 as = true) (body : ∀ J : pm_J, pm_Cl l g (fun _ => none) d mc ms (pm_Rq mc ms Q) bk_X11_hadBond J → J 0 (pm_l0 5 as) [] A 0 0) : pm_Mt l g 235 d mc ms as A Q := pm_Mt_of (isI := false) 11 bk_X11_hadBond me_X11_hadBond (plainFor_of_name (by decide +kernel)) (by decide +kernel) (fun h => by cases h) ok_X11_hadBond hca body
def bk_X11_wasPlace : pm_B := [(0, [(.iconst 0, 1, 0, 0, 0), (.istore_n 3, 1, 3, 0, 0)], 2),
  (2, [(.iload_n 3, 1, 3, 0, 0), (.aload_n 0, 1, 0, 0, 0), (.getfield 52, 3, 11, 21, 0), (.iload_n 1, 1, 1, 0, 0), (.bipush 40, 2, 0, 0, 40), (.irem, 1, 0, 0, 0), (.iaload, 1, 0, 0, 0), (.if_icmp .ge 21, 3, 33, 0, 0), (.aload_n 0, 1, 0, 0, 0), (.iload_n 1, 1, 1, 0, 0), (.iload_n 3, 1, 3, 0, 0), (.invokevirtual 194, 3, 229, 2, 11), (.iload_n 2, 1, 2, 0, 0), (.if_icmp .ne 5, 3, 27, 0, 0), (.iload_n 3, 1, 3, 0, 0), (.ireturn, 1, 0, 0, 0)], 27),
  (27, [(.iinc 3 1, 3, 3, 0, 1), (.goto (-28), 3, 2, 0, 0)], 33),
  (33, [(.iconst (-1), 1, 0, 0, -1), (.ireturn, 1, 0, 0, 0)], 35)]
set_option maxRecDepth 100000 in
theorem ok_X11_wasPlace : pm_oks 11 false 4 (some .int) cX11_wasPlace bk_X11_wasPlace = true := oksF_ok (by decide +kernel)
set_option maxRecDepth 100000 in
theorem me_X11_wasPlace : pm_me 236 = (yX11_wasPlace, cX11_wasPlace, 4, (some .int), 2, 0) := rfl
theorem mt_X11_wasPlace {l : Launch} {g : pm_G} {d mc ms : Nat} {as : List Value} {A : pm_H} {Q : Option Value → pm_H → Prop} (hca : pm_cat 4 as = true) (body : ∀ J : pm_J, pm_Cl l g (fun _ => none) d mc ms (pm_Rq mc ms Q) bk_X11_wasPlace J → J 0 (pm_l0 4 as) [] A 0 0) : pm_Mt l g 236 d mc ms as A Q := pm_Mt_of (isI := false) 11 bk_X11_wasPlace me_X11_wasPlace (plainFor_of_name (by decide +kernel)) (by decide +kernel) (fun h => by cases h) ok_X11_wasPlace hca body
def bk_X11_changed : pm_B := [(0, [(.aload_n 0, 1, 0, 0, 0), (.iload_n 1, 1, 1, 0, 0), (.invokevirtual 197, 3, 227, 1, 11), (.ifCond .eq 12, 3, 17, 0, 0), (.iload_n 2, 1, 2, 0, 0), (.iconst 0, 1, 0, 0, 0), (.iconst 3, 1, 0, 0, 3), (.invokestatic 74, 3, 169, 3, 0), (.ifCond .ne 5, 3, 19, 0, 0)], 17),
  (17, [(.iconst (-1), 1, 0, 0, -1), (.ireturn, 1, 0, 0, 0)], 19),
  (19, [(.iconst 0, 1, 0, 0, 0), (.istore_n 3, 1, 3, 0, 0), (.iconst 0, 1, 0, 0, 0), (.istore 4, 2, 4, 0, 0)], 24),
  (24, [(.iload 4, 2, 4, 0, 0), (.aload_n 0, 1, 0, 0, 0), (.getfield 70, 3, 11, 7, 0), (.if_icmp .ge 110, 3, 140, 0, 0), (.aload_n 0, 1, 0, 0, 0), (.iload_n 1, 1, 1, 0, 0), (.aload_n 0, 1, 0, 0, 0), (.getfield 13, 3, 11, 1, 0), (.iload 4, 2, 4, 0, 0), (.iaload, 1, 0, 0, 0), (.invokevirtual 212, 3, 236, 2, 11), (.istore 5, 2, 5, 0, 0), (.iload 5, 2, 5, 0, 0), (.ifCond .ge 6, 3, 55, 0, 0), (.goto 82, 3, 134, 0, 0)], 55),
  (55, [(.iload_n 2, 1, 2, 0, 0), (.ifCond .eq 58, 3, 114, 0, 0), (.iload_n 2, 1, 2, 0, 0), (.iconst 1, 1, 0, 0, 1), (.if_icmp .ne 10, 3, 71, 0, 0), (.iload 4, 2, 4, 0, 0), (.iload 5, 2, 5, 0, 0), (.if_icmp .ne 46, 3, 114, 0, 0)], 71),
  (71, [(.iload_n 2, 1, 2, 0, 0), (.iconst 2, 1, 0, 0, 2), (.if_icmp .ne 20, 3, 93, 0, 0), (.aload_n 0, 1, 0, 0, 0), (.getfield 7, 3, 11, 0, 0), (.iload 4, 2, 4, 0, 0), (.iaload, 1, 0, 0, 0), (.aload_n 0, 1, 0, 0, 0), (.iload_n 1, 1, 1, 0, 0), (.iload 5, 2, 5, 0, 0), (.invokevirtual 191, 3, 228, 2, 11), (.if_icmp .ne 24, 3, 114, 0, 0)], 93),
  (93, [(.iload_n 2, 1, 2, 0, 0), (.iconst 3, 1, 0, 0, 3), (.if_icmp .ne 23, 3, 118, 0, 0), (.aload_n 0, 1, 0, 0, 0), (.iload 4, 2, 4, 0, 0), (.invokevirtual 85, 3, 173, 1, 11), (.aload_n 0, 1, 0, 0, 0), (.iload_n 1, 1, 1, 0, 0), (.iload 5, 2, 5, 0, 0), (.invokevirtual 200, 3, 230, 2, 11), (.if_icmp .eq 7, 3, 118, 0, 0)], 114),
  (114, [(.iconst 1, 1, 0, 0, 1), (.goto 4, 3, 119, 0, 0)], 118),
  (118, [(.iconst 0, 1, 0, 0, 0)], 119),
  (119, [(.istore 6, 2, 6, 0, 0), (.iload_n 3, 1, 3, 0, 0), (.iload 6, 2, 6, 0, 0), (.ifCond .eq 7, 3, 131, 0, 0), (.iconst 1, 1, 0, 0, 1), (.goto 4, 3, 132, 0, 0)], 131),
  (131, [(.iconst 0, 1, 0, 0, 0)], 132),
  (132, [(.iadd, 1, 0, 0, 0), (.istore_n 3, 1, 3, 0, 0)], 134),
  (134, [(.iinc 4 1, 3, 4, 0, 1), (.goto (-113), 3, 24, 0, 0)], 140),
  (140, [(.iload_n 3, 1, 3, 0, 0), (.ireturn, 1, 0, 0, 0)], 142)]
set_option maxRecDepth 100000 in
theorem ok_X11_changed : pm_oks 11 false 7 (some .int) cX11_changed bk_X11_changed = true := oksF_ok (by decide +kernel)
set_option maxRecDepth 100000 in
theorem me_X11_changed : pm_me 237 = (yX11_changed, cX11_changed, 7, (some .int), 2, 0) := rfl
theorem mt_X11_changed {l : Launch} {g : pm_G} {d mc ms : Nat} {as : List Value} {A : pm_H} {Q : Option Value → pm_H → Prop} (hca : pm_cat 7 as = true) (body : ∀ J : pm_J, pm_Cl l g (fun _ => none) d mc ms (pm_Rq mc ms Q) bk_X11_changed J → J 0 (pm_l0 7 as) [] A 0 0) : pm_Mt l g 237 d mc ms as A Q := pm_Mt_of (isI := false) 11 bk_X11_changed me_X11_changed (plainFor_of_name (by decide +kernel)) (by decide +kernel) (fun h => by cases h) ok_X11_changed hca body
def bk_X11_sides : pm_B := [(0, [(.aload_n 0, 1, 0, 0, 0), (.iload_n 1, 1, 1, 0, 0), (.iload_n 2, 1, 2, 0, 0), (.invokevirtual 129, 3, 180, 2, 11), (.ifCond .ne 5, 3, 11, 0, 0), (.iconst (-1), 1, 0, 0, -1), (.ireturn, 1, 0, 0, 0)], 11),
  (11, [(.iconst 0, 1, 0, 0, 0), (.istore_n 3, 1, 3, 0, 0), (.iload_n 1, 1, 1, 0, 0), (.iconst 1, 1, 0, 0, 1), (.iadd, 1, 0, 0, 0), (.istore 4, 2, 4, 0, 0)], 18),
  (18, [(.iload 4, 2, 4, 0, 0), (.iload_n 2, 1, 2, 0, 0), (.if_icmp .gt 41, 3, 62, 0, 0), (.aload_n 0, 1, 0, 0, 0), (.getfield 7, 3, 11, 0, 0), (.iload 4, 2, 4, 0, 0), (.iaload, 1, 0, 0, 0), (.aload_n 0, 1, 0, 0, 0), (.getfield 7, 3, 11, 0, 0), (.iload 4, 2, 4, 0, 0), (.iconst 1, 1, 0, 0, 1), (.isub, 1, 0, 0, 0), (.iaload, 1, 0, 0, 0), (.if_icmp .eq 16, 3, 56, 0, 0), (.aload_n 0, 1, 0, 0, 0), (.iload_n 1, 1, 1, 0, 0), (.iload 4, 2, 4, 0, 0), (.invokevirtual 215, 3, 239, 2, 11), (.ifCond .eq 6, 3, 56, 0, 0), (.iinc 3 1, 3, 3, 0, 1)], 56),
  (56, [(.iinc 4 1, 3, 4, 0, 1), (.goto (-41), 3, 18, 0, 0)], 62),
  (62, [(.iload_n 3, 1, 3, 0, 0), (.ireturn, 1, 0, 0, 0)], 64)]
set_option maxRecDepth 100000 in
theorem ok_X11_sides : pm_oks 11 false 5 (some .int) cX11_sides bk_X11_sides = true := oksF_ok (by decide +kernel)
set_option maxRecDepth 100000 in
theorem me_X11_sides : pm_me 238 = (yX11_sides, cX11_sides, 5, (some .int), 2, 0) := rfl
theorem mt_X11_sides {l : Launch} {g : pm_G} {d mc ms : Nat} {as : List Value} {A : pm_H} {Q : Option Value → pm_H → Prop} (hca : pm_cat 5 as = true) (body : ∀ J : pm_J, pm_Cl l g (fun _ => none) d mc ms (pm_Rq mc ms Q) bk_X11_sides J → J 0 (pm_l0 5 as) [] A 0 0) : pm_Mt l g 238 d mc ms as A Q := pm_Mt_of (isI := false) 11 bk_X11_sides me_X11_sides (plainFor_of_name (by decide +kernel)) (by decide +kernel) (fun h => by cases h) ok_X11_sides hca body
