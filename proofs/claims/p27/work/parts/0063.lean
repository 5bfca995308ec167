
def bk_X0_reported : pm_B := [(0, [(.aload_n 0, 1, 0, 0, 0), (.getfield 15, 3, 0, 1, 0), (.iconst (-1), 1, 0, 0, -1), (.invokestatic 18, 3, 4, 2, 0), (.iconst 0, 1, 0, 0, 0), (.istore 5, 2, 5, 0, 0), (.iload_n 2, 1, 2, 0, 0), (.istore 6, 2, 6, 0, 0)], 14),
  (14, [(.iload 6, 2, 6, 0, 0), (.iload_n 3, 1, 3, 0, 0), (.if_icmp .gt 55, 3, 72, 0, 0), (.aload_n 1, 1, 1, 0, 0), (.getfield 24, 3, 7, 2, 0), (.iload 6, 2, 6, 0, 0), (.iaload, 1, 0, 0, 0), (.istore 7, 2, 7, 0, 0), (.iload 7, 2, 7, 0, 0), (.iconst (-1), 1, 0, 0, -1), (.if_icmp .ne 19, 3, 51, 0, 0), (.iload 5, 2, 5, 0, 0), (.iload 4, 2, 4, 0, 0), (.if_icmp .ne 6, 3, 45, 0, 0), (.iload 6, 2, 6, 0, 0), (.ireturn, 1, 0, 0, 0)], 45),
  (45, [(.iinc 5 1, 3, 5, 0, 1), (.goto 18, 3, 66, 0, 0)], 51),
  (51, [(.iload 7, 2, 7, 0, 0), (.iload_n 2, 1, 2, 0, 0), (.if_icmp .ge 12, 3, 66, 0, 0), (.aload_n 0, 1, 0, 0, 0), (.getfield 15, 3, 0, 1, 0), (.iload 7, 2, 7, 0, 0), (.iload 6, 2, 6, 0, 0), (.iastore, 1, 0, 0, 0)], 66),
  (66, [(.iinc 6 1, 3, 6, 0, 1), (.goto (-55), 3, 14, 0, 0)], 72),
  (72, [(.iconst 0, 1, 0, 0, 0), (.istore 6, 2, 6, 0, 0)], 75),
  (75, [(.iload 6, 2, 6, 0, 0), (.iload_n 2, 1, 2, 0, 0), (.if_icmp .ge 38, 3, 116, 0, 0), (.aload_n 0, 1, 0, 0, 0), (.getfield 15, 3, 0, 1, 0), (.iload 6, 2, 6, 0, 0), (.iaload, 1, 0, 0, 0), (.iconst (-1), 1, 0, 0, -1), (.if_icmp .eq 21, 3, 110, 0, 0), (.iload 5, 2, 5, 0, 0), (.iload 4, 2, 4, 0, 0), (.if_icmp .ne 11, 3, 107, 0, 0), (.aload_n 0, 1, 0, 0, 0), (.getfield 15, 3, 0, 1, 0), (.iload 6, 2, 6, 0, 0), (.iaload, 1, 0, 0, 0), (.ireturn, 1, 0, 0, 0)], 107),
  (107, [(.iinc 5 1, 3, 5, 0, 1)], 110),
  (110, [(.iinc 6 1, 3, 6, 0, 1), (.goto (-38), 3, 75, 0, 0)], 116),
  (116, [(.iconst (-1), 1, 0, 0, -1), (.ireturn, 1, 0, 0, 0)], 118)]
set_option maxRecDepth 100000 in
theorem ok_X0_reported : pm_oks 0 false 8 (some .int) cX0_reported bk_X0_reported = true := oksF_ok (by decide +kernel)
set_option maxRecDepth 100000 in
theorem me_X0_reported : pm_me 66 = (yX0_reported, cX0_reported, 8, (some .int), 4, 0) := rfl
theorem mt_X0_reported {l : Launch} {g : pm_G} {d mc ms : Nat} {as : List Value} {A : pm_H} {Q : Option Value → pm_H → Prop} (hca : pm_cat 8 as = true) (body : ∀ J : pm_J, pm_Cl l g (fun _ => none) d mc ms (pm_Rq mc ms Q) bk_X0_reported J → J 0 (pm_l0 8 as) [] A 0 0) : pm_Mt l g 66 d mc ms as A Q := pm_Mt_of (isI := false) 0 bk_X0_reported me_X0_reported (plainFor_of_name (by decide +kernel)) (by decide +kernel) (fun h => by cases h) ok_X0_reported hca body
def bk_X0_colourInOrder : pm_B := [(0, [(.iload 6, 2, 6, 0, 0), (.tableswitch 93 0 4 #[34, 46, 58, 69, 81], 34, 2, 0, 0)], 36),
  (36, [(.aload_n 0, 1, 0, 0, 0), (.aload_n 1, 1, 1, 0, 0), (.iload_n 3, 1, 3, 0, 0), (.iload 4, 2, 4, 0, 0), (.iconst 1, 1, 0, 0, 1), (.invokevirtual 29, 3, 69, 4, 0), (.goto 52, 3, 97, 0, 0)], 48),
  (48, [(.aload_n 0, 1, 0, 0, 0), (.aload_n 1, 1, 1, 0, 0), (.iload 4, 2, 4, 0, 0), (.iload_n 3, 1, 3, 0, 0), (.iconst (-1), 1, 0, 0, -1), (.invokevirtual 29, 3, 69, 4, 0), (.goto 40, 3, 97, 0, 0)], 60),
  (60, [(.aload_n 0, 1, 0, 0, 0), (.aload_n 2, 1, 2, 0, 0), (.getfield 33, 3, 2, 4, 0), (.iload 5, 2, 5, 0, 0), (.invokevirtual 39, 3, 71, 2, 0), (.ireturn, 1, 0, 0, 0)], 71),
  (71, [(.aload_n 0, 1, 0, 0, 0), (.aload_n 2, 1, 2, 0, 0), (.aload_n 2, 1, 2, 0, 0), (.getfield 43, 3, 2, 1, 0), (.invokevirtual 46, 3, 72, 2, 0), (.goto 17, 3, 97, 0, 0)], 83),
  (83, [(.aload_n 0, 1, 0, 0, 0), (.aload_n 2, 1, 2, 0, 0), (.aload_n 2, 1, 2, 0, 0), (.getfield 50, 3, 2, 0, 0), (.invokevirtual 46, 3, 72, 2, 0), (.goto 5, 3, 97, 0, 0)], 95),
  (95, [(.iconst (-1), 1, 0, 0, -1), (.ireturn, 1, 0, 0, 0)], 97),
  (97, [(.iload 5, 2, 5, 0, 0), (.ifCond .lt 22, 3, 121, 0, 0), (.iload 5, 2, 5, 0, 0), (.aload_n 0, 1, 0, 0, 0), (.getfield 53, 3, 0, 2, 0), (.if_icmp .ge 13, 3, 121, 0, 0), (.aload_n 0, 1, 0, 0, 0), (.getfield 9, 3, 0, 0, 0), (.iload 5, 2, 5, 0, 0), (.iaload, 1, 0, 0, 0), (.goto 4, 3, 122, 0, 0)], 121),
  (121, [(.iconst (-1), 1, 0, 0, -1)], 122),
  (122, [(.ireturn, 1, 0, 0, 0)], 123)]
set_option maxRecDepth 100000 in
theorem ok_X0_colourInOrder : pm_oks 0 false 7 (some .int) cX0_colourInOrder bk_X0_colourInOrder = true := oksF_ok (by decide +kernel)
set_option maxRecDepth 100000 in
theorem me_X0_colourInOrder : pm_me 68 = (yX0_colourInOrder, cX0_colourInOrder, 7, (some .int), 6, 0) := rfl
theorem mt_X0_colourInOrder {l : Launch} {g : pm_G} {d mc ms : Nat} {as : List Value} {A : pm_H} {Q : Option Value → pm_H → Prop} (hca : pm_cat 7 as = true) (body : ∀ J : pm_J, pm_Cl l g (fun _ => none) d mc ms (pm_Rq mc ms Q) bk_X0_colourInOrder J → J 0 (pm_l0 7 as) [] A 0 0) : pm_Mt l g 68 d mc ms as A Q := pm_Mt_of (isI := false) 0 bk_X0_colourInOrder me_X0_colourInOrder (plainFor_of_name (by decide +kernel)) (by decide +kernel) (fun h => by cases h) ok_X0_colourInOrder hca body
def bk_X0_listAsMet : pm_B := [(0, [(.iconst 0, 1, 0, 0, 0), (.istore 5, 2, 5, 0, 0), (.iload_n 3, 1, 3, 0, 0), (.iload_n 2, 1, 2, 0, 0), (.isub, 1, 0, 0, 0), (.invokestatic 56, 3, 70, 1, 0), (.istore 6, 2, 6, 0, 0), (.aload_n 0, 1, 0, 0, 0), (.iconst 0, 1, 0, 0, 0), (.putfield 53, 3, 0, 2, 0), (.iconst 0, 1, 0, 0, 0), (.istore 7, 2, 7, 0, 0)], 19),
  (19, [(.iload 7, 2, 7, 0, 0), (.iload 6, 2, 6, 0, 0), (.if_icmp .gt 72, 3, 95, 0, 0), (.aload_n 1, 1, 1, 0, 0), (.getfield 62, 3, 7, 0, 0), (.iload_n 2, 1, 2, 0, 0), (.iload 7, 2, 7, 0, 0), (.iload 4, 2, 4, 0, 0), (.imul, 1, 0, 0, 0), (.iadd, 1, 0, 0, 0), (.iaload, 1, 0, 0, 0), (.istore 8, 2, 8, 0, 0), (.iload 5, 2, 5, 0, 0), (.iconst 1, 1, 0, 0, 1), (.iload 8, 2, 8, 0, 0), (.ishl, 1, 0, 0, 0), (.iand, 1, 0, 0, 0), (.ifCond .ne 42, 3, 89, 0, 0), (.aload_n 0, 1, 0, 0, 0), (.getfield 53, 3, 0, 2, 0), (.bipush 24, 2, 0, 0, 24), (.if_icmp .ge 33, 3, 89, 0, 0), (.iload 5, 2, 5, 0, 0), (.iconst 1, 1, 0, 0, 1), (.iload 8, 2, 8, 0, 0), (.ishl, 1, 0, 0, 0), (.ior, 1, 0, 0, 0), (.istore 5, 2, 5, 0, 0), (.aload_n 0, 1, 0, 0, 0), (.getfield 9, 3, 0, 0, 0), (.aload_n 0, 1, 0, 0, 0), (.getfield 53, 3, 0, 2, 0), (.iload 8, 2, 8, 0, 0), (.iastore, 1, 0, 0, 0), (.aload_n 0, 1, 0, 0, 0), (.dup, 1, 0, 0, 0), (.getfield 53, 3, 0, 2, 0), (.iconst 1, 1, 0, 0, 1), (.iadd, 1, 0, 0, 0), (.putfield 53, 3, 0, 2, 0)], 89),
  (89, [(.iinc 7 1, 3, 7, 0, 1), (.goto (-73), 3, 19, 0, 0)], 95),
  (95, [(.return_, 1, 0, 0, 0)], 96)]
set_option maxRecDepth 100000 in
theorem ok_X0_listAsMet : pm_oks 0 false 9 none cX0_listAsMet bk_X0_listAsMet = true := oksF_ok (by decide +kernel)
set_option maxRecDepth 100000 in
theorem me_X0_listAsMet : pm_me 69 = (yX0_listAsMet, cX0_listAsMet, 9, none, 4, 0) := rfl
theorem mt_X0_listAsMet {l : Launch} {g : pm_G} {d mc ms : Nat} {as : List Value} {A : pm_H} {Q : Option Value → pm_H → Prop} (hca : pm_cat 9 as = true) (body : ∀ J : pm_J, pm_Cl l g (fun _ => none) d mc ms (pm_Rq mc ms Q) bk_X0_listAsMet J → J 0 (pm_l0 9 as) [] A 0 0) : pm_Mt l g 69 d mc ms as A Q := pm_Mt_of (isI := false) 0 bk_X0_listAsMet me_X0_listAsMet (plainFor_of_name (by decide +kernel)) (by decide +kernel) (fun h => by cases h) ok_X0_listAsMet hca body
def bk_X0_colourOf : pm_B := [(0, [(.iconst 0, 1, 0, 0, 0), (.istore_n 3, 1, 3, 0, 0), (.iconst 0, 1, 0, 0, 0), (.istore 4, 2, 4, 0, 0)], 5),
  (5, [(.iload 4, 2, 4, 0, 0), (.bipush 24, 2, 0, 0, 24), (.if_icmp .ge 29, 3, 38, 0, 0), (.iload_n 1, 1, 1, 0, 0), (.iconst 1, 1, 0, 0, 1), (.iload 4, 2, 4, 0, 0), (.ishl, 1, 0, 0, 0), (.iand, 1, 0, 0, 0), (.ifCond .eq 14, 3, 32, 0, 0), (.iload_n 3, 1, 3, 0, 0), (.iload_n 2, 1, 2, 0, 0), (.if_icmp .ne 6, 3, 29, 0, 0), (.iload 4, 2, 4, 0, 0), (.ireturn, 1, 0, 0, 0)], 29),
  (29, [(.iinc 3 1, 3, 3, 0, 1)], 32),
  (32, [(.iinc 4 1, 3, 4, 0, 1), (.goto (-30), 3, 5, 0, 0)], 38),
  (38, [(.iconst (-1), 1, 0, 0, -1), (.ireturn, 1, 0, 0, 0)], 40)]
set_option maxRecDepth 100000 in
theorem ok_X0_colourOf : pm_oks 0 false 5 (some .int) cX0_colourOf bk_X0_colourOf = true := oksF_ok (by decide +kernel)
set_option maxRecDepth 100000 in
theorem me_X0_colourOf : pm_me 71 = (yX0_colourOf, cX0_colourOf, 5, (some .int), 2, 0) := rfl
