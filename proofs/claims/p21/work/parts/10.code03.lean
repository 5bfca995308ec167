/-! blocks, by a program -/
def bk_X2_largestBeside : pm_B := [(0, [(.iconst (-1), 1, 0, 0, -1), (.istore_n 2, 1, 2, 0, 0), (.iconst 0, 1, 0, 0, 0), (.istore_n 3, 1, 3, 0, 0)], 4),
  (4, [(.iload_n 3, 1, 3, 0, 0), (.bipush 24, 2, 0, 0, 24), (.if_icmp .ge 51, 3, 58, 0, 0), (.iload_n 1, 1, 1, 0, 0), (.iconst 1, 1, 0, 0, 1), (.iload_n 3, 1, 3, 0, 0), (.ishl, 1, 0, 0, 0), (.iand, 1, 0, 0, 0), (.ifCond .ne 7, 3, 22, 0, 0), (.iconst 1, 1, 0, 0, 1), (.goto 4, 3, 23, 0, 0)], 22),
  (22, [(.iconst 0, 1, 0, 0, 0)], 23),
  (23, [(.istore 4, 2, 4, 0, 0), (.iload 4, 2, 4, 0, 0), (.ifCond .eq 25, 3, 52, 0, 0), (.iload_n 2, 1, 2, 0, 0), (.iconst (-1), 1, 0, 0, -1), (.if_icmp .eq 18, 3, 50, 0, 0), (.aload_n 0, 1, 0, 0, 0), (.getfield 9, 3, 2, 0, 0), (.iload_n 3, 1, 3, 0, 0), (.iaload, 1, 0, 0, 0), (.aload_n 0, 1, 0, 0, 0), (.getfield 9, 3, 2, 0, 0), (.iload_n 2, 1, 2, 0, 0), (.iaload, 1, 0, 0, 0), (.if_icmp .le 5, 3, 52, 0, 0)], 50),
  (50, [(.iload_n 3, 1, 3, 0, 0), (.istore_n 2, 1, 2, 0, 0)], 52),
  (52, [(.iinc 3 1, 3, 3, 0, 1), (.goto (-51), 3, 4, 0, 0)], 58),
  (58, [(.iload_n 2, 1, 2, 0, 0), (.ireturn, 1, 0, 0, 0)], 60)]
set_option maxRecDepth 100000 in
theorem ok_X2_largestBeside : pm_oks 2 false 5 (some .int) cX2_largestBeside bk_X2_largestBeside = true := oksF_ok (by decide +kernel)
set_option maxRecDepth 100000 in
theorem me_X2_largestBeside : pm_me 92 = (yX2_largestBeside, cX2_largestBeside, 5, (some .int), 1, 0) := rfl
theorem mt_X2_largestBeside {l : Launch} {g : pm_G} {d mc ms : Nat} {as : List Value} {A : pm_H} {Q : Option Value → pm_H → Prop} (hca : pm_cat 5 as = true) (body : ∀ J : pm_J, pm_Cl l g (fun _ => none) d mc ms (pm_Rq mc ms Q) bk_X2_largestBeside J → J 0 (pm_l0 5 as) [] A 0 0) : pm_Mt l g 92 d mc ms as A Q := pm_Mt_of (isI := false) 2 bk_X2_largestBeside me_X2_largestBeside (plainFor_of_name (by decide +kernel)) (by decide +kernel) (fun h => by cases h) ok_X2_largestBeside hca body
def bk_X2_twosAlike : pm_B := [(0, [(.iconst 0, 1, 0, 0, 0), (.istore_n 1, 1, 1, 0, 0), (.iconst 0, 1, 0, 0, 0), (.istore_n 2, 1, 2, 0, 0)], 4),
  (4, [(.iload_n 2, 1, 2, 0, 0), (.bipush 24, 2, 0, 0, 24), (.if_icmp .ge 29, 3, 36, 0, 0), (.iload_n 1, 1, 1, 0, 0), (.aload_n 0, 1, 0, 0, 0), (.getfield 9, 3, 2, 0, 0), (.iload_n 2, 1, 2, 0, 0), (.iaload, 1, 0, 0, 0), (.aload_n 0, 1, 0, 0, 0), (.getfield 9, 3, 2, 0, 0), (.iload_n 2, 1, 2, 0, 0), (.iaload, 1, 0, 0, 0), (.iconst 1, 1, 0, 0, 1), (.isub, 1, 0, 0, 0), (.imul, 1, 0, 0, 0), (.iconst 2, 1, 0, 0, 2), (.idiv, 1, 0, 0, 0), (.iadd, 1, 0, 0, 0), (.istore_n 1, 1, 1, 0, 0), (.iinc 2 1, 3, 2, 0, 1), (.goto (-29), 3, 4, 0, 0)], 36),
  (36, [(.iload_n 1, 1, 1, 0, 0), (.ireturn, 1, 0, 0, 0)], 38)]
set_option maxRecDepth 100000 in
theorem ok_X2_twosAlike : pm_oks 2 false 3 (some .int) cX2_twosAlike bk_X2_twosAlike = true := oksF_ok (by decide +kernel)
set_option maxRecDepth 100000 in
theorem me_X2_twosAlike : pm_me 95 = (yX2_twosAlike, cX2_twosAlike, 3, (some .int), 0, 0) := rfl
theorem mt_X2_twosAlike {l : Launch} {g : pm_G} {d mc ms : Nat} {as : List Value} {A : pm_H} {Q : Option Value → pm_H → Prop} (hca : pm_cat 3 as = true) (body : ∀ J : pm_J, pm_Cl l g (fun _ => none) d mc ms (pm_Rq mc ms Q) bk_X2_twosAlike J → J 0 (pm_l0 3 as) [] A 0 0) : pm_Mt l g 95 d mc ms as A Q := pm_Mt_of (isI := false) 2 bk_X2_twosAlike me_X2_twosAlike (plainFor_of_name (by decide +kernel)) (by decide +kernel) (fun h => by cases h) ok_X2_twosAlike hca body
def bk_X2_drop : pm_B := [(0, [(.aload_n 0, 1, 0, 0, 0), (.dup, 1, 0, 0, 0), (.getfield 24, 3, 2, 2, 0), (.iconst 1, 1, 0, 0, 1), (.isub, 1, 0, 0, 0), (.putfield 24, 3, 2, 2, 0), (.aload_n 0, 1, 0, 0, 0), (.getfield 9, 3, 2, 0, 0), (.iload_n 1, 1, 1, 0, 0), (.dup2, 1, 0, 0, 0), (.iaload, 1, 0, 0, 0), (.iconst 1, 1, 0, 0, 1), (.isub, 1, 0, 0, 0), (.iastore, 1, 0, 0, 0), (.aload_n 0, 1, 0, 0, 0), (.getfield 9, 3, 2, 0, 0), (.iload_n 1, 1, 1, 0, 0), (.iaload, 1, 0, 0, 0), (.ifCond .ne 42, 3, 68, 0, 0), (.aload_n 0, 1, 0, 0, 0), (.dup, 1, 0, 0, 0), (.getfield 28, 3, 2, 3, 0), (.iconst 1, 1, 0, 0, 1), (.isub, 1, 0, 0, 0), (.putfield 28, 3, 2, 3, 0), (.aload_n 0, 1, 0, 0, 0), (.dup, 1, 0, 0, 0), (.getfield 31, 3, 2, 4, 0), (.iconst 1, 1, 0, 0, 1), (.iload_n 1, 1, 1, 0, 0), (.ishl, 1, 0, 0, 0), (.iconst (-1), 1, 0, 0, -1), (.ixor, 1, 0, 0, 0), (.iand, 1, 0, 0, 0), (.putfield 31, 3, 2, 4, 0), (.aload_n 0, 1, 0, 0, 0), (.dup, 1, 0, 0, 0), (.getfield 34, 3, 2, 5, 0), (.aload_n 0, 1, 0, 0, 0), (.getfield 15, 3, 2, 1, 0), (.iload_n 1, 1, 1, 0, 0), (.iaload, 1, 0, 0, 0), (.isub, 1, 0, 0, 0), (.putfield 34, 3, 2, 5, 0)], 68),
  (68, [(.return_, 1, 0, 0, 0)], 69)]
set_option maxRecDepth 100000 in
theorem ok_X2_drop : pm_oks 2 false 2 none cX2_drop bk_X2_drop = true := oksF_ok (by decide +kernel)
set_option maxRecDepth 100000 in
theorem me_X2_drop : pm_me 113 = (yX2_drop, cX2_drop, 2, none, 1, 0) := rfl
theorem mt_X2_drop {l : Launch} {g : pm_G} {d mc ms : Nat} {as : List Value} {A : pm_H} {Q : Option Value → pm_H → Prop} (hca : pm_cat 2 as = true) (body : ∀ J : pm_J, pm_Cl l g (fun _ => none) d mc ms (pm_Rq mc ms Q) bk_X2_drop J → J 0 (pm_l0 2 as) [] A 0 0) : pm_Mt l g 113 d mc ms as A Q := pm_Mt_of (isI := false) 2 bk_X2_drop me_X2_drop (plainFor_of_name (by decide +kernel)) (by decide +kernel) (fun h => by cases h) ok_X2_drop hca body
def bk_J7_fill_53178 : pm_B := [(0, [(.iconst 0, 1, 0, 0, 0), (.istore_n 2, 1, 2, 0, 0), (.aload_n 0, 1, 0, 0, 0), (.arraylength, 1, 0, 0, 0), (.istore_n 3, 1, 3, 0, 0)], 5),
  (5, [(.iload_n 2, 1, 2, 0, 0), (.iload_n 3, 1, 3, 0, 0), (.if_icmp .ge 13, 3, 20, 0, 0), (.aload_n 0, 1, 0, 0, 0), (.iload_n 2, 1, 2, 0, 0), (.iload_n 1, 1, 1, 0, 0), (.iastore, 1, 0, 0, 0), (.iinc 2 1, 3, 2, 0, 1), (.goto (-12), 3, 5, 0, 0)], 20),
  (20, [(.return_, 1, 0, 0, 0)], 21)]
set_option maxRecDepth 100000 in
theorem ok_J7_fill_53178 : pm_oks 15 false 4 none cJ7_fill_53178 bk_J7_fill_53178 = true := oksF_ok (by decide +kernel)
set_option maxRecDepth 100000 in
theorem me_J7_fill_53178 : pm_me 4 = (yJ7_fill_53178, cJ7_fill_53178, 4, none, 2, 1) := rfl
theorem mt_J7_fill_53178 {l : Launch} {g : pm_G} {d mc ms : Nat} {as : List Value} {A : pm_H} {Q : Option Value → pm_H → Prop} (hca : pm_cat 4 as = true) (body : ∀ J : pm_J, pm_Cl l g (fun _ => none) d mc ms (pm_Rq mc ms Q) bk_J7_fill_53178 J → J 0 (pm_l0 4 as) [] A 0 0) : pm_Mt l g 4 d mc ms as A Q := pm_Mt_of (isI := false) 15 bk_J7_fill_53178 me_J7_fill_53178 (plainFor_of_name (by decide +kernel)) (by decide +kernel) (fun h => by cases h) ok_J7_fill_53178 hca body
def bk_X0_init : pm_B := [(0, [(.aload_n 0, 1, 0, 0, 0), (.invokespecial 3, 3, 0, 0, 0), (.aload_n 0, 1, 0, 0, 0), (.bipush 24, 2, 0, 0, 24), (.newarray .int, 2, 24, 0, 0), (.putfield 9, 3, 0, 0, 1), (.aload_n 0, 1, 0, 0, 0), (.sipush 160, 3, 0, 0, 160), (.newarray .int, 2, 160, 0, 0), (.putfield 15, 3, 0, 1, 1), (.return_, 1, 0, 0, 0)], 22)]
set_option maxRecDepth 100000 in
theorem ok_X0_init : pm_oks 0 true 1 none cX0_init bk_X0_init = true := oksF_ok (by decide +kernel)
set_option maxRecDepth 100000 in
theorem me_X0_init : pm_me 5 = (yX0_init, cX0_init, 1, none, 0, 2) := rfl
theorem mt_X0_init {l : Launch} {g : pm_G} {d mc ms : Nat} {as : List Value} {A : pm_H} {Q : Option Value → pm_H → Prop} (hca : pm_cat 1 as = true) (body : ∀ J : pm_J, pm_Cl l g (fun _ => none) d mc ms (pm_Rq mc ms Q) bk_X0_init J → J 0 (pm_l0 1 as) [] A 0 0) : pm_Mt l g 5 d mc ms as A Q := pm_Mt_of (isI := true) 0 bk_X0_init me_X0_init (plainFor_of_name (by decide +kernel)) (by decide +kernel) (fun _ => by decide +kernel) ok_X0_init hca body
def bk_X0_reported : pm_B := [(0, [(.aload_n 0, 1, 0, 0, 0), (.getfield 15, 3, 0, 1, 0), (.iconst (-1), 1, 0, 0, -1), (.invokestatic 18, 3, 4, 2, 0), (.iconst 0, 1, 0, 0, 0), (.istore 5, 2, 5, 0, 0), (.iload_n 2, 1, 2, 0, 0), (.istore 6, 2, 6, 0, 0)], 14),
  (14, [(.iload 6, 2, 6, 0, 0), (.iload_n 3, 1, 3, 0, 0), (.if_icmp .gt 55, 3, 72, 0, 0), (.aload_n 1, 1, 1, 0, 0), (.getfield 24, 3, 7, 2, 0), (.iload 6, 2, 6, 0, 0), (.iaload, 1, 0, 0, 0), (.istore 7, 2, 7, 0, 0), (.iload 7, 2, 7, 0, 0), (.iconst (-1), 1, 0, 0, -1), (.if_icmp .ne 19, 3, 51, 0, 0), (.iload 5, 2, 5, 0, 0), (.iload 4, 2, 4, 0, 0), (.if_icmp .ne 6, 3, 45, 0, 0), (.iload 6, 2, 6, 0, 0), (.ireturn, 1, 0, 0, 0)], 45),
  (45, [(.iinc 5 1, 3, 5, 0, 1), (.goto 18, 3, 66, 0, 0)], 51),
  (51, [(.iload 7, 2, 7, 0, 0), (.iload_n 2, 1, 2, 0, 0), (.if_icmp .ge 12, 3, 66, 0, 0), (.aload_n 0, 1, 0, 0, 0), (.getfield 15, 3, 0, 1, 0), (.iload 7, 2, 7, 0, 0), (.iload 6, 2, 6, 0, 0), (.iastore, 1, 0, 0, 0)], 66),
  (66, [(.iinc 6 1, 3, 6, 0, 1), (.goto (-55), 3, 14, 0, 0)], 72),
  (72, [(.iconst 0, 1, 0, 0, 0), (.istore 6, 2, 6, 0, 0)], 75),
  (75, [(.iload 6, 2, 6, 0, 0), (.iload_n 2, 1, 2, 0, 0), (.if_icmp .ge 38, 3, 116, 0, 0), (.aload_n 0, 1, 0, 0, 0), (.getfield 15, 3, 0, 1, 0), (.iload 6, 2, 6, 0, 0), (.iaload, 1, 0, 0, 0), (.iconst (-1), 1, 0, 0, -1), (.if_icmp .eq 21, 3, 110, 0, 0), (.iload 5, 2, 5, 0, 0), (.iload 4, 2, 4, 0, 0), (.if_icmp .ne 11, 3, 107, 0, 0), (.aload_n 0, 1, 0, 0, 0), (.getfield 15, 3, 0, 1, 0), (.iload 6, 2, 6, 0, 0), (.iaload, 1, 0, 0, 0), (.ireturn, 1, 0, 0, 0)], 107),
  (107, [(.iinc 5 1, 3, 5, 0, 1)], 110),
  (110, [(.iinc 6 1, 3, 6, 0, 1), (.goto (-38), 3, 75, 0, 0)], 116),
  (116, [(.iconst (-1), 1, 0, 0, -1), (.ireturn, 1, 0, 0, 0)], 118)]
set_option maxRecDepth 100000 in
theorem ok_X0_reported : pm_oks 0 false 8 (some .int) cX0_reported bk_X0_reported = true := oksF_ok (by decide +kernel)
set_option maxRecDepth 100000 in
theorem me_X0_reported : pm_me 66 = (yX0_reported, cX0_reported, 8, (some .int), 4, 0) := rfl
theorem mt_X0_reported {l : Launch} {g : pm_G} {d mc ms : Nat} {as : List Value} {A : pm_H} {Q : Option Value → pm_H → Prop} (hca : pm_cat 8 as = true) (body : ∀ J : pm_J, pm_Cl l g (fun _ => none) d mc ms (pm_Rq mc ms Q) bk_X0_reported J → J 0 (pm_l0 8 as) [] A 0 0) : pm_Mt l g 66 d mc ms as A Q := pm_Mt_of (isI := false) 0 bk_X0_reported me_X0_reported (plainFor_of_name (by decide +kernel)) (by decide +kernel) (fun h => by cases h) ok_X0_reported hca body
def bk_X0_colourInOrder : pm_B := [(0, [(.iload 6, 2, 6, 0, 0), (.tableswitch 93 0 4 #[34, 46, 58, 69, 81], 34, 2, 0, 0)], 36),
  (36, [(.aload_n 0, 1, 0, 0, 0), (.aload_n 1, 1, 1, 0, 0), (.iload_n 3, 1, 3, 0, 0), (.iload 4, 2, 4, 0, 0), (.iconst 1, 1, 0, 0, 1), (.invokevirtual 29, 3, 69, 4, 0), (.goto 52, 3, 97, 0, 0)], 48),
  (48, [(.aload_n 0, 1, 0, 0, 0), (.aload_n 1, 1, 1, 0, 0), (.iload 4, 2, 4, 0, 0), (.iload_n 3, 1, 3, 0, 0), (.iconst (-1), 1, 0, 0, -1), (.invokevirtual 29, 3, 69, 4, 0), (.goto 40, 3, 97, 0, 0)], 60),
  (60, [(.aload_n 0, 1, 0, 0, 0), (.aload_n 2, 1, 2, 0, 0), (.getfield 33, 3, 2, 4, 0), (.iload 5, 2, 5, 0, 0), (.invokevirtual 39, 3, 71, 2, 0), (.ireturn, 1, 0, 0, 0)], 71),
  (71, [(.aload_n 0, 1, 0, 0, 0), (.aload_n 2, 1, 2, 0, 0), (.aload_n 2, 1, 2, 0, 0), (.getfield 43, 3, 2, 1, 0), (.invokevirtual 46, 3, 72, 2, 0), (.goto 17, 3, 97, 0, 0)], 83),
  (83, [(.aload_n 0, 1, 0, 0, 0), (.aload_n 2, 1, 2, 0, 0), (.aload_n 2, 1, 2, 0, 0), (.getfield 50, 3, 2, 0, 0), (.invokevirtual 46, 3, 72, 2, 0), (.goto 5, 3, 97, 0, 0)], 95),
  (95, [(.iconst (-1), 1, 0, 0, -1), (.ireturn, 1, 0, 0, 0)], 97),
  (97, [(.iload 5, 2, 5, 0, 0), (.ifCond .lt 22, 3, 121, 0, 0), (.iload 5, 2, 5, 0, 0), (.aload_n 0, 1, 0, 0, 0), (.getfield 53, 3, 0, 2, 0), (.if_icmp .ge 13, 3, 121, 0, 0), (.aload_n 0, 1, 0, 0, 0), (.getfield 9, 3, 0, 0, 0), (.iload 5, 2, 5, 0, 0), (.iaload, 1, 0, 0, 0), (.goto 4, 3, 122, 0, 0)], 121),
  (121, [(.iconst (-1), 1, 0, 0, -1)], 122),
  (122, [(.ireturn, 1, 0, 0, 0)], 123)]
set_option maxRecDepth 100000 in
theorem ok_X0_colourInOrder : pm_oks 0 false 7 (some .int) cX0_colourInOrder bk_X0_colourInOrder = true := oksF_ok (by decide +kernel)
set_option maxRecDepth 100000 in
theorem me_X0_colourInOrder : pm_me 68 = (yX0_colourInOrder, cX0_colourInOrder, 7, (some .int), 6, 0) := rfl
theorem mt_X0_colourInOrder {l : Launch} {g : pm_G} {d mc ms : Nat} {as : List Value} {A : pm_H} {Q : Option Value → pm_H → Prop} (hca : pm_cat 7 as = true) (body : ∀ J : pm_J, pm_Cl l g (fun _ => none) d mc ms (pm_Rq mc ms Q) bk_X0_colourInOrder J → J 0 (pm_l0 7 as) [] A 0 0) : pm_Mt l g 68 d mc ms as A Q := pm_Mt_of (isI := false) 0 bk_X0_colourInOrder me_X0_colourInOrder (plainFor_of_name (by decide +kernel)) (by decide +kernel) (fun h => by cases h) ok_X0_colourInOrder hca body
def bk_X0_listAsMet : pm_B := [(0, [(.iconst 0, 1, 0, 0, 0), (.istore 5, 2, 5, 0, 0), (.iload_n 3, 1, 3, 0, 0), (.iload_n 2, 1, 2, 0, 0), (.isub, 1, 0, 0, 0), (.invokestatic 56, 3, 70, 1, 0), (.istore 6, 2, 6, 0, 0), (.aload_n 0, 1, 0, 0, 0), (.iconst 0, 1, 0, 0, 0), (.putfield 53, 3, 0, 2, 0), (.iconst 0, 1, 0, 0, 0), (.istore 7, 2, 7, 0, 0)], 19),
  (19, [(.iload 7, 2, 7, 0, 0), (.iload 6, 2, 6, 0, 0), (.if_icmp .gt 72, 3, 95, 0, 0), (.aload_n 1, 1, 1, 0, 0), (.getfield 62, 3, 7, 0, 0), (.iload_n 2, 1, 2, 0, 0), (.iload 7, 2, 7, 0, 0), (.iload 4, 2, 4, 0, 0), (.imul, 1, 0, 0, 0), (.iadd, 1, 0, 0, 0), (.iaload, 1, 0, 0, 0), (.istore 8, 2, 8, 0, 0), (.iload 5, 2, 5, 0, 0), (.iconst 1, 1, 0, 0, 1), (.iload 8, 2, 8, 0, 0), (.ishl, 1, 0, 0, 0), (.iand, 1, 0, 0, 0), (.ifCond .ne 42, 3, 89, 0, 0), (.aload_n 0, 1, 0, 0, 0), (.getfield 53, 3, 0, 2, 0), (.bipush 24, 2, 0, 0, 24), (.if_icmp .ge 33, 3, 89, 0, 0), (.iload 5, 2, 5, 0, 0), (.iconst 1, 1, 0, 0, 1), (.iload 8, 2, 8, 0, 0), (.ishl, 1, 0, 0, 0), (.ior, 1, 0, 0, 0), (.istore 5, 2, 5, 0, 0), (.aload_n 0, 1, 0, 0, 0), (.getfield 9, 3, 0, 0, 0), (.aload_n 0, 1, 0, 0, 0), (.getfield 53, 3, 0, 2, 0), (.iload 8, 2, 8, 0, 0), (.iastore, 1, 0, 0, 0), (.aload_n 0, 1, 0, 0, 0), (.dup, 1, 0, 0, 0), (.getfield 53, 3, 0, 2, 0), (.iconst 1, 1, 0, 0, 1), (.iadd, 1, 0, 0, 0), (.putfield 53, 3, 0, 2, 0)], 89),
  (89, [(.iinc 7 1, 3, 7, 0, 1), (.goto (-73), 3, 19, 0, 0)], 95),
  (95, [(.return_, 1, 0, 0, 0)], 96)]
set_option maxRecDepth 100000 in
theorem ok_X0_listAsMet : pm_oks 0 false 9 none cX0_listAsMet bk_X0_listAsMet = true := oksF_ok (by decide +kernel)
set_option maxRecDepth 100000 in
theorem me_X0_listAsMet : pm_me 69 = (yX0_listAsMet, cX0_listAsMet, 9, none, 4, 0) := rfl
theorem mt_X0_listAsMet {l : Launch} {g : pm_G} {d mc ms : Nat} {as : List Value} {A : pm_H} {Q : Option Value → pm_H → Prop} (hca : pm_cat 9 as = true) (body : ∀ J : pm_J, pm_Cl l g (fun _ => none) d mc ms (pm_Rq mc ms Q) bk_X0_listAsMet J → J 0 (pm_l0 9 as) [] A 0 0) : pm_Mt l g 69 d mc ms as A Q := pm_Mt_of (isI := false) 0 bk_X0_listAsMet me_X0_listAsMet (plainFor_of_name (by decide +kernel)) (by decide +kernel) (fun h => by cases h) ok_X0_listAsMet hca body
def bk_X0_colourOf : pm_B := [(0, [(.iconst 0, 1, 0, 0, 0), (.istore_n 3, 1, 3, 0, 0), (.iconst 0, 1, 0, 0, 0), (.istore 4, 2, 4, 0, 0)], 5),
  (5, [(.iload 4, 2, 4, 0, 0), (.bipush 24, 2, 0, 0, 24), (.if_icmp .ge 29, 3, 38, 0, 0), (.iload_n 1, 1, 1, 0, 0), (.iconst 1, 1, 0, 0, 1), (.iload 4, 2, 4, 0, 0), (.ishl, 1, 0, 0, 0), (.iand, 1, 0, 0, 0), (.ifCond .eq 14, 3, 32, 0, 0), (.iload_n 3, 1, 3, 0, 0), (.iload_n 2, 1, 2, 0, 0), (.if_icmp .ne 6, 3, 29, 0, 0), (.iload 4, 2, 4, 0, 0), (.ireturn, 1, 0, 0, 0)], 29),
  (29, [(.iinc 3 1, 3, 3, 0, 1)], 32),
  (32, [(.iinc 4 1, 3, 4, 0, 1), (.goto (-30), 3, 5, 0, 0)], 38),
  (38, [(.iconst (-1), 1, 0, 0, -1), (.ireturn, 1, 0, 0, 0)], 40)]
set_option maxRecDepth 100000 in
theorem ok_X0_colourOf : pm_oks 0 false 5 (some .int) cX0_colourOf bk_X0_colourOf = true := oksF_ok (by decide +kernel)
set_option maxRecDepth 100000 in
theorem me_X0_colourOf : pm_me 71 = (yX0_colourOf, cX0_colourOf, 5, (some .int), 2, 0) := rfl
theorem mt_X0_colourOf {l : Launch} {g : pm_G} {d mc ms : Nat} {as : List Value} {A : pm_H} {Q : Option Value → pm_H → Prop} (hca : pm_cat 5 as = true) (body : ∀ J : pm_J, pm_Cl l g (fun _ => none) d mc ms (pm_Rq mc ms Q) bk_X0_colourOf J → J 0 (pm_l0 5 as) [] A 0 0) : pm_Mt l g 71 d mc ms as A Q := pm_Mt_of (isI := false) 0 bk_X0_colourOf me_X0_colourOf (plainFor_of_name (by decide +kernel)) (by decide +kernel) (fun h => by cases h) ok_X0_colourOf hca body
def bk_X0_listByMost : pm_B := [(0, [(.aload_n 0, 1, 0, 0, 0), (.iconst 0, 1, 0, 0, 0), (.putfield 53, 3, 0, 2, 0), (.iconst 0, 1, 0, 0, 0), (.istore_n 3, 1, 3, 0, 0)], 7),
  (7, [(.iload_n 3, 1, 3, 0, 0), (.bipush 24, 2, 0, 0, 24), (.if_icmp .ge 86, 3, 96, 0, 0), (.aload_n 1, 1, 1, 0, 0), (.getfield 50, 3, 2, 0, 0), (.iload_n 3, 1, 3, 0, 0), (.iaload, 1, 0, 0, 0), (.ifCond .le 71, 3, 90, 0, 0), (.aload_n 0, 1, 0, 0, 0), (.getfield 53, 3, 0, 2, 0), (.istore 4, 2, 4, 0, 0)], 28),
  (28, [(.iload 4, 2, 4, 0, 0), (.ifCond .le 42, 3, 72, 0, 0), (.aload_n 2, 1, 2, 0, 0), (.aload_n 0, 1, 0, 0, 0), (.getfield 9, 3, 0, 0, 0), (.iload 4, 2, 4, 0, 0), (.iconst 1, 1, 0, 0, 1), (.isub, 1, 0, 0, 0), (.iaload, 1, 0, 0, 0), (.iaload, 1, 0, 0, 0), (.aload_n 2, 1, 2, 0, 0), (.iload_n 3, 1, 3, 0, 0), (.iaload, 1, 0, 0, 0), (.if_icmp .ge 25, 3, 72, 0, 0), (.aload_n 0, 1, 0, 0, 0), (.getfield 9, 3, 0, 0, 0), (.iload 4, 2, 4, 0, 0), (.aload_n 0, 1, 0, 0, 0), (.getfield 9, 3, 0, 0, 0), (.iload 4, 2, 4, 0, 0), (.iconst 1, 1, 0, 0, 1), (.isub, 1, 0, 0, 0), (.iaload, 1, 0, 0, 0), (.iastore, 1, 0, 0, 0), (.iinc 4 (-1), 3, 4, 0, -1), (.goto (-41), 3, 28, 0, 0)], 72),
  (72, [(.aload_n 0, 1, 0, 0, 0), (.getfield 9, 3, 0, 0, 0), (.iload 4, 2, 4, 0, 0), (.iload_n 3, 1, 3, 0, 0), (.iastore, 1, 0, 0, 0), (.aload_n 0, 1, 0, 0, 0), (.dup, 1, 0, 0, 0), (.getfield 53, 3, 0, 2, 0), (.iconst 1, 1, 0, 0, 1), (.iadd, 1, 0, 0, 0), (.putfield 53, 3, 0, 2, 0)], 90),
  (90, [(.iinc 3 1, 3, 3, 0, 1), (.goto (-86), 3, 7, 0, 0)], 96),
  (96, [(.return_, 1, 0, 0, 0)], 97)]
set_option maxRecDepth 100000 in
theorem ok_X0_listByMost : pm_oks 0 false 5 none cX0_listByMost bk_X0_listByMost = true := oksF_ok (by decide +kernel)
set_option maxRecDepth 100000 in
theorem me_X0_listByMost : pm_me 72 = (yX0_listByMost, cX0_listByMost, 5, none, 2, 0) := rfl
theorem mt_X0_listByMost {l : Launch} {g : pm_G} {d mc ms : Nat} {as : List Value} {A : pm_H} {Q : Option Value → pm_H → Prop} (hca : pm_cat 5 as = true) (body : ∀ J : pm_J, pm_Cl l g (fun _ => none) d mc ms (pm_Rq mc ms Q) bk_X0_listByMost J → J 0 (pm_l0 5 as) [] A 0 0) : pm_Mt l g 72 d mc ms as A Q := pm_Mt_of (isI := false) 0 bk_X0_listByMost me_X0_listByMost (plainFor_of_name (by decide +kernel)) (by decide +kernel) (fun h => by cases h) ok_X0_listByMost hca body
def bk_X1_init : pm_B := [(0, [(.aload_n 0, 1, 0, 0, 0), (.invokespecial 3, 3, 0, 0, 0), (.aload_n 0, 1, 0, 0, 0), (.sipush 160, 3, 0, 0, 160), (.newarray .int, 2, 160, 0, 0), (.putfield 9, 3, 1, 0, 1), (.aload_n 0, 1, 0, 0, 0), (.bipush 24, 2, 0, 0, 24), (.newarray .int, 2, 24, 0, 0), (.putfield 15, 3, 1, 1, 1), (.aload_n 0, 1, 0, 0, 0), (.bipush 24, 2, 0, 0, 24), (.newarray .int, 2, 24, 0, 0), (.putfield 18, 3, 1, 2, 1), (.return_, 1, 0, 0, 0)], 30)]
set_option maxRecDepth 100000 in
theorem ok_X1_init : pm_oks 1 true 1 none cX1_init bk_X1_init = true := oksF_ok (by decide +kernel)
set_option maxRecDepth 100000 in
theorem me_X1_init : pm_me 6 = (yX1_init, cX1_init, 1, none, 0, 2) := rfl
theorem mt_X1_init {l : Launch} {g : pm_G} {d mc ms : Nat} {as : List Value} {A : pm_H} {Q : Option Value → pm_H → Prop} (hca : pm_cat 1 as = true) (body : ∀ J : pm_J, pm_Cl l g (fun _ => none) d mc ms (pm_Rq mc ms Q) bk_X1_init J → J 0 (pm_l0 1 as) [] A 0 0) : pm_Mt l g 6 d mc ms as A Q := pm_Mt_of (isI := true) 1 bk_X1_init me_X1_init (plainFor_of_name (by decide +kernel)) (by decide +kernel) (fun _ => by decide +kernel) ok_X1_init hca body
def bk_X1_findNearestAlike : pm_B := [(0, [(.aload_n 0, 1, 0, 0, 0), (.invokevirtual 28, 3, 82, 0, 1), (.iload_n 2, 1, 2, 0, 0), (.istore 4, 2, 4, 0, 0)], 7),
  (7, [(.iload 4, 2, 4, 0, 0), (.iload_n 3, 1, 3, 0, 0), (.if_icmp .gt 33, 3, 43, 0, 0), (.aload_n 1, 1, 1, 0, 0), (.getfield 31, 3, 7, 2, 0), (.iload 4, 2, 4, 0, 0), (.iaload, 1, 0, 0, 0), (.iload_n 2, 1, 2, 0, 0), (.if_icmp .lt 16, 3, 37, 0, 0), (.aload_n 0, 1, 0, 0, 0), (.aload_n 1, 1, 1, 0, 0), (.getfield 31, 3, 7, 2, 0), (.iload 4, 2, 4, 0, 0), (.iaload, 1, 0, 0, 0), (.iload 4, 2, 4, 0, 0), (.invokevirtual 36, 3, 83, 2, 1)], 37),
  (37, [(.iinc 4 1, 3, 4, 0, 1), (.goto (-33), 3, 7, 0, 0)], 43),
  (43, [(.return_, 1, 0, 0, 0)], 44)]
set_option maxRecDepth 100000 in
theorem ok_X1_findNearestAlike : pm_oks 1 false 5 none cX1_findNearestAlike bk_X1_findNearestAlike = true := oksF_ok (by decide +kernel)
set_option maxRecDepth 100000 in
theorem me_X1_findNearestAlike : pm_me 81 = (yX1_findNearestAlike, cX1_findNearestAlike, 5, none, 3, 0) := rfl
theorem mt_X1_findNearestAlike {l : Launch} {g : pm_G} {d mc ms : Nat} {as : List Value} {A : pm_H} {Q : Option Value → pm_H → Prop} (hca : pm_cat 5 as = true) (body : ∀ J : pm_J, pm_Cl l g (fun _ => none) d mc ms (pm_Rq mc ms Q) bk_X1_findNearestAlike J → J 0 (pm_l0 5 as) [] A 0 0) : pm_Mt l g 81 d mc ms as A Q := pm_Mt_of (isI := false) 1 bk_X1_findNearestAlike me_X1_findNearestAlike (plainFor_of_name (by decide +kernel)) (by decide +kernel) (fun h => by cases h) ok_X1_findNearestAlike hca body
def bk_X1_clearPair : pm_B := [(0, [(.aload_n 0, 1, 0, 0, 0), (.iconst (-1), 1, 0, 0, -1), (.putfield 21, 3, 1, 3, 0), (.aload_n 0, 1, 0, 0, 0), (.iconst (-1), 1, 0, 0, -1), (.putfield 25, 3, 1, 4, 0), (.return_, 1, 0, 0, 0)], 11)]
set_option maxRecDepth 100000 in
theorem ok_X1_clearPair : pm_oks 1 false 1 none cX1_clearPair bk_X1_clearPair = true := oksF_ok (by decide +kernel)
set_option maxRecDepth 100000 in
theorem me_X1_clearPair : pm_me 82 = (yX1_clearPair, cX1_clearPair, 1, none, 0, 0) := rfl
theorem mt_X1_clearPair {l : Launch} {g : pm_G} {d mc ms : Nat} {as : List Value} {A : pm_H} {Q : Option Value → pm_H → Prop} (hca : pm_cat 1 as = true) (body : ∀ J : pm_J, pm_Cl l g (fun _ => none) d mc ms (pm_Rq mc ms Q) bk_X1_clearPair J → J 0 (pm_l0 1 as) [] A 0 0) : pm_Mt l g 82 d mc ms as A Q := pm_Mt_of (isI := false) 1 bk_X1_clearPair me_X1_clearPair (plainFor_of_name (by decide +kernel)) (by decide +kernel) (fun h => by cases h) ok_X1_clearPair hca body
def bk_X1_offerPair : pm_B := [(0, [(.aload_n 0, 1, 0, 0, 0), (.getfield 21, 3, 1, 3, 0), (.iconst (-1), 1, 0, 0, -1), (.if_icmp .eq 13, 3, 18, 0, 0), (.iload_n 2, 1, 2, 0, 0), (.iload_n 1, 1, 1, 0, 0), (.isub, 1, 0, 0, 0), (.aload_n 0, 1, 0, 0, 0), (.getfield 21, 3, 1, 3, 0), (.if_icmp .ge 15, 3, 30, 0, 0)], 18),
  (18, [(.aload_n 0, 1, 0, 0, 0), (.iload_n 2, 1, 2, 0, 0), (.iload_n 1, 1, 1, 0, 0), (.isub, 1, 0, 0, 0), (.putfield 21, 3, 1, 3, 0), (.aload_n 0, 1, 0, 0, 0), (.iload_n 1, 1, 1, 0, 0), (.putfield 25, 3, 1, 4, 0)], 30),
  (30, [(.return_, 1, 0, 0, 0)], 31)]
set_option maxRecDepth 100000 in
theorem ok_X1_offerPair : pm_oks 1 false 3 none cX1_offerPair bk_X1_offerPair = true := oksF_ok (by decide +kernel)
set_option maxRecDepth 100000 in
theorem me_X1_offerPair : pm_me 83 = (yX1_offerPair, cX1_offerPair, 3, none, 2, 0) := rfl
theorem mt_X1_offerPair {l : Launch} {g : pm_G} {d mc ms : Nat} {as : List Value} {A : pm_H} {Q : Option Value → pm_H → Prop} (hca : pm_cat 3 as = true) (body : ∀ J : pm_J, pm_Cl l g (fun _ => none) d mc ms (pm_Rq mc ms Q) bk_X1_offerPair J → J 0 (pm_l0 3 as) [] A 0 0) : pm_Mt l g 83 d mc ms as A Q := pm_Mt_of (isI := false) 1 bk_X1_offerPair me_X1_offerPair (plainFor_of_name (by decide +kernel)) (by decide +kernel) (fun h => by cases h) ok_X1_offerPair hca body
def bk_X1_pairFound : pm_B := [(0, [(.iload_n 1, 1, 1, 0, 0), (.ifCond .ne 10, 3, 11, 0, 0), (.aload_n 0, 1, 0, 0, 0), (.getfield 21, 3, 1, 3, 0), (.goto 16, 3, 24, 0, 0)], 11),
  (11, [(.iload_n 1, 1, 1, 0, 0), (.iconst 1, 1, 0, 0, 1), (.if_icmp .ne 10, 3, 23, 0, 0), (.aload_n 0, 1, 0, 0, 0), (.getfield 25, 3, 1, 4, 0), (.goto 4, 3, 24, 0, 0)], 23),
  (23, [(.iconst (-1), 1, 0, 0, -1)], 24),
  (24, [(.ireturn, 1, 0, 0, 0)], 25)]
set_option maxRecDepth 100000 in
theorem ok_X1_pairFound : pm_oks 1 false 2 (some .int) cX1_pairFound bk_X1_pairFound = true := oksF_ok (by decide +kernel)
set_option maxRecDepth 100000 in
theorem me_X1_pairFound : pm_me 84 = (yX1_pairFound, cX1_pairFound, 2, (some .int), 1, 0) := rfl
theorem mt_X1_pairFound {l : Launch} {g : pm_G} {d mc ms : Nat} {as : List Value} {A : pm_H} {Q : Option Value → pm_H → Prop} (hca : pm_cat 2 as = true) (body : ∀ J : pm_J, pm_Cl l g (fun _ => none) d mc ms (pm_Rq mc ms Q) bk_X1_pairFound J → J 0 (pm_l0 2 as) [] A 0 0) : pm_Mt l g 84 d mc ms as A Q := pm_Mt_of (isI := false) 1 bk_X1_pairFound me_X1_pairFound (plainFor_of_name (by decide +kernel)) (by decide +kernel) (fun h => by cases h) ok_X1_pairFound hca body
def bk_X1_unlikeTwos : pm_B := [(0, [(.aload_n 0, 1, 0, 0, 0), (.getfield 18, 3, 1, 2, 0), (.iconst 0, 1, 0, 0, 0), (.invokestatic 46, 3, 4, 2, 0), (.iconst 0, 1, 0, 0, 0), (.istore 4, 2, 4, 0, 0), (.iload_n 2, 1, 2, 0, 0), (.iconst 1, 1, 0, 0, 1), (.iadd, 1, 0, 0, 0), (.istore 5, 2, 5, 0, 0)], 16),
  (16, [(.iload 5, 2, 5, 0, 0), (.iload_n 3, 1, 3, 0, 0), (.if_icmp .gt 90, 3, 109, 0, 0), (.aload_n 1, 1, 1, 0, 0), (.getfield 43, 3, 7, 0, 0), (.iload 5, 2, 5, 0, 0), (.iconst 1, 1, 0, 0, 1), (.isub, 1, 0, 0, 0), (.iaload, 1, 0, 0, 0), (.aload_n 1, 1, 1, 0, 0), (.getfield 43, 3, 7, 0, 0), (.iload 5, 2, 5, 0, 0), (.iaload, 1, 0, 0, 0), (.invokestatic 52, 3, 87, 2, 0), (.istore 6, 2, 6, 0, 0), (.aload_n 1, 1, 1, 0, 0), (.getfield 43, 3, 7, 0, 0), (.iload 5, 2, 5, 0, 0), (.iconst 1, 1, 0, 0, 1), (.isub, 1, 0, 0, 0), (.iaload, 1, 0, 0, 0), (.aload_n 1, 1, 1, 0, 0), (.getfield 43, 3, 7, 0, 0), (.iload 5, 2, 5, 0, 0), (.iaload, 1, 0, 0, 0), (.invokestatic 58, 3, 51, 2, 0), (.istore 7, 2, 7, 0, 0), (.iload 6, 2, 6, 0, 0), (.iload 7, 2, 7, 0, 0), (.if_icmp .eq 35, 3, 103, 0, 0), (.aload_n 0, 1, 0, 0, 0), (.getfield 18, 3, 1, 2, 0), (.iload 6, 2, 6, 0, 0), (.iaload, 1, 0, 0, 0), (.iconst 1, 1, 0, 0, 1), (.iload 7, 2, 7, 0, 0), (.ishl, 1, 0, 0, 0), (.iand, 1, 0, 0, 0), (.ifCond .ne 20, 3, 103, 0, 0), (.aload_n 0, 1, 0, 0, 0), (.getfield 18, 3, 1, 2, 0), (.iload 6, 2, 6, 0, 0), (.dup2, 1, 0, 0, 0), (.iaload, 1, 0, 0, 0), (.iconst 1, 1, 0, 0, 1), (.iload 7, 2, 7, 0, 0), (.ishl, 1, 0, 0, 0), (.ior, 1, 0, 0, 0), (.iastore, 1, 0, 0, 0), (.iinc 4 1, 3, 4, 0, 1)], 103),
  (103, [(.iinc 5 1, 3, 5, 0, 1), (.goto (-90), 3, 16, 0, 0)], 109),
  (109, [(.iload 4, 2, 4, 0, 0), (.ireturn, 1, 0, 0, 0)], 112)]
set_option maxRecDepth 100000 in
theorem ok_X1_unlikeTwos : pm_oks 1 false 8 (some .int) cX1_unlikeTwos bk_X1_unlikeTwos = true := oksF_ok (by decide +kernel)
set_option maxRecDepth 100000 in
theorem me_X1_unlikeTwos : pm_me 86 = (yX1_unlikeTwos, cX1_unlikeTwos, 8, (some .int), 3, 0) := rfl
theorem mt_X1_unlikeTwos {l : Launch} {g : pm_G} {d mc ms : Nat} {as : List Value} {A : pm_H} {Q : Option Value → pm_H → Prop} (hca : pm_cat 8 as = true) (body : ∀ J : pm_J, pm_Cl l g (fun _ => none) d mc ms (pm_Rq mc ms Q) bk_X1_unlikeTwos J → J 0 (pm_l0 8 as) [] A 0 0) : pm_Mt l g 86 d mc ms as A Q := pm_Mt_of (isI := false) 1 bk_X1_unlikeTwos me_X1_unlikeTwos (plainFor_of_name (by decide +kernel)) (by decide +kernel) (fun h => by cases h) ok_X1_unlikeTwos hca body
def bk_X1_coveringLength : pm_B := [(0, [(.aload_n 2, 1, 2, 0, 0), (.aload_n 1, 1, 1, 0, 0), (.iload_n 3, 1, 3, 0, 0), (.iload 4, 2, 4, 0, 0), (.invokevirtual 61, 3, 55, 3, 2), (.aload_n 0, 1, 0, 0, 0), (.getfield 15, 3, 1, 1, 0), (.iload_n 3, 1, 3, 0, 0), (.iconst 1, 1, 0, 0, 1), (.isub, 1, 0, 0, 0), (.invokestatic 46, 3, 4, 2, 0), (.iconst 1, 1, 0, 0, 1), (.istore 5, 2, 5, 0, 0), (.iload_n 3, 1, 3, 0, 0), (.istore 6, 2, 6, 0, 0)], 24),
  (24, [(.iload 6, 2, 6, 0, 0), (.iload 4, 2, 4, 0, 0), (.if_icmp .gt 44, 3, 72, 0, 0), (.aload_n 1, 1, 1, 0, 0), (.getfield 43, 3, 7, 0, 0), (.iload 6, 2, 6, 0, 0), (.iaload, 1, 0, 0, 0), (.istore 7, 2, 7, 0, 0), (.iload 5, 2, 5, 0, 0), (.iload 6, 2, 6, 0, 0), (.aload_n 0, 1, 0, 0, 0), (.getfield 15, 3, 1, 1, 0), (.iload 7, 2, 7, 0, 0), (.iaload, 1, 0, 0, 0), (.isub, 1, 0, 0, 0), (.invokestatic 58, 3, 51, 2, 0), (.istore 5, 2, 5, 0, 0), (.aload_n 0, 1, 0, 0, 0), (.getfield 15, 3, 1, 1, 0), (.iload 7, 2, 7, 0, 0), (.iload 6, 2, 6, 0, 0), (.iastore, 1, 0, 0, 0), (.iinc 6 1, 3, 6, 0, 1), (.goto (-45), 3, 24, 0, 0)], 72),
  (72, [(.iconst 0, 1, 0, 0, 0), (.istore 6, 2, 6, 0, 0)], 75),
  (75, [(.iload 6, 2, 6, 0, 0), (.bipush 24, 2, 0, 0, 24), (.if_icmp .ge 38, 3, 117, 0, 0), (.aload_n 2, 1, 2, 0, 0), (.getfield 67, 3, 2, 0, 0), (.iload 6, 2, 6, 0, 0), (.iaload, 1, 0, 0, 0), (.ifCond .le 22, 3, 111, 0, 0), (.iload 5, 2, 5, 0, 0), (.iload 4, 2, 4, 0, 0), (.iconst 1, 1, 0, 0, 1), (.iadd, 1, 0, 0, 0), (.aload_n 0, 1, 0, 0, 0), (.getfield 15, 3, 1, 1, 0), (.iload 6, 2, 6, 0, 0), (.iaload, 1, 0, 0, 0), (.isub, 1, 0, 0, 0), (.invokestatic 58, 3, 51, 2, 0), (.istore 5, 2, 5, 0, 0)], 111),
  (111, [(.iinc 6 1, 3, 6, 0, 1), (.goto (-39), 3, 75, 0, 0)], 117),
  (117, [(.iload 5, 2, 5, 0, 0), (.ireturn, 1, 0, 0, 0)], 120)]
set_option maxRecDepth 100000 in
theorem ok_X1_coveringLength : pm_oks 1 false 8 (some .int) cX1_coveringLength bk_X1_coveringLength = true := oksF_ok (by decide +kernel)
set_option maxRecDepth 100000 in
theorem me_X1_coveringLength : pm_me 89 = (yX1_coveringLength, cX1_coveringLength, 8, (some .int), 4, 0) := rfl
theorem mt_X1_coveringLength {l : Launch} {g : pm_G} {d mc ms : Nat} {as : List Value} {A : pm_H} {Q : Option Value → pm_H → Prop} (hca : pm_cat 8 as = true) (body : ∀ J : pm_J, pm_Cl l g (fun _ => none) d mc ms (pm_Rq mc ms Q) bk_X1_coveringLength J → J 0 (pm_l0 8 as) [] A 0 0) : pm_Mt l g 89 d mc ms as A Q := pm_Mt_of (isI := false) 1 bk_X1_coveringLength me_X1_coveringLength (plainFor_of_name (by decide +kernel)) (by decide +kernel) (fun h => by cases h) ok_X1_coveringLength hca body
def bk_X1_evenestEnd : pm_B := [(0, [(.aload_n 2, 1, 2, 0, 0), (.invokevirtual 70, 3, 56, 0, 2), (.iload_n 3, 1, 3, 0, 0), (.istore 5, 2, 5, 0, 0)], 7),
  (7, [(.iload 5, 2, 5, 0, 0), (.iload 4, 2, 4, 0, 0), (.if_icmp .gt 31, 3, 42, 0, 0), (.aload_n 2, 1, 2, 0, 0), (.aload_n 1, 1, 1, 0, 0), (.getfield 43, 3, 7, 0, 0), (.iload 5, 2, 5, 0, 0), (.iaload, 1, 0, 0, 0), (.invokevirtual 73, 3, 57, 1, 2), (.aload_n 0, 1, 0, 0, 0), (.getfield 9, 3, 1, 0, 0), (.iload 5, 2, 5, 0, 0), (.aload_n 2, 1, 2, 0, 0), (.getfield 77, 3, 2, 3, 0), (.iastore, 1, 0, 0, 0), (.iinc 5 1, 3, 5, 0, 1), (.goto (-32), 3, 7, 0, 0)], 42),
  (42, [(.aload_n 2, 1, 2, 0, 0), (.invokevirtual 70, 3, 56, 0, 2), (.iconst (-1), 1, 0, 0, -1), (.istore 5, 2, 5, 0, 0), (.bipush 25, 2, 0, 0, 25), (.istore 6, 2, 6, 0, 0), (.iload 4, 2, 4, 0, 0), (.iconst 1, 1, 0, 0, 1), (.isub, 1, 0, 0, 0), (.istore 7, 2, 7, 0, 0)], 59),
  (59, [(.iload 7, 2, 7, 0, 0), (.iload_n 3, 1, 3, 0, 0), (.if_icmp .lt 54, 3, 116, 0, 0), (.aload_n 2, 1, 2, 0, 0), (.aload_n 1, 1, 1, 0, 0), (.getfield 43, 3, 7, 0, 0), (.iload 7, 2, 7, 0, 0), (.iconst 1, 1, 0, 0, 1), (.iadd, 1, 0, 0, 0), (.iaload, 1, 0, 0, 0), (.invokevirtual 73, 3, 57, 1, 2), (.aload_n 0, 1, 0, 0, 0), (.getfield 9, 3, 1, 0, 0), (.iload 7, 2, 7, 0, 0), (.iaload, 1, 0, 0, 0), (.aload_n 2, 1, 2, 0, 0), (.getfield 77, 3, 2, 3, 0), (.isub, 1, 0, 0, 0), (.invokestatic 80, 3, 70, 1, 0), (.istore 8, 2, 8, 0, 0), (.iload 8, 2, 8, 0, 0), (.iload 6, 2, 6, 0, 0), (.if_icmp .gt 11, 3, 110, 0, 0), (.iload 8, 2, 8, 0, 0), (.istore 6, 2, 6, 0, 0), (.iload 7, 2, 7, 0, 0), (.istore 5, 2, 5, 0, 0)], 110),
  (110, [(.iinc 7 (-1), 3, 7, 0, -1), (.goto (-54), 3, 59, 0, 0)], 116),
  (116, [(.iload 5, 2, 5, 0, 0), (.ireturn, 1, 0, 0, 0)], 119)]
set_option maxRecDepth 100000 in
theorem ok_X1_evenestEnd : pm_oks 1 false 9 (some .int) cX1_evenestEnd bk_X1_evenestEnd = true := oksF_ok (by decide +kernel)
set_option maxRecDepth 100000 in
theorem me_X1_evenestEnd : pm_me 97 = (yX1_evenestEnd, cX1_evenestEnd, 9, (some .int), 4, 0) := rfl
theorem mt_X1_evenestEnd {l : Launch} {g : pm_G} {d mc ms : Nat} {as : List Value} {A : pm_H} {Q : Option Value → pm_H → Prop} (hca : pm_cat 9 as = true) (body : ∀ J : pm_J, pm_Cl l g (fun _ => none) d mc ms (pm_Rq mc ms Q) bk_X1_evenestEnd J → J 0 (pm_l0 9 as) [] A 0 0) : pm_Mt l g 97 d mc ms as A Q := pm_Mt_of (isI := false) 1 bk_X1_evenestEnd me_X1_evenestEnd (plainFor_of_name (by decide +kernel)) (by decide +kernel) (fun h => by cases h) ok_X1_evenestEnd hca body
def bk_X1_findNearestOfTwo : pm_B := [(0, [(.aload_n 0, 1, 0, 0, 0), (.invokevirtual 28, 3, 82, 0, 1), (.iconst (-1), 1, 0, 0, -1), (.istore 4, 2, 4, 0, 0), (.iconst (-1), 1, 0, 0, -1), (.istore 5, 2, 5, 0, 0), (.iconst 0, 1, 0, 0, 0), (.istore 6, 2, 6, 0, 0)], 13),
  (13, [(.iload 6, 2, 6, 0, 0), (.aload_n 1, 1, 1, 0, 0), (.getfield 40, 3, 7, 3, 0), (.if_icmp .ge 70, 3, 89, 0, 0), (.aload_n 1, 1, 1, 0, 0), (.getfield 43, 3, 7, 0, 0), (.iload 6, 2, 6, 0, 0), (.iaload, 1, 0, 0, 0), (.iload_n 2, 1, 2, 0, 0), (.if_icmp .ne 24, 3, 54, 0, 0), (.iload 6, 2, 6, 0, 0), (.istore 4, 2, 4, 0, 0), (.iload 5, 2, 5, 0, 0), (.iconst (-1), 1, 0, 0, -1), (.if_icmp .eq 43, 3, 83, 0, 0), (.aload_n 0, 1, 0, 0, 0), (.iload 5, 2, 5, 0, 0), (.iload 6, 2, 6, 0, 0), (.invokevirtual 36, 3, 83, 2, 1), (.goto 32, 3, 83, 0, 0)], 54),
  (54, [(.aload_n 1, 1, 1, 0, 0), (.getfield 43, 3, 7, 0, 0), (.iload 6, 2, 6, 0, 0), (.iaload, 1, 0, 0, 0), (.iload_n 3, 1, 3, 0, 0), (.if_icmp .ne 21, 3, 83, 0, 0), (.iload 6, 2, 6, 0, 0), (.istore 5, 2, 5, 0, 0), (.iload 4, 2, 4, 0, 0), (.iconst (-1), 1, 0, 0, -1), (.if_icmp .eq 11, 3, 83, 0, 0), (.aload_n 0, 1, 0, 0, 0), (.iload 4, 2, 4, 0, 0), (.iload 6, 2, 6, 0, 0), (.invokevirtual 36, 3, 83, 2, 1)], 83),
  (83, [(.iinc 6 1, 3, 6, 0, 1), (.goto (-73), 3, 13, 0, 0)], 89),
  (89, [(.return_, 1, 0, 0, 0)], 90)]
set_option maxRecDepth 100000 in
theorem ok_X1_findNearestOfTwo : pm_oks 1 false 7 none cX1_findNearestOfTwo bk_X1_findNearestOfTwo = true := oksF_ok (by decide +kernel)
set_option maxRecDepth 100000 in
theorem me_X1_findNearestOfTwo : pm_me 99 = (yX1_findNearestOfTwo, cX1_findNearestOfTwo, 7, none, 3, 0) := rfl
theorem mt_X1_findNearestOfTwo {l : Launch} {g : pm_G} {d mc ms : Nat} {as : List Value} {A : pm_H} {Q : Option Value → pm_H → Prop} (hca : pm_cat 7 as = true) (body : ∀ J : pm_J, pm_Cl l g (fun _ => none) d mc ms (pm_Rq mc ms Q) bk_X1_findNearestOfTwo J → J 0 (pm_l0 7 as) [] A 0 0) : pm_Mt l g 99 d mc ms as A Q := pm_Mt_of (isI := false) 1 bk_X1_findNearestOfTwo me_X1_findNearestOfTwo (plainFor_of_name (by decide +kernel)) (by decide +kernel) (fun h => by cases h) ok_X1_findNearestOfTwo hca body
def bk_X6_init : pm_B := [(0, [(.aload_n 0, 1, 0, 0, 0), (.invokespecial 3, 3, 0, 0, 0), (.aload_n 0, 1, 0, 0, 0), (.bipush 24, 2, 0, 0, 24), (.newarray .int, 2, 24, 0, 0), (.putfield 9, 3, 6, 0, 1), (.return_, 1, 0, 0, 0)], 13)]
set_option maxRecDepth 100000 in
theorem ok_X6_init : pm_oks 6 true 1 none cX6_init bk_X6_init = true := oksF_ok (by decide +kernel)
set_option maxRecDepth 100000 in
theorem me_X6_init : pm_me 7 = (yX6_init, cX6_init, 1, none, 0, 2) := rfl
theorem mt_X6_init {l : Launch} {g : pm_G} {d mc ms : Nat} {as : List Value} {A : pm_H} {Q : Option Value → pm_H → Prop} (hca : pm_cat 1 as = true) (body : ∀ J : pm_J, pm_Cl l g (fun _ => none) d mc ms (pm_Rq mc ms Q) bk_X6_init J → J 0 (pm_l0 1 as) [] A 0 0) : pm_Mt l g 7 d mc ms as A Q := pm_Mt_of (isI := true) 6 bk_X6_init me_X6_init (plainFor_of_name (by decide +kernel)) (by decide +kernel) (fun _ => by decide +kernel) ok_X6_init hca body
def bk_X6_forColours : pm_B := [(0, [(.aload_n 2, 1, 2, 0, 0), (.invokevirtual 22, 3, 56, 0, 2), (.iload_n 3, 1, 3, 0, 0), (.istore 5, 2, 5, 0, 0)], 7),
  (7, [(.iload 5, 2, 5, 0, 0), (.aload_n 1, 1, 1, 0, 0), (.getfield 27, 3, 7, 3, 0), (.if_icmp .ge 32, 3, 45, 0, 0), (.aload_n 2, 1, 2, 0, 0), (.aload_n 1, 1, 1, 0, 0), (.getfield 32, 3, 7, 0, 0), (.iload 5, 2, 5, 0, 0), (.iaload, 1, 0, 0, 0), (.invokevirtual 35, 3, 57, 1, 2), (.aload_n 2, 1, 2, 0, 0), (.getfield 39, 3, 2, 3, 0), (.iload 4, 2, 4, 0, 0), (.if_icmp .lt 6, 3, 39, 0, 0), (.iload 5, 2, 5, 0, 0), (.ireturn, 1, 0, 0, 0)], 39),
  (39, [(.iinc 5 1, 3, 5, 0, 1), (.goto (-35), 3, 7, 0, 0)], 45),
  (45, [(.iconst (-1), 1, 0, 0, -1), (.ireturn, 1, 0, 0, 0)], 47)]
set_option maxRecDepth 100000 in
theorem ok_X6_forColours : pm_oks 6 false 6 (some .int) cX6_forColours bk_X6_forColours = true := oksF_ok (by decide +kernel)
set_option maxRecDepth 100000 in
theorem me_X6_forColours : pm_me 101 = (yX6_forColours, cX6_forColours, 6, (some .int), 4, 0) := rfl
theorem mt_X6_forColours {l : Launch} {g : pm_G} {d mc ms : Nat} {as : List Value} {A : pm_H} {Q : Option Value → pm_H → Prop} (hca : pm_cat 6 as = true) (body : ∀ J : pm_J, pm_Cl l g (fun _ => none) d mc ms (pm_Rq mc ms Q) bk_X6_forColours J → J 0 (pm_l0 6 as) [] A 0 0) : pm_Mt l g 101 d mc ms as A Q := pm_Mt_of (isI := false) 6 bk_X6_forColours me_X6_forColours (plainFor_of_name (by decide +kernel)) (by decide +kernel) (fun h => by cases h) ok_X6_forColours hca body
def bk_X6_backForColours : pm_B := [(0, [(.aload_n 2, 1, 2, 0, 0), (.invokevirtual 22, 3, 56, 0, 2), (.iload_n 3, 1, 3, 0, 0), (.istore 5, 2, 5, 0, 0)], 7),
  (7, [(.iload 5, 2, 5, 0, 0), (.ifCond .lt 32, 3, 41, 0, 0), (.aload_n 2, 1, 2, 0, 0), (.aload_n 1, 1, 1, 0, 0), (.getfield 32, 3, 7, 0, 0), (.iload 5, 2, 5, 0, 0), (.iaload, 1, 0, 0, 0), (.invokevirtual 35, 3, 57, 1, 2), (.aload_n 2, 1, 2, 0, 0), (.getfield 39, 3, 2, 3, 0), (.iload 4, 2, 4, 0, 0), (.if_icmp .lt 6, 3, 35, 0, 0), (.iload 5, 2, 5, 0, 0), (.ireturn, 1, 0, 0, 0)], 35),
  (35, [(.iinc 5 (-1), 3, 5, 0, -1), (.goto (-31), 3, 7, 0, 0)], 41),
  (41, [(.iconst (-1), 1, 0, 0, -1), (.ireturn, 1, 0, 0, 0)], 43)]
set_option maxRecDepth 100000 in
theorem ok_X6_backForColours : pm_oks 6 false 6 (some .int) cX6_backForColours bk_X6_backForColours = true := oksF_ok (by decide +kernel)
set_option maxRecDepth 100000 in
theorem me_X6_backForColours : pm_me 103 = (yX6_backForColours, cX6_backForColours, 6, (some .int), 4, 0) := rfl
theorem mt_X6_backForColours {l : Launch} {g : pm_G} {d mc ms : Nat} {as : List Value} {A : pm_H} {Q : Option Value → pm_H → Prop} (hca : pm_cat 6 as = true) (body : ∀ J : pm_J, pm_Cl l g (fun _ => none) d mc ms (pm_Rq mc ms Q) bk_X6_backForColours J → J 0 (pm_l0 6 as) [] A 0 0) : pm_Mt l g 103 d mc ms as A Q := pm_Mt_of (isI := false) 6 bk_X6_backForColours me_X6_backForColours (plainFor_of_name (by decide +kernel)) (by decide +kernel) (fun h => by cases h) ok_X6_backForColours hca body
def bk_X6_forMass : pm_B := [(0, [(.aload_n 2, 1, 2, 0, 0), (.invokevirtual 22, 3, 56, 0, 2), (.iload_n 3, 1, 3, 0, 0), (.istore 5, 2, 5, 0, 0)], 7),
  (7, [(.iload 5, 2, 5, 0, 0), (.aload_n 1, 1, 1, 0, 0), (.getfield 27, 3, 7, 3, 0), (.if_icmp .ge 32, 3, 45, 0, 0), (.aload_n 2, 1, 2, 0, 0), (.aload_n 1, 1, 1, 0, 0), (.getfield 32, 3, 7, 0, 0), (.iload 5, 2, 5, 0, 0), (.iaload, 1, 0, 0, 0), (.invokevirtual 35, 3, 57, 1, 2), (.aload_n 2, 1, 2, 0, 0), (.getfield 42, 3, 2, 5, 0), (.iload 4, 2, 4, 0, 0), (.if_icmp .lt 6, 3, 39, 0, 0), (.iload 5, 2, 5, 0, 0), (.ireturn, 1, 0, 0, 0)], 39),
  (39, [(.iinc 5 1, 3, 5, 0, 1), (.goto (-35), 3, 7, 0, 0)], 45),
  (45, [(.iconst (-1), 1, 0, 0, -1), (.ireturn, 1, 0, 0, 0)], 47)]
set_option maxRecDepth 100000 in
theorem ok_X6_forMass : pm_oks 6 false 6 (some .int) cX6_forMass bk_X6_forMass = true := oksF_ok (by decide +kernel)
set_option maxRecDepth 100000 in
theorem me_X6_forMass : pm_me 105 = (yX6_forMass, cX6_forMass, 6, (some .int), 4, 0) := rfl
theorem mt_X6_forMass {l : Launch} {g : pm_G} {d mc ms : Nat} {as : List Value} {A : pm_H} {Q : Option Value → pm_H → Prop} (hca : pm_cat 6 as = true) (body : ∀ J : pm_J, pm_Cl l g (fun _ => none) d mc ms (pm_Rq mc ms Q) bk_X6_forMass J → J 0 (pm_l0 6 as) [] A 0 0) : pm_Mt l g 105 d mc ms as A Q := pm_Mt_of (isI := false) 6 bk_X6_forMass me_X6_forMass (plainFor_of_name (by decide +kernel)) (by decide +kernel) (fun h => by cases h) ok_X6_forMass hca body
def bk_X6_findShortestWith : pm_B := [(0, [(.aload_n 0, 1, 0, 0, 0), (.invokevirtual 45, 3, 108, 0, 6), (.aload_n 0, 1, 0, 0, 0), (.iconst 0, 1, 0, 0, 0), (.putfield 48, 3, 6, 4, 0), (.aload_n 0, 1, 0, 0, 0), (.getfield 9, 3, 6, 0, 0), (.iconst (-1), 1, 0, 0, -1), (.invokestatic 51, 3, 4, 2, 0), (.iconst 0, 1, 0, 0, 0), (.istore_n 3, 1, 3, 0, 0)], 19),
  (19, [(.iload_n 3, 1, 3, 0, 0), (.aload_n 1, 1, 1, 0, 0), (.getfield 27, 3, 7, 3, 0), (.if_icmp .ge 83, 3, 107, 0, 0), (.aload_n 0, 1, 0, 0, 0), (.getfield 9, 3, 6, 0, 0), (.aload_n 1, 1, 1, 0, 0), (.getfield 32, 3, 7, 0, 0), (.iload_n 3, 1, 3, 0, 0), (.iaload, 1, 0, 0, 0), (.iload_n 3, 1, 3, 0, 0), (.iastore, 1, 0, 0, 0), (.aload_n 0, 1, 0, 0, 0), (.iload_n 2, 1, 2, 0, 0), (.iload_n 3, 1, 3, 0, 0), (.invokevirtual 57, 3, 109, 2, 6), (.istore 4, 2, 4, 0, 0), (.aload_n 0, 1, 0, 0, 0), (.dup, 1, 0, 0, 0), (.getfield 48, 3, 6, 4, 0), (.iload 4, 2, 4, 0, 0), (.iconst 1, 1, 0, 0, 1), (.iadd, 1, 0, 0, 0), (.iadd, 1, 0, 0, 0), (.putfield 48, 3, 6, 4, 0), (.iload 4, 2, 4, 0, 0), (.iconst (-1), 1, 0, 0, -1), (.if_icmp .eq 38, 3, 101, 0, 0), (.aload_n 0, 1, 0, 0, 0), (.getfield 15, 3, 6, 1, 0), (.iconst (-1), 1, 0, 0, -1), (.if_icmp .eq 19, 3, 90, 0, 0), (.iload_n 3, 1, 3, 0, 0), (.iload 4, 2, 4, 0, 0), (.isub, 1, 0, 0, 0), (.aload_n 0, 1, 0, 0, 0), (.getfield 19, 3, 6, 2, 0), (.aload_n 0, 1, 0, 0, 0), (.getfield 15, 3, 6, 1, 0), (.isub, 1, 0, 0, 0), (.if_icmp .ge 14, 3, 101, 0, 0)], 90),
  (90, [(.aload_n 0, 1, 0, 0, 0), (.iload 4, 2, 4, 0, 0), (.putfield 15, 3, 6, 1, 0), (.aload_n 0, 1, 0, 0, 0), (.iload_n 3, 1, 3, 0, 0), (.putfield 19, 3, 6, 2, 0)], 101),
  (101, [(.iinc 3 1, 3, 3, 0, 1), (.goto (-85), 3, 19, 0, 0)], 107),
  (107, [(.return_, 1, 0, 0, 0)], 108)]
set_option maxRecDepth 100000 in
theorem ok_X6_findShortestWith : pm_oks 6 false 5 none cX6_findShortestWith bk_X6_findShortestWith = true := oksF_ok (by decide +kernel)
set_option maxRecDepth 100000 in
theorem me_X6_findShortestWith : pm_me 107 = (yX6_findShortestWith, cX6_findShortestWith, 5, none, 2, 0) := rfl
theorem mt_X6_findShortestWith {l : Launch} {g : pm_G} {d mc ms : Nat} {as : List Value} {A : pm_H} {Q : Option Value → pm_H → Prop} (hca : pm_cat 5 as = true) (body : ∀ J : pm_J, pm_Cl l g (fun _ => none) d mc ms (pm_Rq mc ms Q) bk_X6_findShortestWith J → J 0 (pm_l0 5 as) [] A 0 0) : pm_Mt l g 107 d mc ms as A Q := pm_Mt_of (isI := false) 6 bk_X6_findShortestWith me_X6_findShortestWith (plainFor_of_name (by decide +kernel)) (by decide +kernel) (fun h => by cases h) ok_X6_findShortestWith hca body
def bk_X6_clearFound : pm_B := [(0, [(.aload_n 0, 1, 0, 0, 0), (.iconst (-1), 1, 0, 0, -1), (.putfield 15, 3, 6, 1, 0), (.aload_n 0, 1, 0, 0, 0), (.iconst (-1), 1, 0, 0, -1), (.putfield 19, 3, 6, 2, 0), (.return_, 1, 0, 0, 0)], 11)]
set_option maxRecDepth 100000 in
theorem ok_X6_clearFound : pm_oks 6 false 1 none cX6_clearFound bk_X6_clearFound = true := oksF_ok (by decide +kernel)
set_option maxRecDepth 100000 in
theorem me_X6_clearFound : pm_me 108 = (yX6_clearFound, cX6_clearFound, 1, none, 0, 0) := rfl
theorem mt_X6_clearFound {l : Launch} {g : pm_G} {d mc ms : Nat} {as : List Value} {A : pm_H} {Q : Option Value → pm_H → Prop} (hca : pm_cat 1 as = true) (body : ∀ J : pm_J, pm_Cl l g (fun _ => none) d mc ms (pm_Rq mc ms Q) bk_X6_clearFound J → J 0 (pm_l0 1 as) [] A 0 0) : pm_Mt l g 108 d mc ms as A Q := pm_Mt_of (isI := false) 6 bk_X6_clearFound me_X6_clearFound (plainFor_of_name (by decide +kernel)) (by decide +kernel) (fun h => by cases h) ok_X6_clearFound hca body
def bk_X6_earliestLatest : pm_B := [(0, [(.iload_n 2, 1, 2, 0, 0), (.istore_n 3, 1, 3, 0, 0), (.iconst 0, 1, 0, 0, 0), (.istore 4, 2, 4, 0, 0)], 5),
  (5, [(.iload 4, 2, 4, 0, 0), (.bipush 24, 2, 0, 0, 24), (.if_icmp .ge 30, 3, 39, 0, 0), (.iload_n 1, 1, 1, 0, 0), (.iconst 1, 1, 0, 0, 1), (.iload 4, 2, 4, 0, 0), (.ishl, 1, 0, 0, 0), (.iand, 1, 0, 0, 0), (.ifCond .eq 15, 3, 33, 0, 0), (.iload_n 3, 1, 3, 0, 0), (.aload_n 0, 1, 0, 0, 0), (.getfield 9, 3, 6, 0, 0), (.iload 4, 2, 4, 0, 0), (.iaload, 1, 0, 0, 0), (.invokestatic 61, 3, 87, 2, 0), (.istore_n 3, 1, 3, 0, 0)], 33),
  (33, [(.iinc 4 1, 3, 4, 0, 1), (.goto (-31), 3, 5, 0, 0)], 39),
  (39, [(.iload_n 3, 1, 3, 0, 0), (.ireturn, 1, 0, 0, 0)], 41)]
set_option maxRecDepth 100000 in
theorem ok_X6_earliestLatest : pm_oks 6 false 5 (some .int) cX6_earliestLatest bk_X6_earliestLatest = true := oksF_ok (by decide +kernel)
set_option maxRecDepth 100000 in
theorem me_X6_earliestLatest : pm_me 109 = (yX6_earliestLatest, cX6_earliestLatest, 5, (some .int), 2, 0) := rfl
theorem mt_X6_earliestLatest {l : Launch} {g : pm_G} {d mc ms : Nat} {as : List Value} {A : pm_H} {Q : Option Value → pm_H → Prop} (hca : pm_cat 5 as = true) (body : ∀ J : pm_J, pm_Cl l g (fun _ => none) d mc ms (pm_Rq mc ms Q) bk_X6_earliestLatest J → J 0 (pm_l0 5 as) [] A 0 0) : pm_Mt l g 109 d mc ms as A Q := pm_Mt_of (isI := false) 6 bk_X6_earliestLatest me_X6_earliestLatest (plainFor_of_name (by decide +kernel)) (by decide +kernel) (fun h => by cases h) ok_X6_earliestLatest hca body
def bk_X6_endFound : pm_B := [(0, [(.iload_n 1, 1, 1, 0, 0), (.ifCond .ne 10, 3, 11, 0, 0), (.aload_n 0, 1, 0, 0, 0), (.getfield 15, 3, 6, 1, 0), (.goto 16, 3, 24, 0, 0)], 11),
  (11, [(.iload_n 1, 1, 1, 0, 0), (.iconst 1, 1, 0, 0, 1), (.if_icmp .ne 10, 3, 23, 0, 0), (.aload_n 0, 1, 0, 0, 0), (.getfield 19, 3, 6, 2, 0), (.goto 4, 3, 24, 0, 0)], 23),
  (23, [(.iconst (-1), 1, 0, 0, -1)], 24),
  (24, [(.ireturn, 1, 0, 0, 0)], 25)]
set_option maxRecDepth 100000 in
theorem ok_X6_endFound : pm_oks 6 false 2 (some .int) cX6_endFound bk_X6_endFound = true := oksF_ok (by decide +kernel)
set_option maxRecDepth 100000 in
theorem me_X6_endFound : pm_me 110 = (yX6_endFound, cX6_endFound, 2, (some .int), 1, 0) := rfl
theorem mt_X6_endFound {l : Launch} {g : pm_G} {d mc ms : Nat} {as : List Value} {A : pm_H} {Q : Option Value → pm_H → Prop} (hca : pm_cat 2 as = true) (body : ∀ J : pm_J, pm_Cl l g (fun _ => none) d mc ms (pm_Rq mc ms Q) bk_X6_endFound J → J 0 (pm_l0 2 as) [] A 0 0) : pm_Mt l g 110 d mc ms as A Q := pm_Mt_of (isI := false) 6 bk_X6_endFound me_X6_endFound (plainFor_of_name (by decide +kernel)) (by decide +kernel) (fun h => by cases h) ok_X6_endFound hca body
