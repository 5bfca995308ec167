
def bk_X2_largestBeside : pm_B := [(0, [(.iconst (-1), 1, 0, 0, -1), (.istore_n 2, 1, 2, 0, 0), (.iconst 0, 1, 0, 0, 0), (.istore_n 3, 1, 3, 0, 0)], 4),
  (4, [(.iload_n 3, 1, 3, 0, 0), (.bipush 24, 2, 0, 0, 24), (.if_icmp .ge 51, 3, 58, 0, 0), (.iload_n 1, 1, 1, 0, 0), (.iconst 1, 1, 0, 0, 1), (.iload_n 3, 1, 3, 0, 0), (.ishl, 1, 0, 0, 0), (.iand, 1, 0, 0, 0), (.ifCond .ne 7, 3, 22, 0, 0), (.iconst 1, 1, 0, 0, 1), (.goto 4, 3, 23, 0, 0)], 22),
  (22, [(.iconst 0, 1, 0, 0, 0)], 23),
  (23, [(.istore 4, 2, 4, 0, 0), (.iload 4, 2, 4, 0, 0), (.ifCond .eq 25, 3, 52, 0, 0), (.iload_n 2, 1, 2, 0, 0), (.iconst (-1), 1, 0, 0, -1), (.if_icmp .eq 18, 3, 50, 0, 0), (.aload_n 0, 1, 0, 0, 0), (.getfield 9, 3, 2, 0, 0), (.iload_n 3, 1, 3, 0, 0), (.iaload, 1, 0, 0, 0), (.aload_n 0, 1, 0, 0, 0), (.getfield 9, 3, 2, 0, 0), (.iload_n 2, 1, 2, 0, 0), (.iaload, 1, 0, 0, 0), (.if_icmp .le 5, 3, 52, 0, 0)], 50),
  (50, [(.iload_n 3, 1, 3, 0, 0), (.istore_n 2, 1, 2, 0, 0)], 52),
  (52, [(.iinc 3 1, 3, 3, 0, 1), (.goto (-51), 3, 4, 0, 0)], 58),
  (58, [(.iload_n 2, 1, 2, 0, 0), (.ireturn, 1, 0, 0, 0)], 60)]
set_option maxRecDepth 100000 in
theorem ok_X2_largestBeside : pm_oks 2 false 5 (some .int) cX2_largestBeside bk_X2_largestBeside = true := oksF_ok (by decide +kernel)
set_option maxRecDepth 100000 in
theorem me_X2_largestBeside : pm_me 92 = (yX2_largestBeside, cX2_largestBeside, 5, (some .int), 1, 0) := rfl
theorem mt_X2_largestBeside {l : Launch} {g : pm_G} {d mc ms : Nat} {as : List Value} {A : pm_H} {Q : Option Value → pm_H → Prop} (hca : pm_cat 5 as = true) (body : ∀ J : pm_J, pm_Cl l g (fun _ => none) d mc ms (pm_Rq mc ms Q) bk_X2_largestBeside J → J 0 (pm_l0 5 as) [] A 0 0) : pm_Mt l g 92 d mc ms as A Q := pm_Mt_of (isI := false) 2 bk_X2_largestBeside me_X2_largestBeside (plainFor_of_name (by decide +kernel)) (by decide +kernel) (fun h => by cases h) ok_X2_largestBeside hca body
def bk_X2_twosAlike : pm_B := [(0, [(.iconst 0, 1, 0, 0, 0), (.istore_n 1, 1, 1, 0, 0), (.iconst 0, 1, 0, 0, 0), (.istore_n 2, 1, 2, 0, 0)], 4),
  (4, [(.iload_n 2, 1, 2, 0, 0), (.bipush 24, 2, 0, 0, 24), (.if_icmp .ge 29, 3, 36, 0, 0), (.iload_n 1, 1, 1, 0, 0), (.aload_n 0, 1, 0, 0, 0), (.getfield 9, 3, 2, 0, 0), (.iload_n 2, 1, 2, 0, 0), (.iaload, 1, 0, 0, 0), (.aload_n 0, 1, 0, 0, 0), (.getfield 9, 3, 2, 0, 0), (.iload_n 2, 1, 2, 0, 0), (.iaload, 1, 0, 0, 0), (.iconst 1, 1, 0, 0, 1), (.isub, 1, 0, 0, 0), (.imul, 1, 0, 0, 0), (.iconst 2, 1, 0, 0, 2), (.idiv, 1, 0, 0, 0), (.iadd, 1, 0, 0, 0), (.istore_n 1, 1, 1, 0, 0), (.iinc 2 1, 3, 2, 0, 1), (.goto (-29), 3, 4, 0, 0)], 36),
  (36, [(.iload_n 1, 1, 1, 0, 0), (.ireturn, 1, 0, 0, 0)], 38)]
set_option maxRecDepth 100000 in
theorem ok_X2_twosAlike : pm_oks 2 false 3 (some .int) cX2_twosAlike bk_X2_twosAlike = true := oksF_ok (by decide +kernel)
set_option maxRecDepth 100000 in
theorem me_X2_twosAlike : pm_me 95 = (yX2_twosAlike, cX2_twosAlike, 3, (some .int), 0, 0) := rfl
theorem mt_X2_twosAlike {l : Launch} {g : pm_G} {d mc ms : Nat} {as : List Value} {A : pm_H} {Q : Option Value → pm_H → Prop} (hca : pm_cat 3 as = true) (body : ∀ J : pm_J, pm_Cl l g (fun _ => none) d mc ms (pm_Rq mc ms Q) bk_X2_twosAlike J → J 0 (pm_l0 3 as) [] A 0 0) : pm_Mt l g 95 d mc ms as A Q := pm_Mt_of (isI := false) 2 bk_X2_twosAlike me_X2_twosAlike (plainFor_of_name (by decide +kernel)) (by decide +kernel) (fun h => by cases h) ok_X2_twosAlike hca body
def bk_X2_drop : pm_B := [(0, [(.aload_n 0, 1, 0, 0, 0), (.dup, 1, 0, 0, 0), (.getfield 24, 3, 2, 2, 0), (.iconst 1, 1, 0, 0, 1), (.isub, 1, 0, 0, 0), (.putfield 24, 3, 2, 2, 0), (.aload_n 0, 1, 0, 0, 0), (.getfield 9, 3, 2, 0, 0), (.iload_n 1, 1, 1, 0, 0), (.dup2, 1, 0, 0, 0), (.iaload, 1, 0, 0, 0), (.iconst 1, 1, 0, 0, 1), (.isub, 1, 0, 0, 0), (.iastore, 1, 0, 0, 0), (.aload_n 0, 1, 0, 0, 0), (.getfield 9, 3, 2, 0, 0), (.iload_n 1, 1, 1, 0, 0), (.iaload, 1, 0, 0, 0), (.ifCond .ne 42, 3, 68, 0, 0), (.aload_n 0, 1, 0, 0, 0), (.dup, 1, 0, 0, 0), (.getfield 28, 3, 2, 3, 0), (.iconst 1, 1, 0, 0, 1), (.isub, 1, 0, 0, 0), (.putfield 28, 3, 2, 3, 0), (.aload_n 0, 1, 0, 0, 0), (.dup, 1, 0, 0, 0), (.getfield 31, 3, 2, 4, 0), (.iconst 1, 1, 0, 0, 1), (.iload_n 1, 1, 1, 0, 0), (.ishl, 1, 0, 0, 0), (.iconst (-1), 1, 0, 0, -1), (.ixor, 1, 0, 0, 0), (.iand, 1, 0, 0, 0), (.putfield 31, 3, 2, 4, 0), (.aload_n 0, 1, 0, 0, 0), (.dup, 1, 0, 0, 0), (.getfield 34, 3, 2, 5, 0), (.aload_n 0, 1, 0, 0, 0), (.getfield 15, 3, 2, 1, 0), (.iload_n 1, 1, 1, 0, 0), (.iaload, 1, 0, 0, 0), (.isub, 1, 0, 0, 0), (.putfield 34, 3, 2, 5, 0)], 68),
  (68, [(.return_, 1, 0, 0, 0)], 69)]
set_option maxRecDepth 100000 in
theorem ok_X2_drop : pm_oks 2 false 2 none cX2_drop bk_X2_drop = true := oksF_ok (by decide +kernel)
set_option maxRecDepth 100000 in
theorem me_X2_drop : pm_me 113 = (yX2_drop, cX2_drop, 2, none, 1, 0) := rfl
theorem mt_X2_drop {l : Launch} {g : pm_G} {d mc ms : Nat} {as : List Value} {A : pm_H} {Q : Option Value → pm_H → Prop} (hca : pm_cat 2 as = true) (body : ∀ J : pm_J, pm_Cl l g (fun _ => none) d mc ms (pm_Rq mc ms Q) bk_X2_drop J → J 0 (pm_l0 2 as) [] A 0 0) : pm_Mt l g 113 d mc ms as A Q := pm_Mt_of (isI := false) 2 bk_X2_drop me_X2_drop (plainFor_of_name (by decide +kernel)) (by decide +kernel) (fun h => by cases h) ok_X2_drop hca body
def bk_J7_fill_53178 : pm_B := [(0, [(.iconst 0, 1, 0, 0, 0), (.istore_n 2, 1, 2, 0, 0), (.aload_n 0, 1, 0, 0, 0), (.arraylength, 1, 0, 0, 0), (.istore_n 3, 1, 3, 0, 0)], 5),
  (5, [(.iload_n 2, 1, 2, 0, 0), (.iload_n 3, 1, 3, 0, 0), (.if_icmp .ge 13, 3, 20, 0, 0), (.aload_n 0, 1, 0, 0, 0), (.iload_n 2, 1, 2, 0, 0), (.iload_n 1, 1, 1, 0, 0), (.iastore, 1, 0, 0, 0), (.iinc 2 1, 3, 2, 0, 1), (.goto (-12), 3, 5, 0, 0)], 20),
  (20, [(.return_, 1, 0, 0, 0)], 21)]
set_option maxRecDepth 100000 in
theorem ok_J7_fill_53178 : pm_oks 15 false 4 none cJ7_fill_53178 bk_J7_fill_53178 = true := oksF_ok (by decide +kernel)
set_option maxRecDepth 100000 in
theorem me_J7_fill_53178 : pm_me 4 = (yJ7_fill_53178, cJ7_fill_53178, 4, none, 2, 1) := rfl
theorem mt_J7_fill_53178 {l : Launch} {g : pm_G} {d mc ms : Nat} {as : List Value} {A : pm_H} {Q : Option Value → pm_H → Prop} (hca : pm_cat 4 as = true) (body : ∀ J : pm_J, pm_Cl l g (fun _ => none) d mc ms (pm_Rq mc ms Q) bk_J7_fill_53178 J → J 0 (pm_l0 4 as) [] A 0 0) : pm_Mt l g 4 d mc ms as A Q := pm_Mt_of (isI := false) 15 bk_J7_fill_53178 me_J7_fill_53178 (plainFor_of_name (by decide +kernel)) (by decide +kernel) (fun h => by cases h) ok_J7_fill_53178 hca body
def bk_X0_init : pm_B := [(0, [(.aload_n 0, 1, 0, 0, 0), (.invokespecial 3, 3, 0, 0, 0), (.aload_n 0, 1, 0, 0, 0), (.bipush 24, 2, 0, 0, 24), (.newarray .int, 2, 24, 0, 0), (.putfield 9, 3, 0, 0, 1), (.aload_n 0, 1, 0, 0, 0), (.sipush 160, 3, 0, 0, 160), (.newarray .int, 2, 160, 0, 0), (.putfield 15, 3, 0, 1, 1), (.return_, 1, 0, 0, 0)], 22)]
set_option maxRecDepth 100000 in
theorem ok_X0_init : pm_oks 0 true 1 none cX0_init bk_X0_init = true := oksF_ok (by decide +kernel)
set_option maxRecDepth 100000 in
theorem me_X0_init : pm_me 5 = (yX0_init, cX0_init, 1, none, 0, 2) := rfl
theorem mt_X0_init {l : Launch} {g : pm_G} {d mc ms : Nat} {as : List Value} {A : pm_H} {Q : Option Value → pm_H → Prop} (hca : pm_cat 1 as = true) (body : ∀ J : pm_J, pm_Cl l g (fun _ => none) d mc ms (pm_Rq mc ms Q) bk_X0_init J → J 0 (pm_l0 1 as) [] A 0 0) : pm_Mt l g 5 d mc ms as A Q := pm_Mt_of (isI := true) 0 bk_X0_init me_X0_init (plainFor_of_name (by decide +kernel)) (by decide +kernel) (fun _ => by decide +kernel) ok_X0_init hca body
