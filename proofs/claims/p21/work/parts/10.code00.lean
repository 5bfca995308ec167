/-! blocks, by a program -/
def bk_X10_init : pm_B := [(0, [(.aload_n 0, 1, 0, 0, 0), (.invokespecial 3, 3, 0, 0, 0), (.aload_n 0, 1, 0, 0, 0), (.new 9, 3, 9, 8, 0), (.dup, 1, 0, 0, 0), (.invokespecial 11, 3, 1, 0, 1), (.putfield 12, 3, 10, 0, 1), (.aload_n 0, 1, 0, 0, 0), (.new 16, 3, 2, 6, 0), (.dup, 1, 0, 0, 0), (.invokespecial 18, 3, 3, 0, 1), (.putfield 19, 3, 10, 1, 1), (.aload_n 0, 1, 0, 0, 0), (.new 23, 3, 0, 3, 0), (.dup, 1, 0, 0, 0), (.invokespecial 25, 3, 5, 0, 2), (.putfield 26, 3, 10, 2, 1), (.aload_n 0, 1, 0, 0, 0), (.new 30, 3, 1, 5, 0), (.dup, 1, 0, 0, 0), (.invokespecial 32, 3, 6, 0, 2), (.putfield 33, 3, 10, 3, 1), (.aload_n 0, 1, 0, 0, 0), (.new 37, 3, 6, 5, 0), (.dup, 1, 0, 0, 0), (.invokespecial 39, 3, 7, 0, 2), (.putfield 40, 3, 10, 4, 1), (.aload_n 0, 1, 0, 0, 0), (.new 44, 3, 8, 5, 0), (.dup, 1, 0, 0, 0), (.invokespecial 46, 3, 8, 0, 2), (.putfield 47, 3, 10, 5, 1), (.aload_n 0, 1, 0, 0, 0), (.new 51, 3, 4, 3, 0), (.dup, 1, 0, 0, 0), (.invokespecial 53, 3, 9, 0, 2), (.putfield 54, 3, 10, 6, 1), (.aload_n 0, 1, 0, 0, 0), (.new 58, 3, 3, 1, 0), (.dup, 1, 0, 0, 0), (.invokespecial 60, 3, 10, 0, 2), (.putfield 61, 3, 10, 7, 1), (.aload_n 0, 1, 0, 0, 0), (.new 65, 3, 5, 6, 0), (.dup, 1, 0, 0, 0), (.invokespecial 67, 3, 11, 0, 2), (.putfield 68, 3, 10, 8, 1), (.return_, 1, 0, 0, 0)], 104)]
set_option maxRecDepth 100000 in
theorem ok_X10_init : pm_oks 10 true 1 none cX10_init bk_X10_init = true := oksF_ok (by decide +kernel)
set_option maxRecDepth 100000 in
theorem me_X10_init : pm_me 0 = (yX10_init, cX10_init, 1, none, 0, 2) := rfl
theorem mt_X10_init {l : Launch} {g : pm_G} {d mc ms : Nat} {as : List Value} {A : pm_H} {Q : Option Value → pm_H → Prop} (hca : pm_cat 1 as = true) (body : ∀ J : pm_J, pm_Cl l g (fun _ => none) d mc ms (pm_Rq mc ms Q) bk_X10_init J → J 0 (pm_l0 1 as) [] A 0 0) : pm_Mt l g 0 d mc ms as A Q := pm_Mt_of (isI := true) 10 bk_X10_init me_X10_init (plainFor_of_name (by decide +kernel)) (by decide +kernel) (fun _ => by decide +kernel) ok_X10_init hca body
def bk_X10_put : pm_B := [(0, [(.aload_n 0, 1, 0, 0, 0), (.iload_n 1, 1, 1, 0, 0), (.iload_n 1, 1, 1, 0, 0), (.iload_n 2, 1, 2, 0, 0), (.invokevirtual 76, 3, 13, 3, 10), (.ireturn, 1, 0, 0, 0)], 8)]
set_option maxRecDepth 100000 in
theorem ok_X10_put : pm_oks 10 false 3 (some .int) cX10_put bk_X10_put = true := oksF_ok (by decide +kernel)
set_option maxRecDepth 100000 in
theorem me_X10_put : pm_me 12 = (yX10_put, cX10_put, 3, (some .int), 2, 0) := rfl
theorem mt_X10_put {l : Launch} {g : pm_G} {d mc ms : Nat} {as : List Value} {A : pm_H} {Q : Option Value → pm_H → Prop} (hca : pm_cat 3 as = true) (body : ∀ J : pm_J, pm_Cl l g (fun _ => none) d mc ms (pm_Rq mc ms Q) bk_X10_put J → J 0 (pm_l0 3 as) [] A 0 0) : pm_Mt l g 12 d mc ms as A Q := pm_Mt_of (isI := false) 10 bk_X10_put me_X10_put (plainFor_of_name (by decide +kernel)) (by decide +kernel) (fun h => by cases h) ok_X10_put hca body
def bk_X10_paint : pm_B := [(0, [(.aload_n 0, 1, 0, 0, 0), (.getfield 12, 3, 10, 0, 0), (.getfield 80, 3, 9, 4, 0), (.astore 4, 2, 4, 0, 0), (.aload 4, 2, 4, 0, 0), (.iload_n 1, 1, 1, 0, 0), (.iload_n 2, 1, 2, 0, 0), (.invokevirtual 111, 3, 14, 2, 7), (.ifCond .eq 10, 3, 26, 0, 0), (.iload_n 3, 1, 3, 0, 0), (.invokestatic 72, 3, 15, 1, 0), (.ifCond .ne 5, 3, 28, 0, 0)], 26),
  (26, [(.iconst (-1), 1, 0, 0, -1), (.ireturn, 1, 0, 0, 0)], 28),
  (28, [(.aload_n 0, 1, 0, 0, 0), (.getfield 12, 3, 10, 0, 0), (.invokevirtual 92, 3, 16, 0, 9), (.aload_n 0, 1, 0, 0, 0), (.getfield 12, 3, 10, 0, 0), (.iconst 0, 1, 0, 0, 0), (.iload_n 1, 1, 1, 0, 0), (.iconst 1, 1, 0, 0, 1), (.isub, 1, 0, 0, 0), (.invokevirtual 95, 3, 18, 2, 9), (.iload_n 1, 1, 1, 0, 0), (.istore 5, 2, 5, 0, 0)], 49),
  (49, [(.iload 5, 2, 5, 0, 0), (.iload_n 2, 1, 2, 0, 0), (.if_icmp .gt 19, 3, 71, 0, 0), (.aload_n 0, 1, 0, 0, 0), (.getfield 12, 3, 10, 0, 0), (.iload 5, 2, 5, 0, 0), (.iload_n 3, 1, 3, 0, 0), (.invokevirtual 115, 3, 23, 2, 9), (.iinc 5 1, 3, 5, 0, 1), (.goto (-19), 3, 49, 0, 0)], 71),
  (71, [(.aload_n 0, 1, 0, 0, 0), (.getfield 12, 3, 10, 0, 0), (.iload_n 2, 1, 2, 0, 0), (.iconst 1, 1, 0, 0, 1), (.iadd, 1, 0, 0, 0), (.aload 4, 2, 4, 0, 0), (.getfield 103, 3, 7, 3, 0), (.iconst 1, 1, 0, 0, 1), (.isub, 1, 0, 0, 0), (.invokevirtual 95, 3, 18, 2, 9), (.aload_n 0, 1, 0, 0, 0), (.getfield 12, 3, 10, 0, 0), (.invokevirtual 107, 3, 24, 0, 9), (.ireturn, 1, 0, 0, 0)], 96)]
set_option maxRecDepth 100000 in
theorem ok_X10_paint : pm_oks 10 false 6 (some .int) cX10_paint bk_X10_paint = true := oksF_ok (by decide +kernel)
set_option maxRecDepth 100000 in
theorem me_X10_paint : pm_me 13 = (yX10_paint, cX10_paint, 6, (some .int), 3, 0) := rfl
theorem mt_X10_paint {l : Launch} {g : pm_G} {d mc ms : Nat} {as : List Value} {A : pm_H} {Q : Option Value → pm_H → Prop} (hca : pm_cat 6 as = true) (body : ∀ J : pm_J, pm_Cl l g (fun _ => none) d mc ms (pm_Rq mc ms Q) bk_X10_paint J → J 0 (pm_l0 6 as) [] A 0 0) : pm_Mt l g 13 d mc ms as A Q := pm_Mt_of (isI := false) 10 bk_X10_paint me_X10_paint (plainFor_of_name (by decide +kernel)) (by decide +kernel) (fun h => by cases h) ok_X10_paint hca body
def bk_X10_isColour : pm_B := [(0, [(.iload_n 0, 1, 0, 0, 0), (.ifCond .lt 13, 3, 14, 0, 0), (.iload_n 0, 1, 0, 0, 0), (.bipush 24, 2, 0, 0, 24), (.if_icmp .ge 7, 3, 14, 0, 0), (.iconst 1, 1, 0, 0, 1), (.goto 4, 3, 15, 0, 0)], 14),
  (14, [(.iconst 0, 1, 0, 0, 0)], 15),
  (15, [(.ireturn, 1, 1, 0, 0)], 16)]
set_option maxRecDepth 100000 in
theorem ok_X10_isColour : pm_oks 10 false 1 (some .boolean) cX10_isColour bk_X10_isColour = true := oksF_ok (by decide +kernel)
set_option maxRecDepth 100000 in
theorem me_X10_isColour : pm_me 15 = (yX10_isColour, cX10_isColour, 1, (some .boolean), 1, 1) := rfl
theorem mt_X10_isColour {l : Launch} {g : pm_G} {d mc ms : Nat} {as : List Value} {A : pm_H} {Q : Option Value → pm_H → Prop} (hca : pm_cat 1 as = true) (body : ∀ J : pm_J, pm_Cl l g (fun _ => none) d mc ms (pm_Rq mc ms Q) bk_X10_isColour J → J 0 (pm_l0 1 as) [] A 0 0) : pm_Mt l g 15 d mc ms as A Q := pm_Mt_of (isI := false) 10 bk_X10_isColour me_X10_isColour (plainFor_of_name (by decide +kernel)) (by decide +kernel) (fun h => by cases h) ok_X10_isColour hca body
def bk_X10_insert : pm_B := [(0, [(.aload_n 0, 1, 0, 0, 0), (.getfield 12, 3, 10, 0, 0), (.getfield 80, 3, 9, 4, 0), (.astore_n 3, 1, 3, 0, 0), (.aload_n 3, 1, 3, 0, 0), (.iload_n 1, 1, 1, 0, 0), (.invokevirtual 84, 3, 26, 1, 7), (.ifCond .eq 21, 3, 34, 0, 0), (.iload_n 2, 1, 2, 0, 0), (.invokestatic 72, 3, 15, 1, 0), (.ifCond .eq 14, 3, 34, 0, 0), (.aload_n 0, 1, 0, 0, 0), (.getfield 12, 3, 10, 0, 0), (.iconst 1, 1, 0, 0, 1), (.invokevirtual 89, 3, 27, 1, 9), (.ifCond .ne 5, 3, 36, 0, 0)], 34),
  (34, [(.iconst (-1), 1, 0, 0, -1), (.ireturn, 1, 0, 0, 0)], 36),
  (36, [(.aload_n 0, 1, 0, 0, 0), (.getfield 12, 3, 10, 0, 0), (.invokevirtual 92, 3, 16, 0, 9), (.aload_n 0, 1, 0, 0, 0), (.getfield 12, 3, 10, 0, 0), (.iconst 0, 1, 0, 0, 0), (.iload_n 1, 1, 1, 0, 0), (.iconst 1, 1, 0, 0, 1), (.isub, 1, 0, 0, 0), (.invokevirtual 95, 3, 18, 2, 9), (.aload_n 0, 1, 0, 0, 0), (.getfield 12, 3, 10, 0, 0), (.iload_n 2, 1, 2, 0, 0), (.invokevirtual 99, 3, 28, 1, 9), (.aload_n 0, 1, 0, 0, 0), (.getfield 12, 3, 10, 0, 0), (.iload_n 1, 1, 1, 0, 0), (.aload_n 3, 1, 3, 0, 0), (.getfield 103, 3, 7, 3, 0), (.iconst 1, 1, 0, 0, 1), (.isub, 1, 0, 0, 0), (.invokevirtual 95, 3, 18, 2, 9), (.aload_n 0, 1, 0, 0, 0), (.getfield 12, 3, 10, 0, 0), (.invokevirtual 107, 3, 24, 0, 9), (.ireturn, 1, 0, 0, 0)], 84)]
set_option maxRecDepth 100000 in
theorem ok_X10_insert : pm_oks 10 false 4 (some .int) cX10_insert bk_X10_insert = true := oksF_ok (by decide +kernel)
set_option maxRecDepth 100000 in
theorem me_X10_insert : pm_me 25 = (yX10_insert, cX10_insert, 4, (some .int), 2, 0) := rfl
theorem mt_X10_insert {l : Launch} {g : pm_G} {d mc ms : Nat} {as : List Value} {A : pm_H} {Q : Option Value → pm_H → Prop} (hca : pm_cat 4 as = true) (body : ∀ J : pm_J, pm_Cl l g (fun _ => none) d mc ms (pm_Rq mc ms Q) bk_X10_insert J → J 0 (pm_l0 4 as) [] A 0 0) : pm_Mt l g 25 d mc ms as A Q := pm_Mt_of (isI := false) 10 bk_X10_insert me_X10_insert (plainFor_of_name (by decide +kernel)) (by decide +kernel) (fun h => by cases h) ok_X10_insert hca body
def bk_X10_cut : pm_B := [(0, [(.aload_n 0, 1, 0, 0, 0), (.getfield 12, 3, 10, 0, 0), (.getfield 80, 3, 9, 4, 0), (.astore_n 3, 1, 3, 0, 0), (.aload_n 3, 1, 3, 0, 0), (.iload_n 1, 1, 1, 0, 0), (.iload_n 2, 1, 2, 0, 0), (.invokevirtual 111, 3, 14, 2, 7), (.ifCond .ne 5, 3, 19, 0, 0), (.iconst (-1), 1, 0, 0, -1), (.ireturn, 1, 0, 0, 0)], 19),
  (19, [(.aload_n 0, 1, 0, 0, 0), (.getfield 12, 3, 10, 0, 0), (.invokevirtual 92, 3, 16, 0, 9), (.aload_n 0, 1, 0, 0, 0), (.getfield 12, 3, 10, 0, 0), (.iconst 0, 1, 0, 0, 0), (.iload_n 1, 1, 1, 0, 0), (.iconst 1, 1, 0, 0, 1), (.isub, 1, 0, 0, 0), (.invokevirtual 95, 3, 18, 2, 9), (.aload_n 0, 1, 0, 0, 0), (.getfield 12, 3, 10, 0, 0), (.iload_n 2, 1, 2, 0, 0), (.iconst 1, 1, 0, 0, 1), (.iadd, 1, 0, 0, 0), (.aload_n 3, 1, 3, 0, 0), (.getfield 103, 3, 7, 3, 0), (.iconst 1, 1, 0, 0, 1), (.isub, 1, 0, 0, 0), (.invokevirtual 95, 3, 18, 2, 9), (.aload_n 0, 1, 0, 0, 0), (.getfield 12, 3, 10, 0, 0), (.invokevirtual 107, 3, 24, 0, 9), (.ireturn, 1, 0, 0, 0)], 61)]
set_option maxRecDepth 100000 in
theorem ok_X10_cut : pm_oks 10 false 4 (some .int) cX10_cut bk_X10_cut = true := oksF_ok (by decide +kernel)
set_option maxRecDepth 100000 in
theorem me_X10_cut : pm_me 29 = (yX10_cut, cX10_cut, 4, (some .int), 2, 0) := rfl
theorem mt_X10_cut {l : Launch} {g : pm_G} {d mc ms : Nat} {as : List Value} {A : pm_H} {Q : Option Value → pm_H → Prop} (hca : pm_cat 4 as = true) (body : ∀ J : pm_J, pm_Cl l g (fun _ => none) d mc ms (pm_Rq mc ms Q) bk_X10_cut J → J 0 (pm_l0 4 as) [] A 0 0) : pm_Mt l g 29 d mc ms as A Q := pm_Mt_of (isI := false) 10 bk_X10_cut me_X10_cut (plainFor_of_name (by decide +kernel)) (by decide +kernel) (fun h => by cases h) ok_X10_cut hca body
def bk_X10_turn : pm_B := [(0, [(.aload_n 0, 1, 0, 0, 0), (.getfield 12, 3, 10, 0, 0), (.getfield 80, 3, 9, 4, 0), (.astore_n 3, 1, 3, 0, 0), (.aload_n 3, 1, 3, 0, 0), (.iload_n 1, 1, 1, 0, 0), (.iload_n 2, 1, 2, 0, 0), (.invokevirtual 111, 3, 14, 2, 7), (.ifCond .ne 5, 3, 19, 0, 0), (.iconst (-1), 1, 0, 0, -1), (.ireturn, 1, 0, 0, 0)], 19),
  (19, [(.aload_n 0, 1, 0, 0, 0), (.getfield 12, 3, 10, 0, 0), (.invokevirtual 92, 3, 16, 0, 9), (.aload_n 0, 1, 0, 0, 0), (.getfield 12, 3, 10, 0, 0), (.iconst 0, 1, 0, 0, 0), (.iload_n 1, 1, 1, 0, 0), (.iconst 1, 1, 0, 0, 1), (.isub, 1, 0, 0, 0), (.invokevirtual 95, 3, 18, 2, 9), (.iload_n 2, 1, 2, 0, 0), (.istore 4, 2, 4, 0, 0)], 40),
  (40, [(.iload 4, 2, 4, 0, 0), (.iload_n 1, 1, 1, 0, 0), (.if_icmp .lt 20, 3, 63, 0, 0), (.aload_n 0, 1, 0, 0, 0), (.getfield 12, 3, 10, 0, 0), (.iload 4, 2, 4, 0, 0), (.iload 4, 2, 4, 0, 0), (.invokevirtual 95, 3, 18, 2, 9), (.iinc 4 (-1), 3, 4, 0, -1), (.goto (-20), 3, 40, 0, 0)], 63),
  (63, [(.aload_n 0, 1, 0, 0, 0), (.getfield 12, 3, 10, 0, 0), (.iload_n 2, 1, 2, 0, 0), (.iconst 1, 1, 0, 0, 1), (.iadd, 1, 0, 0, 0), (.aload_n 3, 1, 3, 0, 0), (.getfield 103, 3, 7, 3, 0), (.iconst 1, 1, 0, 0, 1), (.isub, 1, 0, 0, 0), (.invokevirtual 95, 3, 18, 2, 9), (.aload_n 0, 1, 0, 0, 0), (.getfield 12, 3, 10, 0, 0), (.invokevirtual 107, 3, 24, 0, 9), (.ireturn, 1, 0, 0, 0)], 87)]
set_option maxRecDepth 100000 in
theorem ok_X10_turn : pm_oks 10 false 5 (some .int) cX10_turn bk_X10_turn = true := oksF_ok (by decide +kernel)
set_option maxRecDepth 100000 in
theorem me_X10_turn : pm_me 30 = (yX10_turn, cX10_turn, 5, (some .int), 2, 0) := rfl
theorem mt_X10_turn {l : Launch} {g : pm_G} {d mc ms : Nat} {as : List Value} {A : pm_H} {Q : Option Value → pm_H → Prop} (hca : pm_cat 5 as = true) (body : ∀ J : pm_J, pm_Cl l g (fun _ => none) d mc ms (pm_Rq mc ms Q) bk_X10_turn J → J 0 (pm_l0 5 as) [] A 0 0) : pm_Mt l g 30 d mc ms as A Q := pm_Mt_of (isI := false) 10 bk_X10_turn me_X10_turn (plainFor_of_name (by decide +kernel)) (by decide +kernel) (fun h => by cases h) ok_X10_turn hca body
def bk_X10_shift : pm_B := [(0, [(.aload_n 0, 1, 0, 0, 0), (.getfield 12, 3, 10, 0, 0), (.getfield 80, 3, 9, 4, 0), (.astore 4, 2, 4, 0, 0), (.aload 4, 2, 4, 0, 0), (.iload_n 1, 1, 1, 0, 0), (.iload_n 2, 1, 2, 0, 0), (.invokevirtual 111, 3, 14, 2, 7), (.ifCond .eq 16, 3, 32, 0, 0), (.iload_n 3, 1, 3, 0, 0), (.ifCond .lt 12, 3, 32, 0, 0), (.iload_n 3, 1, 3, 0, 0), (.iload_n 2, 1, 2, 0, 0), (.iload_n 1, 1, 1, 0, 0), (.isub, 1, 0, 0, 0), (.iconst 1, 1, 0, 0, 1), (.iadd, 1, 0, 0, 0), (.if_icmp .le 5, 3, 34, 0, 0)], 32),
  (32, [(.iconst (-1), 1, 0, 0, -1), (.ireturn, 1, 0, 0, 0)], 34),
  (34, [(.aload_n 0, 1, 0, 0, 0), (.getfield 12, 3, 10, 0, 0), (.invokevirtual 92, 3, 16, 0, 9), (.aload_n 0, 1, 0, 0, 0), (.getfield 12, 3, 10, 0, 0), (.iconst 0, 1, 0, 0, 0), (.iload_n 1, 1, 1, 0, 0), (.iconst 1, 1, 0, 0, 1), (.isub, 1, 0, 0, 0), (.invokevirtual 95, 3, 18, 2, 9), (.aload_n 0, 1, 0, 0, 0), (.getfield 12, 3, 10, 0, 0), (.iload_n 1, 1, 1, 0, 0), (.iload_n 3, 1, 3, 0, 0), (.iadd, 1, 0, 0, 0), (.iload_n 2, 1, 2, 0, 0), (.invokevirtual 95, 3, 18, 2, 9), (.aload_n 0, 1, 0, 0, 0), (.getfield 12, 3, 10, 0, 0), (.iload_n 1, 1, 1, 0, 0), (.iload_n 1, 1, 1, 0, 0), (.iload_n 3, 1, 3, 0, 0), (.iadd, 1, 0, 0, 0), (.iconst 1, 1, 0, 0, 1), (.isub, 1, 0, 0, 0), (.invokevirtual 95, 3, 18, 2, 9), (.aload_n 0, 1, 0, 0, 0), (.getfield 12, 3, 10, 0, 0), (.iload_n 2, 1, 2, 0, 0), (.iconst 1, 1, 0, 0, 1), (.iadd, 1, 0, 0, 0), (.aload 4, 2, 4, 0, 0), (.getfield 103, 3, 7, 3, 0), (.iconst 1, 1, 0, 0, 1), (.isub, 1, 0, 0, 0), (.invokevirtual 95, 3, 18, 2, 9), (.aload_n 0, 1, 0, 0, 0), (.getfield 12, 3, 10, 0, 0), (.invokevirtual 107, 3, 24, 0, 9), (.ireturn, 1, 0, 0, 0)], 101)]
set_option maxRecDepth 100000 in
theorem ok_X10_shift : pm_oks 10 false 5 (some .int) cX10_shift bk_X10_shift = true := oksF_ok (by decide +kernel)
set_option maxRecDepth 100000 in
theorem me_X10_shift : pm_me 31 = (yX10_shift, cX10_shift, 5, (some .int), 3, 0) := rfl
theorem mt_X10_shift {l : Launch} {g : pm_G} {d mc ms : Nat} {as : List Value} {A : pm_H} {Q : Option Value → pm_H → Prop} (hca : pm_cat 5 as = true) (body : ∀ J : pm_J, pm_Cl l g (fun _ => none) d mc ms (pm_Rq mc ms Q) bk_X10_shift J → J 0 (pm_l0 5 as) [] A 0 0) : pm_Mt l g 31 d mc ms as A Q := pm_Mt_of (isI := false) 10 bk_X10_shift me_X10_shift (plainFor_of_name (by decide +kernel)) (by decide +kernel) (fun h => by cases h) ok_X10_shift hca body
def bk_X10_sort : pm_B := [(0, [(.aload_n 0, 1, 0, 0, 0), (.getfield 12, 3, 10, 0, 0), (.getfield 80, 3, 9, 4, 0), (.astore_n 3, 1, 3, 0, 0), (.aload_n 3, 1, 3, 0, 0), (.iload_n 1, 1, 1, 0, 0), (.iload_n 2, 1, 2, 0, 0), (.invokevirtual 111, 3, 14, 2, 7), (.ifCond .ne 5, 3, 19, 0, 0), (.iconst (-1), 1, 0, 0, -1), (.ireturn, 1, 0, 0, 0)], 19),
  (19, [(.aload_n 0, 1, 0, 0, 0), (.getfield 12, 3, 10, 0, 0), (.invokevirtual 92, 3, 16, 0, 9), (.aload_n 0, 1, 0, 0, 0), (.getfield 12, 3, 10, 0, 0), (.iconst 0, 1, 0, 0, 0), (.iload_n 1, 1, 1, 0, 0), (.iconst 1, 1, 0, 0, 1), (.isub, 1, 0, 0, 0), (.invokevirtual 95, 3, 18, 2, 9), (.iconst 0, 1, 0, 0, 0), (.istore 4, 2, 4, 0, 0)], 40),
  (40, [(.iload 4, 2, 4, 0, 0), (.bipush 24, 2, 0, 0, 24), (.if_icmp .ge 20, 3, 64, 0, 0), (.aload_n 0, 1, 0, 0, 0), (.getfield 12, 3, 10, 0, 0), (.iload 4, 2, 4, 0, 0), (.iload_n 1, 1, 1, 0, 0), (.iload_n 2, 1, 2, 0, 0), (.invokevirtual 118, 3, 33, 3, 9), (.iinc 4 1, 3, 4, 0, 1), (.goto (-21), 3, 40, 0, 0)], 64),
  (64, [(.aload_n 0, 1, 0, 0, 0), (.getfield 12, 3, 10, 0, 0), (.iload_n 2, 1, 2, 0, 0), (.iconst 1, 1, 0, 0, 1), (.iadd, 1, 0, 0, 0), (.aload_n 3, 1, 3, 0, 0), (.getfield 103, 3, 7, 3, 0), (.iconst 1, 1, 0, 0, 1), (.isub, 1, 0, 0, 0), (.invokevirtual 95, 3, 18, 2, 9), (.aload_n 0, 1, 0, 0, 0), (.getfield 12, 3, 10, 0, 0), (.invokevirtual 107, 3, 24, 0, 9), (.ireturn, 1, 0, 0, 0)], 88)]
set_option maxRecDepth 100000 in
theorem ok_X10_sort : pm_oks 10 false 5 (some .int) cX10_sort bk_X10_sort = true := oksF_ok (by decide +kernel)
set_option maxRecDepth 100000 in
theorem me_X10_sort : pm_me 32 = (yX10_sort, cX10_sort, 5, (some .int), 2, 0) := rfl
theorem mt_X10_sort {l : Launch} {g : pm_G} {d mc ms : Nat} {as : List Value} {A : pm_H} {Q : Option Value → pm_H → Prop} (hca : pm_cat 5 as = true) (body : ∀ J : pm_J, pm_Cl l g (fun _ => none) d mc ms (pm_Rq mc ms Q) bk_X10_sort J → J 0 (pm_l0 5 as) [] A 0 0) : pm_Mt l g 32 d mc ms as A Q := pm_Mt_of (isI := false) 10 bk_X10_sort me_X10_sort (plainFor_of_name (by decide +kernel)) (by decide +kernel) (fun h => by cases h) ok_X10_sort hca body
def bk_X10_swap : pm_B := [(0, [(.aload_n 0, 1, 0, 0, 0), (.getfield 12, 3, 10, 0, 0), (.getfield 80, 3, 9, 4, 0), (.astore 5, 2, 5, 0, 0), (.aload 5, 2, 5, 0, 0), (.iload_n 1, 1, 1, 0, 0), (.iload_n 2, 1, 2, 0, 0), (.invokevirtual 111, 3, 14, 2, 7), (.ifCond .eq 14, 3, 30, 0, 0), (.aload 5, 2, 5, 0, 0), (.iload_n 3, 1, 3, 0, 0), (.iload 4, 2, 4, 0, 0), (.invokevirtual 111, 3, 14, 2, 7), (.ifCond .ne 5, 3, 32, 0, 0)], 30),
  (30, [(.iconst (-1), 1, 0, 0, -1), (.ireturn, 1, 0, 0, 0)], 32),
  (32, [(.iload_n 2, 1, 2, 0, 0), (.iload_n 3, 1, 3, 0, 0), (.if_icmp .ge 13, 3, 47, 0, 0), (.aload_n 0, 1, 0, 0, 0), (.iload_n 1, 1, 1, 0, 0), (.iload_n 2, 1, 2, 0, 0), (.iload_n 3, 1, 3, 0, 0), (.iload 4, 2, 4, 0, 0), (.invokevirtual 122, 3, 35, 4, 10), (.ireturn, 1, 0, 0, 0)], 47),
  (47, [(.iload 4, 2, 4, 0, 0), (.iload_n 1, 1, 1, 0, 0), (.if_icmp .ge 15, 3, 65, 0, 0), (.aload_n 0, 1, 0, 0, 0), (.iload_n 3, 1, 3, 0, 0), (.iload 4, 2, 4, 0, 0), (.iload_n 1, 1, 1, 0, 0), (.iload_n 2, 1, 2, 0, 0), (.invokevirtual 122, 3, 35, 4, 10), (.goto 4, 3, 66, 0, 0)], 65),
  (65, [(.iconst (-1), 1, 0, 0, -1)], 66),
  (66, [(.ireturn, 1, 0, 0, 0)], 67)]
set_option maxRecDepth 100000 in
theorem ok_X10_swap : pm_oks 10 false 6 (some .int) cX10_swap bk_X10_swap = true := oksF_ok (by decide +kernel)
set_option maxRecDepth 100000 in
theorem me_X10_swap : pm_me 34 = (yX10_swap, cX10_swap, 6, (some .int), 4, 0) := rfl
theorem mt_X10_swap {l : Launch} {g : pm_G} {d mc ms : Nat} {as : List Value} {A : pm_H} {Q : Option Value → pm_H → Prop} (hca : pm_cat 6 as = true) (body : ∀ J : pm_J, pm_Cl l g (fun _ => none) d mc ms (pm_Rq mc ms Q) bk_X10_swap J → J 0 (pm_l0 6 as) [] A 0 0) : pm_Mt l g 34 d mc ms as A Q := pm_Mt_of (isI := false) 10 bk_X10_swap me_X10_swap (plainFor_of_name (by decide +kernel)) (by decide +kernel) (fun h => by cases h) ok_X10_swap hca body
def bk_X10_swapInOrder : pm_B := [(0, [(.aload_n 0, 1, 0, 0, 0), (.getfield 12, 3, 10, 0, 0), (.invokevirtual 92, 3, 16, 0, 9), (.aload_n 0, 1, 0, 0, 0), (.getfield 12, 3, 10, 0, 0), (.iconst 0, 1, 0, 0, 0), (.iload_n 1, 1, 1, 0, 0), (.iconst 1, 1, 0, 0, 1), (.isub, 1, 0, 0, 0), (.invokevirtual 95, 3, 18, 2, 9), (.aload_n 0, 1, 0, 0, 0), (.getfield 12, 3, 10, 0, 0), (.iload_n 3, 1, 3, 0, 0), (.iload 4, 2, 4, 0, 0), (.invokevirtual 95, 3, 18, 2, 9), (.aload_n 0, 1, 0, 0, 0), (.getfield 12, 3, 10, 0, 0), (.iload_n 2, 1, 2, 0, 0), (.iconst 1, 1, 0, 0, 1), (.iadd, 1, 0, 0, 0), (.iload_n 3, 1, 3, 0, 0), (.iconst 1, 1, 0, 0, 1), (.isub, 1, 0, 0, 0), (.invokevirtual 95, 3, 18, 2, 9), (.aload_n 0, 1, 0, 0, 0), (.getfield 12, 3, 10, 0, 0), (.iload_n 1, 1, 1, 0, 0), (.iload_n 2, 1, 2, 0, 0), (.invokevirtual 95, 3, 18, 2, 9), (.aload_n 0, 1, 0, 0, 0), (.getfield 12, 3, 10, 0, 0), (.iload 4, 2, 4, 0, 0), (.iconst 1, 1, 0, 0, 1), (.iadd, 1, 0, 0, 0), (.aload_n 0, 1, 0, 0, 0), (.getfield 12, 3, 10, 0, 0), (.getfield 80, 3, 9, 4, 0), (.getfield 103, 3, 7, 3, 0), (.iconst 1, 1, 0, 0, 1), (.isub, 1, 0, 0, 0), (.invokevirtual 95, 3, 18, 2, 9), (.aload_n 0, 1, 0, 0, 0), (.getfield 12, 3, 10, 0, 0), (.invokevirtual 107, 3, 24, 0, 9), (.ireturn, 1, 0, 0, 0)], 81)]
set_option maxRecDepth 100000 in
theorem ok_X10_swapInOrder : pm_oks 10 false 5 (some .int) cX10_swapInOrder bk_X10_swapInOrder = true := oksF_ok (by decide +kernel)
set_option maxRecDepth 100000 in
theorem me_X10_swapInOrder : pm_me 35 = (yX10_swapInOrder, cX10_swapInOrder, 5, (some .int), 4, 0) := rfl
theorem mt_X10_swapInOrder {l : Launch} {g : pm_G} {d mc ms : Nat} {as : List Value} {A : pm_H} {Q : Option Value → pm_H → Prop} (hca : pm_cat 5 as = true) (body : ∀ J : pm_J, pm_Cl l g (fun _ => none) d mc ms (pm_Rq mc ms Q) bk_X10_swapInOrder J → J 0 (pm_l0 5 as) [] A 0 0) : pm_Mt l g 35 d mc ms as A Q := pm_Mt_of (isI := false) 10 bk_X10_swapInOrder me_X10_swapInOrder (plainFor_of_name (by decide +kernel)) (by decide +kernel) (fun h => by cases h) ok_X10_swapInOrder hca body
def bk_X10_copy : pm_B := [(0, [(.aload_n 0, 1, 0, 0, 0), (.getfield 12, 3, 10, 0, 0), (.getfield 80, 3, 9, 4, 0), (.astore 4, 2, 4, 0, 0), (.aload 4, 2, 4, 0, 0), (.iload_n 1, 1, 1, 0, 0), (.iload_n 2, 1, 2, 0, 0), (.invokevirtual 111, 3, 14, 2, 7), (.ifCond .eq 27, 3, 43, 0, 0), (.aload 4, 2, 4, 0, 0), (.iload_n 3, 1, 3, 0, 0), (.invokevirtual 84, 3, 26, 1, 7), (.ifCond .eq 18, 3, 43, 0, 0), (.aload_n 0, 1, 0, 0, 0), (.getfield 12, 3, 10, 0, 0), (.iload_n 2, 1, 2, 0, 0), (.iload_n 1, 1, 1, 0, 0), (.isub, 1, 0, 0, 0), (.iconst 1, 1, 0, 0, 1), (.iadd, 1, 0, 0, 0), (.invokevirtual 89, 3, 27, 1, 9), (.ifCond .ne 5, 3, 45, 0, 0)], 43),
  (43, [(.iconst (-1), 1, 0, 0, -1), (.ireturn, 1, 0, 0, 0)], 45),
  (45, [(.aload_n 0, 1, 0, 0, 0), (.getfield 12, 3, 10, 0, 0), (.invokevirtual 92, 3, 16, 0, 9), (.aload_n 0, 1, 0, 0, 0), (.getfield 12, 3, 10, 0, 0), (.iconst 0, 1, 0, 0, 0), (.iload_n 3, 1, 3, 0, 0), (.iconst 1, 1, 0, 0, 1), (.isub, 1, 0, 0, 0), (.invokevirtual 95, 3, 18, 2, 9), (.iload_n 1, 1, 1, 0, 0), (.istore 5, 2, 5, 0, 0)], 66),
  (66, [(.iload 5, 2, 5, 0, 0), (.iload_n 2, 1, 2, 0, 0), (.if_icmp .gt 24, 3, 93, 0, 0), (.aload_n 0, 1, 0, 0, 0), (.getfield 12, 3, 10, 0, 0), (.aload 4, 2, 4, 0, 0), (.getfield 126, 3, 7, 0, 0), (.iload 5, 2, 5, 0, 0), (.iaload, 1, 0, 0, 0), (.invokevirtual 99, 3, 28, 1, 9), (.iinc 5 1, 3, 5, 0, 1), (.goto (-24), 3, 66, 0, 0)], 93),
  (93, [(.aload_n 0, 1, 0, 0, 0), (.getfield 12, 3, 10, 0, 0), (.iload_n 3, 1, 3, 0, 0), (.aload 4, 2, 4, 0, 0), (.getfield 103, 3, 7, 3, 0), (.iconst 1, 1, 0, 0, 1), (.isub, 1, 0, 0, 0), (.invokevirtual 95, 3, 18, 2, 9), (.aload_n 0, 1, 0, 0, 0), (.getfield 12, 3, 10, 0, 0), (.invokevirtual 107, 3, 24, 0, 9), (.ireturn, 1, 0, 0, 0)], 116)]
set_option maxRecDepth 100000 in
theorem ok_X10_copy : pm_oks 10 false 6 (some .int) cX10_copy bk_X10_copy = true := oksF_ok (by decide +kernel)
set_option maxRecDepth 100000 in
theorem me_X10_copy : pm_me 36 = (yX10_copy, cX10_copy, 6, (some .int), 3, 0) := rfl
theorem mt_X10_copy {l : Launch} {g : pm_G} {d mc ms : Nat} {as : List Value} {A : pm_H} {Q : Option Value → pm_H → Prop} (hca : pm_cat 6 as = true) (body : ∀ J : pm_J, pm_Cl l g (fun _ => none) d mc ms (pm_Rq mc ms Q) bk_X10_copy J → J 0 (pm_l0 6 as) [] A 0 0) : pm_Mt l g 36 d mc ms as A Q := pm_Mt_of (isI := false) 10 bk_X10_copy me_X10_copy (plainFor_of_name (by decide +kernel)) (by decide +kernel) (fun h => by cases h) ok_X10_copy hca body
def bk_X10_merge : pm_B := [(0, [(.iload_n 1, 1, 1, 0, 0), (.iload_n 2, 1, 2, 0, 0), (.invokestatic 130, 3, 38, 2, 0), (.ifCond .ne 5, 3, 10, 0, 0), (.iconst (-1), 1, 0, 0, -1), (.ireturn, 1, 0, 0, 0)], 10),
  (10, [(.aload_n 0, 1, 0, 0, 0), (.getfield 12, 3, 10, 0, 0), (.getfield 80, 3, 9, 4, 0), (.astore_n 3, 1, 3, 0, 0), (.aload_n 0, 1, 0, 0, 0), (.getfield 12, 3, 10, 0, 0), (.invokevirtual 92, 3, 16, 0, 9), (.iconst 0, 1, 0, 0, 0), (.istore 4, 2, 4, 0, 0)], 28),
  (28, [(.iload 4, 2, 4, 0, 0), (.aload_n 3, 1, 3, 0, 0), (.getfield 103, 3, 7, 3, 0), (.if_icmp .ge 40, 3, 74, 0, 0), (.aload_n 0, 1, 0, 0, 0), (.getfield 12, 3, 10, 0, 0), (.iload 4, 2, 4, 0, 0), (.aload_n 3, 1, 3, 0, 0), (.getfield 126, 3, 7, 0, 0), (.iload 4, 2, 4, 0, 0), (.iaload, 1, 0, 0, 0), (.iload_n 1, 1, 1, 0, 0), (.if_icmp .ne 7, 3, 58, 0, 0), (.iload_n 2, 1, 2, 0, 0), (.goto 10, 3, 65, 0, 0)], 58),
  (58, [(.aload_n 3, 1, 3, 0, 0), (.getfield 126, 3, 7, 0, 0), (.iload 4, 2, 4, 0, 0), (.iaload, 1, 0, 0, 0)], 65),
  (65, [(.invokevirtual 115, 3, 23, 2, 9), (.iinc 4 1, 3, 4, 0, 1), (.goto (-43), 3, 28, 0, 0)], 74),
  (74, [(.aload_n 0, 1, 0, 0, 0), (.getfield 12, 3, 10, 0, 0), (.invokevirtual 107, 3, 24, 0, 9), (.ireturn, 1, 0, 0, 0)], 82)]
set_option maxRecDepth 100000 in
theorem ok_X10_merge : pm_oks 10 false 5 (some .int) cX10_merge bk_X10_merge = true := oksF_ok (by decide +kernel)
set_option maxRecDepth 100000 in
theorem me_X10_merge : pm_me 37 = (yX10_merge, cX10_merge, 5, (some .int), 2, 0) := rfl
theorem mt_X10_merge {l : Launch} {g : pm_G} {d mc ms : Nat} {as : List Value} {A : pm_H} {Q : Option Value → pm_H → Prop} (hca : pm_cat 5 as = true) (body : ∀ J : pm_J, pm_Cl l g (fun _ => none) d mc ms (pm_Rq mc ms Q) bk_X10_merge J → J 0 (pm_l0 5 as) [] A 0 0) : pm_Mt l g 37 d mc ms as A Q := pm_Mt_of (isI := false) 10 bk_X10_merge me_X10_merge (plainFor_of_name (by decide +kernel)) (by decide +kernel) (fun h => by cases h) ok_X10_merge hca body
def bk_X10_areUnlikeColours : pm_B := [(0, [(.iload_n 0, 1, 0, 0, 0), (.invokestatic 72, 3, 15, 1, 0), (.ifCond .eq 19, 3, 23, 0, 0), (.iload_n 1, 1, 1, 0, 0), (.invokestatic 72, 3, 15, 1, 0), (.ifCond .eq 12, 3, 23, 0, 0), (.iload_n 0, 1, 0, 0, 0), (.iload_n 1, 1, 1, 0, 0), (.if_icmp .eq 7, 3, 23, 0, 0), (.iconst 1, 1, 0, 0, 1), (.goto 4, 3, 24, 0, 0)], 23),
  (23, [(.iconst 0, 1, 0, 0, 0)], 24),
  (24, [(.ireturn, 1, 1, 0, 0)], 25)]
set_option maxRecDepth 100000 in
theorem ok_X10_areUnlikeColours : pm_oks 10 false 2 (some .boolean) cX10_areUnlikeColours bk_X10_areUnlikeColours = true := oksF_ok (by decide +kernel)
set_option maxRecDepth 100000 in
theorem me_X10_areUnlikeColours : pm_me 38 = (yX10_areUnlikeColours, cX10_areUnlikeColours, 2, (some .boolean), 2, 1) := rfl
theorem mt_X10_areUnlikeColours {l : Launch} {g : pm_G} {d mc ms : Nat} {as : List Value} {A : pm_H} {Q : Option Value → pm_H → Prop} (hca : pm_cat 2 as = true) (body : ∀ J : pm_J, pm_Cl l g (fun _ => none) d mc ms (pm_Rq mc ms Q) bk_X10_areUnlikeColours J → J 0 (pm_l0 2 as) [] A 0 0) : pm_Mt l g 38 d mc ms as A Q := pm_Mt_of (isI := false) 10 bk_X10_areUnlikeColours me_X10_areUnlikeColours (plainFor_of_name (by decide +kernel)) (by decide +kernel) (fun h => by cases h) ok_X10_areUnlikeColours hca body
def bk_X10_exchange : pm_B := [(0, [(.iload_n 1, 1, 1, 0, 0), (.iload_n 2, 1, 2, 0, 0), (.invokestatic 130, 3, 38, 2, 0), (.ifCond .ne 5, 3, 10, 0, 0), (.iconst (-1), 1, 0, 0, -1), (.ireturn, 1, 0, 0, 0)], 10),
  (10, [(.aload_n 0, 1, 0, 0, 0), (.getfield 12, 3, 10, 0, 0), (.getfield 80, 3, 9, 4, 0), (.astore_n 3, 1, 3, 0, 0), (.aload_n 0, 1, 0, 0, 0), (.getfield 12, 3, 10, 0, 0), (.invokevirtual 92, 3, 16, 0, 9), (.iconst 0, 1, 0, 0, 0), (.istore 4, 2, 4, 0, 0)], 28),
  (28, [(.iload 4, 2, 4, 0, 0), (.aload_n 3, 1, 3, 0, 0), (.getfield 103, 3, 7, 3, 0), (.if_icmp .ge 49, 3, 83, 0, 0), (.aload_n 3, 1, 3, 0, 0), (.getfield 126, 3, 7, 0, 0), (.iload 4, 2, 4, 0, 0), (.iaload, 1, 0, 0, 0), (.istore 5, 2, 5, 0, 0), (.aload_n 0, 1, 0, 0, 0), (.getfield 12, 3, 10, 0, 0), (.iload 4, 2, 4, 0, 0), (.iload 5, 2, 5, 0, 0), (.iload_n 1, 1, 1, 0, 0), (.if_icmp .ne 7, 3, 62, 0, 0), (.iload_n 2, 1, 2, 0, 0), (.goto 15, 3, 74, 0, 0)], 62),
  (62, [(.iload 5, 2, 5, 0, 0), (.iload_n 2, 1, 2, 0, 0), (.if_icmp .ne 7, 3, 72, 0, 0), (.iload_n 1, 1, 1, 0, 0), (.goto 5, 3, 74, 0, 0)], 72),
  (72, [(.iload 5, 2, 5, 0, 0)], 74),
  (74, [(.invokevirtual 115, 3, 23, 2, 9), (.iinc 4 1, 3, 4, 0, 1), (.goto (-52), 3, 28, 0, 0)], 83),
  (83, [(.aload_n 0, 1, 0, 0, 0), (.getfield 12, 3, 10, 0, 0), (.invokevirtual 107, 3, 24, 0, 9), (.ireturn, 1, 0, 0, 0)], 91)]
set_option maxRecDepth 100000 in
theorem ok_X10_exchange : pm_oks 10 false 6 (some .int) cX10_exchange bk_X10_exchange = true := oksF_ok (by decide +kernel)
set_option maxRecDepth 100000 in
theorem me_X10_exchange : pm_me 39 = (yX10_exchange, cX10_exchange, 6, (some .int), 2, 0) := rfl
theorem mt_X10_exchange {l : Launch} {g : pm_G} {d mc ms : Nat} {as : List Value} {A : pm_H} {Q : Option Value → pm_H → Prop} (hca : pm_cat 6 as = true) (body : ∀ J : pm_J, pm_Cl l g (fun _ => none) d mc ms (pm_Rq mc ms Q) bk_X10_exchange J → J 0 (pm_l0 6 as) [] A 0 0) : pm_Mt l g 39 d mc ms as A Q := pm_Mt_of (isI := false) 10 bk_X10_exchange me_X10_exchange (plainFor_of_name (by decide +kernel)) (by decide +kernel) (fun h => by cases h) ok_X10_exchange hca body
def bk_X10_draw : pm_B := [(0, [(.iload_n 1, 1, 1, 0, 0), (.ifCond .lt 26, 3, 27, 0, 0), (.iload_n 1, 1, 1, 0, 0), (.sipush 9999, 3, 0, 0, 9999), (.if_icmp .gt 19, 3, 27, 0, 0), (.iload_n 2, 1, 2, 0, 0), (.iconst 1, 1, 0, 0, 1), (.if_icmp .lt 14, 3, 27, 0, 0), (.iload_n 2, 1, 2, 0, 0), (.sipush 160, 3, 0, 0, 160), (.if_icmp .gt 7, 3, 27, 0, 0), (.iconst 1, 1, 0, 0, 1), (.goto 4, 3, 28, 0, 0)], 27),
  (27, [(.iconst 0, 1, 0, 0, 0)], 28),
  (28, [(.istore 4, 2, 4, 0, 0), (.iload 4, 2, 4, 0, 0), (.ifCond .eq 25, 3, 57, 0, 0), (.iload_n 3, 1, 3, 0, 0), (.iconst 1, 1, 0, 0, 1), (.if_icmp .lt 20, 3, 57, 0, 0), (.iload_n 3, 1, 3, 0, 0), (.bipush 24, 2, 0, 0, 24), (.if_icmp .gt 14, 3, 57, 0, 0), (.aload_n 0, 1, 0, 0, 0), (.getfield 12, 3, 10, 0, 0), (.iload_n 2, 1, 2, 0, 0), (.invokevirtual 89, 3, 27, 1, 9), (.ifCond .ne 5, 3, 59, 0, 0)], 57),
  (57, [(.iconst (-1), 1, 0, 0, -1), (.ireturn, 1, 0, 0, 0)], 59),
  (59, [(.aload_n 0, 1, 0, 0, 0), (.getfield 12, 3, 10, 0, 0), (.invokevirtual 92, 3, 16, 0, 9), (.aload_n 0, 1, 0, 0, 0), (.getfield 12, 3, 10, 0, 0), (.iconst 0, 1, 0, 0, 0), (.aload_n 0, 1, 0, 0, 0), (.getfield 12, 3, 10, 0, 0), (.getfield 80, 3, 9, 4, 0), (.getfield 103, 3, 7, 3, 0), (.iconst 1, 1, 0, 0, 1), (.isub, 1, 0, 0, 0), (.invokevirtual 95, 3, 18, 2, 9), (.iload_n 1, 1, 1, 0, 0), (.istore 5, 2, 5, 0, 0), (.iconst 0, 1, 0, 0, 0), (.istore 6, 2, 6, 0, 0)], 92),
  (92, [(.iload 6, 2, 6, 0, 0), (.iload_n 2, 1, 2, 0, 0), (.if_icmp .ge 35, 3, 130, 0, 0), (.iload 5, 2, 5, 0, 0), (.sipush 137, 3, 0, 0, 137), (.imul, 1, 0, 0, 0), (.bipush 71, 2, 0, 0, 71), (.iadd, 1, 0, 0, 0), (.sipush 10007, 3, 0, 0, 10007), (.irem, 1, 0, 0, 0), (.istore 5, 2, 5, 0, 0), (.aload_n 0, 1, 0, 0, 0), (.getfield 12, 3, 10, 0, 0), (.iload 5, 2, 5, 0, 0), (.iload_n 3, 1, 3, 0, 0), (.irem, 1, 0, 0, 0), (.invokevirtual 99, 3, 28, 1, 9), (.iinc 6 1, 3, 6, 0, 1), (.goto (-35), 3, 92, 0, 0)], 130),
  (130, [(.aload_n 0, 1, 0, 0, 0), (.getfield 12, 3, 10, 0, 0), (.invokevirtual 107, 3, 24, 0, 9), (.ireturn, 1, 0, 0, 0)], 138)]
set_option maxRecDepth 100000 in
theorem ok_X10_draw : pm_oks 10 false 7 (some .int) cX10_draw bk_X10_draw = true := oksF_ok (by decide +kernel)
set_option maxRecDepth 100000 in
theorem me_X10_draw : pm_me 40 = (yX10_draw, cX10_draw, 7, (some .int), 3, 0) := rfl
theorem mt_X10_draw {l : Launch} {g : pm_G} {d mc ms : Nat} {as : List Value} {A : pm_H} {Q : Option Value → pm_H → Prop} (hca : pm_cat 7 as = true) (body : ∀ J : pm_J, pm_Cl l g (fun _ => none) d mc ms (pm_Rq mc ms Q) bk_X10_draw J → J 0 (pm_l0 7 as) [] A 0 0) : pm_Mt l g 40 d mc ms as A Q := pm_Mt_of (isI := false) 10 bk_X10_draw me_X10_draw (plainFor_of_name (by decide +kernel)) (by decide +kernel) (fun h => by cases h) ok_X10_draw hca body
def bk_X10_weigh : pm_B := [(0, [(.iload_n 1, 1, 1, 0, 0), (.invokestatic 72, 3, 15, 1, 0), (.ifCond .eq 14, 3, 18, 0, 0), (.iload_n 2, 1, 2, 0, 0), (.ifCond .lt 10, 3, 18, 0, 0), (.iload_n 2, 1, 2, 0, 0), (.sipush 999, 3, 0, 0, 999), (.if_icmp .le 5, 3, 20, 0, 0)], 18),
  (18, [(.iconst (-1), 1, 0, 0, -1), (.ireturn, 1, 0, 0, 0)], 20),
  (20, [(.aload_n 0, 1, 0, 0, 0), (.getfield 19, 3, 10, 1, 0), (.getfield 133, 3, 2, 1, 0), (.iload_n 1, 1, 1, 0, 0), (.iaload, 1, 0, 0, 0), (.istore_n 3, 1, 3, 0, 0), (.aload_n 0, 1, 0, 0, 0), (.getfield 19, 3, 10, 1, 0), (.getfield 133, 3, 2, 1, 0), (.iload_n 1, 1, 1, 0, 0), (.iload_n 2, 1, 2, 0, 0), (.iastore, 1, 0, 0, 0), (.iload_n 3, 1, 3, 0, 0), (.ireturn, 1, 0, 0, 0)], 42)]
set_option maxRecDepth 100000 in
theorem ok_X10_weigh : pm_oks 10 false 4 (some .int) cX10_weigh bk_X10_weigh = true := oksF_ok (by decide +kernel)
set_option maxRecDepth 100000 in
theorem me_X10_weigh : pm_me 41 = (yX10_weigh, cX10_weigh, 4, (some .int), 2, 0) := rfl
theorem mt_X10_weigh {l : Launch} {g : pm_G} {d mc ms : Nat} {as : List Value} {A : pm_H} {Q : Option Value → pm_H → Prop} (hca : pm_cat 4 as = true) (body : ∀ J : pm_J, pm_Cl l g (fun _ => none) d mc ms (pm_Rq mc ms Q) bk_X10_weigh J → J 0 (pm_l0 4 as) [] A 0 0) : pm_Mt l g 41 d mc ms as A Q := pm_Mt_of (isI := false) 10 bk_X10_weigh me_X10_weigh (plainFor_of_name (by decide +kernel)) (by decide +kernel) (fun h => by cases h) ok_X10_weigh hca body
def bk_X10_at : pm_B := [(0, [(.aload_n 0, 1, 0, 0, 0), (.getfield 12, 3, 10, 0, 0), (.getfield 80, 3, 9, 4, 0), (.astore_n 3, 1, 3, 0, 0), (.iload_n 2, 1, 2, 0, 0), (.iconst 3, 1, 0, 0, 3), (.if_icmp .ne 15, 3, 25, 0, 0), (.aload_n 3, 1, 3, 0, 0), (.aload_n 3, 1, 3, 0, 0), (.iload_n 1, 1, 1, 0, 0), (.invokevirtual 136, 3, 43, 1, 7), (.invokevirtual 140, 3, 21, 1, 7), (.goto 9, 3, 31, 0, 0)], 25),
  (25, [(.aload_n 3, 1, 3, 0, 0), (.iload_n 1, 1, 1, 0, 0), (.iload_n 2, 1, 2, 0, 0), (.invokevirtual 143, 3, 44, 2, 7)], 31),
  (31, [(.ireturn, 1, 0, 0, 0)], 32)]
set_option maxRecDepth 100000 in
theorem ok_X10_at : pm_oks 10 false 4 (some .int) cX10_at bk_X10_at = true := oksF_ok (by decide +kernel)
set_option maxRecDepth 100000 in
theorem me_X10_at : pm_me 42 = (yX10_at, cX10_at, 4, (some .int), 2, 0) := rfl
theorem mt_X10_at {l : Launch} {g : pm_G} {d mc ms : Nat} {as : List Value} {A : pm_H} {Q : Option Value → pm_H → Prop} (hca : pm_cat 4 as = true) (body : ∀ J : pm_J, pm_Cl l g (fun _ => none) d mc ms (pm_Rq mc ms Q) bk_X10_at J → J 0 (pm_l0 4 as) [] A 0 0) : pm_Mt l g 42 d mc ms as A Q := pm_Mt_of (isI := false) 10 bk_X10_at me_X10_at (plainFor_of_name (by decide +kernel)) (by decide +kernel) (fun h => by cases h) ok_X10_at hca body
def bk_X10_place : pm_B := [(0, [(.aload_n 0, 1, 0, 0, 0), (.getfield 12, 3, 10, 0, 0), (.getfield 80, 3, 9, 4, 0), (.iload_n 1, 1, 1, 0, 0), (.invokevirtual 147, 3, 46, 1, 7), (.ireturn, 1, 0, 0, 0)], 12)]
set_option maxRecDepth 100000 in
theorem ok_X10_place : pm_oks 10 false 2 (some .int) cX10_place bk_X10_place = true := oksF_ok (by decide +kernel)
set_option maxRecDepth 100000 in
theorem me_X10_place : pm_me 45 = (yX10_place, cX10_place, 2, (some .int), 1, 0) := rfl
theorem mt_X10_place {l : Launch} {g : pm_G} {d mc ms : Nat} {as : List Value} {A : pm_H} {Q : Option Value → pm_H → Prop} (hca : pm_cat 2 as = true) (body : ∀ J : pm_J, pm_Cl l g (fun _ => none) d mc ms (pm_Rq mc ms Q) bk_X10_place J → J 0 (pm_l0 2 as) [] A 0 0) : pm_Mt l g 45 d mc ms as A Q := pm_Mt_of (isI := false) 10 bk_X10_place me_X10_place (plainFor_of_name (by decide +kernel)) (by decide +kernel) (fun h => by cases h) ok_X10_place hca body
def bk_X10_colour : pm_B := [(0, [(.iload_n 1, 1, 1, 0, 0), (.invokestatic 72, 3, 15, 1, 0), (.ifCond .ne 5, 3, 9, 0, 0), (.iconst (-1), 1, 0, 0, -1), (.ireturn, 1, 0, 0, 0)], 9),
  (9, [(.aload_n 0, 1, 0, 0, 0), (.getfield 12, 3, 10, 0, 0), (.getfield 80, 3, 9, 4, 0), (.astore_n 3, 1, 3, 0, 0), (.iload_n 2, 1, 2, 0, 0), (.tableswitch 76 0 4 #[34, 40, 50, 57, 70], 34, 18, 0, 0)], 52),
  (52, [(.aload_n 3, 1, 3, 0, 0), (.iload_n 1, 1, 1, 0, 0), (.invokevirtual 150, 3, 48, 1, 7), (.ireturn, 1, 0, 0, 0)], 58),
  (58, [(.aload_n 0, 1, 0, 0, 0), (.getfield 19, 3, 10, 1, 0), (.getfield 133, 3, 2, 1, 0), (.iload_n 1, 1, 1, 0, 0), (.iaload, 1, 0, 0, 0), (.ireturn, 1, 0, 0, 0)], 68),
  (68, [(.aload_n 3, 1, 3, 0, 0), (.iload_n 1, 1, 1, 0, 0), (.iconst 0, 1, 0, 0, 0), (.invokevirtual 153, 3, 49, 2, 7), (.ireturn, 1, 0, 0, 0)], 75),
  (75, [(.aload_n 3, 1, 3, 0, 0), (.iload_n 1, 1, 1, 0, 0), (.aload_n 3, 1, 3, 0, 0), (.iload_n 1, 1, 1, 0, 0), (.invokevirtual 150, 3, 48, 1, 7), (.iconst 1, 1, 0, 0, 1), (.isub, 1, 0, 0, 0), (.invokevirtual 153, 3, 49, 2, 7), (.ireturn, 1, 0, 0, 0)], 88),
  (88, [(.aload_n 3, 1, 3, 0, 0), (.iload_n 1, 1, 1, 0, 0), (.invokevirtual 156, 3, 50, 1, 7), (.ireturn, 1, 0, 0, 0)], 94),
  (94, [(.iconst (-1), 1, 0, 0, -1), (.ireturn, 1, 0, 0, 0)], 96)]
set_option maxRecDepth 100000 in
theorem ok_X10_colour : pm_oks 10 false 4 (some .int) cX10_colour bk_X10_colour = true := oksF_ok (by decide +kernel)
set_option maxRecDepth 100000 in
theorem me_X10_colour : pm_me 47 = (yX10_colour, cX10_colour, 4, (some .int), 2, 0) := rfl
theorem mt_X10_colour {l : Launch} {g : pm_G} {d mc ms : Nat} {as : List Value} {A : pm_H} {Q : Option Value → pm_H → Prop} (hca : pm_cat 4 as = true) (body : ∀ J : pm_J, pm_Cl l g (fun _ => none) d mc ms (pm_Rq mc ms Q) bk_X10_colour J → J 0 (pm_l0 4 as) [] A 0 0) : pm_Mt l g 47 d mc ms as A Q := pm_Mt_of (isI := false) 10 bk_X10_colour me_X10_colour (plainFor_of_name (by decide +kernel)) (by decide +kernel) (fun h => by cases h) ok_X10_colour hca body
def bk_X10_nth : pm_B := [(0, [(.aload_n 0, 1, 0, 0, 0), (.getfield 12, 3, 10, 0, 0), (.getfield 80, 3, 9, 4, 0), (.iload_n 1, 1, 1, 0, 0), (.iload_n 2, 1, 2, 0, 0), (.invokevirtual 153, 3, 49, 2, 7), (.ireturn, 1, 0, 0, 0)], 13)]
set_option maxRecDepth 100000 in
theorem ok_X10_nth : pm_oks 10 false 3 (some .int) cX10_nth bk_X10_nth = true := oksF_ok (by decide +kernel)
set_option maxRecDepth 100000 in
theorem me_X10_nth : pm_me 52 = (yX10_nth, cX10_nth, 3, (some .int), 2, 0) := rfl
theorem mt_X10_nth {l : Launch} {g : pm_G} {d mc ms : Nat} {as : List Value} {A : pm_H} {Q : Option Value → pm_H → Prop} (hca : pm_cat 3 as = true) (body : ∀ J : pm_J, pm_Cl l g (fun _ => none) d mc ms (pm_Rq mc ms Q) bk_X10_nth J → J 0 (pm_l0 3 as) [] A 0 0) : pm_Mt l g 52 d mc ms as A Q := pm_Mt_of (isI := false) 10 bk_X10_nth me_X10_nth (plainFor_of_name (by decide +kernel)) (by decide +kernel) (fun h => by cases h) ok_X10_nth hca body
def bk_X10_about : pm_B := [(0, [(.iload_n 1, 1, 1, 0, 0), (.tableswitch 107 0 5 #[39, 50, 75, 83, 91, 99], 39, 1, 0, 0)], 40),
  (40, [(.aload_n 0, 1, 0, 0, 0), (.getfield 12, 3, 10, 0, 0), (.getfield 80, 3, 9, 4, 0), (.getfield 103, 3, 7, 3, 0), (.ireturn, 1, 0, 0, 0)], 51),
  (51, [(.aload_n 0, 1, 0, 0, 0), (.aload_n 0, 1, 0, 0, 0), (.getfield 12, 3, 10, 0, 0), (.getfield 80, 3, 9, 4, 0), (.iconst 0, 1, 0, 0, 0), (.aload_n 0, 1, 0, 0, 0), (.getfield 12, 3, 10, 0, 0), (.getfield 80, 3, 9, 4, 0), (.getfield 103, 3, 7, 3, 0), (.iconst 1, 1, 0, 0, 1), (.isub, 1, 0, 0, 0), (.invokevirtual 159, 3, 54, 3, 10), (.ireturn, 1, 0, 0, 0)], 76),
  (76, [(.aload_n 0, 1, 0, 0, 0), (.getfield 12, 3, 10, 0, 0), (.getfield 163, 3, 9, 6, 0), (.ireturn, 1, 0, 0, 0)], 84),
  (84, [(.aload_n 0, 1, 0, 0, 0), (.getfield 12, 3, 10, 0, 0), (.getfield 166, 3, 9, 5, 0), (.ireturn, 1, 0, 0, 0)], 92),
  (92, [(.aload_n 0, 1, 0, 0, 0), (.getfield 12, 3, 10, 0, 0), (.getfield 169, 3, 9, 7, 0), (.ireturn, 1, 0, 0, 0)], 100),
  (100, [(.aload_n 0, 1, 0, 0, 0), (.getfield 68, 3, 10, 8, 0), (.getfield 172, 3, 5, 5, 0), (.ireturn, 1, 0, 0, 0)], 108),
  (108, [(.iconst (-1), 1, 0, 0, -1), (.ireturn, 1, 0, 0, 0)], 110)]
set_option maxRecDepth 100000 in
theorem ok_X10_about : pm_oks 10 false 2 (some .int) cX10_about bk_X10_about = true := oksF_ok (by decide +kernel)
set_option maxRecDepth 100000 in
theorem me_X10_about : pm_me 53 = (yX10_about, cX10_about, 2, (some .int), 1, 0) := rfl
theorem mt_X10_about {l : Launch} {g : pm_G} {d mc ms : Nat} {as : List Value} {A : pm_H} {Q : Option Value → pm_H → Prop} (hca : pm_cat 2 as = true) (body : ∀ J : pm_J, pm_Cl l g (fun _ => none) d mc ms (pm_Rq mc ms Q) bk_X10_about J → J 0 (pm_l0 2 as) [] A 0 0) : pm_Mt l g 53 d mc ms as A Q := pm_Mt_of (isI := false) 10 bk_X10_about me_X10_about (plainFor_of_name (by decide +kernel)) (by decide +kernel) (fun h => by cases h) ok_X10_about hca body
def bk_X10_colourNumber : pm_B := [(0, [(.aload_n 0, 1, 0, 0, 0), (.getfield 19, 3, 10, 1, 0), (.aload_n 1, 1, 1, 0, 0), (.iload_n 2, 1, 2, 0, 0), (.iload_n 3, 1, 3, 0, 0), (.invokevirtual 175, 3, 55, 3, 2), (.aload_n 0, 1, 0, 0, 0), (.getfield 19, 3, 10, 1, 0), (.getfield 179, 3, 2, 3, 0), (.ireturn, 1, 0, 0, 0)], 18)]
set_option maxRecDepth 100000 in
theorem ok_X10_colourNumber : pm_oks 10 false 4 (some .int) cX10_colourNumber bk_X10_colourNumber = true := oksF_ok (by decide +kernel)
set_option maxRecDepth 100000 in
theorem me_X10_colourNumber : pm_me 54 = (yX10_colourNumber, cX10_colourNumber, 4, (some .int), 3, 0) := rfl
theorem mt_X10_colourNumber {l : Launch} {g : pm_G} {d mc ms : Nat} {as : List Value} {A : pm_H} {Q : Option Value → pm_H → Prop} (hca : pm_cat 4 as = true) (body : ∀ J : pm_J, pm_Cl l g (fun _ => none) d mc ms (pm_Rq mc ms Q) bk_X10_colourNumber J → J 0 (pm_l0 4 as) [] A 0 0) : pm_Mt l g 54 d mc ms as A Q := pm_Mt_of (isI := false) 10 bk_X10_colourNumber me_X10_colourNumber (plainFor_of_name (by decide +kernel)) (by decide +kernel) (fun h => by cases h) ok_X10_colourNumber hca body
def bk_X10_count : pm_B := [(0, [(.aload_n 0, 1, 0, 0, 0), (.iload_n 1, 1, 1, 0, 0), (.iload_n 2, 1, 2, 0, 0), (.invokevirtual 182, 3, 59, 2, 10), (.ifCond .eq 13, 3, 19, 0, 0), (.aload_n 0, 1, 0, 0, 0), (.getfield 19, 3, 10, 1, 0), (.getfield 179, 3, 2, 3, 0), (.goto 4, 3, 20, 0, 0)], 19),
  (19, [(.iconst (-1), 1, 0, 0, -1)], 20),
  (20, [(.ireturn, 1, 0, 0, 0)], 21)]
set_option maxRecDepth 100000 in
theorem ok_X10_count : pm_oks 10 false 3 (some .int) cX10_count bk_X10_count = true := oksF_ok (by decide +kernel)
set_option maxRecDepth 100000 in
theorem me_X10_count : pm_me 58 = (yX10_count, cX10_count, 3, (some .int), 2, 0) := rfl
theorem mt_X10_count {l : Launch} {g : pm_G} {d mc ms : Nat} {as : List Value} {A : pm_H} {Q : Option Value → pm_H → Prop} (hca : pm_cat 3 as = true) (body : ∀ J : pm_J, pm_Cl l g (fun _ => none) d mc ms (pm_Rq mc ms Q) bk_X10_count J → J 0 (pm_l0 3 as) [] A 0 0) : pm_Mt l g 58 d mc ms as A Q := pm_Mt_of (isI := false) 10 bk_X10_count me_X10_count (plainFor_of_name (by decide +kernel)) (by decide +kernel) (fun h => by cases h) ok_X10_count hca body
def bk_X10_readSpan : pm_B := [(0, [(.aload_n 0, 1, 0, 0, 0), (.getfield 12, 3, 10, 0, 0), (.getfield 80, 3, 9, 4, 0), (.iload_n 1, 1, 1, 0, 0), (.iload_n 2, 1, 2, 0, 0), (.invokevirtual 111, 3, 14, 2, 7), (.ifCond .ne 5, 3, 17, 0, 0), (.iconst 0, 1, 0, 0, 0), (.ireturn, 1, 1, 0, 0)], 17),
  (17, [(.aload_n 0, 1, 0, 0, 0), (.getfield 19, 3, 10, 1, 0), (.aload_n 0, 1, 0, 0, 0), (.getfield 12, 3, 10, 0, 0), (.getfield 80, 3, 9, 4, 0), (.iload_n 1, 1, 1, 0, 0), (.iload_n 2, 1, 2, 0, 0), (.invokevirtual 175, 3, 55, 3, 2), (.iconst 1, 1, 0, 0, 1), (.ireturn, 1, 1, 0, 0)], 35)]
set_option maxRecDepth 100000 in
theorem ok_X10_readSpan : pm_oks 10 false 3 (some .boolean) cX10_readSpan bk_X10_readSpan = true := oksF_ok (by decide +kernel)
set_option maxRecDepth 100000 in
theorem me_X10_readSpan : pm_me 59 = (yX10_readSpan, cX10_readSpan, 3, (some .boolean), 2, 0) := rfl
theorem mt_X10_readSpan {l : Launch} {g : pm_G} {d mc ms : Nat} {as : List Value} {A : pm_H} {Q : Option Value → pm_H → Prop} (hca : pm_cat 3 as = true) (body : ∀ J : pm_J, pm_Cl l g (fun _ => none) d mc ms (pm_Rq mc ms Q) bk_X10_readSpan J → J 0 (pm_l0 3 as) [] A 0 0) : pm_Mt l g 59 d mc ms as A Q := pm_Mt_of (isI := false) 10 bk_X10_readSpan me_X10_readSpan (plainFor_of_name (by decide +kernel)) (by decide +kernel) (fun h => by cases h) ok_X10_readSpan hca body
def bk_X10_weight : pm_B := [(0, [(.aload_n 0, 1, 0, 0, 0), (.iload_n 1, 1, 1, 0, 0), (.iload_n 2, 1, 2, 0, 0), (.invokevirtual 182, 3, 59, 2, 10), (.ifCond .eq 13, 3, 19, 0, 0), (.aload_n 0, 1, 0, 0, 0), (.getfield 19, 3, 10, 1, 0), (.getfield 185, 3, 2, 5, 0), (.goto 4, 3, 20, 0, 0)], 19),
  (19, [(.iconst (-1), 1, 0, 0, -1)], 20),
  (20, [(.ireturn, 1, 0, 0, 0)], 21)]
set_option maxRecDepth 100000 in
theorem ok_X10_weight : pm_oks 10 false 3 (some .int) cX10_weight bk_X10_weight = true := oksF_ok (by decide +kernel)
set_option maxRecDepth 100000 in
theorem me_X10_weight : pm_me 60 = (yX10_weight, cX10_weight, 3, (some .int), 2, 0) := rfl
theorem mt_X10_weight {l : Launch} {g : pm_G} {d mc ms : Nat} {as : List Value} {A : pm_H} {Q : Option Value → pm_H → Prop} (hca : pm_cat 3 as = true) (body : ∀ J : pm_J, pm_Cl l g (fun _ => none) d mc ms (pm_Rq mc ms Q) bk_X10_weight J → J 0 (pm_l0 3 as) [] A 0 0) : pm_Mt l g 60 d mc ms as A Q := pm_Mt_of (isI := false) 10 bk_X10_weight me_X10_weight (plainFor_of_name (by decide +kernel)) (by decide +kernel) (fun h => by cases h) ok_X10_weight hca body
def bk_X10_set : pm_B := [(0, [(.aload_n 0, 1, 0, 0, 0), (.iload_n 1, 1, 1, 0, 0), (.iload_n 2, 1, 2, 0, 0), (.invokevirtual 182, 3, 59, 2, 10), (.ifCond .eq 13, 3, 19, 0, 0), (.aload_n 0, 1, 0, 0, 0), (.getfield 19, 3, 10, 1, 0), (.getfield 188, 3, 2, 4, 0), (.goto 4, 3, 20, 0, 0)], 19),
  (19, [(.iconst (-1), 1, 0, 0, -1)], 20),
  (20, [(.ireturn, 1, 0, 0, 0)], 21)]
set_option maxRecDepth 100000 in
theorem ok_X10_set : pm_oks 10 false 3 (some .int) cX10_set bk_X10_set = true := oksF_ok (by decide +kernel)
set_option maxRecDepth 100000 in
theorem me_X10_set : pm_me 61 = (yX10_set, cX10_set, 3, (some .int), 2, 0) := rfl
theorem mt_X10_set {l : Launch} {g : pm_G} {d mc ms : Nat} {as : List Value} {A : pm_H} {Q : Option Value → pm_H → Prop} (hca : pm_cat 3 as = true) (body : ∀ J : pm_J, pm_Cl l g (fun _ => none) d mc ms (pm_Rq mc ms Q) bk_X10_set J → J 0 (pm_l0 3 as) [] A 0 0) : pm_Mt l g 61 d mc ms as A Q := pm_Mt_of (isI := false) 10 bk_X10_set me_X10_set (plainFor_of_name (by decide +kernel)) (by decide +kernel) (fun h => by cases h) ok_X10_set hca body
def bk_X10_times : pm_B := [(0, [(.iload_n 3, 1, 3, 0, 0), (.invokestatic 72, 3, 15, 1, 0), (.ifCond .eq 24, 3, 28, 0, 0), (.aload_n 0, 1, 0, 0, 0), (.iload_n 1, 1, 1, 0, 0), (.iload_n 2, 1, 2, 0, 0), (.invokevirtual 182, 3, 59, 2, 10), (.ifCond .eq 15, 3, 28, 0, 0), (.aload_n 0, 1, 0, 0, 0), (.getfield 19, 3, 10, 1, 0), (.getfield 191, 3, 2, 0, 0), (.iload_n 3, 1, 3, 0, 0), (.iaload, 1, 0, 0, 0), (.goto 4, 3, 29, 0, 0)], 28),
  (28, [(.iconst (-1), 1, 0, 0, -1)], 29),
  (29, [(.ireturn, 1, 0, 0, 0)], 30)]
set_option maxRecDepth 100000 in
theorem ok_X10_times : pm_oks 10 false 4 (some .int) cX10_times bk_X10_times = true := oksF_ok (by decide +kernel)
set_option maxRecDepth 100000 in
theorem me_X10_times : pm_me 62 = (yX10_times, cX10_times, 4, (some .int), 3, 0) := rfl
theorem mt_X10_times {l : Launch} {g : pm_G} {d mc ms : Nat} {as : List Value} {A : pm_H} {Q : Option Value → pm_H → Prop} (hca : pm_cat 4 as = true) (body : ∀ J : pm_J, pm_Cl l g (fun _ => none) d mc ms (pm_Rq mc ms Q) bk_X10_times J → J 0 (pm_l0 4 as) [] A 0 0) : pm_Mt l g 62 d mc ms as A Q := pm_Mt_of (isI := false) 10 bk_X10_times me_X10_times (plainFor_of_name (by decide +kernel)) (by decide +kernel) (fun h => by cases h) ok_X10_times hca body
def bk_X10_often : pm_B := [(0, [(.iload_n 3, 1, 3, 0, 0), (.iconst 1, 1, 0, 0, 1), (.if_icmp .lt 23, 3, 25, 0, 0), (.aload_n 0, 1, 0, 0, 0), (.iload_n 1, 1, 1, 0, 0), (.iload_n 2, 1, 2, 0, 0), (.invokevirtual 182, 3, 59, 2, 10), (.ifCond .eq 14, 3, 25, 0, 0), (.aload_n 0, 1, 0, 0, 0), (.getfield 19, 3, 10, 1, 0), (.iload_n 3, 1, 3, 0, 0), (.invokevirtual 194, 3, 64, 1, 2), (.goto 4, 3, 26, 0, 0)], 25),
  (25, [(.iconst (-1), 1, 0, 0, -1)], 26),
  (26, [(.ireturn, 1, 0, 0, 0)], 27)]
set_option maxRecDepth 100000 in
theorem ok_X10_often : pm_oks 10 false 4 (some .int) cX10_often bk_X10_often = true := oksF_ok (by decide +kernel)
set_option maxRecDepth 100000 in
theorem me_X10_often : pm_me 63 = (yX10_often, cX10_often, 4, (some .int), 3, 0) := rfl
theorem mt_X10_often {l : Launch} {g : pm_G} {d mc ms : Nat} {as : List Value} {A : pm_H} {Q : Option Value → pm_H → Prop} (hca : pm_cat 4 as = true) (body : ∀ J : pm_J, pm_Cl l g (fun _ => none) d mc ms (pm_Rq mc ms Q) bk_X10_often J → J 0 (pm_l0 4 as) [] A 0 0) : pm_Mt l g 63 d mc ms as A Q := pm_Mt_of (isI := false) 10 bk_X10_often me_X10_often (plainFor_of_name (by decide +kernel)) (by decide +kernel) (fun h => by cases h) ok_X10_often hca body
