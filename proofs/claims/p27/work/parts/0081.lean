
def bk_X11_exchange : pm_B := [(0, [(.iload_n 1, 1, 1, 0, 0), (.invokestatic 122, 3, 170, 1, 0), (.ifCond .eq 32, 3, 36, 0, 0), (.iload_n 2, 1, 2, 0, 0), (.invokestatic 122, 3, 170, 1, 0), (.ifCond .eq 25, 3, 36, 0, 0), (.iload_n 1, 1, 1, 0, 0), (.iload_n 2, 1, 2, 0, 0), (.if_icmp .eq 20, 3, 36, 0, 0), (.aload_n 0, 1, 0, 0, 0), (.iconst 0, 1, 0, 0, 0), (.aload_n 0, 1, 0, 0, 0), (.getfield 70, 3, 11, 7, 0), (.iconst 1, 1, 0, 0, 1), (.isub, 1, 0, 0, 0), (.iload_n 1, 1, 1, 0, 0), (.iload_n 2, 1, 2, 0, 0), (.iconst 1, 1, 0, 0, 1), (.invokevirtual 125, 3, 171, 5, 11), (.goto 4, 3, 37, 0, 0)], 36),
  (36, [(.iconst (-1), 1, 0, 0, -1)], 37),
  (37, [(.ireturn, 1, 0, 0, 0)], 38)]
set_option maxRecDepth 100000 in
theorem ok_X11_exchange : pm_oks 11 false 3 (some .int) cX11_exchange bk_X11_exchange = true := oksF_ok (by decide +kernel)
set_option maxRecDepth 100000 in
theorem me_X11_exchange : pm_me 182 = (yX11_exchange, cX11_exchange, 3, (some .int), 2, 0) := rfl
theorem mt_X11_exchange {l : Launch} {g : pm_G} {d mc ms : Nat} {as : List Value} {A : pm_H} {Q : Option Value → pm_H → Prop} (hca : pm_cat 3 as = true) (body : ∀ J : pm_J, pm_Cl l g (fun _ => none) d mc ms (pm_Rq mc ms Q) bk_X11_exchange J → J 0 (pm_l0 3 as) [] A 0 0) : pm_Mt l g 182 d mc ms as A Q := pm_Mt_of (isI := false) 11 bk_X11_exchange me_X11_exchange (plainFor_of_name (by decide +kernel)) (by decide +kernel) (fun h => by cases h) ok_X11_exchange hca body
def bk_X11_insert : pm_B := [(0, [(.iload_n 1, 1, 1, 0, 0), (.iconst 0, 1, 0, 0, 0), (.aload_n 0, 1, 0, 0, 0), (.getfield 70, 3, 11, 7, 0), (.invokestatic 74, 3, 169, 3, 0), (.ifCond .eq 18, 3, 27, 0, 0), (.iload_n 2, 1, 2, 0, 0), (.invokestatic 122, 3, 170, 1, 0), (.ifCond .eq 11, 3, 27, 0, 0), (.aload_n 0, 1, 0, 0, 0), (.iconst 1, 1, 0, 0, 1), (.invokevirtual 133, 3, 184, 1, 11), (.ifCond .ne 5, 3, 29, 0, 0)], 27),
  (27, [(.iconst (-1), 1, 0, 0, -1), (.ireturn, 1, 0, 0, 0)], 29),
  (29, [(.aload_n 0, 1, 0, 0, 0), (.invokevirtual 112, 3, 172, 0, 11), (.aload_n 0, 1, 0, 0, 0), (.iconst 0, 1, 0, 0, 0), (.iload_n 1, 1, 1, 0, 0), (.invokevirtual 136, 3, 185, 2, 11), (.aload_n 0, 1, 0, 0, 0), (.iload_n 2, 1, 2, 0, 0), (.invokevirtual 139, 3, 186, 1, 11), (.aload_n 0, 1, 0, 0, 0), (.iload_n 1, 1, 1, 0, 0), (.aload_n 0, 1, 0, 0, 0), (.getfield 70, 3, 11, 7, 0), (.invokevirtual 136, 3, 185, 2, 11), (.aload_n 0, 1, 0, 0, 0), (.invokevirtual 115, 3, 176, 0, 11), (.ireturn, 1, 0, 0, 0)], 58)]
set_option maxRecDepth 100000 in
theorem ok_X11_insert : pm_oks 11 false 3 (some .int) cX11_insert bk_X11_insert = true := oksF_ok (by decide +kernel)
set_option maxRecDepth 100000 in
theorem me_X11_insert : pm_me 183 = (yX11_insert, cX11_insert, 3, (some .int), 2, 0) := rfl
theorem mt_X11_insert {l : Launch} {g : pm_G} {d mc ms : Nat} {as : List Value} {A : pm_H} {Q : Option Value → pm_H → Prop} (hca : pm_cat 3 as = true) (body : ∀ J : pm_J, pm_Cl l g (fun _ => none) d mc ms (pm_Rq mc ms Q) bk_X11_insert J → J 0 (pm_l0 3 as) [] A 0 0) : pm_Mt l g 183 d mc ms as A Q := pm_Mt_of (isI := false) 11 bk_X11_insert me_X11_insert (plainFor_of_name (by decide +kernel)) (by decide +kernel) (fun h => by cases h) ok_X11_insert hca body
def bk_X11_hasRoom : pm_B := [(0, [(.aload_n 0, 1, 0, 0, 0), (.getfield 70, 3, 11, 7, 0), (.iload_n 1, 1, 1, 0, 0), (.iadd, 1, 0, 0, 0), (.sipush 160, 3, 0, 0, 160), (.if_icmp .gt 19, 3, 28, 0, 0), (.aload_n 0, 1, 0, 0, 0), (.getfield 95, 3, 11, 10, 0), (.iload_n 1, 1, 1, 0, 0), (.iadd, 1, 0, 0, 0), (.sipush 10000, 3, 0, 0, 10000), (.if_icmp .gt 7, 3, 28, 0, 0), (.iconst 1, 1, 0, 0, 1), (.goto 4, 3, 29, 0, 0)], 28),
  (28, [(.iconst 0, 1, 0, 0, 0)], 29),
  (29, [(.ireturn, 1, 1, 0, 0)], 30)]
set_option maxRecDepth 100000 in
theorem ok_X11_hasRoom : pm_oks 11 false 2 (some .boolean) cX11_hasRoom bk_X11_hasRoom = true := oksF_ok (by decide +kernel)
set_option maxRecDepth 100000 in
theorem me_X11_hasRoom : pm_me 184 = (yX11_hasRoom, cX11_hasRoom, 2, (some .boolean), 1, 0) := rfl
theorem mt_X11_hasRoom {l : Launch} {g : pm_G} {d mc ms : Nat} {as : List Value} {A : pm_H} {Q : Option Value → pm_H → Prop} (hca : pm_cat 2 as = true) (body : ∀ J : pm_J, pm_Cl l g (fun _ => none) d mc ms (pm_Rq mc ms Q) bk_X11_hasRoom J → J 0 (pm_l0 2 as) [] A 0 0) : pm_Mt l g 184 d mc ms as A Q := pm_Mt_of (isI := false) 11 bk_X11_hasRoom me_X11_hasRoom (plainFor_of_name (by decide +kernel)) (by decide +kernel) (fun h => by cases h) ok_X11_hasRoom hca body
def bk_X11_laysFrom : pm_B := [(0, [(.iload_n 1, 1, 1, 0, 0), (.istore_n 3, 1, 3, 0, 0)], 2),
  (2, [(.iload_n 3, 1, 3, 0, 0), (.iload_n 2, 1, 2, 0, 0), (.if_icmp .ge 25, 3, 29, 0, 0), (.aload_n 0, 1, 0, 0, 0), (.aload_n 0, 1, 0, 0, 0), (.getfield 7, 3, 11, 0, 0), (.iload_n 3, 1, 3, 0, 0), (.iaload, 1, 0, 0, 0), (.aload_n 0, 1, 0, 0, 0), (.getfield 13, 3, 11, 1, 0), (.iload_n 3, 1, 3, 0, 0), (.iaload, 1, 0, 0, 0), (.invokevirtual 91, 3, 175, 2, 11), (.iinc 3 1, 3, 3, 0, 1), (.goto (-24), 3, 2, 0, 0)], 29),
  (29, [(.return_, 1, 0, 0, 0)], 30)]
set_option maxRecDepth 100000 in
theorem ok_X11_laysFrom : pm_oks 11 false 4 none cX11_laysFrom bk_X11_laysFrom = true := oksF_ok (by decide +kernel)
set_option maxRecDepth 100000 in
theorem me_X11_laysFrom : pm_me 185 = (yX11_laysFrom, cX11_laysFrom, 4, none, 2, 0) := rfl
theorem mt_X11_laysFrom {l : Launch} {g : pm_G} {d mc ms : Nat} {as : List Value} {A : pm_H} {Q : Option Value → pm_H → Prop} (hca : pm_cat 4 as = true) (body : ∀ J : pm_J, pm_Cl l g (fun _ => none) d mc ms (pm_Rq mc ms Q) bk_X11_laysFrom J → J 0 (pm_l0 4 as) [] A 0 0) : pm_Mt l g 185 d mc ms as A Q := pm_Mt_of (isI := false) 11 bk_X11_laysFrom me_X11_laysFrom (plainFor_of_name (by decide +kernel)) (by decide +kernel) (fun h => by cases h) ok_X11_laysFrom hca body
def bk_X11_laysNew : pm_B := [(0, [(.aload_n 0, 1, 0, 0, 0), (.iload_n 1, 1, 1, 0, 0), (.aload_n 0, 1, 0, 0, 0), (.getfield 95, 3, 11, 10, 0), (.invokevirtual 91, 3, 175, 2, 11), (.aload_n 0, 1, 0, 0, 0), (.dup, 1, 0, 0, 0), (.getfield 95, 3, 11, 10, 0), (.iconst 1, 1, 0, 0, 1), (.iadd, 1, 0, 0, 0), (.putfield 95, 3, 11, 10, 0), (.return_, 1, 0, 0, 0)], 20)]
set_option maxRecDepth 100000 in
theorem ok_X11_laysNew : pm_oks 11 false 2 none cX11_laysNew bk_X11_laysNew = true := oksF_ok (by decide +kernel)
set_option maxRecDepth 100000 in
theorem me_X11_laysNew : pm_me 186 = (yX11_laysNew, cX11_laysNew, 2, none, 1, 0) := rfl
theorem mt_X11_laysNew {l : Launch} {g : pm_G} {d mc ms : Nat} {as : List Value} {A : pm_H} {Q : Option Value → pm_H → Prop} (hca : pm_cat 2 as = true) (body : ∀ J : pm_J, pm_Cl l g (fun _ => none) d mc ms (pm_Rq mc ms Q) bk_X11_laysNew J → J 0 (pm_l0 2 as) [] A 0 0) : pm_Mt l g 186 d mc ms as A Q := pm_Mt_of (isI := false) 11 bk_X11_laysNew me_X11_laysNew (plainFor_of_name (by decide +kernel)) (by decide +kernel) (fun h => by cases h) ok_X11_laysNew hca body
def bk_X11_cut : pm_B := [(0, [(.aload_n 0, 1, 0, 0, 0), (.iload_n 1, 1, 1, 0, 0), (.iload_n 2, 1, 2, 0, 0), (.invokevirtual 129, 3, 180, 2, 11), (.ifCond .ne 5, 3, 11, 0, 0), (.iconst (-1), 1, 0, 0, -1), (.ireturn, 1, 0, 0, 0)], 11),
  (11, [(.aload_n 0, 1, 0, 0, 0), (.invokevirtual 112, 3, 172, 0, 11), (.aload_n 0, 1, 0, 0, 0), (.iconst 0, 1, 0, 0, 0), (.iload_n 1, 1, 1, 0, 0), (.invokevirtual 136, 3, 185, 2, 11), (.aload_n 0, 1, 0, 0, 0), (.iload_n 2, 1, 2, 0, 0), (.iconst 1, 1, 0, 0, 1), (.iadd, 1, 0, 0, 0), (.aload_n 0, 1, 0, 0, 0), (.getfield 70, 3, 11, 7, 0), (.invokevirtual 136, 3, 185, 2, 11), (.aload_n 0, 1, 0, 0, 0), (.invokevirtual 115, 3, 176, 0, 11), (.ireturn, 1, 0, 0, 0)], 37)]
set_option maxRecDepth 100000 in
theorem ok_X11_cut : pm_oks 11 false 3 (some .int) cX11_cut bk_X11_cut = true := oksF_ok (by decide +kernel)
set_option maxRecDepth 100000 in
theorem me_X11_cut : pm_me 187 = (yX11_cut, cX11_cut, 3, (some .int), 2, 0) := rfl
