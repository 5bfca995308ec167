
set_option maxRecDepth 100000 in
theorem ok_X11_solve : pm_oks 11 false 7 (some .int) cX11_solve bk_X11_solve = true := oksF_ok (by decide +kernel)
set_option maxRecDepth 100000 in
theorem me_X11_solve : pm_me 278 = (yX11_solve, cX11_solve, 7, (some .int), 0, 0) := rfl
theorem mt_X11_solve {l : Launch} {g : pm_G} {d mc ms : Nat} {as : List Value} {A : pm_H} {Q : Option Value → pm_H → Prop} (hca : pm_cat 7 as = true) (body : ∀ J : pm_J, pm_Cl l g (fun _ => none) d mc ms (pm_Rq mc ms Q) bk_X11_solve J → J 0 (pm_l0 7 as) [] A 0 0) : pm_Mt l g 278 d mc ms as A Q := pm_Mt_of (isI := false) 11 bk_X11_solve me_X11_solve (plainFor_of_name (by decide +kernel)) (by decide +kernel) (fun h => by cases h) ok_X11_solve hca body
def bk_X11_placeBy : pm_B := [(0, [(.iload_n 1, 1, 1, 0, 0), (.iconst (-1), 1, 0, 0, -1), (.if_icmp .ne 11, 3, 13, 0, 0), (.aload_n 0, 1, 0, 0, 0), (.iload_n 2, 1, 2, 0, 0), (.invokevirtual 145, 3, 198, 1, 11), (.goto 21, 3, 31, 0, 0)], 13),
  (13, [(.aload_n 0, 1, 0, 0, 0), (.iload_n 1, 1, 1, 0, 0), (.invokevirtual 197, 3, 227, 1, 11), (.ifCond .eq 12, 3, 30, 0, 0), (.aload_n 0, 1, 0, 0, 0), (.iload_n 1, 1, 1, 0, 0), (.iload_n 2, 1, 2, 0, 0), (.invokevirtual 212, 3, 236, 2, 11), (.goto 4, 3, 31, 0, 0)], 30),
  (30, [(.iconst (-1), 1, 0, 0, -1)], 31),
  (31, [(.ireturn, 1, 0, 0, 0)], 32)]
set_option maxRecDepth 100000 in
theorem ok_X11_placeBy : pm_oks 11 false 3 (some .int) cX11_placeBy bk_X11_placeBy = true := oksF_ok (by decide +kernel)
set_option maxRecDepth 100000 in
theorem me_X11_placeBy : pm_me 279 = (yX11_placeBy, cX11_placeBy, 3, (some .int), 2, 0) := rfl
theorem mt_X11_placeBy {l : Launch} {g : pm_G} {d mc ms : Nat} {as : List Value} {A : pm_H} {Q : Option Value → pm_H → Prop} (hca : pm_cat 3 as = true) (body : ∀ J : pm_J, pm_Cl l g (fun _ => none) d mc ms (pm_Rq mc ms Q) bk_X11_placeBy J → J 0 (pm_l0 3 as) [] A 0 0) : pm_Mt l g 279 d mc ms as A Q := pm_Mt_of (isI := false) 11 bk_X11_placeBy me_X11_placeBy (plainFor_of_name (by decide +kernel)) (by decide +kernel) (fun h => by cases h) ok_X11_placeBy hca body
def bk_X11_setBy : pm_B := [(0, [(.iload_n 1, 1, 1, 0, 0), (.iconst (-1), 1, 0, 0, -1), (.if_icmp .ne 12, 3, 14, 0, 0), (.aload_n 0, 1, 0, 0, 0), (.iload_n 2, 1, 2, 0, 0), (.iload_n 3, 1, 3, 0, 0), (.invokevirtual 161, 3, 206, 2, 11), (.goto 10, 3, 21, 0, 0)], 14),
  (14, [(.aload_n 0, 1, 0, 0, 0), (.iload_n 1, 1, 1, 0, 0), (.iload_n 2, 1, 2, 0, 0), (.iload_n 3, 1, 3, 0, 0), (.invokevirtual 203, 3, 232, 3, 11)], 21),
  (21, [(.ireturn, 1, 0, 0, 0)], 22)]
set_option maxRecDepth 100000 in
theorem ok_X11_setBy : pm_oks 11 false 4 (some .int) cX11_setBy bk_X11_setBy = true := oksF_ok (by decide +kernel)
set_option maxRecDepth 100000 in
theorem me_X11_setBy : pm_me 280 = (yX11_setBy, cX11_setBy, 4, (some .int), 3, 0) := rfl
theorem mt_X11_setBy {l : Launch} {g : pm_G} {d mc ms : Nat} {as : List Value} {A : pm_H} {Q : Option Value → pm_H → Prop} (hca : pm_cat 4 as = true) (body : ∀ J : pm_J, pm_Cl l g (fun _ => none) d mc ms (pm_Rq mc ms Q) bk_X11_setBy J → J 0 (pm_l0 4 as) [] A 0 0) : pm_Mt l g 280 d mc ms as A Q := pm_Mt_of (isI := false) 11 bk_X11_setBy me_X11_setBy (plainFor_of_name (by decide +kernel)) (by decide +kernel) (fun h => by cases h) ok_X11_setBy hca body
def bk_X11_asked : pm_B := [(0, [(.iload_n 1, 1, 1, 0, 0), (.iconst 0, 1, 0, 0, 0), (.aload_n 0, 1, 0, 0, 0), (.getfield 168, 3, 11, 17, 0), (.iconst 1, 1, 0, 0, 1), (.isub, 1, 0, 0, 0), (.invokestatic 74, 3, 169, 3, 0), (.ifCond .ne 5, 3, 16, 0, 0), (.iconst (-1), 1, 0, 0, -1), (.ireturn, 1, 0, 0, 0)], 16),
  (16, [(.iload_n 2, 1, 2, 0, 0), (.tableswitch 70 0 4 #[35, 42, 49, 56, 63], 35, 17, 0, 0)], 52),
  (52, [(.aload_n 0, 1, 0, 0, 0), (.getfield 37, 3, 11, 15, 0), (.iload_n 1, 1, 1, 0, 0), (.iaload, 1, 0, 0, 0), (.ireturn, 1, 0, 0, 0)], 59),
  (59, [(.aload_n 0, 1, 0, 0, 0), (.getfield 40, 3, 11, 16, 0), (.iload_n 1, 1, 1, 0, 0), (.iaload, 1, 0, 0, 0), (.ireturn, 1, 0, 0, 0)], 66),
  (66, [(.aload_n 0, 1, 0, 0, 0), (.getfield 31, 3, 11, 13, 0), (.iload_n 1, 1, 1, 0, 0), (.iaload, 1, 0, 0, 0), (.ireturn, 1, 0, 0, 0)], 73),
  (73, [(.aload_n 0, 1, 0, 0, 0), (.getfield 34, 3, 11, 14, 0), (.iload_n 1, 1, 1, 0, 0), (.iaload, 1, 0, 0, 0), (.ireturn, 1, 0, 0, 0)], 80),
  (80, [(.aload_n 0, 1, 0, 0, 0), (.getfield 43, 3, 11, 18, 0), (.iload_n 1, 1, 1, 0, 0), (.iaload, 1, 0, 0, 0), (.ireturn, 1, 0, 0, 0)], 87),
  (87, [(.iconst (-1), 1, 0, 0, -1), (.ireturn, 1, 0, 0, 0)], 89)]
set_option maxRecDepth 100000 in
theorem ok_X11_asked : pm_oks 11 false 3 (some .int) cX11_asked bk_X11_asked = true := oksF_ok (by decide +kernel)
set_option maxRecDepth 100000 in
theorem me_X11_asked : pm_me 281 = (yX11_asked, cX11_asked, 3, (some .int), 2, 0) := rfl
theorem mt_X11_asked {l : Launch} {g : pm_G} {d mc ms : Nat} {as : List Value} {A : pm_H} {Q : Option Value → pm_H → Prop} (hca : pm_cat 3 as = true) (body : ∀ J : pm_J, pm_Cl l g (fun _ => none) d mc ms (pm_Rq mc ms Q) bk_X11_asked J → J 0 (pm_l0 3 as) [] A 0 0) : pm_Mt l g 281 d mc ms as A Q := pm_Mt_of (isI := false) 11 bk_X11_asked me_X11_asked (plainFor_of_name (by decide +kernel)) (by decide +kernel) (fun h => by cases h) ok_X11_asked hca body
def bk_X11_forget : pm_B := [(0, [(.aload_n 0, 1, 0, 0, 0), (.getfield 168, 3, 11, 17, 0), (.istore_n 1, 1, 1, 0, 0), (.aload_n 0, 1, 0, 0, 0), (.iconst 0, 1, 0, 0, 0), (.putfield 168, 3, 11, 17, 0), (.iload_n 1, 1, 1, 0, 0), (.ireturn, 1, 0, 0, 0)], 12)]
set_option maxRecDepth 100000 in
theorem ok_X11_forget : pm_oks 11 false 2 (some .int) cX11_forget bk_X11_forget = true := oksF_ok (by decide +kernel)
set_option maxRecDepth 100000 in
theorem me_X11_forget : pm_me 282 = (yX11_forget, cX11_forget, 2, (some .int), 0, 0) := rfl
theorem mt_X11_forget {l : Launch} {g : pm_G} {d mc ms : Nat} {as : List Value} {A : pm_H} {Q : Option Value → pm_H → Prop} (hca : pm_cat 2 as = true) (body : ∀ J : pm_J, pm_Cl l g (fun _ => none) d mc ms (pm_Rq mc ms Q) bk_X11_forget J → J 0 (pm_l0 2 as) [] A 0 0) : pm_Mt l g 282 d mc ms as A Q := pm_Mt_of (isI := false) 11 bk_X11_forget me_X11_forget (plainFor_of_name (by decide +kernel)) (by decide +kernel) (fun h => by cases h) ok_X11_forget hca body

