
set_option maxRecDepth 100000 in
theorem ok_X11_init : pm_oks 11 true 2 none cX11_init bk_X11_init = true := oksF_ok (by decide +kernel)
set_option maxRecDepth 100000 in
theorem me_X11_init : pm_me 166 = (yX11_init, cX11_init, 2, none, 0, 2) := rfl
theorem mt_X11_init {l : Launch} {g : pm_G} {d mc ms : Nat} {as : List Value} {A : pm_H} {Q : Option Value → pm_H → Prop} (hca : pm_cat 2 as = true) (body : ∀ J : pm_J, pm_Cl l g (fun _ => none) d mc ms (pm_Rq mc ms Q) bk_X11_init J → J 0 (pm_l0 2 as) [] A 0 0) : pm_Mt l g 166 d mc ms as A Q := pm_Mt_of (isI := true) 11 bk_X11_init me_X11_init (plainFor_of_name (by decide +kernel)) (by decide +kernel) (fun _ => by decide +kernel) ok_X11_init hca body
def bk_X11_put : pm_B := [(0, [(.aload_n 0, 1, 0, 0, 0), (.iload_n 1, 1, 1, 0, 0), (.invokevirtual 119, 3, 168, 1, 11), (.ifCond .eq 22, 3, 27, 0, 0), (.iload_n 2, 1, 2, 0, 0), (.invokestatic 122, 3, 170, 1, 0), (.ifCond .eq 15, 3, 27, 0, 0), (.aload_n 0, 1, 0, 0, 0), (.iload_n 1, 1, 1, 0, 0), (.iload_n 1, 1, 1, 0, 0), (.iconst (-1), 1, 0, 0, -1), (.iload_n 2, 1, 2, 0, 0), (.iconst 0, 1, 0, 0, 0), (.invokevirtual 125, 3, 171, 5, 11), (.goto 4, 3, 28, 0, 0)], 27),
  (27, [(.iconst (-1), 1, 0, 0, -1)], 28),
  (28, [(.ireturn, 1, 0, 0, 0)], 29)]
set_option maxRecDepth 100000 in
theorem ok_X11_put : pm_oks 11 false 3 (some .int) cX11_put bk_X11_put = true := oksF_ok (by decide +kernel)
set_option maxRecDepth 100000 in
theorem me_X11_put : pm_me 167 = (yX11_put, cX11_put, 3, (some .int), 2, 0) := rfl
theorem mt_X11_put {l : Launch} {g : pm_G} {d mc ms : Nat} {as : List Value} {A : pm_H} {Q : Option Value → pm_H → Prop} (hca : pm_cat 3 as = true) (body : ∀ J : pm_J, pm_Cl l g (fun _ => none) d mc ms (pm_Rq mc ms Q) bk_X11_put J → J 0 (pm_l0 3 as) [] A 0 0) : pm_Mt l g 167 d mc ms as A Q := pm_Mt_of (isI := false) 11 bk_X11_put me_X11_put (plainFor_of_name (by decide +kernel)) (by decide +kernel) (fun h => by cases h) ok_X11_put hca body
def bk_X11_isPlace : pm_B := [(0, [(.iload_n 1, 1, 1, 0, 0), (.iconst 0, 1, 0, 0, 0), (.aload_n 0, 1, 0, 0, 0), (.getfield 70, 3, 11, 7, 0), (.iconst 1, 1, 0, 0, 1), (.isub, 1, 0, 0, 0), (.invokestatic 74, 3, 169, 3, 0), (.ireturn, 1, 1, 0, 0)], 12)]
set_option maxRecDepth 100000 in
theorem ok_X11_isPlace : pm_oks 11 false 2 (some .boolean) cX11_isPlace bk_X11_isPlace = true := oksF_ok (by decide +kernel)
set_option maxRecDepth 100000 in
theorem me_X11_isPlace : pm_me 168 = (yX11_isPlace, cX11_isPlace, 2, (some .boolean), 1, 0) := rfl
theorem mt_X11_isPlace {l : Launch} {g : pm_G} {d mc ms : Nat} {as : List Value} {A : pm_H} {Q : Option Value → pm_H → Prop} (hca : pm_cat 2 as = true) (body : ∀ J : pm_J, pm_Cl l g (fun _ => none) d mc ms (pm_Rq mc ms Q) bk_X11_isPlace J → J 0 (pm_l0 2 as) [] A 0 0) : pm_Mt l g 168 d mc ms as A Q := pm_Mt_of (isI := false) 11 bk_X11_isPlace me_X11_isPlace (plainFor_of_name (by decide +kernel)) (by decide +kernel) (fun h => by cases h) ok_X11_isPlace hca body
def bk_X11_isIn : pm_B := [(0, [(.iload_n 0, 1, 0, 0, 0), (.iload_n 1, 1, 1, 0, 0), (.if_icmp .lt 12, 3, 14, 0, 0), (.iload_n 0, 1, 0, 0, 0), (.iload_n 2, 1, 2, 0, 0), (.if_icmp .gt 7, 3, 14, 0, 0), (.iconst 1, 1, 0, 0, 1), (.goto 4, 3, 15, 0, 0)], 14),
  (14, [(.iconst 0, 1, 0, 0, 0)], 15),
  (15, [(.ireturn, 1, 1, 0, 0)], 16)]
set_option maxRecDepth 100000 in
theorem ok_X11_isIn : pm_oks 11 false 3 (some .boolean) cX11_isIn bk_X11_isIn = true := oksF_ok (by decide +kernel)
set_option maxRecDepth 100000 in
theorem me_X11_isIn : pm_me 169 = (yX11_isIn, cX11_isIn, 3, (some .boolean), 3, 1) := rfl
theorem mt_X11_isIn {l : Launch} {g : pm_G} {d mc ms : Nat} {as : List Value} {A : pm_H} {Q : Option Value → pm_H → Prop} (hca : pm_cat 3 as = true) (body : ∀ J : pm_J, pm_Cl l g (fun _ => none) d mc ms (pm_Rq mc ms Q) bk_X11_isIn J → J 0 (pm_l0 3 as) [] A 0 0) : pm_Mt l g 169 d mc ms as A Q := pm_Mt_of (isI := false) 11 bk_X11_isIn me_X11_isIn (plainFor_of_name (by decide +kernel)) (by decide +kernel) (fun h => by cases h) ok_X11_isIn hca body
def bk_X11_isColour : pm_B := [(0, [(.iload_n 0, 1, 0, 0, 0), (.iconst 0, 1, 0, 0, 0), (.bipush 23, 2, 0, 0, 23), (.invokestatic 74, 3, 169, 3, 0), (.ireturn, 1, 1, 0, 0)], 8)]
set_option maxRecDepth 100000 in
theorem ok_X11_isColour : pm_oks 11 false 1 (some .boolean) cX11_isColour bk_X11_isColour = true := oksF_ok (by decide +kernel)
set_option maxRecDepth 100000 in
theorem me_X11_isColour : pm_me 170 = (yX11_isColour, cX11_isColour, 1, (some .boolean), 1, 1) := rfl
theorem mt_X11_isColour {l : Launch} {g : pm_G} {d mc ms : Nat} {as : List Value} {A : pm_H} {Q : Option Value → pm_H → Prop} (hca : pm_cat 1 as = true) (body : ∀ J : pm_J, pm_Cl l g (fun _ => none) d mc ms (pm_Rq mc ms Q) bk_X11_isColour J → J 0 (pm_l0 1 as) [] A 0 0) : pm_Mt l g 170 d mc ms as A Q := pm_Mt_of (isI := false) 11 bk_X11_isColour me_X11_isColour (plainFor_of_name (by decide +kernel)) (by decide +kernel) (fun h => by cases h) ok_X11_isColour hca body
def bk_X11_recolours : pm_B := [(0, [(.aload_n 0, 1, 0, 0, 0), (.invokevirtual 112, 3, 172, 0, 11), (.iconst 0, 1, 0, 0, 0), (.istore 6, 2, 6, 0, 0)], 7),
  (7, [(.iload 6, 2, 6, 0, 0), (.aload_n 0, 1, 0, 0, 0), (.getfield 70, 3, 11, 7, 0), (.if_icmp .ge 86, 3, 99, 0, 0), (.aload_n 0, 1, 0, 0, 0), (.getfield 7, 3, 11, 0, 0), (.iload 6, 2, 6, 0, 0), (.iaload, 1, 0, 0, 0), (.istore 7, 2, 7, 0, 0), (.iload 6, 2, 6, 0, 0), (.iload_n 1, 1, 1, 0, 0), (.iload_n 2, 1, 2, 0, 0), (.invokestatic 74, 3, 169, 3, 0), (.istore 8, 2, 8, 0, 0), (.iload 8, 2, 8, 0, 0), (.ifCond .ne 8, 3, 44, 0, 0), (.iload 7, 2, 7, 0, 0), (.goto 37, 3, 78, 0, 0)], 44),
  (44, [(.iload_n 3, 1, 3, 0, 0), (.iconst (-1), 1, 0, 0, -1), (.if_icmp .eq 9, 3, 55, 0, 0), (.iload 7, 2, 7, 0, 0), (.iload_n 3, 1, 3, 0, 0), (.if_icmp .ne 8, 3, 60, 0, 0)], 55),
  (55, [(.iload 4, 2, 4, 0, 0), (.goto 21, 3, 78, 0, 0)], 60),
  (60, [(.iload 5, 2, 5, 0, 0), (.ifCond .eq 14, 3, 76, 0, 0), (.iload 7, 2, 7, 0, 0), (.iload 4, 2, 4, 0, 0), (.if_icmp .ne 7, 3, 76, 0, 0), (.iload_n 3, 1, 3, 0, 0), (.goto 5, 3, 78, 0, 0)], 76),
  (76, [(.iload 7, 2, 7, 0, 0)], 78),
  (78, [(.istore 9, 2, 9, 0, 0), (.aload_n 0, 1, 0, 0, 0), (.iload 9, 2, 9, 0, 0), (.aload_n 0, 1, 0, 0, 0), (.getfield 13, 3, 11, 1, 0), (.iload 6, 2, 6, 0, 0), (.iaload, 1, 0, 0, 0), (.invokevirtual 91, 3, 175, 2, 11), (.iinc 6 1, 3, 6, 0, 1), (.goto (-89), 3, 7, 0, 0)], 99),
  (99, [(.aload_n 0, 1, 0, 0, 0), (.invokevirtual 115, 3, 176, 0, 11), (.ireturn, 1, 0, 0, 0)], 104)]
set_option maxRecDepth 100000 in
theorem ok_X11_recolours : pm_oks 11 false 10 (some .int) cX11_recolours bk_X11_recolours = true := oksF_ok (by decide +kernel)
set_option maxRecDepth 100000 in
theorem me_X11_recolours : pm_me 171 = (yX11_recolours, cX11_recolours, 10, (some .int), 5, 0) := rfl
theorem mt_X11_recolours {l : Launch} {g : pm_G} {d mc ms : Nat} {as : List Value} {A : pm_H} {Q : Option Value → pm_H → Prop} (hca : pm_cat 10 as = true) (body : ∀ J : pm_J, pm_Cl l g (fun _ => none) d mc ms (pm_Rq mc ms Q) bk_X11_recolours J → J 0 (pm_l0 10 as) [] A 0 0) : pm_Mt l g 171 d mc ms as A Q := pm_Mt_of (isI := false) 11 bk_X11_recolours me_X11_recolours (plainFor_of_name (by decide +kernel)) (by decide +kernel) (fun h => by cases h) ok_X11_recolours hca body
