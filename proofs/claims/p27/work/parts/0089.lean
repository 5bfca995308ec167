
theorem mt_X11_reported {l : Launch} {g : pm_G} {d mc ms : Nat} {as : List Value} {A : pm_H} {Q : Option Value → pm_H → Prop} (hca : pm_cat 9 as = true) (body : ∀ J : pm_J, pm_Cl l g (fun _ => none) d mc ms (pm_Rq mc ms Q) bk_X11_reported J → J 0 (pm_l0 9 as) [] A 0 0) : pm_Mt l g 218 d mc ms as A Q := pm_Mt_of (isI := false) 11 bk_X11_reported me_X11_reported (plainFor_of_name (by decide +kernel)) (by decide +kernel) (fun h => by cases h) ok_X11_reported hca body
def bk_X11_reportKey : pm_B := [(0, [(.aload_n 0, 1, 0, 0, 0), (.iload_n 1, 1, 1, 0, 0), (.invokevirtual 78, 3, 174, 1, 11), (.ifCond .ge 11, 3, 16, 0, 0), (.iload_n 1, 1, 1, 0, 0), (.sipush 160, 3, 0, 0, 160), (.isub, 1, 0, 0, 0), (.goto 8, 3, 21, 0, 0)], 16),
  (16, [(.aload_n 0, 1, 0, 0, 0), (.iload_n 1, 1, 1, 0, 0), (.invokevirtual 78, 3, 174, 1, 11)], 21),
  (21, [(.ireturn, 1, 0, 0, 0)], 22)]
set_option maxRecDepth 100000 in
theorem ok_X11_reportKey : pm_oks 11 false 2 (some .int) cX11_reportKey bk_X11_reportKey = true := oksF_ok (by decide +kernel)
set_option maxRecDepth 100000 in
theorem me_X11_reportKey : pm_me 219 = (yX11_reportKey, cX11_reportKey, 2, (some .int), 1, 0) := rfl
theorem mt_X11_reportKey {l : Launch} {g : pm_G} {d mc ms : Nat} {as : List Value} {A : pm_H} {Q : Option Value → pm_H → Prop} (hca : pm_cat 2 as = true) (body : ∀ J : pm_J, pm_Cl l g (fun _ => none) d mc ms (pm_Rq mc ms Q) bk_X11_reportKey J → J 0 (pm_l0 2 as) [] A 0 0) : pm_Mt l g 219 d mc ms as A Q := pm_Mt_of (isI := false) 11 bk_X11_reportKey me_X11_reportKey (plainFor_of_name (by decide +kernel)) (by decide +kernel) (fun h => by cases h) ok_X11_reportKey hca body
def bk_X11_kth : pm_B := [(0, [(.aload_n 0, 1, 0, 0, 0), (.iload_n 1, 1, 1, 0, 0), (.iload_n 2, 1, 2, 0, 0), (.invokevirtual 129, 3, 180, 2, 11), (.ifCond .eq 13, 3, 19, 0, 0), (.iload 4, 2, 4, 0, 0), (.iconst 0, 1, 0, 0, 0), (.iconst 4, 1, 0, 0, 4), (.invokestatic 74, 3, 169, 3, 0), (.ifCond .ne 5, 3, 21, 0, 0)], 19),
  (19, [(.iconst (-1), 1, 0, 0, -1), (.ireturn, 1, 0, 0, 0)], 21),
  (21, [(.aload_n 0, 1, 0, 0, 0), (.iload_n 1, 1, 1, 0, 0), (.iload_n 2, 1, 2, 0, 0), (.iload 4, 2, 4, 0, 0), (.invokevirtual 188, 3, 221, 3, 11), (.istore 5, 2, 5, 0, 0), (.iload_n 3, 1, 3, 0, 0), (.iconst 0, 1, 0, 0, 0), (.iload 5, 2, 5, 0, 0), (.iconst 1, 1, 0, 0, 1), (.isub, 1, 0, 0, 0), (.invokestatic 74, 3, 169, 3, 0), (.ifCond .eq 12, 3, 52, 0, 0), (.aload_n 0, 1, 0, 0, 0), (.getfield 58, 3, 11, 23, 0), (.iload_n 3, 1, 3, 0, 0), (.iaload, 1, 0, 0, 0), (.goto 4, 3, 53, 0, 0)], 52),
  (52, [(.iconst (-1), 1, 0, 0, -1)], 53),
  (53, [(.ireturn, 1, 0, 0, 0)], 54)]
set_option maxRecDepth 100000 in
theorem ok_X11_kth : pm_oks 11 false 6 (some .int) cX11_kth bk_X11_kth = true := oksF_ok (by decide +kernel)
set_option maxRecDepth 100000 in
theorem me_X11_kth : pm_me 220 = (yX11_kth, cX11_kth, 6, (some .int), 4, 0) := rfl
theorem mt_X11_kth {l : Launch} {g : pm_G} {d mc ms : Nat} {as : List Value} {A : pm_H} {Q : Option Value → pm_H → Prop} (hca : pm_cat 6 as = true) (body : ∀ J : pm_J, pm_Cl l g (fun _ => none) d mc ms (pm_Rq mc ms Q) bk_X11_kth J → J 0 (pm_l0 6 as) [] A 0 0) : pm_Mt l g 220 d mc ms as A Q := pm_Mt_of (isI := false) 11 bk_X11_kth me_X11_kth (plainFor_of_name (by decide +kernel)) (by decide +kernel) (fun h => by cases h) ok_X11_kth hca body

