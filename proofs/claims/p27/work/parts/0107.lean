
def bk_X11_askOf : pm_B := [(0, [(.aload_n 0, 1, 0, 0, 0), (.getfield 168, 3, 11, 17, 0), (.bipush 30, 2, 0, 0, 30), (.if_icmp .eq 37, 3, 43, 0, 0), (.aload_n 0, 1, 0, 0, 0), (.iload_n 1, 1, 1, 0, 0), (.invokevirtual 197, 3, 227, 1, 11), (.ifCond .eq 29, 3, 43, 0, 0), (.iload_n 2, 1, 2, 0, 0), (.ifCond .lt 25, 3, 43, 0, 0), (.iload_n 3, 1, 3, 0, 0), (.ifCond .lt 21, 3, 43, 0, 0), (.aload_n 0, 1, 0, 0, 0), (.iload_n 1, 1, 1, 0, 0), (.iload_n 2, 1, 2, 0, 0), (.invokevirtual 212, 3, 236, 2, 11), (.ifCond .lt 12, 3, 43, 0, 0), (.aload_n 0, 1, 0, 0, 0), (.iload_n 1, 1, 1, 0, 0), (.iload_n 3, 1, 3, 0, 0), (.invokevirtual 212, 3, 236, 2, 11), (.ifCond .ge 5, 3, 45, 0, 0)], 43),
  (43, [(.iconst (-1), 1, 0, 0, -1), (.ireturn, 1, 0, 0, 0)], 45),
  (45, [(.aload_n 0, 1, 0, 0, 0), (.iload_n 1, 1, 1, 0, 0), (.iload_n 2, 1, 2, 0, 0), (.iload_n 3, 1, 3, 0, 0), (.invokevirtual 258, 3, 276, 3, 11), (.ireturn, 1, 0, 0, 0)], 53)]
set_option maxRecDepth 100000 in
theorem ok_X11_askOf : pm_oks 11 false 4 (some .int) cX11_askOf bk_X11_askOf = true := oksF_ok (by decide +kernel)
set_option maxRecDepth 100000 in
theorem me_X11_askOf : pm_me 277 = (yX11_askOf, cX11_askOf, 4, (some .int), 3, 0) := rfl
theorem mt_X11_askOf {l : Launch} {g : pm_G} {d mc ms : Nat} {as : List Value} {A : pm_H} {Q : Option Value → pm_H → Prop} (hca : pm_cat 4 as = true) (body : ∀ J : pm_J, pm_Cl l g (fun _ => none) d mc ms (pm_Rq mc ms Q) bk_X11_askOf J → J 0 (pm_l0 4 as) [] A 0 0) : pm_Mt l g 277 d mc ms as A Q := pm_Mt_of (isI := false) 11 bk_X11_askOf me_X11_askOf (plainFor_of_name (by decide +kernel)) (by decide +kernel) (fun h => by cases h) ok_X11_askOf hca body
