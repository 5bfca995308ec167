
set_option maxRecDepth 100000 in
theorem ok_X11_just : pm_oks 11 false 6 (some .int) cX11_just bk_X11_just = true := oksF_ok (by decide +kernel)
set_option maxRecDepth 100000 in
theorem me_X11_just : pm_me 264 = (yX11_just, cX11_just, 6, (some .int), 1, 0) := rfl
theorem mt_X11_just {l : Launch} {g : pm_G} {d mc ms : Nat} {as : List Value} {A : pm_H} {Q : Option Value → pm_H → Prop} (hca : pm_cat 6 as = true) (body : ∀ J : pm_J, pm_Cl l g (fun _ => none) d mc ms (pm_Rq mc ms Q) bk_X11_just J → J 0 (pm_l0 6 as) [] A 0 0) : pm_Mt l g 264 d mc ms as A Q := pm_Mt_of (isI := false) 11 bk_X11_just me_X11_just (plainFor_of_name (by decide +kernel)) (by decide +kernel) (fun h => by cases h) ok_X11_just hca body
def bk_X11_all : pm_B := [(0, [(.lconst 0, 1, 0, 0, 0), (.lstore_n 1, 1, 1, 0, 0), (.iconst 0, 1, 0, 0, 0), (.istore_n 3, 1, 3, 0, 0)], 4),
  (4, [(.iload_n 3, 1, 3, 0, 0), (.aload_n 0, 1, 0, 0, 0), (.getfield 70, 3, 11, 7, 0), (.if_icmp .ge 53, 3, 62, 0, 0), (.iconst 0, 1, 0, 0, 0), (.istore 4, 2, 4, 0, 0), (.iload_n 3, 1, 3, 0, 0), (.istore 5, 2, 5, 0, 0)], 18),
  (18, [(.iload 5, 2, 5, 0, 0), (.aload_n 0, 1, 0, 0, 0), (.getfield 70, 3, 11, 7, 0), (.if_icmp .ge 32, 3, 56, 0, 0), (.iload 4, 2, 4, 0, 0), (.iconst 1, 1, 0, 0, 1), (.aload_n 0, 1, 0, 0, 0), (.getfield 7, 3, 11, 0, 0), (.iload 5, 2, 5, 0, 0), (.iaload, 1, 0, 0, 0), (.ishl, 1, 0, 0, 0), (.ior, 1, 0, 0, 0), (.istore 4, 2, 4, 0, 0), (.lload_n 1, 1, 1, 0, 0), (.iload 4, 2, 4, 0, 0), (.invokestatic 165, 3, 207, 1, 0), (.i2l, 1, 0, 0, 0), (.ladd, 1, 0, 0, 0), (.lstore_n 1, 1, 1, 0, 0), (.iinc 5 1, 3, 5, 0, 1), (.goto (-35), 3, 18, 0, 0)], 56),
  (56, [(.iinc 3 1, 3, 3, 0, 1), (.goto (-55), 3, 4, 0, 0)], 62),
  (62, [(.lload_n 1, 1, 1, 0, 0), (.lreturn, 1, 0, 0, 0)], 64)]
set_option maxRecDepth 100000 in
theorem ok_X11_all : pm_oks 11 false 6 (some .long) cX11_all bk_X11_all = true := oksF_ok (by decide +kernel)
set_option maxRecDepth 100000 in
theorem me_X11_all : pm_me 265 = (yX11_all, cX11_all, 6, (some .long), 0, 0) := rfl
theorem mt_X11_all {l : Launch} {g : pm_G} {d mc ms : Nat} {as : List Value} {A : pm_H} {Q : Option Value → pm_H → Prop} (hca : pm_cat 6 as = true) (body : ∀ J : pm_J, pm_Cl l g (fun _ => none) d mc ms (pm_Rq mc ms Q) bk_X11_all J → J 0 (pm_l0 6 as) [] A 0 0) : pm_Mt l g 265 d mc ms as A Q := pm_Mt_of (isI := false) 11 bk_X11_all me_X11_all (plainFor_of_name (by decide +kernel)) (by decide +kernel) (fun h => by cases h) ok_X11_all hca body

