
def bk_X11_fair : pm_B := [(0, [(.aload_n 0, 1, 0, 0, 0), (.iload_n 1, 1, 1, 0, 0), (.iload_n 2, 1, 2, 0, 0), (.invokevirtual 129, 3, 180, 2, 11), (.ifCond .eq 8, 3, 14, 0, 0), (.iload_n 3, 1, 3, 0, 0), (.iconst 1, 1, 0, 0, 1), (.if_icmp .ge 5, 3, 16, 0, 0)], 14),
  (14, [(.iconst (-1), 1, 0, 0, -1), (.ireturn, 1, 0, 0, 0)], 16),
  (16, [(.iconst 0, 1, 0, 0, 0), (.istore 4, 2, 4, 0, 0), (.iconst 0, 1, 0, 0, 0), (.istore 5, 2, 5, 0, 0)], 22),
  (22, [(.iload 5, 2, 5, 0, 0), (.bipush 24, 2, 0, 0, 24), (.if_icmp .ge 44, 3, 70, 0, 0), (.iload 4, 2, 4, 0, 0), (.aload_n 0, 1, 0, 0, 0), (.iload_n 1, 1, 1, 0, 0), (.iload_n 2, 1, 2, 0, 0), (.iload 5, 2, 5, 0, 0), (.invokevirtual 148, 3, 200, 3, 11), (.i2l, 1, 0, 0, 0), (.iload_n 3, 1, 3, 0, 0), (.i2l, 1, 0, 0, 0), (.lmul, 1, 0, 0, 0), (.iload_n 2, 1, 2, 0, 0), (.iload_n 1, 1, 1, 0, 0), (.isub, 1, 0, 0, 0), (.iconst 1, 1, 0, 0, 1), (.iadd, 1, 0, 0, 0), (.i2l, 1, 0, 0, 0), (.lcmp, 1, 0, 0, 0), (.ifCond .le 10, 3, 60, 0, 0), (.iconst 1, 1, 0, 0, 1), (.iload 5, 2, 5, 0, 0), (.ishl, 1, 0, 0, 0), (.goto 4, 3, 61, 0, 0)], 60),
  (60, [(.iconst 0, 1, 0, 0, 0)], 61),
  (61, [(.ior, 1, 0, 0, 0), (.istore 4, 2, 4, 0, 0), (.iinc 5 1, 3, 5, 0, 1), (.goto (-45), 3, 22, 0, 0)], 70),
  (70, [(.iload 4, 2, 4, 0, 0), (.ireturn, 1, 0, 0, 0)], 73)]
set_option maxRecDepth 100000 in
theorem ok_X11_fair : pm_oks 11 false 6 (some .int) cX11_fair bk_X11_fair = true := oksF_ok (by decide +kernel)
set_option maxRecDepth 100000 in
theorem me_X11_fair : pm_me 243 = (yX11_fair, cX11_fair, 6, (some .int), 3, 0) := rfl
theorem mt_X11_fair {l : Launch} {g : pm_G} {d mc ms : Nat} {as : List Value} {A : pm_H} {Q : Option Value → pm_H → Prop} (hca : pm_cat 6 as = true) (body : ∀ J : pm_J, pm_Cl l g (fun _ => none) d mc ms (pm_Rq mc ms Q) bk_X11_fair J → J 0 (pm_l0 6 as) [] A 0 0) : pm_Mt l g 243 d mc ms as A Q := pm_Mt_of (isI := false) 11 bk_X11_fair me_X11_fair (plainFor_of_name (by decide +kernel)) (by decide +kernel) (fun h => by cases h) ok_X11_fair hca body

