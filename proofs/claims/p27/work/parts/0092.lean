
def bk_X11_close : pm_B := [(0, [(.aload_n 0, 1, 0, 0, 0), (.iload_n 1, 1, 1, 0, 0), (.iload_n 2, 1, 2, 0, 0), (.invokevirtual 129, 3, 180, 2, 11), (.ifCond .eq 12, 3, 18, 0, 0), (.iload_n 3, 1, 3, 0, 0), (.iconst 0, 1, 0, 0, 0), (.iconst 1, 1, 0, 0, 1), (.invokestatic 74, 3, 169, 3, 0), (.ifCond .ne 5, 3, 20, 0, 0)], 18),
  (18, [(.iconst (-1), 1, 0, 0, -1), (.ireturn, 1, 0, 0, 0)], 20),
  (20, [(.iconst (-1), 1, 0, 0, -1), (.istore 4, 2, 4, 0, 0), (.iload_n 1, 1, 1, 0, 0), (.istore 5, 2, 5, 0, 0)], 26),
  (26, [(.iload 5, 2, 5, 0, 0), (.iload_n 2, 1, 2, 0, 0), (.if_icmp .gt 49, 3, 78, 0, 0), (.aload_n 0, 1, 0, 0, 0), (.iload 5, 2, 5, 0, 0), (.invokevirtual 78, 3, 174, 1, 11), (.iload_n 1, 1, 1, 0, 0), (.if_icmp .lt 33, 3, 72, 0, 0), (.iload 4, 2, 4, 0, 0), (.ifCond .lt 24, 3, 68, 0, 0), (.iload 5, 2, 5, 0, 0), (.aload_n 0, 1, 0, 0, 0), (.iload 5, 2, 5, 0, 0), (.invokevirtual 78, 3, 174, 1, 11), (.isub, 1, 0, 0, 0), (.iload 4, 2, 4, 0, 0), (.aload_n 0, 1, 0, 0, 0), (.iload 4, 2, 4, 0, 0), (.invokevirtual 78, 3, 174, 1, 11), (.isub, 1, 0, 0, 0), (.if_icmp .ge 7, 3, 72, 0, 0)], 68),
  (68, [(.iload 5, 2, 5, 0, 0), (.istore 4, 2, 4, 0, 0)], 72),
  (72, [(.iinc 5 1, 3, 5, 0, 1), (.goto (-49), 3, 26, 0, 0)], 78),
  (78, [(.iload 4, 2, 4, 0, 0), (.ifCond .ge 7, 3, 87, 0, 0), (.iconst (-1), 1, 0, 0, -1), (.goto 25, 3, 109, 0, 0)], 87),
  (87, [(.iload_n 3, 1, 3, 0, 0), (.ifCond .ne 15, 3, 103, 0, 0), (.iload 4, 2, 4, 0, 0), (.aload_n 0, 1, 0, 0, 0), (.iload 4, 2, 4, 0, 0), (.invokevirtual 78, 3, 174, 1, 11), (.isub, 1, 0, 0, 0), (.goto 9, 3, 109, 0, 0)], 103),
  (103, [(.aload_n 0, 1, 0, 0, 0), (.iload 4, 2, 4, 0, 0), (.invokevirtual 78, 3, 174, 1, 11)], 109),
  (109, [(.ireturn, 1, 0, 0, 0)], 110)]
set_option maxRecDepth 100000 in
theorem ok_X11_close : pm_oks 11 false 6 (some .int) cX11_close bk_X11_close = true := oksF_ok (by decide +kernel)
set_option maxRecDepth 100000 in
theorem me_X11_close : pm_me 225 = (yX11_close, cX11_close, 6, (some .int), 3, 0) := rfl
theorem mt_X11_close {l : Launch} {g : pm_G} {d mc ms : Nat} {as : List Value} {A : pm_H} {Q : Option Value → pm_H → Prop} (hca : pm_cat 6 as = true) (body : ∀ J : pm_J, pm_Cl l g (fun _ => none) d mc ms (pm_Rq mc ms Q) bk_X11_close J → J 0 (pm_l0 6 as) [] A 0 0) : pm_Mt l g 225 d mc ms as A Q := pm_Mt_of (isI := false) 11 bk_X11_close me_X11_close (plainFor_of_name (by decide +kernel)) (by decide +kernel) (fun h => by cases h) ok_X11_close hca body
def bk_X11_was : pm_B := [(0, [(.aload_n 0, 1, 0, 0, 0), (.iload_n 1, 1, 1, 0, 0), (.invokevirtual 197, 3, 227, 1, 11), (.ifCond .ne 5, 3, 10, 0, 0), (.iconst (-1), 1, 0, 0, -1), (.ireturn, 1, 0, 0, 0)], 10),
  (10, [(.aload_n 0, 1, 0, 0, 0), (.getfield 52, 3, 11, 21, 0), (.iload_n 1, 1, 1, 0, 0), (.bipush 40, 2, 0, 0, 40), (.irem, 1, 0, 0, 0), (.iaload, 1, 0, 0, 0), (.istore 4, 2, 4, 0, 0), (.iload_n 2, 1, 2, 0, 0), (.iconst (-1), 1, 0, 0, -1), (.if_icmp .ne 6, 3, 29, 0, 0), (.iload 4, 2, 4, 0, 0), (.ireturn, 1, 0, 0, 0)], 29),
  (29, [(.iload_n 2, 1, 2, 0, 0), (.iconst 0, 1, 0, 0, 0), (.iload 4, 2, 4, 0, 0), (.iconst 1, 1, 0, 0, 1), (.isub, 1, 0, 0, 0), (.invokestatic 74, 3, 169, 3, 0), (.ifCond .ne 5, 3, 43, 0, 0), (.iconst (-1), 1, 0, 0, -1), (.ireturn, 1, 0, 0, 0)], 43),
  (43, [(.iload_n 3, 1, 3, 0, 0), (.ifCond .ne 12, 3, 56, 0, 0), (.aload_n 0, 1, 0, 0, 0), (.iload_n 1, 1, 1, 0, 0), (.iload_n 2, 1, 2, 0, 0), (.invokevirtual 191, 3, 228, 2, 11), (.goto 32, 3, 85, 0, 0)], 56),
  (56, [(.iload_n 3, 1, 3, 0, 0), (.iconst 1, 1, 0, 0, 1), (.if_icmp .ne 12, 3, 70, 0, 0), (.aload_n 0, 1, 0, 0, 0), (.iload_n 1, 1, 1, 0, 0), (.iload_n 2, 1, 2, 0, 0), (.invokevirtual 194, 3, 229, 2, 11), (.goto 18, 3, 85, 0, 0)], 70),
  (70, [(.iload_n 3, 1, 3, 0, 0), (.iconst 2, 1, 0, 0, 2), (.if_icmp .ne 12, 3, 84, 0, 0), (.aload_n 0, 1, 0, 0, 0), (.iload_n 1, 1, 1, 0, 0), (.iload_n 2, 1, 2, 0, 0), (.invokevirtual 200, 3, 230, 2, 11), (.goto 4, 3, 85, 0, 0)], 84),
  (84, [(.iconst (-1), 1, 0, 0, -1)], 85),
  (85, [(.ireturn, 1, 0, 0, 0)], 86)]
set_option maxRecDepth 100000 in
theorem ok_X11_was : pm_oks 11 false 5 (some .int) cX11_was bk_X11_was = true := oksF_ok (by decide +kernel)
set_option maxRecDepth 100000 in
theorem me_X11_was : pm_me 226 = (yX11_was, cX11_was, 5, (some .int), 3, 0) := rfl
theorem mt_X11_was {l : Launch} {g : pm_G} {d mc ms : Nat} {as : List Value} {A : pm_H} {Q : Option Value → pm_H → Prop} (hca : pm_cat 5 as = true) (body : ∀ J : pm_J, pm_Cl l g (fun _ => none) d mc ms (pm_Rq mc ms Q) bk_X11_was J → J 0 (pm_l0 5 as) [] A 0 0) : pm_Mt l g 226 d mc ms as A Q := pm_Mt_of (isI := false) 11 bk_X11_was me_X11_was (plainFor_of_name (by decide +kernel)) (by decide +kernel) (fun h => by cases h) ok_X11_was hca body
def bk_X11_isKnown : pm_B := [(0, [(.iload_n 1, 1, 1, 0, 0), (.ifCond .lt 26, 3, 27, 0, 0), (.iload_n 1, 1, 1, 0, 0), (.aload_n 0, 1, 0, 0, 0), (.getfield 102, 3, 11, 11, 0), (.if_icmp .gt 18, 3, 27, 0, 0), (.iload_n 1, 1, 1, 0, 0), (.aload_n 0, 1, 0, 0, 0), (.getfield 102, 3, 11, 11, 0), (.bipush 40, 2, 0, 0, 40), (.isub, 1, 0, 0, 0), (.if_icmp .le 7, 3, 27, 0, 0), (.iconst 1, 1, 0, 0, 1), (.goto 4, 3, 28, 0, 0)], 27),
  (27, [(.iconst 0, 1, 0, 0, 0)], 28),
  (28, [(.ireturn, 1, 1, 0, 0)], 29)]
set_option maxRecDepth 100000 in
theorem ok_X11_isKnown : pm_oks 11 false 2 (some .boolean) cX11_isKnown bk_X11_isKnown = true := oksF_ok (by decide +kernel)
set_option maxRecDepth 100000 in
theorem me_X11_isKnown : pm_me 227 = (yX11_isKnown, cX11_isKnown, 2, (some .boolean), 1, 0) := rfl
theorem mt_X11_isKnown {l : Launch} {g : pm_G} {d mc ms : Nat} {as : List Value} {A : pm_H} {Q : Option Value → pm_H → Prop} (hca : pm_cat 2 as = true) (body : ∀ J : pm_J, pm_Cl l g (fun _ => none) d mc ms (pm_Rq mc ms Q) bk_X11_isKnown J → J 0 (pm_l0 2 as) [] A 0 0) : pm_Mt l g 227 d mc ms as A Q := pm_Mt_of (isI := false) 11 bk_X11_isKnown me_X11_isKnown (plainFor_of_name (by decide +kernel)) (by decide +kernel) (fun h => by cases h) ok_X11_isKnown hca body
def bk_X11_wasColour : pm_B := [(0, [(.aload_n 0, 1, 0, 0, 0), (.getfield 46, 3, 11, 19, 0), (.sipush 160, 3, 0, 0, 160), (.iload_n 1, 1, 1, 0, 0), (.bipush 40, 2, 0, 0, 40), (.irem, 1, 0, 0, 0), (.imul, 1, 0, 0, 0), (.iload_n 2, 1, 2, 0, 0), (.iadd, 1, 0, 0, 0), (.iaload, 1, 0, 0, 0), (.ireturn, 1, 0, 0, 0)], 16)]
set_option maxRecDepth 100000 in
theorem ok_X11_wasColour : pm_oks 11 false 3 (some .int) cX11_wasColour bk_X11_wasColour = true := oksF_ok (by decide +kernel)
set_option maxRecDepth 100000 in
theorem me_X11_wasColour : pm_me 228 = (yX11_wasColour, cX11_wasColour, 3, (some .int), 2, 0) := rfl
theorem mt_X11_wasColour {l : Launch} {g : pm_G} {d mc ms : Nat} {as : List Value} {A : pm_H} {Q : Option Value → pm_H → Prop} (hca : pm_cat 3 as = true) (body : ∀ J : pm_J, pm_Cl l g (fun _ => none) d mc ms (pm_Rq mc ms Q) bk_X11_wasColour J → J 0 (pm_l0 3 as) [] A 0 0) : pm_Mt l g 228 d mc ms as A Q := pm_Mt_of (isI := false) 11 bk_X11_wasColour me_X11_wasColour (plainFor_of_name (by decide +kernel)) (by decide +kernel) (fun h => by cases h) ok_X11_wasColour hca body
def bk_X11_wasName : pm_B := [(0, [(.aload_n 0, 1, 0, 0, 0), (.getfield 49, 3, 11, 20, 0), (.sipush 160, 3, 0, 0, 160), (.iload_n 1, 1, 1, 0, 0), (.bipush 40, 2, 0, 0, 40), (.irem, 1, 0, 0, 0), (.imul, 1, 0, 0, 0), (.iload_n 2, 1, 2, 0, 0), (.iadd, 1, 0, 0, 0), (.iaload, 1, 0, 0, 0), (.ireturn, 1, 0, 0, 0)], 16)]
set_option maxRecDepth 100000 in
theorem ok_X11_wasName : pm_oks 11 false 3 (some .int) cX11_wasName bk_X11_wasName = true := oksF_ok (by decide +kernel)
set_option maxRecDepth 100000 in
theorem me_X11_wasName : pm_me 229 = (yX11_wasName, cX11_wasName, 3, (some .int), 2, 0) := rfl
