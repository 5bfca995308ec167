
theorem mt_X11_wasName {l : Launch} {g : pm_G} {d mc ms : Nat} {as : List Value} {A : pm_H} {Q : Option Value → pm_H → Prop} (hca : pm_cat 3 as = true) (body : ∀ J : pm_J, pm_Cl l g (fun _ => none) d mc ms (pm_Rq mc ms Q) bk_X11_wasName J → J 0 (pm_l0 3 as) [] A 0 0) : pm_Mt l g 229 d mc ms as A Q := pm_Mt_of (isI := false) 11 bk_X11_wasName me_X11_wasName (plainFor_of_name (by decide +kernel)) (by decide +kernel) (fun h => by cases h) ok_X11_wasName hca body
def bk_X11_wasBond : pm_B := [(0, [(.iload_n 2, 1, 2, 0, 0), (.iconst 1, 1, 0, 0, 1), (.isub, 1, 0, 0, 0), (.istore_n 3, 1, 3, 0, 0)], 4),
  (4, [(.iload_n 3, 1, 3, 0, 0), (.ifCond .lt 31, 3, 36, 0, 0), (.aload_n 0, 1, 0, 0, 0), (.iload_n 1, 1, 1, 0, 0), (.iload_n 3, 1, 3, 0, 0), (.invokevirtual 191, 3, 228, 2, 11), (.aload_n 0, 1, 0, 0, 0), (.iload_n 1, 1, 1, 0, 0), (.iload_n 2, 1, 2, 0, 0), (.invokevirtual 191, 3, 228, 2, 11), (.if_icmp .ne 10, 3, 30, 0, 0), (.aload_n 0, 1, 0, 0, 0), (.iload_n 1, 1, 1, 0, 0), (.iload_n 3, 1, 3, 0, 0), (.invokevirtual 194, 3, 229, 2, 11), (.ireturn, 1, 0, 0, 0)], 30),
  (30, [(.iinc 3 (-1), 3, 3, 0, -1), (.goto (-29), 3, 4, 0, 0)], 36),
  (36, [(.iconst (-1), 1, 0, 0, -1), (.ireturn, 1, 0, 0, 0)], 38)]
set_option maxRecDepth 100000 in
theorem ok_X11_wasBond : pm_oks 11 false 4 (some .int) cX11_wasBond bk_X11_wasBond = true := oksF_ok (by decide +kernel)
set_option maxRecDepth 100000 in
theorem me_X11_wasBond : pm_me 230 = (yX11_wasBond, cX11_wasBond, 4, (some .int), 2, 0) := rfl
theorem mt_X11_wasBond {l : Launch} {g : pm_G} {d mc ms : Nat} {as : List Value} {A : pm_H} {Q : Option Value → pm_H → Prop} (hca : pm_cat 4 as = true) (body : ∀ J : pm_J, pm_Cl l g (fun _ => none) d mc ms (pm_Rq mc ms Q) bk_X11_wasBond J → J 0 (pm_l0 4 as) [] A 0 0) : pm_Mt l g 230 d mc ms as A Q := pm_Mt_of (isI := false) 11 bk_X11_wasBond me_X11_wasBond (plainFor_of_name (by decide +kernel)) (by decide +kernel) (fun h => by cases h) ok_X11_wasBond hca body
def bk_X11_counted : pm_B := [(0, [(.aload_n 0, 1, 0, 0, 0), (.iload_n 1, 1, 1, 0, 0), (.invokevirtual 197, 3, 227, 1, 11), (.ifCond .eq 38, 3, 43, 0, 0), (.iload_n 2, 1, 2, 0, 0), (.ifCond .lt 34, 3, 43, 0, 0), (.iload_n 2, 1, 2, 0, 0), (.iload_n 3, 1, 3, 0, 0), (.if_icmp .gt 29, 3, 43, 0, 0), (.iload_n 3, 1, 3, 0, 0), (.aload_n 0, 1, 0, 0, 0), (.getfield 52, 3, 11, 21, 0), (.iload_n 1, 1, 1, 0, 0), (.bipush 40, 2, 0, 0, 40), (.irem, 1, 0, 0, 0), (.iaload, 1, 0, 0, 0), (.if_icmp .ge 16, 3, 43, 0, 0), (.aload_n 0, 1, 0, 0, 0), (.iload_n 1, 1, 1, 0, 0), (.iload_n 2, 1, 2, 0, 0), (.iload_n 3, 1, 3, 0, 0), (.invokevirtual 203, 3, 232, 3, 11), (.invokestatic 165, 3, 207, 1, 0), (.goto 4, 3, 44, 0, 0)], 43),
  (43, [(.iconst (-1), 1, 0, 0, -1)], 44),
  (44, [(.ireturn, 1, 0, 0, 0)], 45)]
set_option maxRecDepth 100000 in
theorem ok_X11_counted : pm_oks 11 false 4 (some .int) cX11_counted bk_X11_counted = true := oksF_ok (by decide +kernel)
set_option maxRecDepth 100000 in
theorem me_X11_counted : pm_me 231 = (yX11_counted, cX11_counted, 4, (some .int), 3, 0) := rfl
theorem mt_X11_counted {l : Launch} {g : pm_G} {d mc ms : Nat} {as : List Value} {A : pm_H} {Q : Option Value → pm_H → Prop} (hca : pm_cat 4 as = true) (body : ∀ J : pm_J, pm_Cl l g (fun _ => none) d mc ms (pm_Rq mc ms Q) bk_X11_counted J → J 0 (pm_l0 4 as) [] A 0 0) : pm_Mt l g 231 d mc ms as A Q := pm_Mt_of (isI := false) 11 bk_X11_counted me_X11_counted (plainFor_of_name (by decide +kernel)) (by decide +kernel) (fun h => by cases h) ok_X11_counted hca body
def bk_X11_wasSet : pm_B := [(0, [(.iconst 0, 1, 0, 0, 0), (.istore 4, 2, 4, 0, 0), (.iload_n 2, 1, 2, 0, 0), (.istore 5, 2, 5, 0, 0)], 6),
  (6, [(.iload 5, 2, 5, 0, 0), (.iload_n 3, 1, 3, 0, 0), (.if_icmp .gt 23, 3, 32, 0, 0), (.iload 4, 2, 4, 0, 0), (.iconst 1, 1, 0, 0, 1), (.aload_n 0, 1, 0, 0, 0), (.iload_n 1, 1, 1, 0, 0), (.iload 5, 2, 5, 0, 0), (.invokevirtual 191, 3, 228, 2, 11), (.ishl, 1, 0, 0, 0), (.ior, 1, 0, 0, 0), (.istore 4, 2, 4, 0, 0), (.iinc 5 1, 3, 5, 0, 1), (.goto (-23), 3, 6, 0, 0)], 32),
  (32, [(.iload 4, 2, 4, 0, 0), (.ireturn, 1, 0, 0, 0)], 35)]
set_option maxRecDepth 100000 in
theorem ok_X11_wasSet : pm_oks 11 false 6 (some .int) cX11_wasSet bk_X11_wasSet = true := oksF_ok (by decide +kernel)
set_option maxRecDepth 100000 in
theorem me_X11_wasSet : pm_me 232 = (yX11_wasSet, cX11_wasSet, 6, (some .int), 3, 0) := rfl
theorem mt_X11_wasSet {l : Launch} {g : pm_G} {d mc ms : Nat} {as : List Value} {A : pm_H} {Q : Option Value → pm_H → Prop} (hca : pm_cat 6 as = true) (body : ∀ J : pm_J, pm_Cl l g (fun _ => none) d mc ms (pm_Rq mc ms Q) bk_X11_wasSet J → J 0 (pm_l0 6 as) [] A 0 0) : pm_Mt l g 232 d mc ms as A Q := pm_Mt_of (isI := false) 11 bk_X11_wasSet me_X11_wasSet (plainFor_of_name (by decide +kernel)) (by decide +kernel) (fun h => by cases h) ok_X11_wasSet hca body
def bk_X11_touched : pm_B := [(0, [(.iload_n 1, 1, 1, 0, 0), (.ifCond .le 23, 3, 24, 0, 0), (.aload_n 0, 1, 0, 0, 0), (.iload_n 1, 1, 1, 0, 0), (.invokevirtual 197, 3, 227, 1, 11), (.ifCond .eq 15, 3, 24, 0, 0), (.aload_n 0, 1, 0, 0, 0), (.getfield 55, 3, 11, 22, 0), (.iload_n 1, 1, 1, 0, 0), (.bipush 40, 2, 0, 0, 40), (.irem, 1, 0, 0, 0), (.iaload, 1, 0, 0, 0), (.goto 4, 3, 25, 0, 0)], 24),
  (24, [(.iconst (-1), 1, 0, 0, -1)], 25),
  (25, [(.ireturn, 1, 0, 0, 0)], 26)]
set_option maxRecDepth 100000 in
theorem ok_X11_touched : pm_oks 11 false 2 (some .int) cX11_touched bk_X11_touched = true := oksF_ok (by decide +kernel)
set_option maxRecDepth 100000 in
theorem me_X11_touched : pm_me 233 = (yX11_touched, cX11_touched, 2, (some .int), 1, 0) := rfl
theorem mt_X11_touched {l : Launch} {g : pm_G} {d mc ms : Nat} {as : List Value} {A : pm_H} {Q : Option Value → pm_H → Prop} (hca : pm_cat 2 as = true) (body : ∀ J : pm_J, pm_Cl l g (fun _ => none) d mc ms (pm_Rq mc ms Q) bk_X11_touched J → J 0 (pm_l0 2 as) [] A 0 0) : pm_Mt l g 233 d mc ms as A Q := pm_Mt_of (isI := false) 11 bk_X11_touched me_X11_touched (plainFor_of_name (by decide +kernel)) (by decide +kernel) (fun h => by cases h) ok_X11_touched hca body
def bk_X11_since : pm_B := [(0, [(.aload_n 0, 1, 0, 0, 0), (.iload_n 1, 1, 1, 0, 0), (.invokevirtual 206, 3, 197, 1, 11), (.istore_n 2, 1, 2, 0, 0), (.iload_n 2, 1, 2, 0, 0), (.ifCond .ge 5, 3, 12, 0, 0), (.iconst (-1), 1, 0, 0, -1), (.ireturn, 1, 0, 0, 0)], 12),
  (12, [(.aload_n 0, 1, 0, 0, 0), (.iload_n 2, 1, 2, 0, 0), (.invokevirtual 85, 3, 173, 1, 11), (.istore_n 3, 1, 3, 0, 0), (.aload_n 0, 1, 0, 0, 0), (.getfield 102, 3, 11, 11, 0), (.istore 4, 2, 4, 0, 0)], 24),
  (24, [(.aload_n 0, 1, 0, 0, 0), (.iload 4, 2, 4, 0, 0), (.iconst 1, 1, 0, 0, 1), (.isub, 1, 0, 0, 0), (.invokevirtual 197, 3, 227, 1, 11), (.ifCond .eq 22, 3, 54, 0, 0), (.aload_n 0, 1, 0, 0, 0), (.iload 4, 2, 4, 0, 0), (.iconst 1, 1, 0, 0, 1), (.isub, 1, 0, 0, 0), (.iload_n 1, 1, 1, 0, 0), (.iload_n 3, 1, 3, 0, 0), (.invokevirtual 209, 3, 235, 3, 11), (.ifCond .eq 9, 3, 54, 0, 0), (.iinc 4 (-1), 3, 4, 0, -1), (.goto (-27), 3, 24, 0, 0)], 54),
  (54, [(.iload 4, 2, 4, 0, 0), (.ireturn, 1, 0, 0, 0)], 57)]
set_option maxRecDepth 100000 in
theorem ok_X11_since : pm_oks 11 false 5 (some .int) cX11_since bk_X11_since = true := oksF_ok (by decide +kernel)
set_option maxRecDepth 100000 in
theorem me_X11_since : pm_me 234 = (yX11_since, cX11_since, 5, (some .int), 1, 0) := rfl
theorem mt_X11_since {l : Launch} {g : pm_G} {d mc ms : Nat} {as : List Value} {A : pm_H} {Q : Option Value → pm_H → Prop} (hca : pm_cat 5 as = true) (body : ∀ J : pm_J, pm_Cl l g (fun _ => none) d mc ms (pm_Rq mc ms Q) bk_X11_since J → J 0 (pm_l0 5 as) [] A 0 0) : pm_Mt l g 234 d mc ms as A Q := pm_Mt_of (isI := false) 11 bk_X11_since me_X11_since (plainFor_of_name (by decide +kernel)) (by decide +kernel) (fun h => by cases h) ok_X11_since hca body
