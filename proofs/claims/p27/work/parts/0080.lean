
def bk_X11_isTouched : pm_B := [(0, [(.iconst 0, 1, 0, 0, 0), (.istore_n 2, 1, 2, 0, 0)], 2),
  (2, [(.iload_n 2, 1, 2, 0, 0), (.aload_n 0, 1, 0, 0, 0), (.getfield 82, 3, 11, 8, 0), (.if_icmp .ge 44, 3, 51, 0, 0), (.aload_n 0, 1, 0, 0, 0), (.getfield 19, 3, 11, 3, 0), (.iload_n 2, 1, 2, 0, 0), (.iaload, 1, 0, 0, 0), (.aload_n 0, 1, 0, 0, 0), (.getfield 13, 3, 11, 1, 0), (.iload_n 1, 1, 1, 0, 0), (.iaload, 1, 0, 0, 0), (.if_icmp .ne 23, 3, 45, 0, 0), (.aload_n 0, 1, 0, 0, 0), (.getfield 22, 3, 11, 4, 0), (.iload_n 2, 1, 2, 0, 0), (.iaload, 1, 0, 0, 0), (.aload_n 0, 1, 0, 0, 0), (.iload_n 1, 1, 1, 0, 0), (.invokevirtual 85, 3, 173, 1, 11), (.if_icmp .eq 7, 3, 43, 0, 0), (.iconst 1, 1, 0, 0, 1), (.goto 4, 3, 44, 0, 0)], 43),
  (43, [(.iconst 0, 1, 0, 0, 0)], 44),
  (44, [(.ireturn, 1, 1, 0, 0)], 45),
  (45, [(.iinc 2 1, 3, 2, 0, 1), (.goto (-46), 3, 2, 0, 0)], 51),
  (51, [(.iconst 0, 1, 0, 0, 0), (.ireturn, 1, 1, 0, 0)], 53)]
set_option maxRecDepth 100000 in
theorem ok_X11_isTouched : pm_oks 11 false 3 (some .boolean) cX11_isTouched bk_X11_isTouched = true := oksF_ok (by decide +kernel)
set_option maxRecDepth 100000 in
theorem me_X11_isTouched : pm_me 177 = (yX11_isTouched, cX11_isTouched, 3, (some .boolean), 1, 0) := rfl
theorem mt_X11_isTouched {l : Launch} {g : pm_G} {d mc ms : Nat} {as : List Value} {A : pm_H} {Q : Option Value → pm_H → Prop} (hca : pm_cat 3 as = true) (body : ∀ J : pm_J, pm_Cl l g (fun _ => none) d mc ms (pm_Rq mc ms Q) bk_X11_isTouched J → J 0 (pm_l0 3 as) [] A 0 0) : pm_Mt l g 177 d mc ms as A Q := pm_Mt_of (isI := false) 11 bk_X11_isTouched me_X11_isTouched (plainFor_of_name (by decide +kernel)) (by decide +kernel) (fun h => by cases h) ok_X11_isTouched hca body
def bk_X11_keepsRow : pm_B := [(0, [(.aload_n 0, 1, 0, 0, 0), (.getfield 102, 3, 11, 11, 0), (.bipush 40, 2, 0, 0, 40), (.irem, 1, 0, 0, 0), (.istore_n 2, 1, 2, 0, 0), (.aload_n 0, 1, 0, 0, 0), (.getfield 52, 3, 11, 21, 0), (.iload_n 2, 1, 2, 0, 0), (.aload_n 0, 1, 0, 0, 0), (.getfield 70, 3, 11, 7, 0), (.iastore, 1, 0, 0, 0), (.aload_n 0, 1, 0, 0, 0), (.getfield 55, 3, 11, 22, 0), (.iload_n 2, 1, 2, 0, 0), (.iload_n 1, 1, 1, 0, 0), (.iastore, 1, 0, 0, 0), (.iconst 0, 1, 0, 0, 0), (.istore_n 3, 1, 3, 0, 0)], 27),
  (27, [(.iload_n 3, 1, 3, 0, 0), (.aload_n 0, 1, 0, 0, 0), (.getfield 70, 3, 11, 7, 0), (.if_icmp .ge 45, 3, 77, 0, 0), (.aload_n 0, 1, 0, 0, 0), (.getfield 46, 3, 11, 19, 0), (.sipush 160, 3, 0, 0, 160), (.iload_n 2, 1, 2, 0, 0), (.imul, 1, 0, 0, 0), (.iload_n 3, 1, 3, 0, 0), (.iadd, 1, 0, 0, 0), (.aload_n 0, 1, 0, 0, 0), (.getfield 7, 3, 11, 0, 0), (.iload_n 3, 1, 3, 0, 0), (.iaload, 1, 0, 0, 0), (.iastore, 1, 0, 0, 0), (.aload_n 0, 1, 0, 0, 0), (.getfield 49, 3, 11, 20, 0), (.sipush 160, 3, 0, 0, 160), (.iload_n 2, 1, 2, 0, 0), (.imul, 1, 0, 0, 0), (.iload_n 3, 1, 3, 0, 0), (.iadd, 1, 0, 0, 0), (.aload_n 0, 1, 0, 0, 0), (.getfield 13, 3, 11, 1, 0), (.iload_n 3, 1, 3, 0, 0), (.iaload, 1, 0, 0, 0), (.iastore, 1, 0, 0, 0), (.iinc 3 1, 3, 3, 0, 1), (.goto (-47), 3, 27, 0, 0)], 77),
  (77, [(.return_, 1, 0, 0, 0)], 78)]
set_option maxRecDepth 100000 in
theorem ok_X11_keepsRow : pm_oks 11 false 4 none cX11_keepsRow bk_X11_keepsRow = true := oksF_ok (by decide +kernel)
set_option maxRecDepth 100000 in
theorem me_X11_keepsRow : pm_me 178 = (yX11_keepsRow, cX11_keepsRow, 4, none, 1, 0) := rfl
theorem mt_X11_keepsRow {l : Launch} {g : pm_G} {d mc ms : Nat} {as : List Value} {A : pm_H} {Q : Option Value → pm_H → Prop} (hca : pm_cat 4 as = true) (body : ∀ J : pm_J, pm_Cl l g (fun _ => none) d mc ms (pm_Rq mc ms Q) bk_X11_keepsRow J → J 0 (pm_l0 4 as) [] A 0 0) : pm_Mt l g 178 d mc ms as A Q := pm_Mt_of (isI := false) 11 bk_X11_keepsRow me_X11_keepsRow (plainFor_of_name (by decide +kernel)) (by decide +kernel) (fun h => by cases h) ok_X11_keepsRow hca body
def bk_X11_paint : pm_B := [(0, [(.aload_n 0, 1, 0, 0, 0), (.iload_n 1, 1, 1, 0, 0), (.iload_n 2, 1, 2, 0, 0), (.invokevirtual 129, 3, 180, 2, 11), (.ifCond .eq 22, 3, 28, 0, 0), (.iload_n 3, 1, 3, 0, 0), (.invokestatic 122, 3, 170, 1, 0), (.ifCond .eq 15, 3, 28, 0, 0), (.aload_n 0, 1, 0, 0, 0), (.iload_n 1, 1, 1, 0, 0), (.iload_n 2, 1, 2, 0, 0), (.iconst (-1), 1, 0, 0, -1), (.iload_n 3, 1, 3, 0, 0), (.iconst 0, 1, 0, 0, 0), (.invokevirtual 125, 3, 171, 5, 11), (.goto 4, 3, 29, 0, 0)], 28),
  (28, [(.iconst (-1), 1, 0, 0, -1)], 29),
  (29, [(.ireturn, 1, 0, 0, 0)], 30)]
set_option maxRecDepth 100000 in
theorem ok_X11_paint : pm_oks 11 false 4 (some .int) cX11_paint bk_X11_paint = true := oksF_ok (by decide +kernel)
set_option maxRecDepth 100000 in
theorem me_X11_paint : pm_me 179 = (yX11_paint, cX11_paint, 4, (some .int), 3, 0) := rfl
theorem mt_X11_paint {l : Launch} {g : pm_G} {d mc ms : Nat} {as : List Value} {A : pm_H} {Q : Option Value → pm_H → Prop} (hca : pm_cat 4 as = true) (body : ∀ J : pm_J, pm_Cl l g (fun _ => none) d mc ms (pm_Rq mc ms Q) bk_X11_paint J → J 0 (pm_l0 4 as) [] A 0 0) : pm_Mt l g 179 d mc ms as A Q := pm_Mt_of (isI := false) 11 bk_X11_paint me_X11_paint (plainFor_of_name (by decide +kernel)) (by decide +kernel) (fun h => by cases h) ok_X11_paint hca body
def bk_X11_isSpan : pm_B := [(0, [(.iload_n 1, 1, 1, 0, 0), (.ifCond .lt 20, 3, 21, 0, 0), (.iload_n 1, 1, 1, 0, 0), (.iload_n 2, 1, 2, 0, 0), (.if_icmp .gt 15, 3, 21, 0, 0), (.iload_n 2, 1, 2, 0, 0), (.aload_n 0, 1, 0, 0, 0), (.getfield 70, 3, 11, 7, 0), (.if_icmp .ge 7, 3, 21, 0, 0), (.iconst 1, 1, 0, 0, 1), (.goto 4, 3, 22, 0, 0)], 21),
  (21, [(.iconst 0, 1, 0, 0, 0)], 22),
  (22, [(.ireturn, 1, 1, 0, 0)], 23)]
set_option maxRecDepth 100000 in
theorem ok_X11_isSpan : pm_oks 11 false 3 (some .boolean) cX11_isSpan bk_X11_isSpan = true := oksF_ok (by decide +kernel)
set_option maxRecDepth 100000 in
theorem me_X11_isSpan : pm_me 180 = (yX11_isSpan, cX11_isSpan, 3, (some .boolean), 2, 0) := rfl
theorem mt_X11_isSpan {l : Launch} {g : pm_G} {d mc ms : Nat} {as : List Value} {A : pm_H} {Q : Option Value → pm_H → Prop} (hca : pm_cat 3 as = true) (body : ∀ J : pm_J, pm_Cl l g (fun _ => none) d mc ms (pm_Rq mc ms Q) bk_X11_isSpan J → J 0 (pm_l0 3 as) [] A 0 0) : pm_Mt l g 180 d mc ms as A Q := pm_Mt_of (isI := false) 11 bk_X11_isSpan me_X11_isSpan (plainFor_of_name (by decide +kernel)) (by decide +kernel) (fun h => by cases h) ok_X11_isSpan hca body
def bk_X11_merge : pm_B := [(0, [(.iload_n 1, 1, 1, 0, 0), (.invokestatic 122, 3, 170, 1, 0), (.ifCond .eq 32, 3, 36, 0, 0), (.iload_n 2, 1, 2, 0, 0), (.invokestatic 122, 3, 170, 1, 0), (.ifCond .eq 25, 3, 36, 0, 0), (.iload_n 1, 1, 1, 0, 0), (.iload_n 2, 1, 2, 0, 0), (.if_icmp .eq 20, 3, 36, 0, 0), (.aload_n 0, 1, 0, 0, 0), (.iconst 0, 1, 0, 0, 0), (.aload_n 0, 1, 0, 0, 0), (.getfield 70, 3, 11, 7, 0), (.iconst 1, 1, 0, 0, 1), (.isub, 1, 0, 0, 0), (.iload_n 1, 1, 1, 0, 0), (.iload_n 2, 1, 2, 0, 0), (.iconst 0, 1, 0, 0, 0), (.invokevirtual 125, 3, 171, 5, 11), (.goto 4, 3, 37, 0, 0)], 36),
  (36, [(.iconst (-1), 1, 0, 0, -1)], 37),
  (37, [(.ireturn, 1, 0, 0, 0)], 38)]
set_option maxRecDepth 100000 in
theorem ok_X11_merge : pm_oks 11 false 3 (some .int) cX11_merge bk_X11_merge = true := oksF_ok (by decide +kernel)
set_option maxRecDepth 100000 in
theorem me_X11_merge : pm_me 181 = (yX11_merge, cX11_merge, 3, (some .int), 2, 0) := rfl
theorem mt_X11_merge {l : Launch} {g : pm_G} {d mc ms : Nat} {as : List Value} {A : pm_H} {Q : Option Value → pm_H → Prop} (hca : pm_cat 3 as = true) (body : ∀ J : pm_J, pm_Cl l g (fun _ => none) d mc ms (pm_Rq mc ms Q) bk_X11_merge J → J 0 (pm_l0 3 as) [] A 0 0) : pm_Mt l g 181 d mc ms as A Q := pm_Mt_of (isI := false) 11 bk_X11_merge me_X11_merge (plainFor_of_name (by decide +kernel)) (by decide +kernel) (fun h => by cases h) ok_X11_merge hca body
