
def bk_X11_draw : pm_B := [(0, [(.iload_n 1, 1, 1, 0, 0), (.iconst 0, 1, 0, 0, 0), (.sipush 9999, 3, 0, 0, 9999), (.invokestatic 74, 3, 169, 3, 0), (.ifCond .eq 32, 3, 40, 0, 0), (.iload_n 2, 1, 2, 0, 0), (.iconst 1, 1, 0, 0, 1), (.sipush 160, 3, 0, 0, 160), (.invokestatic 74, 3, 169, 3, 0), (.ifCond .eq 21, 3, 40, 0, 0), (.iload_n 3, 1, 3, 0, 0), (.iconst 1, 1, 0, 0, 1), (.bipush 24, 2, 0, 0, 24), (.invokestatic 74, 3, 169, 3, 0), (.ifCond .eq 11, 3, 40, 0, 0), (.aload_n 0, 1, 0, 0, 0), (.iload_n 2, 1, 2, 0, 0), (.invokevirtual 133, 3, 184, 1, 11), (.ifCond .ne 5, 3, 42, 0, 0)], 40),
  (40, [(.iconst (-1), 1, 0, 0, -1), (.ireturn, 1, 0, 0, 0)], 42),
  (42, [(.aload_n 0, 1, 0, 0, 0), (.invokevirtual 112, 3, 172, 0, 11), (.aload_n 0, 1, 0, 0, 0), (.iconst 0, 1, 0, 0, 0), (.aload_n 0, 1, 0, 0, 0), (.getfield 70, 3, 11, 7, 0), (.invokevirtual 136, 3, 185, 2, 11), (.iload_n 1, 1, 1, 0, 0), (.istore 4, 2, 4, 0, 0), (.iconst 0, 1, 0, 0, 0), (.istore 5, 2, 5, 0, 0)], 61),
  (61, [(.iload 5, 2, 5, 0, 0), (.iload_n 2, 1, 2, 0, 0), (.if_icmp .ge 32, 3, 96, 0, 0), (.sipush 137, 3, 0, 0, 137), (.iload 4, 2, 4, 0, 0), (.imul, 1, 0, 0, 0), (.bipush 71, 2, 0, 0, 71), (.iadd, 1, 0, 0, 0), (.sipush 10007, 3, 0, 0, 10007), (.irem, 1, 0, 0, 0), (.istore 4, 2, 4, 0, 0), (.aload_n 0, 1, 0, 0, 0), (.iload 4, 2, 4, 0, 0), (.iload_n 3, 1, 3, 0, 0), (.irem, 1, 0, 0, 0), (.invokevirtual 139, 3, 186, 1, 11), (.iinc 5 1, 3, 5, 0, 1), (.goto (-32), 3, 61, 0, 0)], 96),
  (96, [(.aload_n 0, 1, 0, 0, 0), (.invokevirtual 115, 3, 176, 0, 11), (.ireturn, 1, 0, 0, 0)], 101)]
set_option maxRecDepth 100000 in
theorem ok_X11_draw : pm_oks 11 false 6 (some .int) cX11_draw bk_X11_draw = true := oksF_ok (by decide +kernel)
set_option maxRecDepth 100000 in
theorem me_X11_draw : pm_me 193 = (yX11_draw, cX11_draw, 6, (some .int), 3, 0) := rfl
theorem mt_X11_draw {l : Launch} {g : pm_G} {d mc ms : Nat} {as : List Value} {A : pm_H} {Q : Option Value → pm_H → Prop} (hca : pm_cat 6 as = true) (body : ∀ J : pm_J, pm_Cl l g (fun _ => none) d mc ms (pm_Rq mc ms Q) bk_X11_draw J → J 0 (pm_l0 6 as) [] A 0 0) : pm_Mt l g 193 d mc ms as A Q := pm_Mt_of (isI := false) 11 bk_X11_draw me_X11_draw (plainFor_of_name (by decide +kernel)) (by decide +kernel) (fun h => by cases h) ok_X11_draw hca body
def bk_X11_weigh : pm_B := [(0, [(.iload_n 1, 1, 1, 0, 0), (.invokestatic 122, 3, 170, 1, 0), (.ifCond .eq 14, 3, 18, 0, 0), (.iload_n 2, 1, 2, 0, 0), (.iconst 0, 1, 0, 0, 0), (.sipush 999, 3, 0, 0, 999), (.invokestatic 74, 3, 169, 3, 0), (.ifCond .ne 5, 3, 20, 0, 0)], 18),
  (18, [(.iconst (-1), 1, 0, 0, -1), (.ireturn, 1, 0, 0, 0)], 20),
  (20, [(.aload_n 0, 1, 0, 0, 0), (.getfield 16, 3, 11, 2, 0), (.iload_n 1, 1, 1, 0, 0), (.iaload, 1, 0, 0, 0), (.istore_n 3, 1, 3, 0, 0), (.aload_n 0, 1, 0, 0, 0), (.getfield 16, 3, 11, 2, 0), (.iload_n 1, 1, 1, 0, 0), (.iload_n 2, 1, 2, 0, 0), (.iastore, 1, 0, 0, 0), (.iload_n 3, 1, 3, 0, 0), (.ireturn, 1, 0, 0, 0)], 36)]
set_option maxRecDepth 100000 in
theorem ok_X11_weigh : pm_oks 11 false 4 (some .int) cX11_weigh bk_X11_weigh = true := oksF_ok (by decide +kernel)
set_option maxRecDepth 100000 in
theorem me_X11_weigh : pm_me 194 = (yX11_weigh, cX11_weigh, 4, (some .int), 2, 0) := rfl
theorem mt_X11_weigh {l : Launch} {g : pm_G} {d mc ms : Nat} {as : List Value} {A : pm_H} {Q : Option Value → pm_H → Prop} (hca : pm_cat 4 as = true) (body : ∀ J : pm_J, pm_Cl l g (fun _ => none) d mc ms (pm_Rq mc ms Q) bk_X11_weigh J → J 0 (pm_l0 4 as) [] A 0 0) : pm_Mt l g 194 d mc ms as A Q := pm_Mt_of (isI := false) 11 bk_X11_weigh me_X11_weigh (plainFor_of_name (by decide +kernel)) (by decide +kernel) (fun h => by cases h) ok_X11_weigh hca body
def bk_X11_at : pm_B := [(0, [(.aload_n 0, 1, 0, 0, 0), (.iload_n 1, 1, 1, 0, 0), (.invokevirtual 119, 3, 168, 1, 11), (.ifCond .ne 5, 3, 10, 0, 0), (.iconst (-1), 1, 0, 0, -1), (.ireturn, 1, 0, 0, 0)], 10),
  (10, [(.iload_n 2, 1, 2, 0, 0), (.tableswitch 72 0 3 #[29, 36, 43, 49], 29, 11, 0, 0)], 40),
  (40, [(.aload_n 0, 1, 0, 0, 0), (.getfield 7, 3, 11, 0, 0), (.iload_n 1, 1, 1, 0, 0), (.iaload, 1, 0, 0, 0), (.ireturn, 1, 0, 0, 0)], 47),
  (47, [(.aload_n 0, 1, 0, 0, 0), (.getfield 13, 3, 11, 1, 0), (.iload_n 1, 1, 1, 0, 0), (.iaload, 1, 0, 0, 0), (.ireturn, 1, 0, 0, 0)], 54),
  (54, [(.aload_n 0, 1, 0, 0, 0), (.iload_n 1, 1, 1, 0, 0), (.invokevirtual 85, 3, 173, 1, 11), (.ireturn, 1, 0, 0, 0)], 60),
  (60, [(.aload_n 0, 1, 0, 0, 0), (.iload_n 1, 1, 1, 0, 0), (.invokevirtual 142, 3, 196, 1, 11), (.ifCond .ge 7, 3, 72, 0, 0), (.iconst (-1), 1, 0, 0, -1), (.goto 13, 3, 82, 0, 0)], 72),
  (72, [(.aload_n 0, 1, 0, 0, 0), (.getfield 13, 3, 11, 1, 0), (.aload_n 0, 1, 0, 0, 0), (.iload_n 1, 1, 1, 0, 0), (.invokevirtual 142, 3, 196, 1, 11), (.iaload, 1, 0, 0, 0)], 82),
  (82, [(.ireturn, 1, 0, 0, 0)], 83),
  (83, [(.iconst (-1), 1, 0, 0, -1), (.ireturn, 1, 0, 0, 0)], 85)]
set_option maxRecDepth 100000 in
theorem ok_X11_at : pm_oks 11 false 3 (some .int) cX11_at bk_X11_at = true := oksF_ok (by decide +kernel)
set_option maxRecDepth 100000 in
theorem me_X11_at : pm_me 195 = (yX11_at, cX11_at, 3, (some .int), 2, 0) := rfl
theorem mt_X11_at {l : Launch} {g : pm_G} {d mc ms : Nat} {as : List Value} {A : pm_H} {Q : Option Value → pm_H → Prop} (hca : pm_cat 3 as = true) (body : ∀ J : pm_J, pm_Cl l g (fun _ => none) d mc ms (pm_Rq mc ms Q) bk_X11_at J → J 0 (pm_l0 3 as) [] A 0 0) : pm_Mt l g 195 d mc ms as A Q := pm_Mt_of (isI := false) 11 bk_X11_at me_X11_at (plainFor_of_name (by decide +kernel)) (by decide +kernel) (fun h => by cases h) ok_X11_at hca body
def bk_X11_behind : pm_B := [(0, [(.iload_n 1, 1, 1, 0, 0), (.iconst 1, 1, 0, 0, 1), (.iadd, 1, 0, 0, 0), (.istore_n 2, 1, 2, 0, 0)], 4),
  (4, [(.iload_n 2, 1, 2, 0, 0), (.aload_n 0, 1, 0, 0, 0), (.getfield 70, 3, 11, 7, 0), (.if_icmp .ge 26, 3, 35, 0, 0), (.aload_n 0, 1, 0, 0, 0), (.getfield 7, 3, 11, 0, 0), (.iload_n 2, 1, 2, 0, 0), (.iaload, 1, 0, 0, 0), (.aload_n 0, 1, 0, 0, 0), (.getfield 7, 3, 11, 0, 0), (.iload_n 1, 1, 1, 0, 0), (.iaload, 1, 0, 0, 0), (.if_icmp .ne 5, 3, 29, 0, 0), (.iload_n 2, 1, 2, 0, 0), (.ireturn, 1, 0, 0, 0)], 29),
  (29, [(.iinc 2 1, 3, 2, 0, 1), (.goto (-28), 3, 4, 0, 0)], 35),
  (35, [(.iconst (-1), 1, 0, 0, -1), (.ireturn, 1, 0, 0, 0)], 37)]
set_option maxRecDepth 100000 in
theorem ok_X11_behind : pm_oks 11 false 3 (some .int) cX11_behind bk_X11_behind = true := oksF_ok (by decide +kernel)
set_option maxRecDepth 100000 in
theorem me_X11_behind : pm_me 196 = (yX11_behind, cX11_behind, 3, (some .int), 1, 0) := rfl
theorem mt_X11_behind {l : Launch} {g : pm_G} {d mc ms : Nat} {as : List Value} {A : pm_H} {Q : Option Value → pm_H → Prop} (hca : pm_cat 3 as = true) (body : ∀ J : pm_J, pm_Cl l g (fun _ => none) d mc ms (pm_Rq mc ms Q) bk_X11_behind J → J 0 (pm_l0 3 as) [] A 0 0) : pm_Mt l g 196 d mc ms as A Q := pm_Mt_of (isI := false) 11 bk_X11_behind me_X11_behind (plainFor_of_name (by decide +kernel)) (by decide +kernel) (fun h => by cases h) ok_X11_behind hca body
def bk_X11_place : pm_B := [(0, [(.iload_n 1, 1, 1, 0, 0), (.ifCond .ge 7, 3, 8, 0, 0), (.iconst (-1), 1, 0, 0, -1), (.goto 8, 3, 13, 0, 0)], 8),
  (8, [(.aload_n 0, 1, 0, 0, 0), (.iload_n 1, 1, 1, 0, 0), (.invokevirtual 145, 3, 198, 1, 11)], 13),
  (13, [(.ireturn, 1, 0, 0, 0)], 14)]
set_option maxRecDepth 100000 in
theorem ok_X11_place : pm_oks 11 false 2 (some .int) cX11_place bk_X11_place = true := oksF_ok (by decide +kernel)
set_option maxRecDepth 100000 in
theorem me_X11_place : pm_me 197 = (yX11_place, cX11_place, 2, (some .int), 1, 0) := rfl
theorem mt_X11_place {l : Launch} {g : pm_G} {d mc ms : Nat} {as : List Value} {A : pm_H} {Q : Option Value → pm_H → Prop} (hca : pm_cat 2 as = true) (body : ∀ J : pm_J, pm_Cl l g (fun _ => none) d mc ms (pm_Rq mc ms Q) bk_X11_place J → J 0 (pm_l0 2 as) [] A 0 0) : pm_Mt l g 197 d mc ms as A Q := pm_Mt_of (isI := false) 11 bk_X11_place me_X11_place (plainFor_of_name (by decide +kernel)) (by decide +kernel) (fun h => by cases h) ok_X11_place hca body
