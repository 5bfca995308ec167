
set_option maxRecDepth 100000 in
theorem me_X10_draw : pm_me 40 = (yX10_draw, cX10_draw, 7, (some .int), 3, 0) := rfl
theorem mt_X10_draw {l : Launch} {g : pm_G} {d mc ms : Nat} {as : List Value} {A : pm_H} {Q : Option Value → pm_H → Prop} (hca : pm_cat 7 as = true) (body : ∀ J : pm_J, pm_Cl l g (fun _ => none) d mc ms (pm_Rq mc ms Q) bk_X10_draw J → J 0 (pm_l0 7 as) [] A 0 0) : pm_Mt l g 40 d mc ms as A Q := pm_Mt_of (isI := false) 10 bk_X10_draw me_X10_draw (plainFor_of_name (by decide +kernel)) (by decide +kernel) (fun h => by cases h) ok_X10_draw hca body
def bk_X10_weigh : pm_B := [(0, [(.iload_n 1, 1, 1, 0, 0), (.invokestatic 72, 3, 15, 1, 0), (.ifCond .eq 14, 3, 18, 0, 0), (.iload_n 2, 1, 2, 0, 0), (.ifCond .lt 10, 3, 18, 0, 0), (.iload_n 2, 1, 2, 0, 0), (.sipush 999, 3, 0, 0, 999), (.if_icmp .le 5, 3, 20, 0, 0)], 18),
  (18, [(.iconst (-1), 1, 0, 0, -1), (.ireturn, 1, 0, 0, 0)], 20),
  (20, [(.aload_n 0, 1, 0, 0, 0), (.getfield 19, 3, 10, 1, 0), (.getfield 133, 3, 2, 1, 0), (.iload_n 1, 1, 1, 0, 0), (.iaload, 1, 0, 0, 0), (.istore_n 3, 1, 3, 0, 0), (.aload_n 0, 1, 0, 0, 0), (.getfield 19, 3, 10, 1, 0), (.getfield 133, 3, 2, 1, 0), (.iload_n 1, 1, 1, 0, 0), (.iload_n 2, 1, 2, 0, 0), (.iastore, 1, 0, 0, 0), (.iload_n 3, 1, 3, 0, 0), (.ireturn, 1, 0, 0, 0)], 42)]
set_option maxRecDepth 100000 in
theorem ok_X10_weigh : pm_oks 10 false 4 (some .int) cX10_weigh bk_X10_weigh = true := oksF_ok (by decide +kernel)
set_option maxRecDepth 100000 in
theorem me_X10_weigh : pm_me 41 = (yX10_weigh, cX10_weigh, 4, (some .int), 2, 0) := rfl
theorem mt_X10_weigh {l : Launch} {g : pm_G} {d mc ms : Nat} {as : List Value} {A : pm_H} {Q : Option Value → pm_H → Prop} (hca : pm_cat 4 as = true) (body : ∀ J : pm_J, pm_Cl l g (fun _ => none) d mc ms (pm_Rq mc ms Q) bk_X10_weigh J → J 0 (pm_l0 4 as) [] A 0 0) : pm_Mt l g 41 d mc ms as A Q := pm_Mt_of (isI := false) 10 bk_X10_weigh me_X10_weigh (plainFor_of_name (by decide +kernel)) (by decide +kernel) (fun h => by cases h) ok_X10_weigh hca body
def bk_X10_at : pm_B := [(0, [(.aload_n 0, 1, 0, 0, 0), (.getfield 12, 3, 10, 0, 0), (.getfield 80, 3, 9, 4, 0), (.astore_n 3, 1, 3, 0, 0), (.iload_n 2, 1, 2, 0, 0), (.iconst 3, 1, 0, 0, 3), (.if_icmp .ne 15, 3, 25, 0, 0), (.aload_n 3, 1, 3, 0, 0), (.aload_n 3, 1, 3, 0, 0), (.iload_n 1, 1, 1, 0, 0), (.invokevirtual 136, 3, 43, 1, 7), (.invokevirtual 140, 3, 21, 1, 7), (.goto 9, 3, 31, 0, 0)], 25),
  (25, [(.aload_n 3, 1, 3, 0, 0), (.iload_n 1, 1, 1, 0, 0), (.iload_n 2, 1, 2, 0, 0), (.invokevirtual 143, 3, 44, 2, 7)], 31),
  (31, [(.ireturn, 1, 0, 0, 0)], 32)]
set_option maxRecDepth 100000 in
theorem ok_X10_at : pm_oks 10 false 4 (some .int) cX10_at bk_X10_at = true := oksF_ok (by decide +kernel)
set_option maxRecDepth 100000 in
theorem me_X10_at : pm_me 42 = (yX10_at, cX10_at, 4, (some .int), 2, 0) := rfl
theorem mt_X10_at {l : Launch} {g : pm_G} {d mc ms : Nat} {as : List Value} {A : pm_H} {Q : Option Value → pm_H → Prop} (hca : pm_cat 4 as = true) (body : ∀ J : pm_J, pm_Cl l g (fun _ => none) d mc ms (pm_Rq mc ms Q) bk_X10_at J → J 0 (pm_l0 4 as) [] A 0 0) : pm_Mt l g 42 d mc ms as A Q := pm_Mt_of (isI := false) 10 bk_X10_at me_X10_at (plainFor_of_name (by decide +kernel)) (by decide +kernel) (fun h => by cases h) ok_X10_at hca body
def bk_X10_place : pm_B := [(0, [(.aload_n 0, 1, 0, 0, 0), (.getfield 12, 3, 10, 0, 0), (.getfield 80, 3, 9, 4, 0), (.iload_n 1, 1, 1, 0, 0), (.invokevirtual 147, 3, 46, 1, 7), (.ireturn, 1, 0, 0, 0)], 12)]
set_option maxRecDepth 100000 in
theorem ok_X10_place : pm_oks 10 false 2 (some .int) cX10_place bk_X10_place = true := oksF_ok (by decide +kernel)
set_option maxRecDepth 100000 in
theorem me_X10_place : pm_me 45 = (yX10_place, cX10_place, 2, (some .int), 1, 0) := rfl
theorem mt_X10_place {l : Launch} {g : pm_G} {d mc ms : Nat} {as : List Value} {A : pm_H} {Q : Option Value → pm_H → Prop} (hca : pm_cat 2 as = true) (body : ∀ J : pm_J, pm_Cl l g (fun _ => none) d mc ms (pm_Rq mc ms Q) bk_X10_place J → J 0 (pm_l0 2 as) [] A 0 0) : pm_Mt l g 45 d mc ms as A Q := pm_Mt_of (isI := false) 10 bk_X10_place me_X10_place (plainFor_of_name (by decide +kernel)) (by decide +kernel) (fun h => by cases h) ok_X10_place hca body
def bk_X10_colour : pm_B := [(0, [(.iload_n 1, 1, 1, 0, 0), (.invokestatic 72, 3, 15, 1, 0), (.ifCond .ne 5, 3, 9, 0, 0), (.iconst (-1), 1, 0, 0, -1), (.ireturn, 1, 0, 0, 0)], 9),
  (9, [(.aload_n 0, 1, 0, 0, 0), (.getfield 12, 3, 10, 0, 0), (.getfield 80, 3, 9, 4, 0), (.astore_n 3, 1, 3, 0, 0), (.iload_n 2, 1, 2, 0, 0), (.tableswitch 76 0 4 #[34, 40, 50, 57, 70], 34, 18, 0, 0)], 52),
  (52, [(.aload_n 3, 1, 3, 0, 0), (.iload_n 1, 1, 1, 0, 0), (.invokevirtual 150, 3, 48, 1, 7), (.ireturn, 1, 0, 0, 0)], 58),
  (58, [(.aload_n 0, 1, 0, 0, 0), (.getfield 19, 3, 10, 1, 0), (.getfield 133, 3, 2, 1, 0), (.iload_n 1, 1, 1, 0, 0), (.iaload, 1, 0, 0, 0), (.ireturn, 1, 0, 0, 0)], 68),
  (68, [(.aload_n 3, 1, 3, 0, 0), (.iload_n 1, 1, 1, 0, 0), (.iconst 0, 1, 0, 0, 0), (.invokevirtual 153, 3, 49, 2, 7), (.ireturn, 1, 0, 0, 0)], 75),
  (75, [(.aload_n 3, 1, 3, 0, 0), (.iload_n 1, 1, 1, 0, 0), (.aload_n 3, 1, 3, 0, 0), (.iload_n 1, 1, 1, 0, 0), (.invokevirtual 150, 3, 48, 1, 7), (.iconst 1, 1, 0, 0, 1), (.isub, 1, 0, 0, 0), (.invokevirtual 153, 3, 49, 2, 7), (.ireturn, 1, 0, 0, 0)], 88),
  (88, [(.aload_n 3, 1, 3, 0, 0), (.iload_n 1, 1, 1, 0, 0), (.invokevirtual 156, 3, 50, 1, 7), (.ireturn, 1, 0, 0, 0)], 94),
  (94, [(.iconst (-1), 1, 0, 0, -1), (.ireturn, 1, 0, 0, 0)], 96)]
set_option maxRecDepth 100000 in
theorem ok_X10_colour : pm_oks 10 false 4 (some .int) cX10_colour bk_X10_colour = true := oksF_ok (by decide +kernel)
set_option maxRecDepth 100000 in
theorem me_X10_colour : pm_me 47 = (yX10_colour, cX10_colour, 4, (some .int), 2, 0) := rfl
theorem mt_X10_colour {l : Launch} {g : pm_G} {d mc ms : Nat} {as : List Value} {A : pm_H} {Q : Option Value → pm_H → Prop} (hca : pm_cat 4 as = true) (body : ∀ J : pm_J, pm_Cl l g (fun _ => none) d mc ms (pm_Rq mc ms Q) bk_X10_colour J → J 0 (pm_l0 4 as) [] A 0 0) : pm_Mt l g 47 d mc ms as A Q := pm_Mt_of (isI := false) 10 bk_X10_colour me_X10_colour (plainFor_of_name (by decide +kernel)) (by decide +kernel) (fun h => by cases h) ok_X10_colour hca body
def bk_X10_nth : pm_B := [(0, [(.aload_n 0, 1, 0, 0, 0), (.getfield 12, 3, 10, 0, 0), (.getfield 80, 3, 9, 4, 0), (.iload_n 1, 1, 1, 0, 0), (.iload_n 2, 1, 2, 0, 0), (.invokevirtual 153, 3, 49, 2, 7), (.ireturn, 1, 0, 0, 0)], 13)]
set_option maxRecDepth 100000 in
theorem ok_X10_nth : pm_oks 10 false 3 (some .int) cX10_nth bk_X10_nth = true := oksF_ok (by decide +kernel)
set_option maxRecDepth 100000 in
theorem me_X10_nth : pm_me 52 = (yX10_nth, cX10_nth, 3, (some .int), 2, 0) := rfl
theorem mt_X10_nth {l : Launch} {g : pm_G} {d mc ms : Nat} {as : List Value} {A : pm_H} {Q : Option Value → pm_H → Prop} (hca : pm_cat 3 as = true) (body : ∀ J : pm_J, pm_Cl l g (fun _ => none) d mc ms (pm_Rq mc ms Q) bk_X10_nth J → J 0 (pm_l0 3 as) [] A 0 0) : pm_Mt l g 52 d mc ms as A Q := pm_Mt_of (isI := false) 10 bk_X10_nth me_X10_nth (plainFor_of_name (by decide +kernel)) (by decide +kernel) (fun h => by cases h) ok_X10_nth hca body
