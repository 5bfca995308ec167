
def bk_X9_isUnlike : pm_B := [(0, [(.iload 4, 2, 4, 0, 0), (.tableswitch 63 0 2 #[26, 28, 39], 26, 2, 0, 0)], 28),
  (28, [(.iconst 1, 1, 0, 0, 1), (.ireturn, 1, 1, 0, 0)], 30),
  (30, [(.iload_n 2, 1, 2, 0, 0), (.iload_n 3, 1, 3, 0, 0), (.if_icmp .eq 7, 3, 39, 0, 0), (.iconst 1, 1, 0, 0, 1), (.goto 4, 3, 40, 0, 0)], 39),
  (39, [(.iconst 0, 1, 0, 0, 0)], 40),
  (40, [(.ireturn, 1, 1, 0, 0)], 41),
  (41, [(.aload_n 1, 1, 1, 0, 0), (.iload_n 2, 1, 2, 0, 0), (.iconst 0, 1, 0, 0, 0), (.invokevirtual 99, 3, 44, 2, 7), (.aload_n 0, 1, 0, 0, 0), (.getfield 25, 3, 9, 4, 0), (.iload_n 3, 1, 3, 0, 0), (.iconst 0, 1, 0, 0, 0), (.invokevirtual 99, 3, 44, 2, 7), (.if_icmp .eq 7, 3, 63, 0, 0), (.iconst 1, 1, 0, 0, 1), (.goto 4, 3, 64, 0, 0)], 63),
  (63, [(.iconst 0, 1, 0, 0, 0)], 64),
  (64, [(.ireturn, 1, 1, 0, 0)], 65),
  (65, [(.aload_n 1, 1, 1, 0, 0), (.iload_n 2, 1, 2, 0, 0), (.invokevirtual 58, 3, 20, 1, 7), (.aload_n 0, 1, 0, 0, 0), (.getfield 25, 3, 9, 4, 0), (.iload_n 3, 1, 3, 0, 0), (.invokevirtual 58, 3, 20, 1, 7), (.if_icmp .eq 7, 3, 85, 0, 0), (.iconst 1, 1, 0, 0, 1), (.goto 4, 3, 86, 0, 0)], 85),
  (85, [(.iconst 0, 1, 0, 0, 0)], 86),
  (86, [(.ireturn, 1, 1, 0, 0)], 87)]
set_option maxRecDepth 100000 in
theorem ok_X9_isUnlike : pm_oks 9 false 5 (some .boolean) cX9_isUnlike bk_X9_isUnlike = true := oksF_ok (by decide +kernel)
set_option maxRecDepth 100000 in
theorem me_X9_isUnlike : pm_me 157 = (yX9_isUnlike, cX9_isUnlike, 5, (some .boolean), 4, 0) := rfl
theorem mt_X9_isUnlike {l : Launch} {g : pm_G} {d mc ms : Nat} {as : List Value} {A : pm_H} {Q : Option Value → pm_H → Prop} (hca : pm_cat 5 as = true) (body : ∀ J : pm_J, pm_Cl l g (fun _ => none) d mc ms (pm_Rq mc ms Q) bk_X9_isUnlike J → J 0 (pm_l0 5 as) [] A 0 0) : pm_Mt l g 157 d mc ms as A Q := pm_Mt_of (isI := false) 9 bk_X9_isUnlike me_X9_isUnlike (plainFor_of_name (by decide +kernel)) (by decide +kernel) (fun h => by cases h) ok_X9_isUnlike hca body
def bk_X7_init : pm_B := [(0, [(.aload_n 0, 1, 0, 0, 0), (.invokespecial 3, 3, 0, 0, 0), (.aload_n 0, 1, 0, 0, 0), (.sipush 160, 3, 0, 0, 160), (.newarray .int, 2, 160, 0, 0), (.putfield 9, 3, 7, 0, 1), (.aload_n 0, 1, 0, 0, 0), (.sipush 160, 3, 0, 0, 160), (.newarray .int, 2, 160, 0, 0), (.putfield 15, 3, 7, 1, 1), (.aload_n 0, 1, 0, 0, 0), (.sipush 160, 3, 0, 0, 160), (.newarray .int, 2, 160, 0, 0), (.putfield 18, 3, 7, 2, 1), (.return_, 1, 0, 0, 0)], 32)]
set_option maxRecDepth 100000 in
theorem ok_X7_init : pm_oks 7 true 1 none cX7_init bk_X7_init = true := oksF_ok (by decide +kernel)
set_option maxRecDepth 100000 in
theorem me_X7_init : pm_me 2 = (yX7_init, cX7_init, 1, none, 0, 2) := rfl
theorem mt_X7_init {l : Launch} {g : pm_G} {d mc ms : Nat} {as : List Value} {A : pm_H} {Q : Option Value → pm_H → Prop} (hca : pm_cat 1 as = true) (body : ∀ J : pm_J, pm_Cl l g (fun _ => none) d mc ms (pm_Rq mc ms Q) bk_X7_init J → J 0 (pm_l0 1 as) [] A 0 0) : pm_Mt l g 2 d mc ms as A Q := pm_Mt_of (isI := true) 7 bk_X7_init me_X7_init (plainFor_of_name (by decide +kernel)) (by decide +kernel) (fun _ => by decide +kernel) ok_X7_init hca body
def bk_X7_isSpan : pm_B := [(0, [(.iload_n 1, 1, 1, 0, 0), (.ifCond .lt 20, 3, 21, 0, 0), (.iload_n 1, 1, 1, 0, 0), (.iload_n 2, 1, 2, 0, 0), (.if_icmp .gt 15, 3, 21, 0, 0), (.iload_n 2, 1, 2, 0, 0), (.aload_n 0, 1, 0, 0, 0), (.getfield 21, 3, 7, 3, 0), (.if_icmp .ge 7, 3, 21, 0, 0), (.iconst 1, 1, 0, 0, 1), (.goto 4, 3, 22, 0, 0)], 21),
  (21, [(.iconst 0, 1, 0, 0, 0)], 22),
  (22, [(.ireturn, 1, 1, 0, 0)], 23)]
set_option maxRecDepth 100000 in
theorem ok_X7_isSpan : pm_oks 7 false 3 (some .boolean) cX7_isSpan bk_X7_isSpan = true := oksF_ok (by decide +kernel)
set_option maxRecDepth 100000 in
theorem me_X7_isSpan : pm_me 14 = (yX7_isSpan, cX7_isSpan, 3, (some .boolean), 2, 0) := rfl
theorem mt_X7_isSpan {l : Launch} {g : pm_G} {d mc ms : Nat} {as : List Value} {A : pm_H} {Q : Option Value → pm_H → Prop} (hca : pm_cat 3 as = true) (body : ∀ J : pm_J, pm_Cl l g (fun _ => none) d mc ms (pm_Rq mc ms Q) bk_X7_isSpan J → J 0 (pm_l0 3 as) [] A 0 0) : pm_Mt l g 14 d mc ms as A Q := pm_Mt_of (isI := false) 7 bk_X7_isSpan me_X7_isSpan (plainFor_of_name (by decide +kernel)) (by decide +kernel) (fun h => by cases h) ok_X7_isSpan hca body
def bk_X7_has : pm_B := [(0, [(.iload_n 1, 1, 1, 0, 0), (.ifCond .lt 15, 3, 16, 0, 0), (.iload_n 1, 1, 1, 0, 0), (.aload_n 0, 1, 0, 0, 0), (.getfield 21, 3, 7, 3, 0), (.if_icmp .ge 7, 3, 16, 0, 0), (.iconst 1, 1, 0, 0, 1), (.goto 4, 3, 17, 0, 0)], 16),
  (16, [(.iconst 0, 1, 0, 0, 0)], 17),
  (17, [(.ireturn, 1, 1, 0, 0)], 18)]
set_option maxRecDepth 100000 in
theorem ok_X7_has : pm_oks 7 false 2 (some .boolean) cX7_has bk_X7_has = true := oksF_ok (by decide +kernel)
set_option maxRecDepth 100000 in
theorem me_X7_has : pm_me 19 = (yX7_has, cX7_has, 2, (some .boolean), 1, 0) := rfl
theorem mt_X7_has {l : Launch} {g : pm_G} {d mc ms : Nat} {as : List Value} {A : pm_H} {Q : Option Value → pm_H → Prop} (hca : pm_cat 2 as = true) (body : ∀ J : pm_J, pm_Cl l g (fun _ => none) d mc ms (pm_Rq mc ms Q) bk_X7_has J → J 0 (pm_l0 2 as) [] A 0 0) : pm_Mt l g 19 d mc ms as A Q := pm_Mt_of (isI := false) 7 bk_X7_has me_X7_has (plainFor_of_name (by decide +kernel)) (by decide +kernel) (fun h => by cases h) ok_X7_has hca body
def bk_X7_bondAt : pm_B := [(0, [(.aload_n 0, 1, 0, 0, 0), (.iload_n 1, 1, 1, 0, 0), (.invokevirtual 25, 3, 19, 1, 7), (.ifCond .eq 16, 3, 21, 0, 0), (.aload_n 0, 1, 0, 0, 0), (.aload_n 0, 1, 0, 0, 0), (.getfield 18, 3, 7, 2, 0), (.iload_n 1, 1, 1, 0, 0), (.iaload, 1, 0, 0, 0), (.invokevirtual 29, 3, 21, 1, 7), (.goto 4, 3, 22, 0, 0)], 21),
  (21, [(.iconst (-1), 1, 0, 0, -1)], 22),
  (22, [(.ireturn, 1, 0, 0, 0)], 23)]
set_option maxRecDepth 100000 in
theorem ok_X7_bondAt : pm_oks 7 false 2 (some .int) cX7_bondAt bk_X7_bondAt = true := oksF_ok (by decide +kernel)
set_option maxRecDepth 100000 in
theorem me_X7_bondAt : pm_me 20 = (yX7_bondAt, cX7_bondAt, 2, (some .int), 1, 0) := rfl
theorem mt_X7_bondAt {l : Launch} {g : pm_G} {d mc ms : Nat} {as : List Value} {A : pm_H} {Q : Option Value → pm_H → Prop} (hca : pm_cat 2 as = true) (body : ∀ J : pm_J, pm_Cl l g (fun _ => none) d mc ms (pm_Rq mc ms Q) bk_X7_bondAt J → J 0 (pm_l0 2 as) [] A 0 0) : pm_Mt l g 20 d mc ms as A Q := pm_Mt_of (isI := false) 7 bk_X7_bondAt me_X7_bondAt (plainFor_of_name (by decide +kernel)) (by decide +kernel) (fun h => by cases h) ok_X7_bondAt hca body
def bk_X7_nameAt : pm_B := [(0, [(.aload_n 0, 1, 0, 0, 0), (.iload_n 1, 1, 1, 0, 0), (.invokevirtual 25, 3, 19, 1, 7), (.ifCond .eq 12, 3, 17, 0, 0), (.aload_n 0, 1, 0, 0, 0), (.getfield 15, 3, 7, 1, 0), (.iload_n 1, 1, 1, 0, 0), (.iaload, 1, 0, 0, 0), (.goto 4, 3, 18, 0, 0)], 17),
  (17, [(.iconst (-1), 1, 0, 0, -1)], 18),
  (18, [(.ireturn, 1, 0, 0, 0)], 19)]
set_option maxRecDepth 100000 in
theorem ok_X7_nameAt : pm_oks 7 false 2 (some .int) cX7_nameAt bk_X7_nameAt = true := oksF_ok (by decide +kernel)
set_option maxRecDepth 100000 in
theorem me_X7_nameAt : pm_me 21 = (yX7_nameAt, cX7_nameAt, 2, (some .int), 1, 0) := rfl
theorem mt_X7_nameAt {l : Launch} {g : pm_G} {d mc ms : Nat} {as : List Value} {A : pm_H} {Q : Option Value → pm_H → Prop} (hca : pm_cat 2 as = true) (body : ∀ J : pm_J, pm_Cl l g (fun _ => none) d mc ms (pm_Rq mc ms Q) bk_X7_nameAt J → J 0 (pm_l0 2 as) [] A 0 0) : pm_Mt l g 21 d mc ms as A Q := pm_Mt_of (isI := false) 7 bk_X7_nameAt me_X7_nameAt (plainFor_of_name (by decide +kernel)) (by decide +kernel) (fun h => by cases h) ok_X7_nameAt hca body
def bk_X7_isGap : pm_B := [(0, [(.iload_n 1, 1, 1, 0, 0), (.ifCond .lt 15, 3, 16, 0, 0), (.iload_n 1, 1, 1, 0, 0), (.aload_n 0, 1, 0, 0, 0), (.getfield 21, 3, 7, 3, 0), (.if_icmp .gt 7, 3, 16, 0, 0), (.iconst 1, 1, 0, 0, 1), (.goto 4, 3, 17, 0, 0)], 16),
  (16, [(.iconst 0, 1, 0, 0, 0)], 17),
  (17, [(.ireturn, 1, 1, 0, 0)], 18)]
set_option maxRecDepth 100000 in
theorem ok_X7_isGap : pm_oks 7 false 2 (some .boolean) cX7_isGap bk_X7_isGap = true := oksF_ok (by decide +kernel)
