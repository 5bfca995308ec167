
def bk_X11_begins : pm_B := [(0, [(.aload_n 0, 1, 0, 0, 0), (.aload_n 0, 1, 0, 0, 0), (.getfield 70, 3, 11, 7, 0), (.putfield 82, 3, 11, 8, 0), (.iconst 0, 1, 0, 0, 0), (.istore_n 1, 1, 1, 0, 0)], 10),
  (10, [(.iload_n 1, 1, 1, 0, 0), (.aload_n 0, 1, 0, 0, 0), (.getfield 70, 3, 11, 7, 0), (.if_icmp .ge 32, 3, 47, 0, 0), (.aload_n 0, 1, 0, 0, 0), (.getfield 19, 3, 11, 3, 0), (.iload_n 1, 1, 1, 0, 0), (.aload_n 0, 1, 0, 0, 0), (.getfield 13, 3, 11, 1, 0), (.iload_n 1, 1, 1, 0, 0), (.iaload, 1, 0, 0, 0), (.iastore, 1, 0, 0, 0), (.aload_n 0, 1, 0, 0, 0), (.getfield 22, 3, 11, 4, 0), (.iload_n 1, 1, 1, 0, 0), (.aload_n 0, 1, 0, 0, 0), (.iload_n 1, 1, 1, 0, 0), (.invokevirtual 85, 3, 173, 1, 11), (.iastore, 1, 0, 0, 0), (.iinc 1 1, 3, 1, 0, 1), (.goto (-34), 3, 10, 0, 0)], 47),
  (47, [(.aload_n 0, 1, 0, 0, 0), (.iconst 0, 1, 0, 0, 0), (.putfield 88, 3, 11, 9, 0), (.return_, 1, 0, 0, 0)], 53)]
set_option maxRecDepth 100000 in
theorem ok_X11_begins : pm_oks 11 false 2 none cX11_begins bk_X11_begins = true := oksF_ok (by decide +kernel)
set_option maxRecDepth 100000 in
theorem me_X11_begins : pm_me 172 = (yX11_begins, cX11_begins, 2, none, 0, 0) := rfl
theorem mt_X11_begins {l : Launch} {g : pm_G} {d mc ms : Nat} {as : List Value} {A : pm_H} {Q : Option Value → pm_H → Prop} (hca : pm_cat 2 as = true) (body : ∀ J : pm_J, pm_Cl l g (fun _ => none) d mc ms (pm_Rq mc ms Q) bk_X11_begins J → J 0 (pm_l0 2 as) [] A 0 0) : pm_Mt l g 172 d mc ms as A Q := pm_Mt_of (isI := false) 11 bk_X11_begins me_X11_begins (plainFor_of_name (by decide +kernel)) (by decide +kernel) (fun h => by cases h) ok_X11_begins hca body
def bk_X11_bondOf : pm_B := [(0, [(.aload_n 0, 1, 0, 0, 0), (.iload_n 1, 1, 1, 0, 0), (.invokevirtual 78, 3, 174, 1, 11), (.ifCond .ge 7, 3, 12, 0, 0), (.iconst (-1), 1, 0, 0, -1), (.goto 13, 3, 22, 0, 0)], 12),
  (12, [(.aload_n 0, 1, 0, 0, 0), (.getfield 13, 3, 11, 1, 0), (.aload_n 0, 1, 0, 0, 0), (.iload_n 1, 1, 1, 0, 0), (.invokevirtual 78, 3, 174, 1, 11), (.iaload, 1, 0, 0, 0)], 22),
  (22, [(.ireturn, 1, 0, 0, 0)], 23)]
set_option maxRecDepth 100000 in
theorem ok_X11_bondOf : pm_oks 11 false 2 (some .int) cX11_bondOf bk_X11_bondOf = true := oksF_ok (by decide +kernel)
set_option maxRecDepth 100000 in
theorem me_X11_bondOf : pm_me 173 = (yX11_bondOf, cX11_bondOf, 2, (some .int), 1, 0) := rfl
theorem mt_X11_bondOf {l : Launch} {g : pm_G} {d mc ms : Nat} {as : List Value} {A : pm_H} {Q : Option Value → pm_H → Prop} (hca : pm_cat 2 as = true) (body : ∀ J : pm_J, pm_Cl l g (fun _ => none) d mc ms (pm_Rq mc ms Q) bk_X11_bondOf J → J 0 (pm_l0 2 as) [] A 0 0) : pm_Mt l g 173 d mc ms as A Q := pm_Mt_of (isI := false) 11 bk_X11_bondOf me_X11_bondOf (plainFor_of_name (by decide +kernel)) (by decide +kernel) (fun h => by cases h) ok_X11_bondOf hca body
def bk_X11_ahead : pm_B := [(0, [(.iload_n 1, 1, 1, 0, 0), (.iconst 1, 1, 0, 0, 1), (.isub, 1, 0, 0, 0), (.istore_n 2, 1, 2, 0, 0)], 4),
  (4, [(.iload_n 2, 1, 2, 0, 0), (.ifCond .lt 26, 3, 31, 0, 0), (.aload_n 0, 1, 0, 0, 0), (.getfield 7, 3, 11, 0, 0), (.iload_n 2, 1, 2, 0, 0), (.iaload, 1, 0, 0, 0), (.aload_n 0, 1, 0, 0, 0), (.getfield 7, 3, 11, 0, 0), (.iload_n 1, 1, 1, 0, 0), (.iaload, 1, 0, 0, 0), (.if_icmp .ne 5, 3, 25, 0, 0), (.iload_n 2, 1, 2, 0, 0), (.ireturn, 1, 0, 0, 0)], 25),
  (25, [(.iinc 2 (-1), 3, 2, 0, -1), (.goto (-24), 3, 4, 0, 0)], 31),
  (31, [(.iconst (-1), 1, 0, 0, -1), (.ireturn, 1, 0, 0, 0)], 33)]
set_option maxRecDepth 100000 in
theorem ok_X11_ahead : pm_oks 11 false 3 (some .int) cX11_ahead bk_X11_ahead = true := oksF_ok (by decide +kernel)
set_option maxRecDepth 100000 in
theorem me_X11_ahead : pm_me 174 = (yX11_ahead, cX11_ahead, 3, (some .int), 1, 0) := rfl
theorem mt_X11_ahead {l : Launch} {g : pm_G} {d mc ms : Nat} {as : List Value} {A : pm_H} {Q : Option Value → pm_H → Prop} (hca : pm_cat 3 as = true) (body : ∀ J : pm_J, pm_Cl l g (fun _ => none) d mc ms (pm_Rq mc ms Q) bk_X11_ahead J → J 0 (pm_l0 3 as) [] A 0 0) : pm_Mt l g 174 d mc ms as A Q := pm_Mt_of (isI := false) 11 bk_X11_ahead me_X11_ahead (plainFor_of_name (by decide +kernel)) (by decide +kernel) (fun h => by cases h) ok_X11_ahead hca body
def bk_X11_lays : pm_B := [(0, [(.aload_n 0, 1, 0, 0, 0), (.getfield 25, 3, 11, 5, 0), (.aload_n 0, 1, 0, 0, 0), (.getfield 88, 3, 11, 9, 0), (.iload_n 1, 1, 1, 0, 0), (.iastore, 1, 0, 0, 0), (.aload_n 0, 1, 0, 0, 0), (.getfield 28, 3, 11, 6, 0), (.aload_n 0, 1, 0, 0, 0), (.getfield 88, 3, 11, 9, 0), (.iload_n 2, 1, 2, 0, 0), (.iastore, 1, 0, 0, 0), (.aload_n 0, 1, 0, 0, 0), (.dup, 1, 0, 0, 0), (.getfield 88, 3, 11, 9, 0), (.iconst 1, 1, 0, 0, 1), (.iadd, 1, 0, 0, 0), (.putfield 88, 3, 11, 9, 0), (.return_, 1, 0, 0, 0)], 31)]
set_option maxRecDepth 100000 in
theorem ok_X11_lays : pm_oks 11 false 3 none cX11_lays bk_X11_lays = true := oksF_ok (by decide +kernel)
set_option maxRecDepth 100000 in
theorem me_X11_lays : pm_me 175 = (yX11_lays, cX11_lays, 3, none, 2, 0) := rfl
theorem mt_X11_lays {l : Launch} {g : pm_G} {d mc ms : Nat} {as : List Value} {A : pm_H} {Q : Option Value → pm_H → Prop} (hca : pm_cat 3 as = true) (body : ∀ J : pm_J, pm_Cl l g (fun _ => none) d mc ms (pm_Rq mc ms Q) bk_X11_lays J → J 0 (pm_l0 3 as) [] A 0 0) : pm_Mt l g 175 d mc ms as A Q := pm_Mt_of (isI := false) 11 bk_X11_lays me_X11_lays (plainFor_of_name (by decide +kernel)) (by decide +kernel) (fun h => by cases h) ok_X11_lays hca body
def bk_X11_ends : pm_B := [(0, [(.aload_n 0, 1, 0, 0, 0), (.aload_n 0, 1, 0, 0, 0), (.getfield 88, 3, 11, 9, 0), (.putfield 70, 3, 11, 7, 0), (.iconst 0, 1, 0, 0, 0), (.istore_n 1, 1, 1, 0, 0)], 10),
  (10, [(.iload_n 1, 1, 1, 0, 0), (.aload_n 0, 1, 0, 0, 0), (.getfield 70, 3, 11, 7, 0), (.if_icmp .ge 33, 3, 48, 0, 0), (.aload_n 0, 1, 0, 0, 0), (.getfield 7, 3, 11, 0, 0), (.iload_n 1, 1, 1, 0, 0), (.aload_n 0, 1, 0, 0, 0), (.getfield 25, 3, 11, 5, 0), (.iload_n 1, 1, 1, 0, 0), (.iaload, 1, 0, 0, 0), (.iastore, 1, 0, 0, 0), (.aload_n 0, 1, 0, 0, 0), (.getfield 13, 3, 11, 1, 0), (.iload_n 1, 1, 1, 0, 0), (.aload_n 0, 1, 0, 0, 0), (.getfield 28, 3, 11, 6, 0), (.iload_n 1, 1, 1, 0, 0), (.iaload, 1, 0, 0, 0), (.iastore, 1, 0, 0, 0), (.iinc 1 1, 3, 1, 0, 1), (.goto (-35), 3, 10, 0, 0)], 48),
  (48, [(.iconst 0, 1, 0, 0, 0), (.istore_n 1, 1, 1, 0, 0), (.iconst 0, 1, 0, 0, 0), (.istore_n 2, 1, 2, 0, 0)], 52),
  (52, [(.iload_n 2, 1, 2, 0, 0), (.aload_n 0, 1, 0, 0, 0), (.getfield 70, 3, 11, 7, 0), (.if_icmp .ge 25, 3, 82, 0, 0), (.iload_n 1, 1, 1, 0, 0), (.aload_n 0, 1, 0, 0, 0), (.iload_n 2, 1, 2, 0, 0), (.invokevirtual 98, 3, 177, 1, 11), (.ifCond .eq 7, 3, 73, 0, 0), (.iconst 1, 1, 0, 0, 1), (.goto 4, 3, 74, 0, 0)], 73),
  (73, [(.iconst 0, 1, 0, 0, 0)], 74),
  (74, [(.iadd, 1, 0, 0, 0), (.istore_n 1, 1, 1, 0, 0), (.iinc 2 1, 3, 2, 0, 1), (.goto (-27), 3, 52, 0, 0)], 82),
  (82, [(.aload_n 0, 1, 0, 0, 0), (.dup, 1, 0, 0, 0), (.getfield 102, 3, 11, 11, 0), (.iconst 1, 1, 0, 0, 1), (.iadd, 1, 0, 0, 0), (.putfield 102, 3, 11, 11, 0), (.aload_n 0, 1, 0, 0, 0), (.dup, 1, 0, 0, 0), (.getfield 105, 3, 11, 12, 0), (.iload_n 1, 1, 1, 0, 0), (.iadd, 1, 0, 0, 0), (.putfield 105, 3, 11, 12, 0), (.aload_n 0, 1, 0, 0, 0), (.iload_n 1, 1, 1, 0, 0), (.invokevirtual 108, 3, 178, 1, 11), (.iload_n 1, 1, 1, 0, 0), (.ireturn, 1, 0, 0, 0)], 109)]
set_option maxRecDepth 100000 in
theorem ok_X11_ends : pm_oks 11 false 3 (some .int) cX11_ends bk_X11_ends = true := oksF_ok (by decide +kernel)
set_option maxRecDepth 100000 in
theorem me_X11_ends : pm_me 176 = (yX11_ends, cX11_ends, 3, (some .int), 0, 0) := rfl
theorem mt_X11_ends {l : Launch} {g : pm_G} {d mc ms : Nat} {as : List Value} {A : pm_H} {Q : Option Value → pm_H → Prop} (hca : pm_cat 3 as = true) (body : ∀ J : pm_J, pm_Cl l g (fun _ => none) d mc ms (pm_Rq mc ms Q) bk_X11_ends J → J 0 (pm_l0 3 as) [] A 0 0) : pm_Mt l g 176 d mc ms as A Q := pm_Mt_of (isI := false) 11 bk_X11_ends me_X11_ends (plainFor_of_name (by decide +kernel)) (by decide +kernel) (fun h => by cases h) ok_X11_ends hca body
