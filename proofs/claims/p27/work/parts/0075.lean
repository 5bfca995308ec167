
def bk_X5_add : pm_B := [(0, [(.aload_n 0, 1, 0, 0, 0), (.getfield 27, 3, 5, 5, 0), (.ifCond .lt 12, 3, 16, 0, 0), (.aload_n 0, 1, 0, 0, 0), (.getfield 27, 3, 5, 5, 0), (.bipush 30, 2, 0, 0, 30), (.if_icmp .lt 5, 3, 18, 0, 0)], 16),
  (16, [(.iconst (-1), 1, 0, 0, -1), (.ireturn, 1, 0, 0, 0)], 18),
  (18, [(.aload_n 0, 1, 0, 0, 0), (.getfield 27, 3, 5, 5, 0), (.istore 4, 2, 4, 0, 0), (.aload_n 0, 1, 0, 0, 0), (.getfield 9, 3, 5, 0, 0), (.iload 4, 2, 4, 0, 0), (.iload_n 2, 1, 2, 0, 0), (.iastore, 1, 0, 0, 0), (.aload_n 0, 1, 0, 0, 0), (.getfield 15, 3, 5, 1, 0), (.iload 4, 2, 4, 0, 0), (.iload_n 3, 1, 3, 0, 0), (.iastore, 1, 0, 0, 0), (.aload_n 0, 1, 0, 0, 0), (.getfield 24, 3, 5, 4, 0), (.iload 4, 2, 4, 0, 0), (.iload_n 1, 1, 1, 0, 0), (.iastore, 1, 0, 0, 0), (.aload_n 0, 1, 0, 0, 0), (.getfield 18, 3, 5, 2, 0), (.iload 4, 2, 4, 0, 0), (.iconst (-1), 1, 0, 0, -1), (.iastore, 1, 0, 0, 0), (.aload_n 0, 1, 0, 0, 0), (.getfield 21, 3, 5, 3, 0), (.iload 4, 2, 4, 0, 0), (.iconst (-1), 1, 0, 0, -1), (.iastore, 1, 0, 0, 0), (.aload_n 0, 1, 0, 0, 0), (.dup, 1, 0, 0, 0), (.getfield 27, 3, 5, 5, 0), (.iconst 1, 1, 0, 0, 1), (.iadd, 1, 0, 0, 0), (.putfield 27, 3, 5, 5, 0), (.iload 4, 2, 4, 0, 0), (.ireturn, 1, 0, 0, 0)], 77)]
set_option maxRecDepth 100000 in
theorem ok_X5_add : pm_oks 5 false 5 (some .int) cX5_add bk_X5_add = true := oksF_ok (by decide +kernel)
set_option maxRecDepth 100000 in
theorem me_X5_add : pm_me 159 = (yX5_add, cX5_add, 5, (some .int), 3, 0) := rfl
theorem mt_X5_add {l : Launch} {g : pm_G} {d mc ms : Nat} {as : List Value} {A : pm_H} {Q : Option Value → pm_H → Prop} (hca : pm_cat 5 as = true) (body : ∀ J : pm_J, pm_Cl l g (fun _ => none) d mc ms (pm_Rq mc ms Q) bk_X5_add J → J 0 (pm_l0 5 as) [] A 0 0) : pm_Mt l g 159 d mc ms as A Q := pm_Mt_of (isI := false) 5 bk_X5_add me_X5_add (plainFor_of_name (by decide +kernel)) (by decide +kernel) (fun h => by cases h) ok_X5_add hca body
def bk_X5_answer : pm_B := [(0, [(.aload_n 0, 1, 0, 0, 0), (.getfield 18, 3, 5, 2, 0), (.iload_n 1, 1, 1, 0, 0), (.iconst (-1), 1, 0, 0, -1), (.iastore, 1, 0, 0, 0), (.aload_n 0, 1, 0, 0, 0), (.getfield 21, 3, 5, 3, 0), (.iload_n 1, 1, 1, 0, 0), (.iconst (-1), 1, 0, 0, -1), (.iastore, 1, 0, 0, 0), (.aload_n 2, 1, 2, 0, 0), (.ifnonnull 5, 3, 20, 0, 0), (.iconst 0, 1, 0, 0, 0), (.ireturn, 1, 1, 0, 0)], 20),
  (20, [(.aload_n 2, 1, 2, 0, 0), (.aload_n 0, 1, 0, 0, 0), (.getfield 9, 3, 5, 0, 0), (.iload_n 1, 1, 1, 0, 0), (.iaload, 1, 0, 0, 0), (.invokevirtual 31, 3, 46, 1, 7), (.istore 4, 2, 4, 0, 0), (.aload_n 2, 1, 2, 0, 0), (.aload_n 0, 1, 0, 0, 0), (.getfield 15, 3, 5, 1, 0), (.iload_n 1, 1, 1, 0, 0), (.iaload, 1, 0, 0, 0), (.invokevirtual 31, 3, 46, 1, 7), (.istore 5, 2, 5, 0, 0), (.iload 4, 2, 4, 0, 0), (.iconst (-1), 1, 0, 0, -1), (.if_icmp .eq 9, 3, 56, 0, 0), (.iload 5, 2, 5, 0, 0), (.iconst (-1), 1, 0, 0, -1), (.if_icmp .ne 5, 3, 58, 0, 0)], 56),
  (56, [(.iconst 0, 1, 0, 0, 0), (.ireturn, 1, 1, 0, 0)], 58),
  (58, [(.aload_n 3, 1, 3, 0, 0), (.aload_n 2, 1, 2, 0, 0), (.iload 4, 2, 4, 0, 0), (.iload 5, 2, 5, 0, 0), (.invokestatic 37, 3, 87, 2, 0), (.iload 4, 2, 4, 0, 0), (.iload 5, 2, 5, 0, 0), (.invokestatic 43, 3, 51, 2, 0), (.invokevirtual 46, 3, 55, 3, 2), (.aload_n 0, 1, 0, 0, 0), (.getfield 18, 3, 5, 2, 0), (.iload_n 1, 1, 1, 0, 0), (.aload_n 3, 1, 3, 0, 0), (.getfield 52, 3, 2, 3, 0), (.iastore, 1, 0, 0, 0), (.aload_n 0, 1, 0, 0, 0), (.getfield 21, 3, 5, 3, 0), (.iload_n 1, 1, 1, 0, 0), (.aload_n 3, 1, 3, 0, 0), (.getfield 54, 3, 2, 5, 0), (.iastore, 1, 0, 0, 0), (.iconst 1, 1, 0, 0, 1), (.ireturn, 1, 1, 0, 0)], 99)]
set_option maxRecDepth 100000 in
theorem ok_X5_answer : pm_oks 5 false 6 (some .boolean) cX5_answer bk_X5_answer = true := oksF_ok (by decide +kernel)
set_option maxRecDepth 100000 in
theorem me_X5_answer : pm_me 162 = (yX5_answer, cX5_answer, 6, (some .boolean), 3, 0) := rfl
theorem mt_X5_answer {l : Launch} {g : pm_G} {d mc ms : Nat} {as : List Value} {A : pm_H} {Q : Option Value → pm_H → Prop} (hca : pm_cat 6 as = true) (body : ∀ J : pm_J, pm_Cl l g (fun _ => none) d mc ms (pm_Rq mc ms Q) bk_X5_answer J → J 0 (pm_l0 6 as) [] A 0 0) : pm_Mt l g 162 d mc ms as A Q := pm_Mt_of (isI := false) 5 bk_X5_answer me_X5_answer (plainFor_of_name (by decide +kernel)) (by decide +kernel) (fun h => by cases h) ok_X5_answer hca body
def bk_X5_tell : pm_B := [(0, [(.iload_n 1, 1, 1, 0, 0), (.ifCond .lt 11, 3, 12, 0, 0), (.iload_n 1, 1, 1, 0, 0), (.aload_n 0, 1, 0, 0, 0), (.getfield 27, 3, 5, 5, 0), (.if_icmp .lt 5, 3, 14, 0, 0)], 12),
  (12, [(.iconst (-1), 1, 0, 0, -1), (.ireturn, 1, 0, 0, 0)], 14),
  (14, [(.iload_n 2, 1, 2, 0, 0), (.tableswitch 68 0 4 #[33, 40, 47, 54, 61], 33, 15, 0, 0)], 48),
  (48, [(.aload_n 0, 1, 0, 0, 0), (.getfield 18, 3, 5, 2, 0), (.iload_n 1, 1, 1, 0, 0), (.iaload, 1, 0, 0, 0), (.ireturn, 1, 0, 0, 0)], 55),
  (55, [(.aload_n 0, 1, 0, 0, 0), (.getfield 21, 3, 5, 3, 0), (.iload_n 1, 1, 1, 0, 0), (.iaload, 1, 0, 0, 0), (.ireturn, 1, 0, 0, 0)], 62),
  (62, [(.aload_n 0, 1, 0, 0, 0), (.getfield 9, 3, 5, 0, 0), (.iload_n 1, 1, 1, 0, 0), (.iaload, 1, 0, 0, 0), (.ireturn, 1, 0, 0, 0)], 69),
  (69, [(.aload_n 0, 1, 0, 0, 0), (.getfield 15, 3, 5, 1, 0), (.iload_n 1, 1, 1, 0, 0), (.iaload, 1, 0, 0, 0), (.ireturn, 1, 0, 0, 0)], 76),
  (76, [(.aload_n 0, 1, 0, 0, 0), (.getfield 24, 3, 5, 4, 0), (.iload_n 1, 1, 1, 0, 0), (.iaload, 1, 0, 0, 0), (.ireturn, 1, 0, 0, 0)], 83),
  (83, [(.iconst (-1), 1, 0, 0, -1), (.ireturn, 1, 0, 0, 0)], 85)]
set_option maxRecDepth 100000 in
theorem ok_X5_tell : pm_oks 5 false 3 (some .int) cX5_tell bk_X5_tell = true := oksF_ok (by decide +kernel)
set_option maxRecDepth 100000 in
theorem me_X5_tell : pm_me 164 = (yX5_tell, cX5_tell, 3, (some .int), 2, 0) := rfl
theorem mt_X5_tell {l : Launch} {g : pm_G} {d mc ms : Nat} {as : List Value} {A : pm_H} {Q : Option Value → pm_H → Prop} (hca : pm_cat 3 as = true) (body : ∀ J : pm_J, pm_Cl l g (fun _ => none) d mc ms (pm_Rq mc ms Q) bk_X5_tell J → J 0 (pm_l0 3 as) [] A 0 0) : pm_Mt l g 164 d mc ms as A Q := pm_Mt_of (isI := false) 5 bk_X5_tell me_X5_tell (plainFor_of_name (by decide +kernel)) (by decide +kernel) (fun h => by cases h) ok_X5_tell hca body
def bk_J9_floorMod_7cf53 : pm_B := [(0, [(.iload_n 0, 1, 0, 0, 0), (.iload_n 1, 1, 1, 0, 0), (.irem, 1, 0, 0, 0), (.istore_n 2, 1, 2, 0, 0), (.iload_n 0, 1, 0, 0, 0), (.iload_n 1, 1, 1, 0, 0), (.ixor, 1, 0, 0, 0), (.ifCond .ge 11, 3, 18, 0, 0), (.iload_n 2, 1, 2, 0, 0), (.ifCond .eq 7, 3, 18, 0, 0), (.iload_n 2, 1, 2, 0, 0), (.iload_n 1, 1, 1, 0, 0), (.iadd, 1, 0, 0, 0), (.ireturn, 1, 0, 0, 0)], 18),
  (18, [(.iload_n 2, 1, 2, 0, 0), (.ireturn, 1, 0, 0, 0)], 20)]
set_option maxRecDepth 100000 in
theorem ok_J9_floorMod_7cf53 : pm_oks 14 false 3 (some .int) cJ9_floorMod_7cf53 bk_J9_floorMod_7cf53 = true := oksF_ok (by decide +kernel)
set_option maxRecDepth 100000 in
theorem me_J9_floorMod_7cf53 : pm_me 17 = (yJ9_floorMod_7cf53, cJ9_floorMod_7cf53, 3, (some .int), 2, 1) := rfl
theorem mt_J9_floorMod_7cf53 {l : Launch} {g : pm_G} {d mc ms : Nat} {as : List Value} {A : pm_H} {Q : Option Value → pm_H → Prop} (hca : pm_cat 3 as = true) (body : ∀ J : pm_J, pm_Cl l g (fun _ => none) d mc ms (pm_Rq mc ms Q) bk_J9_floorMod_7cf53 J → J 0 (pm_l0 3 as) [] A 0 0) : pm_Mt l g 17 d mc ms as A Q := pm_Mt_of (isI := false) 14 bk_J9_floorMod_7cf53 me_J9_floorMod_7cf53 (Jvm.Free.JP.mathPlain rfl (by decide +kernel)) (by decide +kernel) (fun h => by cases h) ok_J9_floorMod_7cf53 hca body
def bk_J9_max_7cf53 : pm_B := [(0, [(.iload_n 0, 1, 0, 0, 0), (.iload_n 1, 1, 1, 0, 0), (.if_icmp .lt 7, 3, 9, 0, 0), (.iload_n 0, 1, 0, 0, 0), (.goto 4, 3, 10, 0, 0)], 9),
  (9, [(.iload_n 1, 1, 1, 0, 0)], 10),
  (10, [(.ireturn, 1, 0, 0, 0)], 11)]
set_option maxRecDepth 100000 in
theorem ok_J9_max_7cf53 : pm_oks 14 false 2 (some .int) cJ9_max_7cf53 bk_J9_max_7cf53 = true := oksF_ok (by decide +kernel)
set_option maxRecDepth 100000 in
theorem me_J9_max_7cf53 : pm_me 51 = (yJ9_max_7cf53, cJ9_max_7cf53, 2, (some .int), 2, 1) := rfl
