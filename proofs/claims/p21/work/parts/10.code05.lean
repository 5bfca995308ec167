/-! blocks, by a program -/
def bk_X5_add : pm_B := [(0, [(.aload_n 0, 1, 0, 0, 0), (.getfield 27, 3, 5, 5, 0), (.ifCond .lt 12, 3, 16, 0, 0), (.aload_n 0, 1, 0, 0, 0), (.getfield 27, 3, 5, 5, 0), (.bipush 30, 2, 0, 0, 30), (.if_icmp .lt 5, 3, 18, 0, 0)], 16),
  (16, [(.iconst (-1), 1, 0, 0, -1), (.ireturn, 1, 0, 0, 0)], 18),
  (18, [(.aload_n 0, 1, 0, 0, 0), (.getfield 27, 3, 5, 5, 0), (.istore 4, 2, 4, 0, 0), (.aload_n 0, 1, 0, 0, 0), (.getfield 9, 3, 5, 0, 0), (.iload 4, 2, 4, 0, 0), (.iload_n 2, 1, 2, 0, 0), (.iastore, 1, 0, 0, 0), (.aload_n 0, 1, 0, 0, 0), (.getfield 15, 3, 5, 1, 0), (.iload 4, 2, 4, 0, 0), (.iload_n 3, 1, 3, 0, 0), (.iastore, 1, 0, 0, 0), (.aload_n 0, 1, 0, 0, 0), (.getfield 24, 3, 5, 4, 0), (.iload 4, 2, 4, 0, 0), (.iload_n 1, 1, 1, 0, 0), (.iastore, 1, 0, 0, 0), (.aload_n 0, 1, 0, 0, 0), (.getfield 18, 3, 5, 2, 0), (.iload 4, 2, 4, 0, 0), (.iconst (-1), 1, 0, 0, -1), (.iastore, 1, 0, 0, 0), (.aload_n 0, 1, 0, 0, 0), (.getfield 21, 3, 5, 3, 0), (.iload 4, 2, 4, 0, 0), (.iconst (-1), 1, 0, 0, -1), (.iastore, 1, 0, 0, 0), (.aload_n 0, 1, 0, 0, 0), (.dup, 1, 0, 0, 0), (.getfield 27, 3, 5, 5, 0), (.iconst 1, 1, 0, 0, 1), (.iadd, 1, 0, 0, 0), (.putfield 27, 3, 5, 5, 0), (.iload 4, 2, 4, 0, 0), (.ireturn, 1, 0, 0, 0)], 77)]
set_option maxRecDepth 100000 in
theorem ok_X5_add : pm_oks 5 false 5 (some .int) cX5_add bk_X5_add = true := oksF_ok (by decide +kernel)
set_option maxRecDepth 100000 in
theorem me_X5_add : pm_me 159 = (yX5_add, cX5_add, 5, (some .int), 3, 0) := rfl
theorem mt_X5_add {l : Launch} {g : pm_G} {d mc ms : Nat} {as : List Value} {A : pm_H} {Q : Option Value → pm_H → Prop} (hca : pm_cat 5 as = true) (body : ∀ J : pm_J, pm_Cl l g (fun _ => none) d mc ms (pm_Rq mc ms Q) bk_X5_add J → J 0 (pm_l0 5 as) [] A 0 0) : pm_Mt l g 159 d mc ms as A Q := pm_Mt_of (isI := false) 5 bk_X5_add me_X5_add (plainFor_of_name (by decide +kernel)) (by decide +kernel) (fun h => by cases h) ok_X5_add hca body
def bk_X5_answer : pm_B := [(0, [(.aload_n 0, 1, 0, 0, 0), (.getfield 18, 3, 5, 2, 0), (.iload_n 1, 1, 1, 0, 0), (.iconst (-1), 1, 0, 0, -1), (.iastore, 1, 0, 0, 0), (.aload_n 0, 1, 0, 0, 0), (.getfield 21, 3, 5, 3, 0), (.iload_n 1, 1, 1, 0, 0), (.iconst (-1), 1, 0, 0, -1), (.iastore, 1, 0, 0, 0), (.aload_n 2, 1, 2, 0, 0), (.ifnonnull 5, 3, 20, 0, 0), (.iconst 0, 1, 0, 0, 0), (.ireturn, 1, 1, 0, 0)], 20),
  (20, [(.aload_n 2, 1, 2, 0, 0), (.aload_n 0, 1, 0, 0, 0), (.getfield 9, 3, 5, 0, 0), (.iload_n 1, 1, 1, 0, 0), (.iaload, 1, 0, 0, 0), (.invokevirtual 31, 3, 46, 1, 7), (.istore 4, 2, 4, 0, 0), (.aload_n 2, 1, 2, 0, 0), (.aload_n 0, 1, 0, 0, 0), (.getfield 15, 3, 5, 1, 0), (.iload_n 1, 1, 1, 0, 0), (.iaload, 1, 0, 0, 0), (.invokevirtual 31, 3, 46, 1, 7), (.istore 5, 2, 5, 0, 0), (.iload 4, 2, 4, 0, 0), (.iconst (-1), 1, 0, 0, -1), (.if_icmp .eq 9, 3, 56, 0, 0), (.iload 5, 2, 5, 0, 0), (.iconst (-1), 1, 0, 0, -1), (.if_icmp .ne 5, 3, 58, 0, 0)], 56),
  (56, [(.iconst 0, 1, 0, 0, 0), (.ireturn, 1, 1, 0, 0)], 58),
  (58, [(.aload_n 3, 1, 3, 0, 0), (.aload_n 2, 1, 2, 0, 0), (.iload 4, 2, 4, 0, 0), (.iload 5, 2, 5, 0, 0), (.invokestatic 37, 3, 87, 2, 0), (.iload 4, 2, 4, 0, 0), (.iload 5, 2, 5, 0, 0), (.invokestatic 43, 3, 51, 2, 0), (.invokevirtual 46, 3, 55, 3, 2), (.aload_n 0, 1, 0, 0, 0), (.getfield 18, 3, 5, 2, 0), (.iload_n 1, 1, 1, 0, 0), (.aload_n 3, 1, 3, 0, 0), (.getfield 52, 3, 2, 3, 0), (.iastore, 1, 0, 0, 0), (.aload_n 0, 1, 0, 0, 0), (.getfield 21, 3, 5, 3, 0), (.iload_n 1, 1, 1, 0, 0), (.aload_n 3, 1, 3, 0, 0), (.getfield 54, 3, 2, 5, 0), (.iastore, 1, 0, 0, 0), (.iconst 1, 1, 0, 0, 1), (.ireturn, 1, 1, 0, 0)], 99)]
set_option maxRecDepth 100000 in
theorem ok_X5_answer : pm_oks 5 false 6 (some .boolean) cX5_answer bk_X5_answer = true := oksF_ok (by decide +kernel)
set_option maxRecDepth 100000 in
theorem me_X5_answer : pm_me 162 = (yX5_answer, cX5_answer, 6, (some .boolean), 3, 0) := rfl
theorem mt_X5_answer {l : Launch} {g : pm_G} {d mc ms : Nat} {as : List Value} {A : pm_H} {Q : Option Value → pm_H → Prop} (hca : pm_cat 6 as = true) (body : ∀ J : pm_J, pm_Cl l g (fun _ => none) d mc ms (pm_Rq mc ms Q) bk_X5_answer J → J 0 (pm_l0 6 as) [] A 0 0) : pm_Mt l g 162 d mc ms as A Q := pm_Mt_of (isI := false) 5 bk_X5_answer me_X5_answer (plainFor_of_name (by decide +kernel)) (by decide +kernel) (fun h => by cases h) ok_X5_answer hca body
def bk_X5_tell : pm_B := [(0, [(.iload_n 1, 1, 1, 0, 0), (.ifCond .lt 11, 3, 12, 0, 0), (.iload_n 1, 1, 1, 0, 0), (.aload_n 0, 1, 0, 0, 0), (.getfield 27, 3, 5, 5, 0), (.if_icmp .lt 5, 3, 14, 0, 0)], 12),
  (12, [(.iconst (-1), 1, 0, 0, -1), (.ireturn, 1, 0, 0, 0)], 14),
  (14, [(.iload_n 2, 1, 2, 0, 0), (.tableswitch 68 0 4 #[33, 40, 47, 54, 61], 33, 15, 0, 0)], 48),
  (48, [(.aload_n 0, 1, 0, 0, 0), (.getfield 18, 3, 5, 2, 0), (.iload_n 1, 1, 1, 0, 0), (.iaload, 1, 0, 0, 0), (.ireturn, 1, 0, 0, 0)], 55),
  (55, [(.aload_n 0, 1, 0, 0, 0), (.getfield 21, 3, 5, 3, 0), (.iload_n 1, 1, 1, 0, 0), (.iaload, 1, 0, 0, 0), (.ireturn, 1, 0, 0, 0)], 62),
  (62, [(.aload_n 0, 1, 0, 0, 0), (.getfield 9, 3, 5, 0, 0), (.iload_n 1, 1, 1, 0, 0), (.iaload, 1, 0, 0, 0), (.ireturn, 1, 0, 0, 0)], 69),
  (69, [(.aload_n 0, 1, 0, 0, 0), (.getfield 15, 3, 5, 1, 0), (.iload_n 1, 1, 1, 0, 0), (.iaload, 1, 0, 0, 0), (.ireturn, 1, 0, 0, 0)], 76),
  (76, [(.aload_n 0, 1, 0, 0, 0), (.getfield 24, 3, 5, 4, 0), (.iload_n 1, 1, 1, 0, 0), (.iaload, 1, 0, 0, 0), (.ireturn, 1, 0, 0, 0)], 83),
  (83, [(.iconst (-1), 1, 0, 0, -1), (.ireturn, 1, 0, 0, 0)], 85)]
set_option maxRecDepth 100000 in
theorem ok_X5_tell : pm_oks 5 false 3 (some .int) cX5_tell bk_X5_tell = true := oksF_ok (by decide +kernel)
set_option maxRecDepth 100000 in
theorem me_X5_tell : pm_me 164 = (yX5_tell, cX5_tell, 3, (some .int), 2, 0) := rfl
theorem mt_X5_tell {l : Launch} {g : pm_G} {d mc ms : Nat} {as : List Value} {A : pm_H} {Q : Option Value → pm_H → Prop} (hca : pm_cat 3 as = true) (body : ∀ J : pm_J, pm_Cl l g (fun _ => none) d mc ms (pm_Rq mc ms Q) bk_X5_tell J → J 0 (pm_l0 3 as) [] A 0 0) : pm_Mt l g 164 d mc ms as A Q := pm_Mt_of (isI := false) 5 bk_X5_tell me_X5_tell (plainFor_of_name (by decide +kernel)) (by decide +kernel) (fun h => by cases h) ok_X5_tell hca body
def bk_J9_floorMod_7cf53 : pm_B := [(0, [(.iload_n 0, 1, 0, 0, 0), (.iload_n 1, 1, 1, 0, 0), (.irem, 1, 0, 0, 0), (.istore_n 2, 1, 2, 0, 0), (.iload_n 0, 1, 0, 0, 0), (.iload_n 1, 1, 1, 0, 0), (.ixor, 1, 0, 0, 0), (.ifCond .ge 11, 3, 18, 0, 0), (.iload_n 2, 1, 2, 0, 0), (.ifCond .eq 7, 3, 18, 0, 0), (.iload_n 2, 1, 2, 0, 0), (.iload_n 1, 1, 1, 0, 0), (.iadd, 1, 0, 0, 0), (.ireturn, 1, 0, 0, 0)], 18),
  (18, [(.iload_n 2, 1, 2, 0, 0), (.ireturn, 1, 0, 0, 0)], 20)]
set_option maxRecDepth 100000 in
theorem ok_J9_floorMod_7cf53 : pm_oks 14 false 3 (some .int) cJ9_floorMod_7cf53 bk_J9_floorMod_7cf53 = true := oksF_ok (by decide +kernel)
set_option maxRecDepth 100000 in
theorem me_J9_floorMod_7cf53 : pm_me 17 = (yJ9_floorMod_7cf53, cJ9_floorMod_7cf53, 3, (some .int), 2, 1) := rfl
theorem mt_J9_floorMod_7cf53 {l : Launch} {g : pm_G} {d mc ms : Nat} {as : List Value} {A : pm_H} {Q : Option Value → pm_H → Prop} (hca : pm_cat 3 as = true) (body : ∀ J : pm_J, pm_Cl l g (fun _ => none) d mc ms (pm_Rq mc ms Q) bk_J9_floorMod_7cf53 J → J 0 (pm_l0 3 as) [] A 0 0) : pm_Mt l g 17 d mc ms as A Q := pm_Mt_of (isI := false) 14 bk_J9_floorMod_7cf53 me_J9_floorMod_7cf53 (Jvm.Free.JP.mathPlain rfl (by decide +kernel)) (by decide +kernel) (fun h => by cases h) ok_J9_floorMod_7cf53 hca body
def bk_J9_max_7cf53 : pm_B := [(0, [(.iload_n 0, 1, 0, 0, 0), (.iload_n 1, 1, 1, 0, 0), (.if_icmp .lt 7, 3, 9, 0, 0), (.iload_n 0, 1, 0, 0, 0), (.goto 4, 3, 10, 0, 0)], 9),
  (9, [(.iload_n 1, 1, 1, 0, 0)], 10),
  (10, [(.ireturn, 1, 0, 0, 0)], 11)]
set_option maxRecDepth 100000 in
theorem ok_J9_max_7cf53 : pm_oks 14 false 2 (some .int) cJ9_max_7cf53 bk_J9_max_7cf53 = true := oksF_ok (by decide +kernel)
set_option maxRecDepth 100000 in
theorem me_J9_max_7cf53 : pm_me 51 = (yJ9_max_7cf53, cJ9_max_7cf53, 2, (some .int), 2, 1) := rfl
theorem mt_J9_max_7cf53 {l : Launch} {g : pm_G} {d mc ms : Nat} {as : List Value} {A : pm_H} {Q : Option Value → pm_H → Prop} (hca : pm_cat 2 as = true) (body : ∀ J : pm_J, pm_Cl l g (fun _ => none) d mc ms (pm_Rq mc ms Q) bk_J9_max_7cf53 J → J 0 (pm_l0 2 as) [] A 0 0) : pm_Mt l g 51 d mc ms as A Q := pm_Mt_of (isI := false) 14 bk_J9_max_7cf53 me_J9_max_7cf53 (Jvm.Free.JP.mathPlain rfl (by decide +kernel)) (by decide +kernel) (fun h => by cases h) ok_J9_max_7cf53 hca body
def bk_J9_abs_0f7a4 : pm_B := [(0, [(.iload_n 0, 1, 0, 0, 0), (.ifCond .ge 8, 3, 9, 0, 0), (.iload_n 0, 1, 0, 0, 0), (.ineg, 1, 0, 0, 0), (.goto 4, 3, 10, 0, 0)], 9),
  (9, [(.iload_n 0, 1, 0, 0, 0)], 10),
  (10, [(.ireturn, 1, 0, 0, 0)], 11)]
set_option maxRecDepth 100000 in
theorem ok_J9_abs_0f7a4 : pm_oks 14 false 1 (some .int) cJ9_abs_0f7a4 bk_J9_abs_0f7a4 = true := oksF_ok (by decide +kernel)
set_option maxRecDepth 100000 in
theorem me_J9_abs_0f7a4 : pm_me 70 = (yJ9_abs_0f7a4, cJ9_abs_0f7a4, 1, (some .int), 1, 1) := rfl
theorem mt_J9_abs_0f7a4 {l : Launch} {g : pm_G} {d mc ms : Nat} {as : List Value} {A : pm_H} {Q : Option Value → pm_H → Prop} (hca : pm_cat 1 as = true) (body : ∀ J : pm_J, pm_Cl l g (fun _ => none) d mc ms (pm_Rq mc ms Q) bk_J9_abs_0f7a4 J → J 0 (pm_l0 1 as) [] A 0 0) : pm_Mt l g 70 d mc ms as A Q := pm_Mt_of (isI := false) 14 bk_J9_abs_0f7a4 me_J9_abs_0f7a4 (Jvm.Free.JP.mathPlain rfl (by decide +kernel)) (by decide +kernel) (fun h => by cases h) ok_J9_abs_0f7a4 hca body
def bk_J9_min_7cf53 : pm_B := [(0, [(.iload_n 0, 1, 0, 0, 0), (.iload_n 1, 1, 1, 0, 0), (.if_icmp .gt 7, 3, 9, 0, 0), (.iload_n 0, 1, 0, 0, 0), (.goto 4, 3, 10, 0, 0)], 9),
  (9, [(.iload_n 1, 1, 1, 0, 0)], 10),
  (10, [(.ireturn, 1, 0, 0, 0)], 11)]
set_option maxRecDepth 100000 in
theorem ok_J9_min_7cf53 : pm_oks 14 false 2 (some .int) cJ9_min_7cf53 bk_J9_min_7cf53 = true := oksF_ok (by decide +kernel)
set_option maxRecDepth 100000 in
theorem me_J9_min_7cf53 : pm_me 87 = (yJ9_min_7cf53, cJ9_min_7cf53, 2, (some .int), 2, 1) := rfl
theorem mt_J9_min_7cf53 {l : Launch} {g : pm_G} {d mc ms : Nat} {as : List Value} {A : pm_H} {Q : Option Value → pm_H → Prop} (hca : pm_cat 2 as = true) (body : ∀ J : pm_J, pm_Cl l g (fun _ => none) d mc ms (pm_Rq mc ms Q) bk_J9_min_7cf53 J → J 0 (pm_l0 2 as) [] A 0 0) : pm_Mt l g 87 d mc ms as A Q := pm_Mt_of (isI := false) 14 bk_J9_min_7cf53 me_J9_min_7cf53 (Jvm.Free.JP.mathPlain rfl (by decide +kernel)) (by decide +kernel) (fun h => by cases h) ok_J9_min_7cf53 hca body
def bk_J6_bitCount_0f7a4 : pm_B := [(0, [(.iload_n 0, 1, 0, 0, 0), (.iload_n 0, 1, 0, 0, 0), (.iconst 1, 1, 0, 0, 1), (.iushr, 1, 0, 0, 0), (.ldc_w 265, 3, 0, 0, 1431655765), (.iand, 1, 0, 0, 0), (.isub, 1, 0, 0, 0), (.istore_n 0, 1, 0, 0, 0), (.iload_n 0, 1, 0, 0, 0), (.ldc_w 266, 3, 0, 0, 858993459), (.iand, 1, 0, 0, 0), (.iload_n 0, 1, 0, 0, 0), (.iconst 2, 1, 0, 0, 2), (.iushr, 1, 0, 0, 0), (.ldc_w 266, 3, 0, 0, 858993459), (.iand, 1, 0, 0, 0), (.iadd, 1, 0, 0, 0), (.istore_n 0, 1, 0, 0, 0), (.iload_n 0, 1, 0, 0, 0), (.iload_n 0, 1, 0, 0, 0), (.iconst 4, 1, 0, 0, 4), (.iushr, 1, 0, 0, 0), (.iadd, 1, 0, 0, 0), (.ldc_w 267, 3, 0, 0, 252645135), (.iand, 1, 0, 0, 0), (.istore_n 0, 1, 0, 0, 0), (.iload_n 0, 1, 0, 0, 0), (.iload_n 0, 1, 0, 0, 0), (.bipush 8, 2, 0, 0, 8), (.iushr, 1, 0, 0, 0), (.iadd, 1, 0, 0, 0), (.istore_n 0, 1, 0, 0, 0), (.iload_n 0, 1, 0, 0, 0), (.iload_n 0, 1, 0, 0, 0), (.bipush 16, 2, 0, 0, 16), (.iushr, 1, 0, 0, 0), (.iadd, 1, 0, 0, 0), (.istore_n 0, 1, 0, 0, 0), (.iload_n 0, 1, 0, 0, 0), (.bipush 63, 2, 0, 0, 63), (.iand, 1, 0, 0, 0), (.ireturn, 1, 0, 0, 0)], 53)]
set_option maxRecDepth 100000 in
theorem ok_J6_bitCount_0f7a4 : pm_oks 13 false 1 (some .int) cJ6_bitCount_0f7a4 bk_J6_bitCount_0f7a4 = true := oksF_ok (by decide +kernel)
set_option maxRecDepth 100000 in
theorem me_J6_bitCount_0f7a4 : pm_me 75 = (yJ6_bitCount_0f7a4, cJ6_bitCount_0f7a4, 1, (some .int), 1, 1) := rfl
theorem mt_J6_bitCount_0f7a4 {l : Launch} {g : pm_G} {d mc ms : Nat} {as : List Value} {A : pm_H} {Q : Option Value → pm_H → Prop} (hca : pm_cat 1 as = true) (body : ∀ J : pm_J, pm_Cl l g (fun _ => none) d mc ms (pm_Rq mc ms Q) bk_J6_bitCount_0f7a4 J → J 0 (pm_l0 1 as) [] A 0 0) : pm_Mt l g 75 d mc ms as A Q := pm_Mt_of (isI := false) 13 bk_J6_bitCount_0f7a4 me_J6_bitCount_0f7a4 (plainFor_of_name (by decide +kernel)) (by decide +kernel) (fun h => by cases h) ok_J6_bitCount_0f7a4 hca body
def bk_X11_init : pm_B := [(0, [(.aload_n 0, 1, 0, 0, 0), (.invokespecial 1, 3, 0, 0, 0), (.aload_n 0, 1, 0, 0, 0), (.sipush 160, 3, 0, 0, 160), (.newarray .int, 2, 160, 0, 0), (.putfield 7, 3, 11, 0, 1), (.aload_n 0, 1, 0, 0, 0), (.sipush 160, 3, 0, 0, 160), (.newarray .int, 2, 160, 0, 0), (.putfield 13, 3, 11, 1, 1), (.aload_n 0, 1, 0, 0, 0), (.bipush 24, 2, 0, 0, 24), (.newarray .int, 2, 24, 0, 0), (.putfield 16, 3, 11, 2, 1), (.aload_n 0, 1, 0, 0, 0), (.sipush 160, 3, 0, 0, 160), (.newarray .int, 2, 160, 0, 0), (.putfield 19, 3, 11, 3, 1), (.aload_n 0, 1, 0, 0, 0), (.sipush 160, 3, 0, 0, 160), (.newarray .int, 2, 160, 0, 0), (.putfield 22, 3, 11, 4, 1), (.aload_n 0, 1, 0, 0, 0), (.sipush 160, 3, 0, 0, 160), (.newarray .int, 2, 160, 0, 0), (.putfield 25, 3, 11, 5, 1), (.aload_n 0, 1, 0, 0, 0), (.sipush 160, 3, 0, 0, 160), (.newarray .int, 2, 160, 0, 0), (.putfield 28, 3, 11, 6, 1), (.aload_n 0, 1, 0, 0, 0), (.bipush 30, 2, 0, 0, 30), (.newarray .int, 2, 30, 0, 0), (.putfield 31, 3, 11, 13, 1), (.aload_n 0, 1, 0, 0, 0), (.bipush 30, 2, 0, 0, 30), (.newarray .int, 2, 30, 0, 0), (.putfield 34, 3, 11, 14, 1), (.aload_n 0, 1, 0, 0, 0), (.bipush 30, 2, 0, 0, 30), (.newarray .int, 2, 30, 0, 0), (.putfield 37, 3, 11, 15, 1), (.aload_n 0, 1, 0, 0, 0), (.bipush 30, 2, 0, 0, 30), (.newarray .int, 2, 30, 0, 0), (.putfield 40, 3, 11, 16, 1), (.aload_n 0, 1, 0, 0, 0), (.bipush 30, 2, 0, 0, 30), (.newarray .int, 2, 30, 0, 0), (.putfield 43, 3, 11, 18, 1), (.aload_n 0, 1, 0, 0, 0), (.sipush 6400, 3, 0, 0, 6400), (.newarray .int, 2, 6400, 0, 0), (.putfield 46, 3, 11, 19, 1), (.aload_n 0, 1, 0, 0, 0), (.sipush 6400, 3, 0, 0, 6400), (.newarray .int, 2, 6400, 0, 0), (.putfield 49, 3, 11, 20, 1), (.aload_n 0, 1, 0, 0, 0), (.bipush 40, 2, 0, 0, 40), (.newarray .int, 2, 40, 0, 0), (.putfield 52, 3, 11, 21, 1), (.aload_n 0, 1, 0, 0, 0), (.bipush 40, 2, 0, 0, 40), (.newarray .int, 2, 40, 0, 0), (.putfield 55, 3, 11, 22, 1), (.aload_n 0, 1, 0, 0, 0), (.bipush 24, 2, 0, 0, 24), (.newarray .int, 2, 24, 0, 0), (.putfield 58, 3, 11, 23, 1), (.aload_n 0, 1, 0, 0, 0), (.sipush 160, 3, 0, 0, 160), (.newarray .int, 2, 160, 0, 0), (.putfield 61, 3, 11, 25, 1), (.aload_n 0, 1, 0, 0, 0), (.sipush 1449, 3, 0, 0, 1449), (.newarray .int, 2, 1449, 0, 0), (.putfield 64, 3, 11, 26, 1), (.aload_n 0, 1, 0, 0, 0), (.sipush 1449, 3, 0, 0, 1449), (.newarray .int, 2, 1449, 0, 0), (.putfield 67, 3, 11, 27, 1), (.iconst 0, 1, 0, 0, 0), (.istore_n 1, 1, 1, 0, 0)], 177),
  (177, [(.iload_n 1, 1, 1, 0, 0), (.bipush 24, 2, 0, 0, 24), (.if_icmp .ge 16, 3, 196, 0, 0), (.aload_n 0, 1, 0, 0, 0), (.getfield 16, 3, 11, 2, 0), (.iload_n 1, 1, 1, 0, 0), (.iconst 1, 1, 0, 0, 1), (.iastore, 1, 0, 0, 0), (.iinc 1 1, 3, 1, 0, 1), (.goto (-16), 3, 177, 0, 0)], 196),
  (196, [(.return_, 1, 0, 0, 0)], 197)]
set_option maxRecDepth 100000 in
theorem ok_X11_init : pm_oks 11 true 2 none cX11_init bk_X11_init = true := oksF_ok (by decide +kernel)
set_option maxRecDepth 100000 in
theorem me_X11_init : pm_me 166 = (yX11_init, cX11_init, 2, none, 0, 2) := rfl
theorem mt_X11_init {l : Launch} {g : pm_G} {d mc ms : Nat} {as : List Value} {A : pm_H} {Q : Option Value → pm_H → Prop} (hca : pm_cat 2 as = true) (body : ∀ J : pm_J, pm_Cl l g (fun _ => none) d mc ms (pm_Rq mc ms Q) bk_X11_init J → J 0 (pm_l0 2 as) [] A 0 0) : pm_Mt l g 166 d mc ms as A Q := pm_Mt_of (isI := true) 11 bk_X11_init me_X11_init (plainFor_of_name (by decide +kernel)) (by decide +kernel) (fun _ => by decide +kernel) ok_X11_init hca body
def bk_X11_put : pm_B := [(0, [(.aload_n 0, 1, 0, 0, 0), (.iload_n 1, 1, 1, 0, 0), (.invokevirtual 119, 3, 168, 1, 11), (.ifCond .eq 22, 3, 27, 0, 0), (.iload_n 2, 1, 2, 0, 0), (.invokestatic 122, 3, 170, 1, 0), (.ifCond .eq 15, 3, 27, 0, 0), (.aload_n 0, 1, 0, 0, 0), (.iload_n 1, 1, 1, 0, 0), (.iload_n 1, 1, 1, 0, 0), (.iconst (-1), 1, 0, 0, -1), (.iload_n 2, 1, 2, 0, 0), (.iconst 0, 1, 0, 0, 0), (.invokevirtual 125, 3, 171, 5, 11), (.goto 4, 3, 28, 0, 0)], 27),
  (27, [(.iconst (-1), 1, 0, 0, -1)], 28),
  (28, [(.ireturn, 1, 0, 0, 0)], 29)]
set_option maxRecDepth 100000 in
theorem ok_X11_put : pm_oks 11 false 3 (some .int) cX11_put bk_X11_put = true := oksF_ok (by decide +kernel)
set_option maxRecDepth 100000 in
theorem me_X11_put : pm_me 167 = (yX11_put, cX11_put, 3, (some .int), 2, 0) := rfl
theorem mt_X11_put {l : Launch} {g : pm_G} {d mc ms : Nat} {as : List Value} {A : pm_H} {Q : Option Value → pm_H → Prop} (hca : pm_cat 3 as = true) (body : ∀ J : pm_J, pm_Cl l g (fun _ => none) d mc ms (pm_Rq mc ms Q) bk_X11_put J → J 0 (pm_l0 3 as) [] A 0 0) : pm_Mt l g 167 d mc ms as A Q := pm_Mt_of (isI := false) 11 bk_X11_put me_X11_put (plainFor_of_name (by decide +kernel)) (by decide +kernel) (fun h => by cases h) ok_X11_put hca body
def bk_X11_isPlace : pm_B := [(0, [(.iload_n 1, 1, 1, 0, 0), (.iconst 0, 1, 0, 0, 0), (.aload_n 0, 1, 0, 0, 0), (.getfield 70, 3, 11, 7, 0), (.iconst 1, 1, 0, 0, 1), (.isub, 1, 0, 0, 0), (.invokestatic 74, 3, 169, 3, 0), (.ireturn, 1, 1, 0, 0)], 12)]
set_option maxRecDepth 100000 in
theorem ok_X11_isPlace : pm_oks 11 false 2 (some .boolean) cX11_isPlace bk_X11_isPlace = true := oksF_ok (by decide +kernel)
set_option maxRecDepth 100000 in
theorem me_X11_isPlace : pm_me 168 = (yX11_isPlace, cX11_isPlace, 2, (some .boolean), 1, 0) := rfl
theorem mt_X11_isPlace {l : Launch} {g : pm_G} {d mc ms : Nat} {as : List Value} {A : pm_H} {Q : Option Value → pm_H → Prop} (hca : pm_cat 2 as = true) (body : ∀ J : pm_J, pm_Cl l g (fun _ => none) d mc ms (pm_Rq mc ms Q) bk_X11_isPlace J → J 0 (pm_l0 2 as) [] A 0 0) : pm_Mt l g 168 d mc ms as A Q := pm_Mt_of (isI := false) 11 bk_X11_isPlace me_X11_isPlace (plainFor_of_name (by decide +kernel)) (by decide +kernel) (fun h => by cases h) ok_X11_isPlace hca body
def bk_X11_isIn : pm_B := [(0, [(.iload_n 0, 1, 0, 0, 0), (.iload_n 1, 1, 1, 0, 0), (.if_icmp .lt 12, 3, 14, 0, 0), (.iload_n 0, 1, 0, 0, 0), (.iload_n 2, 1, 2, 0, 0), (.if_icmp .gt 7, 3, 14, 0, 0), (.iconst 1, 1, 0, 0, 1), (.goto 4, 3, 15, 0, 0)], 14),
  (14, [(.iconst 0, 1, 0, 0, 0)], 15),
  (15, [(.ireturn, 1, 1, 0, 0)], 16)]
set_option maxRecDepth 100000 in
theorem ok_X11_isIn : pm_oks 11 false 3 (some .boolean) cX11_isIn bk_X11_isIn = true := oksF_ok (by decide +kernel)
set_option maxRecDepth 100000 in
theorem me_X11_isIn : pm_me 169 = (yX11_isIn, cX11_isIn, 3, (some .boolean), 3, 1) := rfl
theorem mt_X11_isIn {l : Launch} {g : pm_G} {d mc ms : Nat} {as : List Value} {A : pm_H} {Q : Option Value → pm_H → Prop} (hca : pm_cat 3 as = true) (body : ∀ J : pm_J, pm_Cl l g (fun _ => none) d mc ms (pm_Rq mc ms Q) bk_X11_isIn J → J 0 (pm_l0 3 as) [] A 0 0) : pm_Mt l g 169 d mc ms as A Q := pm_Mt_of (isI := false) 11 bk_X11_isIn me_X11_isIn (plainFor_of_name (by decide +kernel)) (by decide +kernel) (fun h => by cases h) ok_X11_isIn hca body
def bk_X11_isColour : pm_B := [(0, [(.iload_n 0, 1, 0, 0, 0), (.iconst 0, 1, 0, 0, 0), (.bipush 23, 2, 0, 0, 23), (.invokestatic 74, 3, 169, 3, 0), (.ireturn, 1, 1, 0, 0)], 8)]
set_option maxRecDepth 100000 in
theorem ok_X11_isColour : pm_oks 11 false 1 (some .boolean) cX11_isColour bk_X11_isColour = true := oksF_ok (by decide +kernel)
set_option maxRecDepth 100000 in
theorem me_X11_isColour : pm_me 170 = (yX11_isColour, cX11_isColour, 1, (some .boolean), 1, 1) := rfl
theorem mt_X11_isColour {l : Launch} {g : pm_G} {d mc ms : Nat} {as : List Value} {A : pm_H} {Q : Option Value → pm_H → Prop} (hca : pm_cat 1 as = true) (body : ∀ J : pm_J, pm_Cl l g (fun _ => none) d mc ms (pm_Rq mc ms Q) bk_X11_isColour J → J 0 (pm_l0 1 as) [] A 0 0) : pm_Mt l g 170 d mc ms as A Q := pm_Mt_of (isI := false) 11 bk_X11_isColour me_X11_isColour (plainFor_of_name (by decide +kernel)) (by decide +kernel) (fun h => by cases h) ok_X11_isColour hca body
def bk_X11_recolours : pm_B := [(0, [(.aload_n 0, 1, 0, 0, 0), (.invokevirtual 112, 3, 172, 0, 11), (.iconst 0, 1, 0, 0, 0), (.istore 6, 2, 6, 0, 0)], 7),
  (7, [(.iload 6, 2, 6, 0, 0), (.aload_n 0, 1, 0, 0, 0), (.getfield 70, 3, 11, 7, 0), (.if_icmp .ge 86, 3, 99, 0, 0), (.aload_n 0, 1, 0, 0, 0), (.getfield 7, 3, 11, 0, 0), (.iload 6, 2, 6, 0, 0), (.iaload, 1, 0, 0, 0), (.istore 7, 2, 7, 0, 0), (.iload 6, 2, 6, 0, 0), (.iload_n 1, 1, 1, 0, 0), (.iload_n 2, 1, 2, 0, 0), (.invokestatic 74, 3, 169, 3, 0), (.istore 8, 2, 8, 0, 0), (.iload 8, 2, 8, 0, 0), (.ifCond .ne 8, 3, 44, 0, 0), (.iload 7, 2, 7, 0, 0), (.goto 37, 3, 78, 0, 0)], 44),
  (44, [(.iload_n 3, 1, 3, 0, 0), (.iconst (-1), 1, 0, 0, -1), (.if_icmp .eq 9, 3, 55, 0, 0), (.iload 7, 2, 7, 0, 0), (.iload_n 3, 1, 3, 0, 0), (.if_icmp .ne 8, 3, 60, 0, 0)], 55),
  (55, [(.iload 4, 2, 4, 0, 0), (.goto 21, 3, 78, 0, 0)], 60),
  (60, [(.iload 5, 2, 5, 0, 0), (.ifCond .eq 14, 3, 76, 0, 0), (.iload 7, 2, 7, 0, 0), (.iload 4, 2, 4, 0, 0), (.if_icmp .ne 7, 3, 76, 0, 0), (.iload_n 3, 1, 3, 0, 0), (.goto 5, 3, 78, 0, 0)], 76),
  (76, [(.iload 7, 2, 7, 0, 0)], 78),
  (78, [(.istore 9, 2, 9, 0, 0), (.aload_n 0, 1, 0, 0, 0), (.iload 9, 2, 9, 0, 0), (.aload_n 0, 1, 0, 0, 0), (.getfield 13, 3, 11, 1, 0), (.iload 6, 2, 6, 0, 0), (.iaload, 1, 0, 0, 0), (.invokevirtual 91, 3, 175, 2, 11), (.iinc 6 1, 3, 6, 0, 1), (.goto (-89), 3, 7, 0, 0)], 99),
  (99, [(.aload_n 0, 1, 0, 0, 0), (.invokevirtual 115, 3, 176, 0, 11), (.ireturn, 1, 0, 0, 0)], 104)]
set_option maxRecDepth 100000 in
theorem ok_X11_recolours : pm_oks 11 false 10 (some .int) cX11_recolours bk_X11_recolours = true := oksF_ok (by decide +kernel)
set_option maxRecDepth 100000 in
theorem me_X11_recolours : pm_me 171 = (yX11_recolours, cX11_recolours, 10, (some .int), 5, 0) := rfl
theorem mt_X11_recolours {l : Launch} {g : pm_G} {d mc ms : Nat} {as : List Value} {A : pm_H} {Q : Option Value → pm_H → Prop} (hca : pm_cat 10 as = true) (body : ∀ J : pm_J, pm_Cl l g (fun _ => none) d mc ms (pm_Rq mc ms Q) bk_X11_recolours J → J 0 (pm_l0 10 as) [] A 0 0) : pm_Mt l g 171 d mc ms as A Q := pm_Mt_of (isI := false) 11 bk_X11_recolours me_X11_recolours (plainFor_of_name (by decide +kernel)) (by decide +kernel) (fun h => by cases h) ok_X11_recolours hca body
def bk_X11_begins : pm_B := [(0, [(.aload_n 0, 1, 0, 0, 0), (.aload_n 0, 1, 0, 0, 0), (.getfield 70, 3, 11, 7, 0), (.putfield 82, 3, 11, 8, 0), (.iconst 0, 1, 0, 0, 0), (.istore_n 1, 1, 1, 0, 0)], 10),
  (10, [(.iload_n 1, 1, 1, 0, 0), (.aload_n 0, 1, 0, 0, 0), (.getfield 70, 3, 11, 7, 0), (.if_icmp .ge 32, 3, 47, 0, 0), (.aload_n 0, 1, 0, 0, 0), (.getfield 19, 3, 11, 3, 0), (.iload_n 1, 1, 1, 0, 0), (.aload_n 0, 1, 0, 0, 0), (.getfield 13, 3, 11, 1, 0), (.iload_n 1, 1, 1, 0, 0), (.iaload, 1, 0, 0, 0), (.iastore, 1, 0, 0, 0), (.aload_n 0, 1, 0, 0, 0), (.getfield 22, 3, 11, 4, 0), (.iload_n 1, 1, 1, 0, 0), (.aload_n 0, 1, 0, 0, 0), (.iload_n 1, 1, 1, 0, 0), (.invokevirtual 85, 3, 173, 1, 11), (.iastore, 1, 0, 0, 0), (.iinc 1 1, 3, 1, 0, 1), (.goto (-34), 3, 10, 0, 0)], 47),
  (47, [(.aload_n 0, 1, 0, 0, 0), (.iconst 0, 1, 0, 0, 0), (.putfield 88, 3, 11, 9, 0), (.return_, 1, 0, 0, 0)], 53)]
set_option maxRecDepth 100000 in
theorem ok_X11_begins : pm_oks 11 false 2 none cX11_begins bk_X11_begins = true := oksF_ok (by decide +kernel)
set_option maxRecDepth 100000 in
theorem me_X11_begins : pm_me 172 = (yX11_begins, cX11_begins, 2, none, 0, 0) := rfl
theorem mt_X11_begins {l : Launch} {g : pm_G} {d mc ms : Nat} {as : List Value} {A : pm_H} {Q : Option Value → pm_H → Prop} (hca : pm_cat 2 as = true) (body : ∀ J : pm_J, pm_Cl l g (fun _ => none) d mc ms (pm_Rq mc ms Q) bk_X11_begins J → J 0 (pm_l0 2 as) [] A 0 0) : pm_Mt l g 172 d mc ms as A Q := pm_Mt_of (isI := false) 11 bk_X11_begins me_X11_begins (plainFor_of_name (by decide +kernel)) (by decide +kernel) (fun h => by cases h) ok_X11_begins hca body
def bk_X11_bondOf : pm_B := [(0, [(.aload_n 0, 1, 0, 0, 0), (.iload_n 1, 1, 1, 0, 0), (.invokevirtual 78, 3, 174, 1, 11), (.ifCond .ge 7, 3, 12, 0, 0), (.iconst (-1), 1, 0, 0, -1), (.goto 13, 3, 22, 0, 0)], 12),
  (12, [(.aload_n 0, 1, 0, 0, 0), (.getfield 13, 3, 11, 1, 0), (.aload_n 0, 1, 0, 0, 0), (.iload_n 1, 1, 1, 0, 0), (.invokevirtual 78, 3, 174, 1, 11), (.iaload, 1, 0, 0, 0)], 22),
  (22, [(.ireturn, 1, 0, 0, 0)], 23)]
set_option maxRecDepth 100000 in
theorem ok_X11_bondOf : pm_oks 11 false 2 (some .int) cX11_bondOf bk_X11_bondOf = true := oksF_ok (by decide +kernel)
set_option maxRecDepth 100000 in
theorem me_X11_bondOf : pm_me 173 = (yX11_bondOf, cX11_bondOf, 2, (some .int), 1, 0) := rfl
theorem mt_X11_bondOf {l : Launch} {g : pm_G} {d mc ms : Nat} {as : List Value} {A : pm_H} {Q : Option Value → pm_H → Prop} (hca : pm_cat 2 as = true) (body : ∀ J : pm_J, pm_Cl l g (fun _ => none) d mc ms (pm_Rq mc ms Q) bk_X11_bondOf J → J 0 (pm_l0 2 as) [] A 0 0) : pm_Mt l g 173 d mc ms as A Q := pm_Mt_of (isI := false) 11 bk_X11_bondOf me_X11_bondOf (plainFor_of_name (by decide +kernel)) (by decide +kernel) (fun h => by cases h) ok_X11_bondOf hca body
def bk_X11_ahead : pm_B := [(0, [(.iload_n 1, 1, 1, 0, 0), (.iconst 1, 1, 0, 0, 1), (.isub, 1, 0, 0, 0), (.istore_n 2, 1, 2, 0, 0)], 4),
  (4, [(.iload_n 2, 1, 2, 0, 0), (.ifCond .lt 26, 3, 31, 0, 0), (.aload_n 0, 1, 0, 0, 0), (.getfield 7, 3, 11, 0, 0), (.iload_n 2, 1, 2, 0, 0), (.iaload, 1, 0, 0, 0), (.aload_n 0, 1, 0, 0, 0), (.getfield 7, 3, 11, 0, 0), (.iload_n 1, 1, 1, 0, 0), (.iaload, 1, 0, 0, 0), (.if_icmp .ne 5, 3, 25, 0, 0), (.iload_n 2, 1, 2, 0, 0), (.ireturn, 1, 0, 0, 0)], 25),
  (25, [(.iinc 2 (-1), 3, 2, 0, -1), (.goto (-24), 3, 4, 0, 0)], 31),
  (31, [(.iconst (-1), 1, 0, 0, -1), (.ireturn, 1, 0, 0, 0)], 33)]
set_option maxRecDepth 100000 in
theorem ok_X11_ahead : pm_oks 11 false 3 (some .int) cX11_ahead bk_X11_ahead = true := oksF_ok (by decide +kernel)
set_option maxRecDepth 100000 in
theorem me_X11_ahead : pm_me 174 = (yX11_ahead, cX11_ahead, 3, (some .int), 1, 0) := rfl
theorem mt_X11_ahead {l : Launch} {g : pm_G} {d mc ms : Nat} {as : List Value} {A : pm_H} {Q : Option Value → pm_H → Prop} (hca : pm_cat 3 as = true) (body : ∀ J : pm_J, pm_Cl l g (fun _ => none) d mc ms (pm_Rq mc ms Q) bk_X11_ahead J → J 0 (pm_l0 3 as) [] A 0 0) : pm_Mt l g 174 d mc ms as A Q := pm_Mt_of (isI := false) 11 bk_X11_ahead me_X11_ahead (plainFor_of_name (by decide +kernel)) (by decide +kernel) (fun h => by cases h) ok_X11_ahead hca body
def bk_X11_lays : pm_B := [(0, [(.aload_n 0, 1, 0, 0, 0), (.getfield 25, 3, 11, 5, 0), (.aload_n 0, 1, 0, 0, 0), (.getfield 88, 3, 11, 9, 0), (.iload_n 1, 1, 1, 0, 0), (.iastore, 1, 0, 0, 0), (.aload_n 0, 1, 0, 0, 0), (.getfield 28, 3, 11, 6, 0), (.aload_n 0, 1, 0, 0, 0), (.getfield 88, 3, 11, 9, 0), (.iload_n 2, 1, 2, 0, 0), (.iastore, 1, 0, 0, 0), (.aload_n 0, 1, 0, 0, 0), (.dup, 1, 0, 0, 0), (.getfield 88, 3, 11, 9, 0), (.iconst 1, 1, 0, 0, 1), (.iadd, 1, 0, 0, 0), (.putfield 88, 3, 11, 9, 0), (.return_, 1, 0, 0, 0)], 31)]
set_option maxRecDepth 100000 in
theorem ok_X11_lays : pm_oks 11 false 3 none cX11_lays bk_X11_lays = true := oksF_ok (by decide +kernel)
set_option maxRecDepth 100000 in
theorem me_X11_lays : pm_me 175 = (yX11_lays, cX11_lays, 3, none, 2, 0) := rfl
theorem mt_X11_lays {l : Launch} {g : pm_G} {d mc ms : Nat} {as : List Value} {A : pm_H} {Q : Option Value → pm_H → Prop} (hca : pm_cat 3 as = true) (body : ∀ J : pm_J, pm_Cl l g (fun _ => none) d mc ms (pm_Rq mc ms Q) bk_X11_lays J → J 0 (pm_l0 3 as) [] A 0 0) : pm_Mt l g 175 d mc ms as A Q := pm_Mt_of (isI := false) 11 bk_X11_lays me_X11_lays (plainFor_of_name (by decide +kernel)) (by decide +kernel) (fun h => by cases h) ok_X11_lays hca body
def bk_X11_ends : pm_B := [(0, [(.aload_n 0, 1, 0, 0, 0), (.aload_n 0, 1, 0, 0, 0), (.getfield 88, 3, 11, 9, 0), (.putfield 70, 3, 11, 7, 0), (.iconst 0, 1, 0, 0, 0), (.istore_n 1, 1, 1, 0, 0)], 10),
  (10, [(.iload_n 1, 1, 1, 0, 0), (.aload_n 0, 1, 0, 0, 0), (.getfield 70, 3, 11, 7, 0), (.if_icmp .ge 33, 3, 48, 0, 0), (.aload_n 0, 1, 0, 0, 0), (.getfield 7, 3, 11, 0, 0), (.iload_n 1, 1, 1, 0, 0), (.aload_n 0, 1, 0, 0, 0), (.getfield 25, 3, 11, 5, 0), (.iload_n 1, 1, 1, 0, 0), (.iaload, 1, 0, 0, 0), (.iastore, 1, 0, 0, 0), (.aload_n 0, 1, 0, 0, 0), (.getfield 13, 3, 11, 1, 0), (.iload_n 1, 1, 1, 0, 0), (.aload_n 0, 1, 0, 0, 0), (.getfield 28, 3, 11, 6, 0), (.iload_n 1, 1, 1, 0, 0), (.iaload, 1, 0, 0, 0), (.iastore, 1, 0, 0, 0), (.iinc 1 1, 3, 1, 0, 1), (.goto (-35), 3, 10, 0, 0)], 48),
  (48, [(.iconst 0, 1, 0, 0, 0), (.istore_n 1, 1, 1, 0, 0), (.iconst 0, 1, 0, 0, 0), (.istore_n 2, 1, 2, 0, 0)], 52),
  (52, [(.iload_n 2, 1, 2, 0, 0), (.aload_n 0, 1, 0, 0, 0), (.getfield 70, 3, 11, 7, 0), (.if_icmp .ge 25, 3, 82, 0, 0), (.iload_n 1, 1, 1, 0, 0), (.aload_n 0, 1, 0, 0, 0), (.iload_n 2, 1, 2, 0, 0), (.invokevirtual 98, 3, 177, 1, 11), (.ifCond .eq 7, 3, 73, 0, 0), (.iconst 1, 1, 0, 0, 1), (.goto 4, 3, 74, 0, 0)], 73),
  (73, [(.iconst 0, 1, 0, 0, 0)], 74),
  (74, [(.iadd, 1, 0, 0, 0), (.istore_n 1, 1, 1, 0, 0), (.iinc 2 1, 3, 2, 0, 1), (.goto (-27), 3, 52, 0, 0)], 82),
  (82, [(.aload_n 0, 1, 0, 0, 0), (.dup, 1, 0, 0, 0), (.getfield 102, 3, 11, 11, 0), (.iconst 1, 1, 0, 0, 1), (.iadd, 1, 0, 0, 0), (.putfield 102, 3, 11, 11, 0), (.aload_n 0, 1, 0, 0, 0), (.dup, 1, 0, 0, 0), (.getfield 105, 3, 11, 12, 0), (.iload_n 1, 1, 1, 0, 0), (.iadd, 1, 0, 0, 0), (.putfield 105, 3, 11, 12, 0), (.aload_n 0, 1, 0, 0, 0), (.iload_n 1, 1, 1, 0, 0), (.invokevirtual 108, 3, 178, 1, 11), (.iload_n 1, 1, 1, 0, 0), (.ireturn, 1, 0, 0, 0)], 109)]
set_option maxRecDepth 100000 in
theorem ok_X11_ends : pm_oks 11 false 3 (some .int) cX11_ends bk_X11_ends = true := oksF_ok (by decide +kernel)
set_option maxRecDepth 100000 in
theorem me_X11_ends : pm_me 176 = (yX11_ends, cX11_ends, 3, (some .int), 0, 0) := rfl
theorem mt_X11_ends {l : Launch} {g : pm_G} {d mc ms : Nat} {as : List Value} {A : pm_H} {Q : Option Value → pm_H → Prop} (hca : pm_cat 3 as = true) (body : ∀ J : pm_J, pm_Cl l g (fun _ => none) d mc ms (pm_Rq mc ms Q) bk_X11_ends J → J 0 (pm_l0 3 as) [] A 0 0) : pm_Mt l g 176 d mc ms as A Q := pm_Mt_of (isI := false) 11 bk_X11_ends me_X11_ends (plainFor_of_name (by decide +kernel)) (by decide +kernel) (fun h => by cases h) ok_X11_ends hca body
def bk_X11_isTouched : pm_B := [(0, [(.iconst 0, 1, 0, 0, 0), (.istore_n 2, 1, 2, 0, 0)], 2),
  (2, [(.iload_n 2, 1, 2, 0, 0), (.aload_n 0, 1, 0, 0, 0), (.getfield 82, 3, 11, 8, 0), (.if_icmp .ge 44, 3, 51, 0, 0), (.aload_n 0, 1, 0, 0, 0), (.getfield 19, 3, 11, 3, 0), (.iload_n 2, 1, 2, 0, 0), (.iaload, 1, 0, 0, 0), (.aload_n 0, 1, 0, 0, 0), (.getfield 13, 3, 11, 1, 0), (.iload_n 1, 1, 1, 0, 0), (.iaload, 1, 0, 0, 0), (.if_icmp .ne 23, 3, 45, 0, 0), (.aload_n 0, 1, 0, 0, 0), (.getfield 22, 3, 11, 4, 0), (.iload_n 2, 1, 2, 0, 0), (.iaload, 1, 0, 0, 0), (.aload_n 0, 1, 0, 0, 0), (.iload_n 1, 1, 1, 0, 0), (.invokevirtual 85, 3, 173, 1, 11), (.if_icmp .eq 7, 3, 43, 0, 0), (.iconst 1, 1, 0, 0, 1), (.goto 4, 3, 44, 0, 0)], 43),
  (43, [(.iconst 0, 1, 0, 0, 0)], 44),
  (44, [(.ireturn, 1, 1, 0, 0)], 45),
  (45, [(.iinc 2 1, 3, 2, 0, 1), (.goto (-46), 3, 2, 0, 0)], 51),
  (51, [(.iconst 0, 1, 0, 0, 0), (.ireturn, 1, 1, 0, 0)], 53)]
set_option maxRecDepth 100000 in
theorem ok_X11_isTouched : pm_oks 11 false 3 (some .boolean) cX11_isTouched bk_X11_isTouched = true := oksF_ok (by decide +kernel)
set_option maxRecDepth 100000 in
theorem me_X11_isTouched : pm_me 177 = (yX11_isTouched, cX11_isTouched, 3, (some .boolean), 1, 0) := rfl
theorem mt_X11_isTouched {l : Launch} {g : pm_G} {d mc ms : Nat} {as : List Value} {A : pm_H} {Q : Option Value → pm_H → Prop} (hca : pm_cat 3 as = true) (body : ∀ J : pm_J, pm_Cl l g (fun _ => none) d mc ms (pm_Rq mc ms Q) bk_X11_isTouched J → J 0 (pm_l0 3 as) [] A 0 0) : pm_Mt l g 177 d mc ms as A Q := pm_Mt_of (isI := false) 11 bk_X11_isTouched me_X11_isTouched (plainFor_of_name (by decide +kernel)) (by decide +kernel) (fun h => by cases h) ok_X11_isTouched hca body
def bk_X11_keepsRow : pm_B := [(0, [(.aload_n 0, 1, 0, 0, 0), (.getfield 102, 3, 11, 11, 0), (.bipush 40, 2, 0, 0, 40), (.irem, 1, 0, 0, 0), (.istore_n 2, 1, 2, 0, 0), (.aload_n 0, 1, 0, 0, 0), (.getfield 52, 3, 11, 21, 0), (.iload_n 2, 1, 2, 0, 0), (.aload_n 0, 1, 0, 0, 0), (.getfield 70, 3, 11, 7, 0), (.iastore, 1, 0, 0, 0), (.aload_n 0, 1, 0, 0, 0), (.getfield 55, 3, 11, 22, 0), (.iload_n 2, 1, 2, 0, 0), (.iload_n 1, 1, 1, 0, 0), (.iastore, 1, 0, 0, 0), (.iconst 0, 1, 0, 0, 0), (.istore_n 3, 1, 3, 0, 0)], 27),
  (27, [(.iload_n 3, 1, 3, 0, 0), (.aload_n 0, 1, 0, 0, 0), (.getfield 70, 3, 11, 7, 0), (.if_icmp .ge 45, 3, 77, 0, 0), (.aload_n 0, 1, 0, 0, 0), (.getfield 46, 3, 11, 19, 0), (.sipush 160, 3, 0, 0, 160), (.iload_n 2, 1, 2, 0, 0), (.imul, 1, 0, 0, 0), (.iload_n 3, 1, 3, 0, 0), (.iadd, 1, 0, 0, 0), (.aload_n 0, 1, 0, 0, 0), (.getfield 7, 3, 11, 0, 0), (.iload_n 3, 1, 3, 0, 0), (.iaload, 1, 0, 0, 0), (.iastore, 1, 0, 0, 0), (.aload_n 0, 1, 0, 0, 0), (.getfield 49, 3, 11, 20, 0), (.sipush 160, 3, 0, 0, 160), (.iload_n 2, 1, 2, 0, 0), (.imul, 1, 0, 0, 0), (.iload_n 3, 1, 3, 0, 0), (.iadd, 1, 0, 0, 0), (.aload_n 0, 1, 0, 0, 0), (.getfield 13, 3, 11, 1, 0), (.iload_n 3, 1, 3, 0, 0), (.iaload, 1, 0, 0, 0), (.iastore, 1, 0, 0, 0), (.iinc 3 1, 3, 3, 0, 1), (.goto (-47), 3, 27, 0, 0)], 77),
  (77, [(.return_, 1, 0, 0, 0)], 78)]
set_option maxRecDepth 100000 in
theorem ok_X11_keepsRow : pm_oks 11 false 4 none cX11_keepsRow bk_X11_keepsRow = true := oksF_ok (by decide +kernel)
set_option maxRecDepth 100000 in
theorem me_X11_keepsRow : pm_me 178 = (yX11_keepsRow, cX11_keepsRow, 4, none, 1, 0) := rfl
theorem mt_X11_keepsRow {l : Launch} {g : pm_G} {d mc ms : Nat} {as : List Value} {A : pm_H} {Q : Option Value → pm_H → Prop} (hca : pm_cat 4 as = true) (body : ∀ J : pm_J, pm_Cl l g (fun _ => none) d mc ms (pm_Rq mc ms Q) bk_X11_keepsRow J → J 0 (pm_l0 4 as) [] A 0 0) : pm_Mt l g 178 d mc ms as A Q := pm_Mt_of (isI := false) 11 bk_X11_keepsRow me_X11_keepsRow (plainFor_of_name (by decide +kernel)) (by decide +kernel) (fun h => by cases h) ok_X11_keepsRow hca body
def bk_X11_paint : pm_B := [(0, [(.aload_n 0, 1, 0, 0, 0), (.iload_n 1, 1, 1, 0, 0), (.iload_n 2, 1, 2, 0, 0), (.invokevirtual 129, 3, 180, 2, 11), (.ifCond .eq 22, 3, 28, 0, 0), (.iload_n 3, 1, 3, 0, 0), (.invokestatic 122, 3, 170, 1, 0), (.ifCond .eq 15, 3, 28, 0, 0), (.aload_n 0, 1, 0, 0, 0), (.iload_n 1, 1, 1, 0, 0), (.iload_n 2, 1, 2, 0, 0), (.iconst (-1), 1, 0, 0, -1), (.iload_n 3, 1, 3, 0, 0), (.iconst 0, 1, 0, 0, 0), (.invokevirtual 125, 3, 171, 5, 11), (.goto 4, 3, 29, 0, 0)], 28),
  (28, [(.iconst (-1), 1, 0, 0, -1)], 29),
  (29, [(.ireturn, 1, 0, 0, 0)], 30)]
set_option maxRecDepth 100000 in
theorem ok_X11_paint : pm_oks 11 false 4 (some .int) cX11_paint bk_X11_paint = true := oksF_ok (by decide +kernel)
set_option maxRecDepth 100000 in
theorem me_X11_paint : pm_me 179 = (yX11_paint, cX11_paint, 4, (some .int), 3, 0) := rfl
theorem mt_X11_paint {l : Launch} {g : pm_G} {d mc ms : Nat} {as : List Value} {A : pm_H} {Q : Option Value → pm_H → Prop} (hca : pm_cat 4 as = true) (body : ∀ J : pm_J, pm_Cl l g (fun _ => none) d mc ms (pm_Rq mc ms Q) bk_X11_paint J → J 0 (pm_l0 4 as) [] A 0 0) : pm_Mt l g 179 d mc ms as A Q := pm_Mt_of (isI := false) 11 bk_X11_paint me_X11_paint (plainFor_of_name (by decide +kernel)) (by decide +kernel) (fun h => by cases h) ok_X11_paint hca body
def bk_X11_isSpan : pm_B := [(0, [(.iload_n 1, 1, 1, 0, 0), (.ifCond .lt 20, 3, 21, 0, 0), (.iload_n 1, 1, 1, 0, 0), (.iload_n 2, 1, 2, 0, 0), (.if_icmp .gt 15, 3, 21, 0, 0), (.iload_n 2, 1, 2, 0, 0), (.aload_n 0, 1, 0, 0, 0), (.getfield 70, 3, 11, 7, 0), (.if_icmp .ge 7, 3, 21, 0, 0), (.iconst 1, 1, 0, 0, 1), (.goto 4, 3, 22, 0, 0)], 21),
  (21, [(.iconst 0, 1, 0, 0, 0)], 22),
  (22, [(.ireturn, 1, 1, 0, 0)], 23)]
set_option maxRecDepth 100000 in
theorem ok_X11_isSpan : pm_oks 11 false 3 (some .boolean) cX11_isSpan bk_X11_isSpan = true := oksF_ok (by decide +kernel)
set_option maxRecDepth 100000 in
theorem me_X11_isSpan : pm_me 180 = (yX11_isSpan, cX11_isSpan, 3, (some .boolean), 2, 0) := rfl
theorem mt_X11_isSpan {l : Launch} {g : pm_G} {d mc ms : Nat} {as : List Value} {A : pm_H} {Q : Option Value → pm_H → Prop} (hca : pm_cat 3 as = true) (body : ∀ J : pm_J, pm_Cl l g (fun _ => none) d mc ms (pm_Rq mc ms Q) bk_X11_isSpan J → J 0 (pm_l0 3 as) [] A 0 0) : pm_Mt l g 180 d mc ms as A Q := pm_Mt_of (isI := false) 11 bk_X11_isSpan me_X11_isSpan (plainFor_of_name (by decide +kernel)) (by decide +kernel) (fun h => by cases h) ok_X11_isSpan hca body
def bk_X11_merge : pm_B := [(0, [(.iload_n 1, 1, 1, 0, 0), (.invokestatic 122, 3, 170, 1, 0), (.ifCond .eq 32, 3, 36, 0, 0), (.iload_n 2, 1, 2, 0, 0), (.invokestatic 122, 3, 170, 1, 0), (.ifCond .eq 25, 3, 36, 0, 0), (.iload_n 1, 1, 1, 0, 0), (.iload_n 2, 1, 2, 0, 0), (.if_icmp .eq 20, 3, 36, 0, 0), (.aload_n 0, 1, 0, 0, 0), (.iconst 0, 1, 0, 0, 0), (.aload_n 0, 1, 0, 0, 0), (.getfield 70, 3, 11, 7, 0), (.iconst 1, 1, 0, 0, 1), (.isub, 1, 0, 0, 0), (.iload_n 1, 1, 1, 0, 0), (.iload_n 2, 1, 2, 0, 0), (.iconst 0, 1, 0, 0, 0), (.invokevirtual 125, 3, 171, 5, 11), (.goto 4, 3, 37, 0, 0)], 36),
  (36, [(.iconst (-1), 1, 0, 0, -1)], 37),
  (37, [(.ireturn, 1, 0, 0, 0)], 38)]
set_option maxRecDepth 100000 in
theorem ok_X11_merge : pm_oks 11 false 3 (some .int) cX11_merge bk_X11_merge = true := oksF_ok (by decide +kernel)
set_option maxRecDepth 100000 in
theorem me_X11_merge : pm_me 181 = (yX11_merge, cX11_merge, 3, (some .int), 2, 0) := rfl
theorem mt_X11_merge {l : Launch} {g : pm_G} {d mc ms : Nat} {as : List Value} {A : pm_H} {Q : Option Value → pm_H → Prop} (hca : pm_cat 3 as = true) (body : ∀ J : pm_J, pm_Cl l g (fun _ => none) d mc ms (pm_Rq mc ms Q) bk_X11_merge J → J 0 (pm_l0 3 as) [] A 0 0) : pm_Mt l g 181 d mc ms as A Q := pm_Mt_of (isI := false) 11 bk_X11_merge me_X11_merge (plainFor_of_name (by decide +kernel)) (by decide +kernel) (fun h => by cases h) ok_X11_merge hca body
def bk_X11_exchange : pm_B := [(0, [(.iload_n 1, 1, 1, 0, 0), (.invokestatic 122, 3, 170, 1, 0), (.ifCond .eq 32, 3, 36, 0, 0), (.iload_n 2, 1, 2, 0, 0), (.invokestatic 122, 3, 170, 1, 0), (.ifCond .eq 25, 3, 36, 0, 0), (.iload_n 1, 1, 1, 0, 0), (.iload_n 2, 1, 2, 0, 0), (.if_icmp .eq 20, 3, 36, 0, 0), (.aload_n 0, 1, 0, 0, 0), (.iconst 0, 1, 0, 0, 0), (.aload_n 0, 1, 0, 0, 0), (.getfield 70, 3, 11, 7, 0), (.iconst 1, 1, 0, 0, 1), (.isub, 1, 0, 0, 0), (.iload_n 1, 1, 1, 0, 0), (.iload_n 2, 1, 2, 0, 0), (.iconst 1, 1, 0, 0, 1), (.invokevirtual 125, 3, 171, 5, 11), (.goto 4, 3, 37, 0, 0)], 36),
  (36, [(.iconst (-1), 1, 0, 0, -1)], 37),
  (37, [(.ireturn, 1, 0, 0, 0)], 38)]
set_option maxRecDepth 100000 in
theorem ok_X11_exchange : pm_oks 11 false 3 (some .int) cX11_exchange bk_X11_exchange = true := oksF_ok (by decide +kernel)
set_option maxRecDepth 100000 in
theorem me_X11_exchange : pm_me 182 = (yX11_exchange, cX11_exchange, 3, (some .int), 2, 0) := rfl
theorem mt_X11_exchange {l : Launch} {g : pm_G} {d mc ms : Nat} {as : List Value} {A : pm_H} {Q : Option Value → pm_H → Prop} (hca : pm_cat 3 as = true) (body : ∀ J : pm_J, pm_Cl l g (fun _ => none) d mc ms (pm_Rq mc ms Q) bk_X11_exchange J → J 0 (pm_l0 3 as) [] A 0 0) : pm_Mt l g 182 d mc ms as A Q := pm_Mt_of (isI := false) 11 bk_X11_exchange me_X11_exchange (plainFor_of_name (by decide +kernel)) (by decide +kernel) (fun h => by cases h) ok_X11_exchange hca body
def bk_X11_insert : pm_B := [(0, [(.iload_n 1, 1, 1, 0, 0), (.iconst 0, 1, 0, 0, 0), (.aload_n 0, 1, 0, 0, 0), (.getfield 70, 3, 11, 7, 0), (.invokestatic 74, 3, 169, 3, 0), (.ifCond .eq 18, 3, 27, 0, 0), (.iload_n 2, 1, 2, 0, 0), (.invokestatic 122, 3, 170, 1, 0), (.ifCond .eq 11, 3, 27, 0, 0), (.aload_n 0, 1, 0, 0, 0), (.iconst 1, 1, 0, 0, 1), (.invokevirtual 133, 3, 184, 1, 11), (.ifCond .ne 5, 3, 29, 0, 0)], 27),
  (27, [(.iconst (-1), 1, 0, 0, -1), (.ireturn, 1, 0, 0, 0)], 29),
  (29, [(.aload_n 0, 1, 0, 0, 0), (.invokevirtual 112, 3, 172, 0, 11), (.aload_n 0, 1, 0, 0, 0), (.iconst 0, 1, 0, 0, 0), (.iload_n 1, 1, 1, 0, 0), (.invokevirtual 136, 3, 185, 2, 11), (.aload_n 0, 1, 0, 0, 0), (.iload_n 2, 1, 2, 0, 0), (.invokevirtual 139, 3, 186, 1, 11), (.aload_n 0, 1, 0, 0, 0), (.iload_n 1, 1, 1, 0, 0), (.aload_n 0, 1, 0, 0, 0), (.getfield 70, 3, 11, 7, 0), (.invokevirtual 136, 3, 185, 2, 11), (.aload_n 0, 1, 0, 0, 0), (.invokevirtual 115, 3, 176, 0, 11), (.ireturn, 1, 0, 0, 0)], 58)]
set_option maxRecDepth 100000 in
theorem ok_X11_insert : pm_oks 11 false 3 (some .int) cX11_insert bk_X11_insert = true := oksF_ok (by decide +kernel)
set_option maxRecDepth 100000 in
theorem me_X11_insert : pm_me 183 = (yX11_insert, cX11_insert, 3, (some .int), 2, 0) := rfl
theorem mt_X11_insert {l : Launch} {g : pm_G} {d mc ms : Nat} {as : List Value} {A : pm_H} {Q : Option Value → pm_H → Prop} (hca : pm_cat 3 as = true) (body : ∀ J : pm_J, pm_Cl l g (fun _ => none) d mc ms (pm_Rq mc ms Q) bk_X11_insert J → J 0 (pm_l0 3 as) [] A 0 0) : pm_Mt l g 183 d mc ms as A Q := pm_Mt_of (isI := false) 11 bk_X11_insert me_X11_insert (plainFor_of_name (by decide +kernel)) (by decide +kernel) (fun h => by cases h) ok_X11_insert hca body
def bk_X11_hasRoom : pm_B := [(0, [(.aload_n 0, 1, 0, 0, 0), (.getfield 70, 3, 11, 7, 0), (.iload_n 1, 1, 1, 0, 0), (.iadd, 1, 0, 0, 0), (.sipush 160, 3, 0, 0, 160), (.if_icmp .gt 19, 3, 28, 0, 0), (.aload_n 0, 1, 0, 0, 0), (.getfield 95, 3, 11, 10, 0), (.iload_n 1, 1, 1, 0, 0), (.iadd, 1, 0, 0, 0), (.sipush 10000, 3, 0, 0, 10000), (.if_icmp .gt 7, 3, 28, 0, 0), (.iconst 1, 1, 0, 0, 1), (.goto 4, 3, 29, 0, 0)], 28),
  (28, [(.iconst 0, 1, 0, 0, 0)], 29),
  (29, [(.ireturn, 1, 1, 0, 0)], 30)]
set_option maxRecDepth 100000 in
theorem ok_X11_hasRoom : pm_oks 11 false 2 (some .boolean) cX11_hasRoom bk_X11_hasRoom = true := oksF_ok (by decide +kernel)
set_option maxRecDepth 100000 in
theorem me_X11_hasRoom : pm_me 184 = (yX11_hasRoom, cX11_hasRoom, 2, (some .boolean), 1, 0) := rfl
theorem mt_X11_hasRoom {l : Launch} {g : pm_G} {d mc ms : Nat} {as : List Value} {A : pm_H} {Q : Option Value → pm_H → Prop} (hca : pm_cat 2 as = true) (body : ∀ J : pm_J, pm_Cl l g (fun _ => none) d mc ms (pm_Rq mc ms Q) bk_X11_hasRoom J → J 0 (pm_l0 2 as) [] A 0 0) : pm_Mt l g 184 d mc ms as A Q := pm_Mt_of (isI := false) 11 bk_X11_hasRoom me_X11_hasRoom (plainFor_of_name (by decide +kernel)) (by decide +kernel) (fun h => by cases h) ok_X11_hasRoom hca body
def bk_X11_laysFrom : pm_B := [(0, [(.iload_n 1, 1, 1, 0, 0), (.istore_n 3, 1, 3, 0, 0)], 2),
  (2, [(.iload_n 3, 1, 3, 0, 0), (.iload_n 2, 1, 2, 0, 0), (.if_icmp .ge 25, 3, 29, 0, 0), (.aload_n 0, 1, 0, 0, 0), (.aload_n 0, 1, 0, 0, 0), (.getfield 7, 3, 11, 0, 0), (.iload_n 3, 1, 3, 0, 0), (.iaload, 1, 0, 0, 0), (.aload_n 0, 1, 0, 0, 0), (.getfield 13, 3, 11, 1, 0), (.iload_n 3, 1, 3, 0, 0), (.iaload, 1, 0, 0, 0), (.invokevirtual 91, 3, 175, 2, 11), (.iinc 3 1, 3, 3, 0, 1), (.goto (-24), 3, 2, 0, 0)], 29),
  (29, [(.return_, 1, 0, 0, 0)], 30)]
set_option maxRecDepth 100000 in
theorem ok_X11_laysFrom : pm_oks 11 false 4 none cX11_laysFrom bk_X11_laysFrom = true := oksF_ok (by decide +kernel)
set_option maxRecDepth 100000 in
theorem me_X11_laysFrom : pm_me 185 = (yX11_laysFrom, cX11_laysFrom, 4, none, 2, 0) := rfl
theorem mt_X11_laysFrom {l : Launch} {g : pm_G} {d mc ms : Nat} {as : List Value} {A : pm_H} {Q : Option Value → pm_H → Prop} (hca : pm_cat 4 as = true) (body : ∀ J : pm_J, pm_Cl l g (fun _ => none) d mc ms (pm_Rq mc ms Q) bk_X11_laysFrom J → J 0 (pm_l0 4 as) [] A 0 0) : pm_Mt l g 185 d mc ms as A Q := pm_Mt_of (isI := false) 11 bk_X11_laysFrom me_X11_laysFrom (plainFor_of_name (by decide +kernel)) (by decide +kernel) (fun h => by cases h) ok_X11_laysFrom hca body
def bk_X11_laysNew : pm_B := [(0, [(.aload_n 0, 1, 0, 0, 0), (.iload_n 1, 1, 1, 0, 0), (.aload_n 0, 1, 0, 0, 0), (.getfield 95, 3, 11, 10, 0), (.invokevirtual 91, 3, 175, 2, 11), (.aload_n 0, 1, 0, 0, 0), (.dup, 1, 0, 0, 0), (.getfield 95, 3, 11, 10, 0), (.iconst 1, 1, 0, 0, 1), (.iadd, 1, 0, 0, 0), (.putfield 95, 3, 11, 10, 0), (.return_, 1, 0, 0, 0)], 20)]
set_option maxRecDepth 100000 in
theorem ok_X11_laysNew : pm_oks 11 false 2 none cX11_laysNew bk_X11_laysNew = true := oksF_ok (by decide +kernel)
set_option maxRecDepth 100000 in
theorem me_X11_laysNew : pm_me 186 = (yX11_laysNew, cX11_laysNew, 2, none, 1, 0) := rfl
theorem mt_X11_laysNew {l : Launch} {g : pm_G} {d mc ms : Nat} {as : List Value} {A : pm_H} {Q : Option Value → pm_H → Prop} (hca : pm_cat 2 as = true) (body : ∀ J : pm_J, pm_Cl l g (fun _ => none) d mc ms (pm_Rq mc ms Q) bk_X11_laysNew J → J 0 (pm_l0 2 as) [] A 0 0) : pm_Mt l g 186 d mc ms as A Q := pm_Mt_of (isI := false) 11 bk_X11_laysNew me_X11_laysNew (plainFor_of_name (by decide +kernel)) (by decide +kernel) (fun h => by cases h) ok_X11_laysNew hca body
def bk_X11_cut : pm_B := [(0, [(.aload_n 0, 1, 0, 0, 0), (.iload_n 1, 1, 1, 0, 0), (.iload_n 2, 1, 2, 0, 0), (.invokevirtual 129, 3, 180, 2, 11), (.ifCond .ne 5, 3, 11, 0, 0), (.iconst (-1), 1, 0, 0, -1), (.ireturn, 1, 0, 0, 0)], 11),
  (11, [(.aload_n 0, 1, 0, 0, 0), (.invokevirtual 112, 3, 172, 0, 11), (.aload_n 0, 1, 0, 0, 0), (.iconst 0, 1, 0, 0, 0), (.iload_n 1, 1, 1, 0, 0), (.invokevirtual 136, 3, 185, 2, 11), (.aload_n 0, 1, 0, 0, 0), (.iload_n 2, 1, 2, 0, 0), (.iconst 1, 1, 0, 0, 1), (.iadd, 1, 0, 0, 0), (.aload_n 0, 1, 0, 0, 0), (.getfield 70, 3, 11, 7, 0), (.invokevirtual 136, 3, 185, 2, 11), (.aload_n 0, 1, 0, 0, 0), (.invokevirtual 115, 3, 176, 0, 11), (.ireturn, 1, 0, 0, 0)], 37)]
set_option maxRecDepth 100000 in
theorem ok_X11_cut : pm_oks 11 false 3 (some .int) cX11_cut bk_X11_cut = true := oksF_ok (by decide +kernel)
set_option maxRecDepth 100000 in
theorem me_X11_cut : pm_me 187 = (yX11_cut, cX11_cut, 3, (some .int), 2, 0) := rfl
theorem mt_X11_cut {l : Launch} {g : pm_G} {d mc ms : Nat} {as : List Value} {A : pm_H} {Q : Option Value → pm_H → Prop} (hca : pm_cat 3 as = true) (body : ∀ J : pm_J, pm_Cl l g (fun _ => none) d mc ms (pm_Rq mc ms Q) bk_X11_cut J → J 0 (pm_l0 3 as) [] A 0 0) : pm_Mt l g 187 d mc ms as A Q := pm_Mt_of (isI := false) 11 bk_X11_cut me_X11_cut (plainFor_of_name (by decide +kernel)) (by decide +kernel) (fun h => by cases h) ok_X11_cut hca body
def bk_X11_turn : pm_B := [(0, [(.aload_n 0, 1, 0, 0, 0), (.iload_n 1, 1, 1, 0, 0), (.iload_n 2, 1, 2, 0, 0), (.invokevirtual 129, 3, 180, 2, 11), (.ifCond .ne 5, 3, 11, 0, 0), (.iconst (-1), 1, 0, 0, -1), (.ireturn, 1, 0, 0, 0)], 11),
  (11, [(.aload_n 0, 1, 0, 0, 0), (.invokevirtual 112, 3, 172, 0, 11), (.aload_n 0, 1, 0, 0, 0), (.iconst 0, 1, 0, 0, 0), (.iload_n 1, 1, 1, 0, 0), (.invokevirtual 136, 3, 185, 2, 11), (.iload_n 2, 1, 2, 0, 0), (.istore_n 3, 1, 3, 0, 0)], 23),
  (23, [(.iload_n 3, 1, 3, 0, 0), (.iload_n 1, 1, 1, 0, 0), (.if_icmp .lt 25, 3, 50, 0, 0), (.aload_n 0, 1, 0, 0, 0), (.aload_n 0, 1, 0, 0, 0), (.getfield 7, 3, 11, 0, 0), (.iload_n 3, 1, 3, 0, 0), (.iaload, 1, 0, 0, 0), (.aload_n 0, 1, 0, 0, 0), (.getfield 13, 3, 11, 1, 0), (.iload_n 3, 1, 3, 0, 0), (.iaload, 1, 0, 0, 0), (.invokevirtual 91, 3, 175, 2, 11), (.iinc 3 (-1), 3, 3, 0, -1), (.goto (-24), 3, 23, 0, 0)], 50),
  (50, [(.aload_n 0, 1, 0, 0, 0), (.iload_n 2, 1, 2, 0, 0), (.iconst 1, 1, 0, 0, 1), (.iadd, 1, 0, 0, 0), (.aload_n 0, 1, 0, 0, 0), (.getfield 70, 3, 11, 7, 0), (.invokevirtual 136, 3, 185, 2, 11), (.aload_n 0, 1, 0, 0, 0), (.invokevirtual 115, 3, 176, 0, 11), (.ireturn, 1, 0, 0, 0)], 66)]
set_option maxRecDepth 100000 in
theorem ok_X11_turn : pm_oks 11 false 4 (some .int) cX11_turn bk_X11_turn = true := oksF_ok (by decide +kernel)
set_option maxRecDepth 100000 in
theorem me_X11_turn : pm_me 188 = (yX11_turn, cX11_turn, 4, (some .int), 2, 0) := rfl
theorem mt_X11_turn {l : Launch} {g : pm_G} {d mc ms : Nat} {as : List Value} {A : pm_H} {Q : Option Value → pm_H → Prop} (hca : pm_cat 4 as = true) (body : ∀ J : pm_J, pm_Cl l g (fun _ => none) d mc ms (pm_Rq mc ms Q) bk_X11_turn J → J 0 (pm_l0 4 as) [] A 0 0) : pm_Mt l g 188 d mc ms as A Q := pm_Mt_of (isI := false) 11 bk_X11_turn me_X11_turn (plainFor_of_name (by decide +kernel)) (by decide +kernel) (fun h => by cases h) ok_X11_turn hca body
def bk_X11_shift : pm_B := [(0, [(.aload_n 0, 1, 0, 0, 0), (.iload_n 1, 1, 1, 0, 0), (.iload_n 2, 1, 2, 0, 0), (.invokevirtual 129, 3, 180, 2, 11), (.ifCond .eq 16, 3, 22, 0, 0), (.iload_n 3, 1, 3, 0, 0), (.iconst 0, 1, 0, 0, 0), (.iload_n 2, 1, 2, 0, 0), (.iload_n 1, 1, 1, 0, 0), (.isub, 1, 0, 0, 0), (.iconst 1, 1, 0, 0, 1), (.iadd, 1, 0, 0, 0), (.invokestatic 74, 3, 169, 3, 0), (.ifCond .ne 5, 3, 24, 0, 0)], 22),
  (22, [(.iconst (-1), 1, 0, 0, -1), (.ireturn, 1, 0, 0, 0)], 24),
  (24, [(.aload_n 0, 1, 0, 0, 0), (.invokevirtual 112, 3, 172, 0, 11), (.aload_n 0, 1, 0, 0, 0), (.iconst 0, 1, 0, 0, 0), (.iload_n 1, 1, 1, 0, 0), (.invokevirtual 136, 3, 185, 2, 11), (.aload_n 0, 1, 0, 0, 0), (.iload_n 1, 1, 1, 0, 0), (.iload_n 3, 1, 3, 0, 0), (.iadd, 1, 0, 0, 0), (.iload_n 2, 1, 2, 0, 0), (.iconst 1, 1, 0, 0, 1), (.iadd, 1, 0, 0, 0), (.invokevirtual 136, 3, 185, 2, 11), (.aload_n 0, 1, 0, 0, 0), (.iload_n 1, 1, 1, 0, 0), (.iload_n 1, 1, 1, 0, 0), (.iload_n 3, 1, 3, 0, 0), (.iadd, 1, 0, 0, 0), (.invokevirtual 136, 3, 185, 2, 11), (.aload_n 0, 1, 0, 0, 0), (.iload_n 2, 1, 2, 0, 0), (.iconst 1, 1, 0, 0, 1), (.iadd, 1, 0, 0, 0), (.aload_n 0, 1, 0, 0, 0), (.getfield 70, 3, 11, 7, 0), (.invokevirtual 136, 3, 185, 2, 11), (.aload_n 0, 1, 0, 0, 0), (.invokevirtual 115, 3, 176, 0, 11), (.ireturn, 1, 0, 0, 0)], 68)]
set_option maxRecDepth 100000 in
theorem ok_X11_shift : pm_oks 11 false 4 (some .int) cX11_shift bk_X11_shift = true := oksF_ok (by decide +kernel)
set_option maxRecDepth 100000 in
theorem me_X11_shift : pm_me 189 = (yX11_shift, cX11_shift, 4, (some .int), 3, 0) := rfl
theorem mt_X11_shift {l : Launch} {g : pm_G} {d mc ms : Nat} {as : List Value} {A : pm_H} {Q : Option Value → pm_H → Prop} (hca : pm_cat 4 as = true) (body : ∀ J : pm_J, pm_Cl l g (fun _ => none) d mc ms (pm_Rq mc ms Q) bk_X11_shift J → J 0 (pm_l0 4 as) [] A 0 0) : pm_Mt l g 189 d mc ms as A Q := pm_Mt_of (isI := false) 11 bk_X11_shift me_X11_shift (plainFor_of_name (by decide +kernel)) (by decide +kernel) (fun h => by cases h) ok_X11_shift hca body
