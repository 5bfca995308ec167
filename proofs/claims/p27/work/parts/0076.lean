
theorem mt_J9_max_7cf53 {l : Launch} {g : pm_G} {d mc ms : Nat} {as : List Value} {A : pm_H} {Q : Option Value → pm_H → Prop} (hca : pm_cat 2 as = true) (body : ∀ J : pm_J, pm_Cl l g (fun _ => none) d mc ms (pm_Rq mc ms Q) bk_J9_max_7cf53 J → J 0 (pm_l0 2 as) [] A 0 0) : pm_Mt l g 51 d mc ms as A Q := pm_Mt_of (isI := false) 14 bk_J9_max_7cf53 me_J9_max_7cf53 (Jvm.Free.JP.mathPlain rfl (by decide +kernel)) (by decide +kernel) (fun h => by cases h) ok_J9_max_7cf53 hca body
def bk_J9_abs_0f7a4 : pm_B := [(0, [(.iload_n 0, 1, 0, 0, 0), (.ifCond .ge 8, 3, 9, 0, 0), (.iload_n 0, 1, 0, 0, 0), (.ineg, 1, 0, 0, 0), (.goto 4, 3, 10, 0, 0)], 9),
  (9, [(.iload_n 0, 1, 0, 0, 0)], 10),
  (10, [(.ireturn, 1, 0, 0, 0)], 11)]
set_option maxRecDepth 100000 in
theorem ok_J9_abs_0f7a4 : pm_oks 14 false 1 (some .int) cJ9_abs_0f7a4 bk_J9_abs_0f7a4 = true := oksF_ok (by decide +kernel)
set_option maxRecDepth 100000 in
theorem me_J9_abs_0f7a4 : pm_me 70 = (yJ9_abs_0f7a4, cJ9_abs_0f7a4, 1, (some .int), 1, 1) := rfl
theorem mt_J9_abs_0f7a4 {l : Launch} {g : pm_G} {d mc ms : Nat} {as : List Value} {A : pm_H} {Q : Option Value → pm_H → Prop} (hca : pm_cat 1 as = true) (body : ∀ J : pm_J, pm_Cl l g (fun _ => none) d mc ms (pm_Rq mc ms Q) bk_J9_abs_0f7a4 J → J 0 (pm_l0 1 as) [] A 0 0) : pm_Mt l g 70 d mc ms as A Q := pm_Mt_of (isI := false) 14 bk_J9_abs_0f7a4 me_J9_abs_0f7a4 (Jvm.Free.JP.mathPlain rfl (by decide +kernel)) (by decide +kernel) (fun h => by cases h) ok_J9_abs_0f7a4 hca body
def bk_J9_min_7cf53 : pm_B := [(0, [(.iload_n 0, 1, 0, 0, 0), (.iload_n 1, 1, 1, 0, 0), (.if_icmp .gt 7, 3, 9, 0, 0), (.iload_n 0, 1, 0, 0, 0), (.goto 4, 3, 10, 0, 0)], 9),
  (9, [(.iload_n 1, 1, 1, 0, 0)], 10),
  (10, [(.ireturn, 1, 0, 0, 0)], 11)]
set_option maxRecDepth 100000 in
theorem ok_J9_min_7cf53 : pm_oks 14 false 2 (some .int) cJ9_min_7cf53 bk_J9_min_7cf53 = true := oksF_ok (by decide +kernel)
set_option maxRecDepth 100000 in
theorem me_J9_min_7cf53 : pm_me 87 = (yJ9_min_7cf53, cJ9_min_7cf53, 2, (some .int), 2, 1) := rfl
theorem mt_J9_min_7cf53 {l : Launch} {g : pm_G} {d mc ms : Nat} {as : List Value} {A : pm_H} {Q : Option Value → pm_H → Prop} (hca : pm_cat 2 as = true) (body : ∀ J : pm_J, pm_Cl l g (fun _ => none) d mc ms (pm_Rq mc ms Q) bk_J9_min_7cf53 J → J 0 (pm_l0 2 as) [] A 0 0) : pm_Mt l g 87 d mc ms as A Q := pm_Mt_of (isI := false) 14 bk_J9_min_7cf53 me_J9_min_7cf53 (Jvm.Free.JP.mathPlain rfl (by decide +kernel)) (by decide +kernel) (fun h => by cases h) ok_J9_min_7cf53 hca body
def bk_J6_bitCount_0f7a4 : pm_B := [(0, [(.iload_n 0, 1, 0, 0, 0), (.iload_n 0, 1, 0, 0, 0), (.iconst 1, 1, 0, 0, 1), (.iushr, 1, 0, 0, 0), (.ldc_w 265, 3, 0, 0, 1431655765), (.iand, 1, 0, 0, 0), (.isub, 1, 0, 0, 0), (.istore_n 0, 1, 0, 0, 0), (.iload_n 0, 1, 0, 0, 0), (.ldc_w 266, 3, 0, 0, 858993459), (.iand, 1, 0, 0, 0), (.iload_n 0, 1, 0, 0, 0), (.iconst 2, 1, 0, 0, 2), (.iushr, 1, 0, 0, 0), (.ldc_w 266, 3, 0, 0, 858993459), (.iand, 1, 0, 0, 0), (.iadd, 1, 0, 0, 0), (.istore_n 0, 1, 0, 0, 0), (.iload_n 0, 1, 0, 0, 0), (.iload_n 0, 1, 0, 0, 0), (.iconst 4, 1, 0, 0, 4), (.iushr, 1, 0, 0, 0), (.iadd, 1, 0, 0, 0), (.ldc_w 267, 3, 0, 0, 252645135), (.iand, 1, 0, 0, 0), (.istore_n 0, 1, 0, 0, 0), (.iload_n 0, 1, 0, 0, 0), (.iload_n 0, 1, 0, 0, 0), (.bipush 8, 2, 0, 0, 8), (.iushr, 1, 0, 0, 0), (.iadd, 1, 0, 0, 0), (.istore_n 0, 1, 0, 0, 0), (.iload_n 0, 1, 0, 0, 0), (.iload_n 0, 1, 0, 0, 0), (.bipush 16, 2, 0, 0, 16), (.iushr, 1, 0, 0, 0), (.iadd, 1, 0, 0, 0), (.istore_n 0, 1, 0, 0, 0), (.iload_n 0, 1, 0, 0, 0), (.bipush 63, 2, 0, 0, 63), (.iand, 1, 0, 0, 0), (.ireturn, 1, 0, 0, 0)], 53)]
set_option maxRecDepth 100000 in
theorem ok_J6_bitCount_0f7a4 : pm_oks 13 false 1 (some .int) cJ6_bitCount_0f7a4 bk_J6_bitCount_0f7a4 = true := oksF_ok (by decide +kernel)
set_option maxRecDepth 100000 in
theorem me_J6_bitCount_0f7a4 : pm_me 75 = (yJ6_bitCount_0f7a4, cJ6_bitCount_0f7a4, 1, (some .int), 1, 1) := rfl
theorem mt_J6_bitCount_0f7a4 {l : Launch} {g : pm_G} {d mc ms : Nat} {as : List Value} {A : pm_H} {Q : Option Value → pm_H → Prop} (hca : pm_cat 1 as = true) (body : ∀ J : pm_J, pm_Cl l g (fun _ => none) d mc ms (pm_Rq mc ms Q) bk_J6_bitCount_0f7a4 J → J 0 (pm_l0 1 as) [] A 0 0) : pm_Mt l g 75 d mc ms as A Q := pm_Mt_of (isI := false) 13 bk_J6_bitCount_0f7a4 me_J6_bitCount_0f7a4 (plainFor_of_name (by decide +kernel)) (by decide +kernel) (fun h => by cases h) ok_J6_bitCount_0f7a4 hca body
