
def bk_X10_about : pm_B := [(0, [(.iload_n 1, 1, 1, 0, 0), (.tableswitch 107 0 5 #[39, 50, 75, 83, 91, 99], 39, 1, 0, 0)], 40),
  (40, [(.aload_n 0, 1, 0, 0, 0), (.getfield 12, 3, 10, 0, 0), (.getfield 80, 3, 9, 4, 0), (.getfield 103, 3, 7, 3, 0), (.ireturn, 1, 0, 0, 0)], 51),
  (51, [(.aload_n 0, 1, 0, 0, 0), (.aload_n 0, 1, 0, 0, 0), (.getfield 12, 3, 10, 0, 0), (.getfield 80, 3, 9, 4, 0), (.iconst 0, 1, 0, 0, 0), (.aload_n 0, 1, 0, 0, 0), (.getfield 12, 3, 10, 0, 0), (.getfield 80, 3, 9, 4, 0), (.getfield 103, 3, 7, 3, 0), (.iconst 1, 1, 0, 0, 1), (.isub, 1, 0, 0, 0), (.invokevirtual 159, 3, 54, 3, 10), (.ireturn, 1, 0, 0, 0)], 76),
  (76, [(.aload_n 0, 1, 0, 0, 0), (.getfield 12, 3, 10, 0, 0), (.getfield 163, 3, 9, 6, 0), (.ireturn, 1, 0, 0, 0)], 84),
  (84, [(.aload_n 0, 1, 0, 0, 0), (.getfield 12, 3, 10, 0, 0), (.getfield 166, 3, 9, 5, 0), (.ireturn, 1, 0, 0, 0)], 92),
  (92, [(.aload_n 0, 1, 0, 0, 0), (.getfield 12, 3, 10, 0, 0), (.getfield 169, 3, 9, 7, 0), (.ireturn, 1, 0, 0, 0)], 100),
  (100, [(.aload_n 0, 1, 0, 0, 0), (.getfield 68, 3, 10, 8, 0), (.getfield 172, 3, 5, 5, 0), (.ireturn, 1, 0, 0, 0)], 108),
  (108, [(.iconst (-1), 1, 0, 0, -1), (.ireturn, 1, 0, 0, 0)], 110)]
set_option maxRecDepth 100000 in
theorem ok_X10_about : pm_oks 10 false 2 (some .int) cX10_about bk_X10_about = true := oksF_ok (by decide +kernel)
set_option maxRecDepth 100000 in
theorem me_X10_about : pm_me 53 = (yX10_about, cX10_about, 2, (some .int), 1, 0) := rfl
theorem mt_X10_about {l : Launch} {g : pm_G} {d mc ms : Nat} {as : List Value} {A : pm_H} {Q : Option Value → pm_H → Prop} (hca : pm_cat 2 as = true) (body : ∀ J : pm_J, pm_Cl l g (fun _ => none) d mc ms (pm_Rq mc ms Q) bk_X10_about J → J 0 (pm_l0 2 as) [] A 0 0) : pm_Mt l g 53 d mc ms as A Q := pm_Mt_of (isI := false) 10 bk_X10_about me_X10_about (plainFor_of_name (by decide +kernel)) (by decide +kernel) (fun h => by cases h) ok_X10_about hca body
def bk_X10_colourNumber : pm_B := [(0, [(.aload_n 0, 1, 0, 0, 0), (.getfield 19, 3, 10, 1, 0), (.aload_n 1, 1, 1, 0, 0), (.iload_n 2, 1, 2, 0, 0), (.iload_n 3, 1, 3, 0, 0), (.invokevirtual 175, 3, 55, 3, 2), (.aload_n 0, 1, 0, 0, 0), (.getfield 19, 3, 10, 1, 0), (.getfield 179, 3, 2, 3, 0), (.ireturn, 1, 0, 0, 0)], 18)]
set_option maxRecDepth 100000 in
theorem ok_X10_colourNumber : pm_oks 10 false 4 (some .int) cX10_colourNumber bk_X10_colourNumber = true := oksF_ok (by decide +kernel)
set_option maxRecDepth 100000 in
theorem me_X10_colourNumber : pm_me 54 = (yX10_colourNumber, cX10_colourNumber, 4, (some .int), 3, 0) := rfl
theorem mt_X10_colourNumber {l : Launch} {g : pm_G} {d mc ms : Nat} {as : List Value} {A : pm_H} {Q : Option Value → pm_H → Prop} (hca : pm_cat 4 as = true) (body : ∀ J : pm_J, pm_Cl l g (fun _ => none) d mc ms (pm_Rq mc ms Q) bk_X10_colourNumber J → J 0 (pm_l0 4 as) [] A 0 0) : pm_Mt l g 54 d mc ms as A Q := pm_Mt_of (isI := false) 10 bk_X10_colourNumber me_X10_colourNumber (plainFor_of_name (by decide +kernel)) (by decide +kernel) (fun h => by cases h) ok_X10_colourNumber hca body
def bk_X10_count : pm_B := [(0, [(.aload_n 0, 1, 0, 0, 0), (.iload_n 1, 1, 1, 0, 0), (.iload_n 2, 1, 2, 0, 0), (.invokevirtual 182, 3, 59, 2, 10), (.ifCond .eq 13, 3, 19, 0, 0), (.aload_n 0, 1, 0, 0, 0), (.getfield 19, 3, 10, 1, 0), (.getfield 179, 3, 2, 3, 0), (.goto 4, 3, 20, 0, 0)], 19),
  (19, [(.iconst (-1), 1, 0, 0, -1)], 20),
  (20, [(.ireturn, 1, 0, 0, 0)], 21)]
set_option maxRecDepth 100000 in
theorem ok_X10_count : pm_oks 10 false 3 (some .int) cX10_count bk_X10_count = true := oksF_ok (by decide +kernel)
set_option maxRecDepth 100000 in
theorem me_X10_count : pm_me 58 = (yX10_count, cX10_count, 3, (some .int), 2, 0) := rfl
theorem mt_X10_count {l : Launch} {g : pm_G} {d mc ms : Nat} {as : List Value} {A : pm_H} {Q : Option Value → pm_H → Prop} (hca : pm_cat 3 as = true) (body : ∀ J : pm_J, pm_Cl l g (fun _ => none) d mc ms (pm_Rq mc ms Q) bk_X10_count J → J 0 (pm_l0 3 as) [] A 0 0) : pm_Mt l g 58 d mc ms as A Q := pm_Mt_of (isI := false) 10 bk_X10_count me_X10_count (plainFor_of_name (by decide +kernel)) (by decide +kernel) (fun h => by cases h) ok_X10_count hca body
def bk_X10_readSpan : pm_B := [(0, [(.aload_n 0, 1, 0, 0, 0), (.getfield 12, 3, 10, 0, 0), (.getfield 80, 3, 9, 4, 0), (.iload_n 1, 1, 1, 0, 0), (.iload_n 2, 1, 2, 0, 0), (.invokevirtual 111, 3, 14, 2, 7), (.ifCond .ne 5, 3, 17, 0, 0), (.iconst 0, 1, 0, 0, 0), (.ireturn, 1, 1, 0, 0)], 17),
  (17, [(.aload_n 0, 1, 0, 0, 0), (.getfield 19, 3, 10, 1, 0), (.aload_n 0, 1, 0, 0, 0), (.getfield 12, 3, 10, 0, 0), (.getfield 80, 3, 9, 4, 0), (.iload_n 1, 1, 1, 0, 0), (.iload_n 2, 1, 2, 0, 0), (.invokevirtual 175, 3, 55, 3, 2), (.iconst 1, 1, 0, 0, 1), (.ireturn, 1, 1, 0, 0)], 35)]
set_option maxRecDepth 100000 in
theorem ok_X10_readSpan : pm_oks 10 false 3 (some .boolean) cX10_readSpan bk_X10_readSpan = true := oksF_ok (by decide +kernel)
set_option maxRecDepth 100000 in
theorem me_X10_readSpan : pm_me 59 = (yX10_readSpan, cX10_readSpan, 3, (some .boolean), 2, 0) := rfl
theorem mt_X10_readSpan {l : Launch} {g : pm_G} {d mc ms : Nat} {as : List Value} {A : pm_H} {Q : Option Value → pm_H → Prop} (hca : pm_cat 3 as = true) (body : ∀ J : pm_J, pm_Cl l g (fun _ => none) d mc ms (pm_Rq mc ms Q) bk_X10_readSpan J → J 0 (pm_l0 3 as) [] A 0 0) : pm_Mt l g 59 d mc ms as A Q := pm_Mt_of (isI := false) 10 bk_X10_readSpan me_X10_readSpan (plainFor_of_name (by decide +kernel)) (by decide +kernel) (fun h => by cases h) ok_X10_readSpan hca body
def bk_X10_weight : pm_B := [(0, [(.aload_n 0, 1, 0, 0, 0), (.iload_n 1, 1, 1, 0, 0), (.iload_n 2, 1, 2, 0, 0), (.invokevirtual 182, 3, 59, 2, 10), (.ifCond .eq 13, 3, 19, 0, 0), (.aload_n 0, 1, 0, 0, 0), (.getfield 19, 3, 10, 1, 0), (.getfield 185, 3, 2, 5, 0), (.goto 4, 3, 20, 0, 0)], 19),
  (19, [(.iconst (-1), 1, 0, 0, -1)], 20),
  (20, [(.ireturn, 1, 0, 0, 0)], 21)]
set_option maxRecDepth 100000 in
theorem ok_X10_weight : pm_oks 10 false 3 (some .int) cX10_weight bk_X10_weight = true := oksF_ok (by decide +kernel)
set_option maxRecDepth 100000 in
theorem me_X10_weight : pm_me 60 = (yX10_weight, cX10_weight, 3, (some .int), 2, 0) := rfl
theorem mt_X10_weight {l : Launch} {g : pm_G} {d mc ms : Nat} {as : List Value} {A : pm_H} {Q : Option Value → pm_H → Prop} (hca : pm_cat 3 as = true) (body : ∀ J : pm_J, pm_Cl l g (fun _ => none) d mc ms (pm_Rq mc ms Q) bk_X10_weight J → J 0 (pm_l0 3 as) [] A 0 0) : pm_Mt l g 60 d mc ms as A Q := pm_Mt_of (isI := false) 10 bk_X10_weight me_X10_weight (plainFor_of_name (by decide +kernel)) (by decide +kernel) (fun h => by cases h) ok_X10_weight hca body
def bk_X10_set : pm_B := [(0, [(.aload_n 0, 1, 0, 0, 0), (.iload_n 1, 1, 1, 0, 0), (.iload_n 2, 1, 2, 0, 0), (.invokevirtual 182, 3, 59, 2, 10), (.ifCond .eq 13, 3, 19, 0, 0), (.aload_n 0, 1, 0, 0, 0), (.getfield 19, 3, 10, 1, 0), (.getfield 188, 3, 2, 4, 0), (.goto 4, 3, 20, 0, 0)], 19),
  (19, [(.iconst (-1), 1, 0, 0, -1)], 20),
  (20, [(.ireturn, 1, 0, 0, 0)], 21)]
set_option maxRecDepth 100000 in
theorem ok_X10_set : pm_oks 10 false 3 (some .int) cX10_set bk_X10_set = true := oksF_ok (by decide +kernel)
set_option maxRecDepth 100000 in
theorem me_X10_set : pm_me 61 = (yX10_set, cX10_set, 3, (some .int), 2, 0) := rfl
theorem mt_X10_set {l : Launch} {g : pm_G} {d mc ms : Nat} {as : List Value} {A : pm_H} {Q : Option Value → pm_H → Prop} (hca : pm_cat 3 as = true) (body : ∀ J : pm_J, pm_Cl l g (fun _ => none) d mc ms (pm_Rq mc ms Q) bk_X10_set J → J 0 (pm_l0 3 as) [] A 0 0) : pm_Mt l g 61 d mc ms as A Q := pm_Mt_of (isI := false) 10 bk_X10_set me_X10_set (plainFor_of_name (by decide +kernel)) (by decide +kernel) (fun h => by cases h) ok_X10_set hca body
