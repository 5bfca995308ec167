
def bk_X5_init : pm_B := [(0, [(.aload_n 0, 1, 0, 0, 0), (.invokespecial 3, 3, 0, 0, 0), (.aload_n 0, 1, 0, 0, 0), (.bipush 30, 2, 0, 0, 30), (.newarray .int, 2, 30, 0, 0), (.putfield 9, 3, 5, 0, 1), (.aload_n 0, 1, 0, 0, 0), (.bipush 30, 2, 0, 0, 30), (.newarray .int, 2, 30, 0, 0), (.putfield 15, 3, 5, 1, 1), (.aload_n 0, 1, 0, 0, 0), (.bipush 30, 2, 0, 0, 30), (.newarray .int, 2, 30, 0, 0), (.putfield 18, 3, 5, 2, 1), (.aload_n 0, 1, 0, 0, 0), (.bipush 30, 2, 0, 0, 30), (.newarray .int, 2, 30, 0, 0), (.putfield 21, 3, 5, 3, 1), (.aload_n 0, 1, 0, 0, 0), (.bipush 30, 2, 0, 0, 30), (.newarray .int, 2, 30, 0, 0), (.putfield 24, 3, 5, 4, 1), (.return_, 1, 0, 0, 0)], 45)]
set_option maxRecDepth 100000 in
theorem ok_X5_init : pm_oks 5 true 1 none cX5_init bk_X5_init = true := oksF_ok (by decide +kernel)
set_option maxRecDepth 100000 in
theorem me_X5_init : pm_me 11 = (yX5_init, cX5_init, 1, none, 0, 2) := rfl
theorem mt_X5_init {l : Launch} {g : pm_G} {d mc ms : Nat} {as : List Value} {A : pm_H} {Q : Option Value → pm_H → Prop} (hca : pm_cat 1 as = true) (body : ∀ J : pm_J, pm_Cl l g (fun _ => none) d mc ms (pm_Rq mc ms Q) bk_X5_init J → J 0 (pm_l0 1 as) [] A 0 0) : pm_Mt l g 11 d mc ms as A Q := pm_Mt_of (isI := true) 5 bk_X5_init me_X5_init (plainFor_of_name (by decide +kernel)) (by decide +kernel) (fun _ => by decide +kernel) ok_X5_init hca body

