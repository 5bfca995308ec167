
def bk_X11_heaviest : pm_B := [(0, [(.iload_n 1, 1, 1, 0, 0), (.iconst 1, 1, 0, 0, 1), (.aload_n 0, 1, 0, 0, 0), (.getfield 70, 3, 11, 7, 0), (.invokestatic 74, 3, 169, 3, 0), (.ifCond .eq 12, 3, 21, 0, 0), (.iload_n 2, 1, 2, 0, 0), (.iconst 0, 1, 0, 0, 0), (.iconst 1, 1, 0, 0, 1), (.invokestatic 74, 3, 169, 3, 0), (.ifCond .ne 5, 3, 23, 0, 0)], 21),
  (21, [(.iconst (-1), 1, 0, 0, -1), (.ireturn, 1, 0, 0, 0)], 23),
  (23, [(.iconst (-1), 1, 0, 0, -1), (.istore_n 3, 1, 3, 0, 0), (.iconst (-1), 1, 0, 0, -1), (.istore 4, 2, 4, 0, 0), (.iconst 0, 1, 0, 0, 0), (.istore 5, 2, 5, 0, 0)], 31),
  (31, [(.iload 5, 2, 5, 0, 0), (.iload_n 1, 1, 1, 0, 0), (.iadd, 1, 0, 0, 0), (.aload_n 0, 1, 0, 0, 0), (.getfield 70, 3, 11, 7, 0), (.if_icmp .gt 44, 3, 83, 0, 0), (.aload_n 0, 1, 0, 0, 0), (.aload_n 0, 1, 0, 0, 0), (.iload 5, 2, 5, 0, 0), (.iload 5, 2, 5, 0, 0), (.iload_n 1, 1, 1, 0, 0), (.iadd, 1, 0, 0, 0), (.iconst 1, 1, 0, 0, 1), (.isub, 1, 0, 0, 0), (.invokevirtual 161, 3, 206, 2, 11), (.invokevirtual 174, 3, 211, 1, 11), (.istore 6, 2, 6, 0, 0), (.iload 6, 2, 6, 0, 0), (.iload 4, 2, 4, 0, 0), (.if_icmp .gt 6, 3, 70, 0, 0), (.goto 10, 3, 77, 0, 0)], 70),
  (70, [(.iload 5, 2, 5, 0, 0), (.istore_n 3, 1, 3, 0, 0), (.iload 6, 2, 6, 0, 0), (.istore 4, 2, 4, 0, 0)], 77),
  (77, [(.iinc 5 1, 3, 5, 0, 1), (.goto (-49), 3, 31, 0, 0)], 83),
  (83, [(.iload_n 2, 1, 2, 0, 0), (.ifCond .ne 7, 3, 91, 0, 0), (.iload_n 3, 1, 3, 0, 0), (.goto 5, 3, 93, 0, 0)], 91),
  (91, [(.iload 4, 2, 4, 0, 0)], 93),
  (93, [(.ireturn, 1, 0, 0, 0)], 94)]
set_option maxRecDepth 100000 in
theorem ok_X11_heaviest : pm_oks 11 false 7 (some .int) cX11_heaviest bk_X11_heaviest = true := oksF_ok (by decide +kernel)
set_option maxRecDepth 100000 in
theorem me_X11_heaviest : pm_me 255 = (yX11_heaviest, cX11_heaviest, 7, (some .int), 2, 0) := rfl
theorem mt_X11_heaviest {l : Launch} {g : pm_G} {d mc ms : Nat} {as : List Value} {A : pm_H} {Q : Option Value → pm_H → Prop} (hca : pm_cat 7 as = true) (body : ∀ J : pm_J, pm_Cl l g (fun _ => none) d mc ms (pm_Rq mc ms Q) bk_X11_heaviest J → J 0 (pm_l0 7 as) [] A 0 0) : pm_Mt l g 255 d mc ms as A Q := pm_Mt_of (isI := false) 11 bk_X11_heaviest me_X11_heaviest (plainFor_of_name (by decide +kernel)) (by decide +kernel) (fun h => by cases h) ok_X11_heaviest hca body
def bk_X11_distance : pm_B := [(0, [(.aload_n 0, 1, 0, 0, 0), (.iload_n 1, 1, 1, 0, 0), (.invokevirtual 119, 3, 168, 1, 11), (.ifCond .eq 31, 3, 36, 0, 0), (.aload_n 0, 1, 0, 0, 0), (.iload_n 1, 1, 1, 0, 0), (.invokevirtual 78, 3, 174, 1, 11), (.ifCond .lt 23, 3, 36, 0, 0), (.aload_n 0, 1, 0, 0, 0), (.aload_n 0, 1, 0, 0, 0), (.iload_n 1, 1, 1, 0, 0), (.invokevirtual 78, 3, 174, 1, 11), (.iconst 1, 1, 0, 0, 1), (.iadd, 1, 0, 0, 0), (.iload_n 1, 1, 1, 0, 0), (.iconst 1, 1, 0, 0, 1), (.isub, 1, 0, 0, 0), (.invokevirtual 161, 3, 206, 2, 11), (.invokestatic 165, 3, 207, 1, 0), (.goto 4, 3, 37, 0, 0)], 36),
  (36, [(.iconst (-1), 1, 0, 0, -1)], 37),
  (37, [(.ireturn, 1, 0, 0, 0)], 38)]
set_option maxRecDepth 100000 in
theorem ok_X11_distance : pm_oks 11 false 2 (some .int) cX11_distance bk_X11_distance = true := oksF_ok (by decide +kernel)
set_option maxRecDepth 100000 in
theorem me_X11_distance : pm_me 256 = (yX11_distance, cX11_distance, 2, (some .int), 1, 0) := rfl
theorem mt_X11_distance {l : Launch} {g : pm_G} {d mc ms : Nat} {as : List Value} {A : pm_H} {Q : Option Value → pm_H → Prop} (hca : pm_cat 2 as = true) (body : ∀ J : pm_J, pm_Cl l g (fun _ => none) d mc ms (pm_Rq mc ms Q) bk_X11_distance J → J 0 (pm_l0 2 as) [] A 0 0) : pm_Mt l g 256 d mc ms as A Q := pm_Mt_of (isI := false) 11 bk_X11_distance me_X11_distance (plainFor_of_name (by decide +kernel)) (by decide +kernel) (fun h => by cases h) ok_X11_distance hca body
def bk_X11_misses : pm_B := [(0, [(.iload_n 1, 1, 1, 0, 0), (.iload_n 2, 1, 2, 0, 0), (.invokestatic 239, 3, 258, 2, 0), (.ifCond .eq 18, 3, 23, 0, 0), (.aload_n 0, 1, 0, 0, 0), (.aload_n 0, 1, 0, 0, 0), (.getfield 70, 3, 11, 7, 0), (.iconst 1, 1, 0, 0, 1), (.isub, 1, 0, 0, 0), (.iload_n 1, 1, 1, 0, 0), (.iload_n 2, 1, 2, 0, 0), (.invokevirtual 242, 3, 259, 3, 11), (.goto 4, 3, 24, 0, 0)], 23),
  (23, [(.iconst (-1), 1, 0, 0, -1)], 24),
  (24, [(.ireturn, 1, 0, 0, 0)], 25)]
set_option maxRecDepth 100000 in
theorem ok_X11_misses : pm_oks 11 false 3 (some .int) cX11_misses bk_X11_misses = true := oksF_ok (by decide +kernel)
set_option maxRecDepth 100000 in
theorem me_X11_misses : pm_me 257 = (yX11_misses, cX11_misses, 3, (some .int), 2, 0) := rfl
theorem mt_X11_misses {l : Launch} {g : pm_G} {d mc ms : Nat} {as : List Value} {A : pm_H} {Q : Option Value → pm_H → Prop} (hca : pm_cat 3 as = true) (body : ∀ J : pm_J, pm_Cl l g (fun _ => none) d mc ms (pm_Rq mc ms Q) bk_X11_misses J → J 0 (pm_l0 3 as) [] A 0 0) : pm_Mt l g 257 d mc ms as A Q := pm_Mt_of (isI := false) 11 bk_X11_misses me_X11_misses (plainFor_of_name (by decide +kernel)) (by decide +kernel) (fun h => by cases h) ok_X11_misses hca body
def bk_X11_isShelf : pm_B := [(0, [(.iload_n 0, 1, 0, 0, 0), (.iconst 1, 1, 0, 0, 1), (.bipush 24, 2, 0, 0, 24), (.invokestatic 74, 3, 169, 3, 0), (.ifCond .eq 16, 3, 23, 0, 0), (.iload_n 1, 1, 1, 0, 0), (.iconst 0, 1, 0, 0, 0), (.iconst 1, 1, 0, 0, 1), (.invokestatic 74, 3, 169, 3, 0), (.ifCond .eq 7, 3, 23, 0, 0), (.iconst 1, 1, 0, 0, 1), (.goto 4, 3, 24, 0, 0)], 23),
  (23, [(.iconst 0, 1, 0, 0, 0)], 24),
  (24, [(.ireturn, 1, 1, 0, 0)], 25)]
set_option maxRecDepth 100000 in
theorem ok_X11_isShelf : pm_oks 11 false 2 (some .boolean) cX11_isShelf bk_X11_isShelf = true := oksF_ok (by decide +kernel)
set_option maxRecDepth 100000 in
theorem me_X11_isShelf : pm_me 258 = (yX11_isShelf, cX11_isShelf, 2, (some .boolean), 2, 1) := rfl
theorem mt_X11_isShelf {l : Launch} {g : pm_G} {d mc ms : Nat} {as : List Value} {A : pm_H} {Q : Option Value → pm_H → Prop} (hca : pm_cat 2 as = true) (body : ∀ J : pm_J, pm_Cl l g (fun _ => none) d mc ms (pm_Rq mc ms Q) bk_X11_isShelf J → J 0 (pm_l0 2 as) [] A 0 0) : pm_Mt l g 258 d mc ms as A Q := pm_Mt_of (isI := false) 11 bk_X11_isShelf me_X11_isShelf (plainFor_of_name (by decide +kernel)) (by decide +kernel) (fun h => by cases h) ok_X11_isShelf hca body
def bk_X11_goOver : pm_B := [(0, [(.iconst 0, 1, 0, 0, 0), (.istore 4, 2, 4, 0, 0), (.aload_n 0, 1, 0, 0, 0), (.iconst 0, 1, 0, 0, 0), (.putfield 230, 3, 11, 24, 0), (.iconst 0, 1, 0, 0, 0), (.istore 5, 2, 5, 0, 0)], 11),
  (11, [(.iload 5, 2, 5, 0, 0), (.iload_n 1, 1, 1, 0, 0), (.if_icmp .gt 82, 3, 96, 0, 0), (.aload_n 0, 1, 0, 0, 0), (.getfield 230, 3, 11, 24, 0), (.aload_n 0, 1, 0, 0, 0), (.getfield 7, 3, 11, 0, 0), (.iload 5, 2, 5, 0, 0), (.iaload, 1, 0, 0, 0), (.ishr, 1, 0, 0, 0), (.iconst 1, 1, 0, 0, 1), (.iand, 1, 0, 0, 0), (.iconst 1, 1, 0, 0, 1), (.if_icmp .ne 6, 3, 38, 0, 0), (.goto 55, 3, 90, 0, 0)], 38),
  (38, [(.iinc 4 1, 3, 4, 0, 1), (.aload_n 0, 1, 0, 0, 0), (.getfield 230, 3, 11, 24, 0), (.invokestatic 165, 3, 207, 1, 0), (.iload_n 2, 1, 2, 0, 0), (.if_icmp .ne 23, 3, 72, 0, 0), (.aload_n 0, 1, 0, 0, 0), (.dup, 1, 0, 0, 0), (.getfield 230, 3, 11, 24, 0), (.iconst 1, 1, 0, 0, 1), (.aload_n 0, 1, 0, 0, 0), (.iload 5, 2, 5, 0, 0), (.iload_n 3, 1, 3, 0, 0), (.invokevirtual 236, 3, 260, 2, 11), (.ishl, 1, 0, 0, 0), (.iconst (-1), 1, 0, 0, -1), (.ixor, 1, 0, 0, 0), (.iand, 1, 0, 0, 0), (.putfield 230, 3, 11, 24, 0)], 72),
  (72, [(.aload_n 0, 1, 0, 0, 0), (.dup, 1, 0, 0, 0), (.getfield 230, 3, 11, 24, 0), (.iconst 1, 1, 0, 0, 1), (.aload_n 0, 1, 0, 0, 0), (.getfield 7, 3, 11, 0, 0), (.iload 5, 2, 5, 0, 0), (.iaload, 1, 0, 0, 0), (.ishl, 1, 0, 0, 0), (.ior, 1, 0, 0, 0), (.putfield 230, 3, 11, 24, 0)], 90),
  (90, [(.iinc 5 1, 3, 5, 0, 1), (.goto (-82), 3, 11, 0, 0)], 96),
  (96, [(.iload 4, 2, 4, 0, 0), (.ireturn, 1, 0, 0, 0)], 99)]
set_option maxRecDepth 100000 in
theorem ok_X11_goOver : pm_oks 11 false 6 (some .int) cX11_goOver bk_X11_goOver = true := oksF_ok (by decide +kernel)
set_option maxRecDepth 100000 in
theorem me_X11_goOver : pm_me 259 = (yX11_goOver, cX11_goOver, 6, (some .int), 3, 0) := rfl
