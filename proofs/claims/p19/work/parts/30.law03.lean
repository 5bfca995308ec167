section
noncomputable def bk_L_law_30 : Nat × List pm_Op × Nat := (1382, [(.aload_n 1, 1, 1, 0, 0), (.aload_n 0, 1, 0, 0, 0), (.iload_n 3, 1, 3, 0, 0), (.iconst 1, 1, 0, 0, 1), (.iadd, 1, 0, 0, 0), (.iaload, 1, 0, 0, 0), (.aload_n 0, 1, 0, 0, 0), (.iload_n 3, 1, 3, 0, 0), (.iconst 2, 1, 0, 0, 2), (.iadd, 1, 0, 0, 0), (.iaload, 1, 0, 0, 0), (.invokevirtual 130, 3, 78, 2, 10), (.pop, 1, 0, 0, 0), (.aload_n 2, 1, 2, 0, 0), (.aload_n 0, 1, 0, 0, 0), (.iload_n 3, 1, 3, 0, 0), (.iconst 1, 1, 0, 0, 1), (.iadd, 1, 0, 0, 0), (.iaload, 1, 0, 0, 0), (.aload_n 0, 1, 0, 0, 0), (.iload_n 3, 1, 3, 0, 0), (.iconst 2, 1, 0, 0, 2), (.iadd, 1, 0, 0, 0), (.iaload, 1, 0, 0, 0), (.invokevirtual 133, 3, 216, 2, 11), (.pop, 1, 0, 0, 0), (.goto 1151, 3, 2563, 0, 0)], 1415)
set_option maxRecDepth 100000 in
theorem ok_L_law_30 : pm_ok 12 4 false (some .boolean) cL_law bk_L_law_30.2.2 bk_L_law_30.1 bk_L_law_30.2.1 = true := okG_ok _ _ (by decide +kernel)
noncomputable def bk_L_law_31 : Nat × List pm_Op × Nat := (1415, [(.aload_n 1, 1, 1, 0, 0), (.aload_n 0, 1, 0, 0, 0), (.iload_n 3, 1, 3, 0, 0), (.iconst 1, 1, 0, 0, 1), (.iadd, 1, 0, 0, 0), (.iaload, 1, 0, 0, 0), (.aload_n 0, 1, 0, 0, 0), (.iload_n 3, 1, 3, 0, 0), (.iconst 2, 1, 0, 0, 2), (.iadd, 1, 0, 0, 0), (.iaload, 1, 0, 0, 0), (.aload_n 0, 1, 0, 0, 0), (.iload_n 3, 1, 3, 0, 0), (.iconst 3, 1, 0, 0, 3), (.iadd, 1, 0, 0, 0), (.iaload, 1, 0, 0, 0), (.invokevirtual 134, 3, 80, 3, 10), (.pop, 1, 0, 0, 0), (.aload_n 2, 1, 2, 0, 0), (.aload_n 0, 1, 0, 0, 0), (.iload_n 3, 1, 3, 0, 0), (.iconst 1, 1, 0, 0, 1), (.iadd, 1, 0, 0, 0), (.iaload, 1, 0, 0, 0), (.aload_n 0, 1, 0, 0, 0), (.iload_n 3, 1, 3, 0, 0), (.iconst 2, 1, 0, 0, 2), (.iadd, 1, 0, 0, 0), (.iaload, 1, 0, 0, 0), (.aload_n 0, 1, 0, 0, 0), (.iload_n 3, 1, 3, 0, 0), (.iconst 3, 1, 0, 0, 3), (.iadd, 1, 0, 0, 0), (.iaload, 1, 0, 0, 0), (.invokevirtual 137, 3, 225, 3, 11), (.pop, 1, 0, 0, 0), (.goto 1108, 3, 2563, 0, 0)], 1458)
set_option maxRecDepth 100000 in
theorem ok_L_law_31 : pm_ok 12 4 false (some .boolean) cL_law bk_L_law_31.2.2 bk_L_law_31.1 bk_L_law_31.2.1 = true := okG_ok _ _ (by decide +kernel)
noncomputable def bk_L_law_32 : Nat × List pm_Op × Nat := (1458, [(.aload_n 1, 1, 1, 0, 0), (.aload_n 0, 1, 0, 0, 0), (.iload_n 3, 1, 3, 0, 0), (.iconst 1, 1, 0, 0, 1), (.iadd, 1, 0, 0, 0), (.iaload, 1, 0, 0, 0), (.aload_n 0, 1, 0, 0, 0), (.iload_n 3, 1, 3, 0, 0), (.iconst 2, 1, 0, 0, 2), (.iadd, 1, 0, 0, 0), (.iaload, 1, 0, 0, 0), (.invokevirtual 138, 3, 85, 2, 10), (.pop, 1, 0, 0, 0), (.aload_n 2, 1, 2, 0, 0), (.aload_n 0, 1, 0, 0, 0), (.iload_n 3, 1, 3, 0, 0), (.iconst 1, 1, 0, 0, 1), (.iadd, 1, 0, 0, 0), (.iaload, 1, 0, 0, 0), (.aload_n 0, 1, 0, 0, 0), (.iload_n 3, 1, 3, 0, 0), (.iconst 2, 1, 0, 0, 2), (.iadd, 1, 0, 0, 0), (.iaload, 1, 0, 0, 0), (.invokevirtual 141, 3, 238, 2, 11), (.pop, 1, 0, 0, 0), (.goto 1075, 3, 2563, 0, 0)], 1491)
set_option maxRecDepth 100000 in
theorem ok_L_law_32 : pm_ok 12 4 false (some .boolean) cL_law bk_L_law_32.2.2 bk_L_law_32.1 bk_L_law_32.2.1 = true := okG_ok _ _ (by decide +kernel)
noncomputable def bk_L_law_33 : Nat × List pm_Op × Nat := (1491, [(.aload_n 1, 1, 1, 0, 0), (.aload_n 0, 1, 0, 0, 0), (.iload_n 3, 1, 3, 0, 0), (.iconst 1, 1, 0, 0, 1), (.iadd, 1, 0, 0, 0), (.iaload, 1, 0, 0, 0), (.aload_n 0, 1, 0, 0, 0), (.iload_n 3, 1, 3, 0, 0), (.iconst 2, 1, 0, 0, 2), (.iadd, 1, 0, 0, 0), (.iaload, 1, 0, 0, 0), (.invokevirtual 142, 3, 88, 2, 10), (.pop, 1, 0, 0, 0), (.aload_n 2, 1, 2, 0, 0), (.aload_n 0, 1, 0, 0, 0), (.iload_n 3, 1, 3, 0, 0), (.iconst 1, 1, 0, 0, 1), (.iadd, 1, 0, 0, 0), (.iaload, 1, 0, 0, 0), (.aload_n 0, 1, 0, 0, 0), (.iload_n 3, 1, 3, 0, 0), (.iconst 2, 1, 0, 0, 2), (.iadd, 1, 0, 0, 0), (.iaload, 1, 0, 0, 0), (.invokevirtual 145, 3, 240, 2, 11), (.pop, 1, 0, 0, 0), (.goto 1042, 3, 2563, 0, 0)], 1524)
set_option maxRecDepth 100000 in
theorem ok_L_law_33 : pm_ok 12 4 false (some .boolean) cL_law bk_L_law_33.2.2 bk_L_law_33.1 bk_L_law_33.2.1 = true := okG_ok _ _ (by decide +kernel)
noncomputable def bk_L_law_34 : Nat × List pm_Op × Nat := (1524, [(.aload_n 1, 1, 1, 0, 0), (.aload_n 0, 1, 0, 0, 0), (.iload_n 3, 1, 3, 0, 0), (.iconst 1, 1, 0, 0, 1), (.iadd, 1, 0, 0, 0), (.iaload, 1, 0, 0, 0), (.aload_n 0, 1, 0, 0, 0), (.iload_n 3, 1, 3, 0, 0), (.iconst 2, 1, 0, 0, 2), (.iadd, 1, 0, 0, 0), (.iaload, 1, 0, 0, 0), (.aload_n 0, 1, 0, 0, 0), (.iload_n 3, 1, 3, 0, 0), (.iconst 3, 1, 0, 0, 3), (.iadd, 1, 0, 0, 0), (.iaload, 1, 0, 0, 0), (.invokevirtual 146, 3, 90, 3, 10), (.pop, 1, 0, 0, 0), (.aload_n 2, 1, 2, 0, 0), (.aload_n 0, 1, 0, 0, 0), (.iload_n 3, 1, 3, 0, 0), (.iconst 1, 1, 0, 0, 1), (.iadd, 1, 0, 0, 0), (.iaload, 1, 0, 0, 0), (.aload_n 0, 1, 0, 0, 0), (.iload_n 3, 1, 3, 0, 0), (.iconst 2, 1, 0, 0, 2), (.iadd, 1, 0, 0, 0), (.iaload, 1, 0, 0, 0), (.aload_n 0, 1, 0, 0, 0), (.iload_n 3, 1, 3, 0, 0), (.iconst 3, 1, 0, 0, 3), (.iadd, 1, 0, 0, 0), (.iaload, 1, 0, 0, 0), (.invokevirtual 149, 3, 242, 3, 11), (.pop, 1, 0, 0, 0), (.goto 999, 3, 2563, 0, 0)], 1567)
set_option maxRecDepth 100000 in
theorem ok_L_law_34 : pm_ok 12 4 false (some .boolean) cL_law bk_L_law_34.2.2 bk_L_law_34.1 bk_L_law_34.2.1 = true := okG_ok _ _ (by decide +kernel)
noncomputable def bk_L_law_35 : Nat × List pm_Op × Nat := (1567, [(.aload_n 1, 1, 1, 0, 0), (.aload_n 0, 1, 0, 0, 0), (.iload_n 3, 1, 3, 0, 0), (.iconst 1, 1, 0, 0, 1), (.iadd, 1, 0, 0, 0), (.iaload, 1, 0, 0, 0), (.aload_n 0, 1, 0, 0, 0), (.iload_n 3, 1, 3, 0, 0), (.iconst 2, 1, 0, 0, 2), (.iadd, 1, 0, 0, 0), (.iaload, 1, 0, 0, 0), (.aload_n 0, 1, 0, 0, 0), (.iload_n 3, 1, 3, 0, 0), (.iconst 3, 1, 0, 0, 3), (.iadd, 1, 0, 0, 0), (.iaload, 1, 0, 0, 0), (.invokevirtual 150, 3, 93, 3, 10), (.pop, 1, 0, 0, 0), (.aload_n 2, 1, 2, 0, 0), (.aload_n 0, 1, 0, 0, 0), (.iload_n 3, 1, 3, 0, 0), (.iconst 1, 1, 0, 0, 1), (.iadd, 1, 0, 0, 0), (.iaload, 1, 0, 0, 0), (.aload_n 0, 1, 0, 0, 0), (.iload_n 3, 1, 3, 0, 0), (.iconst 2, 1, 0, 0, 2), (.iadd, 1, 0, 0, 0), (.iaload, 1, 0, 0, 0), (.aload_n 0, 1, 0, 0, 0), (.iload_n 3, 1, 3, 0, 0), (.iconst 3, 1, 0, 0, 3), (.iadd, 1, 0, 0, 0), (.iaload, 1, 0, 0, 0), (.invokevirtual 153, 3, 243, 3, 11), (.pop, 1, 0, 0, 0), (.goto 956, 3, 2563, 0, 0)], 1610)
set_option maxRecDepth 100000 in
theorem ok_L_law_35 : pm_ok 12 4 false (some .boolean) cL_law bk_L_law_35.2.2 bk_L_law_35.1 bk_L_law_35.2.1 = true := okG_ok _ _ (by decide +kernel)
noncomputable def bk_L_law_36 : Nat × List pm_Op × Nat := (1610, [(.aload_n 1, 1, 1, 0, 0), (.aload_n 0, 1, 0, 0, 0), (.iload_n 3, 1, 3, 0, 0), (.iconst 1, 1, 0, 0, 1), (.iadd, 1, 0, 0, 0), (.iaload, 1, 0, 0, 0), (.aload_n 0, 1, 0, 0, 0), (.iload_n 3, 1, 3, 0, 0), (.iconst 2, 1, 0, 0, 2), (.iadd, 1, 0, 0, 0), (.iaload, 1, 0, 0, 0), (.invokevirtual 154, 3, 94, 2, 10), (.pop, 1, 0, 0, 0), (.aload_n 2, 1, 2, 0, 0), (.aload_n 0, 1, 0, 0, 0), (.iload_n 3, 1, 3, 0, 0), (.iconst 1, 1, 0, 0, 1), (.iadd, 1, 0, 0, 0), (.iaload, 1, 0, 0, 0), (.aload_n 0, 1, 0, 0, 0), (.iload_n 3, 1, 3, 0, 0), (.iconst 2, 1, 0, 0, 2), (.iadd, 1, 0, 0, 0), (.iaload, 1, 0, 0, 0), (.invokevirtual 157, 3, 244, 2, 11), (.pop, 1, 0, 0, 0), (.goto 923, 3, 2563, 0, 0)], 1643)
set_option maxRecDepth 100000 in
theorem ok_L_law_36 : pm_ok 12 4 false (some .boolean) cL_law bk_L_law_36.2.2 bk_L_law_36.1 bk_L_law_36.2.1 = true := okG_ok _ _ (by decide +kernel)
noncomputable def bk_L_law_37 : Nat × List pm_Op × Nat := (1643, [(.aload_n 1, 1, 1, 0, 0), (.aload_n 0, 1, 0, 0, 0), (.iload_n 3, 1, 3, 0, 0), (.iconst 1, 1, 0, 0, 1), (.iadd, 1, 0, 0, 0), (.iaload, 1, 0, 0, 0), (.aload_n 0, 1, 0, 0, 0), (.iload_n 3, 1, 3, 0, 0), (.iconst 2, 1, 0, 0, 2), (.iadd, 1, 0, 0, 0), (.iaload, 1, 0, 0, 0), (.invokevirtual 158, 3, 96, 2, 10), (.pop, 1, 0, 0, 0), (.aload_n 2, 1, 2, 0, 0), (.aload_n 0, 1, 0, 0, 0), (.iload_n 3, 1, 3, 0, 0), (.iconst 1, 1, 0, 0, 1), (.iadd, 1, 0, 0, 0), (.iaload, 1, 0, 0, 0), (.aload_n 0, 1, 0, 0, 0), (.iload_n 3, 1, 3, 0, 0), (.iconst 2, 1, 0, 0, 2), (.iadd, 1, 0, 0, 0), (.iaload, 1, 0, 0, 0), (.invokevirtual 161, 3, 245, 2, 11), (.pop, 1, 0, 0, 0), (.goto 890, 3, 2563, 0, 0)], 1676)
set_option maxRecDepth 100000 in
theorem ok_L_law_37 : pm_ok 12 4 false (some .boolean) cL_law bk_L_law_37.2.2 bk_L_law_37.1 bk_L_law_37.2.1 = true := okG_ok _ _ (by decide +kernel)
noncomputable def bk_L_law_38 : Nat × List pm_Op × Nat := (1676, [(.aload_n 1, 1, 1, 0, 0), (.aload_n 0, 1, 0, 0, 0), (.iload_n 3, 1, 3, 0, 0), (.iconst 1, 1, 0, 0, 1), (.iadd, 1, 0, 0, 0), (.iaload, 1, 0, 0, 0), (.aload_n 0, 1, 0, 0, 0), (.iload_n 3, 1, 3, 0, 0), (.iconst 2, 1, 0, 0, 2), (.iadd, 1, 0, 0, 0), (.iaload, 1, 0, 0, 0), (.aload_n 0, 1, 0, 0, 0), (.iload_n 3, 1, 3, 0, 0), (.iconst 3, 1, 0, 0, 3), (.iadd, 1, 0, 0, 0), (.iaload, 1, 0, 0, 0), (.invokevirtual 162, 3, 98, 3, 10), (.pop, 1, 0, 0, 0), (.aload_n 2, 1, 2, 0, 0), (.aload_n 0, 1, 0, 0, 0), (.iload_n 3, 1, 3, 0, 0), (.iconst 1, 1, 0, 0, 1), (.iadd, 1, 0, 0, 0), (.iaload, 1, 0, 0, 0), (.aload_n 0, 1, 0, 0, 0), (.iload_n 3, 1, 3, 0, 0), (.iconst 2, 1, 0, 0, 2), (.iadd, 1, 0, 0, 0), (.iaload, 1, 0, 0, 0), (.aload_n 0, 1, 0, 0, 0), (.iload_n 3, 1, 3, 0, 0), (.iconst 3, 1, 0, 0, 3), (.iadd, 1, 0, 0, 0), (.iaload, 1, 0, 0, 0), (.invokevirtual 165, 3, 246, 3, 11), (.pop, 1, 0, 0, 0), (.goto 847, 3, 2563, 0, 0)], 1719)
set_option maxRecDepth 100000 in
theorem ok_L_law_38 : pm_ok 12 4 false (some .boolean) cL_law bk_L_law_38.2.2 bk_L_law_38.1 bk_L_law_38.2.1 = true := okG_ok _ _ (by decide +kernel)
noncomputable def bk_L_law_39 : Nat × List pm_Op × Nat := (1719, [(.aload_n 1, 1, 1, 0, 0), (.aload_n 0, 1, 0, 0, 0), (.iload_n 3, 1, 3, 0, 0), (.iconst 1, 1, 0, 0, 1), (.iadd, 1, 0, 0, 0), (.iaload, 1, 0, 0, 0), (.aload_n 0, 1, 0, 0, 0), (.iload_n 3, 1, 3, 0, 0), (.iconst 2, 1, 0, 0, 2), (.iadd, 1, 0, 0, 0), (.iaload, 1, 0, 0, 0), (.invokevirtual 166, 3, 100, 2, 10), (.pop, 1, 0, 0, 0), (.aload_n 2, 1, 2, 0, 0), (.aload_n 0, 1, 0, 0, 0), (.iload_n 3, 1, 3, 0, 0), (.iconst 1, 1, 0, 0, 1), (.iadd, 1, 0, 0, 0), (.iaload, 1, 0, 0, 0), (.aload_n 0, 1, 0, 0, 0), (.iload_n 3, 1, 3, 0, 0), (.iconst 2, 1, 0, 0, 2), (.iadd, 1, 0, 0, 0), (.iaload, 1, 0, 0, 0), (.invokevirtual 169, 3, 248, 2, 11), (.pop, 1, 0, 0, 0), (.goto 814, 3, 2563, 0, 0)], 1752)
set_option maxRecDepth 100000 in
theorem ok_L_law_39 : pm_ok 12 4 false (some .boolean) cL_law bk_L_law_39.2.2 bk_L_law_39.1 bk_L_law_39.2.1 = true := okG_ok _ _ (by decide +kernel)
end
section
noncomputable def bk_L_law_40 : Nat × List pm_Op × Nat := (1752, [(.aload_n 1, 1, 1, 0, 0), (.aload_n 0, 1, 0, 0, 0), (.iload_n 3, 1, 3, 0, 0), (.iconst 1, 1, 0, 0, 1), (.iadd, 1, 0, 0, 0), (.iaload, 1, 0, 0, 0), (.aload_n 0, 1, 0, 0, 0), (.iload_n 3, 1, 3, 0, 0), (.iconst 2, 1, 0, 0, 2), (.iadd, 1, 0, 0, 0), (.iaload, 1, 0, 0, 0), (.invokevirtual 170, 3, 102, 2, 10), (.pop, 1, 0, 0, 0), (.aload_n 2, 1, 2, 0, 0), (.aload_n 0, 1, 0, 0, 0), (.iload_n 3, 1, 3, 0, 0), (.iconst 1, 1, 0, 0, 1), (.iadd, 1, 0, 0, 0), (.iaload, 1, 0, 0, 0), (.aload_n 0, 1, 0, 0, 0), (.iload_n 3, 1, 3, 0, 0), (.iconst 2, 1, 0, 0, 2), (.iadd, 1, 0, 0, 0), (.iaload, 1, 0, 0, 0), (.invokevirtual 173, 3, 249, 2, 11), (.pop, 1, 0, 0, 0), (.goto 781, 3, 2563, 0, 0)], 1785)
set_option maxRecDepth 100000 in
theorem ok_L_law_40 : pm_ok 12 4 false (some .boolean) cL_law bk_L_law_40.2.2 bk_L_law_40.1 bk_L_law_40.2.1 = true := okG_ok _ _ (by decide +kernel)
noncomputable def bk_L_law_41 : Nat × List pm_Op × Nat := (1785, [(.aload_n 1, 1, 1, 0, 0), (.aload_n 0, 1, 0, 0, 0), (.iload_n 3, 1, 3, 0, 0), (.iconst 1, 1, 0, 0, 1), (.iadd, 1, 0, 0, 0), (.iaload, 1, 0, 0, 0), (.aload_n 0, 1, 0, 0, 0), (.iload_n 3, 1, 3, 0, 0), (.iconst 2, 1, 0, 0, 2), (.iadd, 1, 0, 0, 0), (.iaload, 1, 0, 0, 0), (.invokevirtual 174, 3, 104, 2, 10), (.pop, 1, 0, 0, 0), (.aload_n 2, 1, 2, 0, 0), (.aload_n 0, 1, 0, 0, 0), (.iload_n 3, 1, 3, 0, 0), (.iconst 1, 1, 0, 0, 1), (.iadd, 1, 0, 0, 0), (.iaload, 1, 0, 0, 0), (.aload_n 0, 1, 0, 0, 0), (.iload_n 3, 1, 3, 0, 0), (.iconst 2, 1, 0, 0, 2), (.iadd, 1, 0, 0, 0), (.iaload, 1, 0, 0, 0), (.invokevirtual 177, 3, 250, 2, 11), (.pop, 1, 0, 0, 0), (.goto 748, 3, 2563, 0, 0)], 1818)
set_option maxRecDepth 100000 in
theorem ok_L_law_41 : pm_ok 12 4 false (some .boolean) cL_law bk_L_law_41.2.2 bk_L_law_41.1 bk_L_law_41.2.1 = true := okG_ok _ _ (by decide +kernel)
noncomputable def bk_L_law_42 : Nat × List pm_Op × Nat := (1818, [(.aload_n 1, 1, 1, 0, 0), (.aload_n 0, 1, 0, 0, 0), (.iload_n 3, 1, 3, 0, 0), (.iconst 1, 1, 0, 0, 1), (.iadd, 1, 0, 0, 0), (.iaload, 1, 0, 0, 0), (.aload_n 0, 1, 0, 0, 0), (.iload_n 3, 1, 3, 0, 0), (.iconst 2, 1, 0, 0, 2), (.iadd, 1, 0, 0, 0), (.iaload, 1, 0, 0, 0), (.invokevirtual 178, 3, 106, 2, 10), (.pop, 1, 0, 0, 0), (.aload_n 2, 1, 2, 0, 0), (.aload_n 0, 1, 0, 0, 0), (.iload_n 3, 1, 3, 0, 0), (.iconst 1, 1, 0, 0, 1), (.iadd, 1, 0, 0, 0), (.iaload, 1, 0, 0, 0), (.aload_n 0, 1, 0, 0, 0), (.iload_n 3, 1, 3, 0, 0), (.iconst 2, 1, 0, 0, 2), (.iadd, 1, 0, 0, 0), (.iaload, 1, 0, 0, 0), (.invokevirtual 181, 3, 251, 2, 11), (.pop, 1, 0, 0, 0), (.goto 715, 3, 2563, 0, 0)], 1851)
set_option maxRecDepth 100000 in
theorem ok_L_law_42 : pm_ok 12 4 false (some .boolean) cL_law bk_L_law_42.2.2 bk_L_law_42.1 bk_L_law_42.2.1 = true := okG_ok _ _ (by decide +kernel)
noncomputable def bk_L_law_43 : Nat × List pm_Op × Nat := (1851, [(.aload_n 1, 1, 1, 0, 0), (.aload_n 0, 1, 0, 0, 0), (.iload_n 3, 1, 3, 0, 0), (.iconst 1, 1, 0, 0, 1), (.iadd, 1, 0, 0, 0), (.iaload, 1, 0, 0, 0), (.aload_n 0, 1, 0, 0, 0), (.iload_n 3, 1, 3, 0, 0), (.iconst 2, 1, 0, 0, 2), (.iadd, 1, 0, 0, 0), (.iaload, 1, 0, 0, 0), (.invokevirtual 182, 3, 111, 2, 10), (.pop, 1, 0, 0, 0), (.aload_n 2, 1, 2, 0, 0), (.aload_n 0, 1, 0, 0, 0), (.iload_n 3, 1, 3, 0, 0), (.iconst 1, 1, 0, 0, 1), (.iadd, 1, 0, 0, 0), (.iaload, 1, 0, 0, 0), (.aload_n 0, 1, 0, 0, 0), (.iload_n 3, 1, 3, 0, 0), (.iconst 2, 1, 0, 0, 2), (.iadd, 1, 0, 0, 0), (.iaload, 1, 0, 0, 0), (.invokevirtual 185, 3, 252, 2, 11), (.pop, 1, 0, 0, 0), (.goto 682, 3, 2563, 0, 0)], 1884)
set_option maxRecDepth 100000 in
theorem ok_L_law_43 : pm_ok 12 4 false (some .boolean) cL_law bk_L_law_43.2.2 bk_L_law_43.1 bk_L_law_43.2.1 = true := okG_ok _ _ (by decide +kernel)
noncomputable def bk_L_law_44 : Nat × List pm_Op × Nat := (1884, [(.aload_n 1, 1, 1, 0, 0), (.aload_n 0, 1, 0, 0, 0), (.iload_n 3, 1, 3, 0, 0), (.iconst 1, 1, 0, 0, 1), (.iadd, 1, 0, 0, 0), (.iaload, 1, 0, 0, 0), (.invokevirtual 186, 3, 115, 1, 10), (.pop, 1, 0, 0, 0), (.aload_n 2, 1, 2, 0, 0), (.aload_n 0, 1, 0, 0, 0), (.iload_n 3, 1, 3, 0, 0), (.iconst 1, 1, 0, 0, 1), (.iadd, 1, 0, 0, 0), (.iaload, 1, 0, 0, 0), (.invokevirtual 189, 3, 254, 1, 11), (.pop, 1, 0, 0, 0), (.goto 659, 3, 2563, 0, 0)], 1907)
set_option maxRecDepth 100000 in
theorem ok_L_law_44 : pm_ok 12 4 false (some .boolean) cL_law bk_L_law_44.2.2 bk_L_law_44.1 bk_L_law_44.2.1 = true := okG_ok _ _ (by decide +kernel)
noncomputable def bk_L_law_45 : Nat × List pm_Op × Nat := (1907, [(.aload_n 1, 1, 1, 0, 0), (.aload_n 0, 1, 0, 0, 0), (.iload_n 3, 1, 3, 0, 0), (.iconst 1, 1, 0, 0, 1), (.iadd, 1, 0, 0, 0), (.iaload, 1, 0, 0, 0), (.aload_n 0, 1, 0, 0, 0), (.iload_n 3, 1, 3, 0, 0), (.iconst 2, 1, 0, 0, 2), (.iadd, 1, 0, 0, 0), (.iaload, 1, 0, 0, 0), (.invokevirtual 190, 3, 117, 2, 10), (.pop, 1, 0, 0, 0), (.aload_n 2, 1, 2, 0, 0), (.aload_n 0, 1, 0, 0, 0), (.iload_n 3, 1, 3, 0, 0), (.iconst 1, 1, 0, 0, 1), (.iadd, 1, 0, 0, 0), (.iaload, 1, 0, 0, 0), (.aload_n 0, 1, 0, 0, 0), (.iload_n 3, 1, 3, 0, 0), (.iconst 2, 1, 0, 0, 2), (.iadd, 1, 0, 0, 0), (.iaload, 1, 0, 0, 0), (.invokevirtual 193, 3, 255, 2, 11), (.pop, 1, 0, 0, 0), (.goto 626, 3, 2563, 0, 0)], 1940)
set_option maxRecDepth 100000 in
theorem ok_L_law_45 : pm_ok 12 4 false (some .boolean) cL_law bk_L_law_45.2.2 bk_L_law_45.1 bk_L_law_45.2.1 = true := okG_ok _ _ (by decide +kernel)
noncomputable def bk_L_law_46 : Nat × List pm_Op × Nat := (1940, [(.aload_n 1, 1, 1, 0, 0), (.aload_n 0, 1, 0, 0, 0), (.iload_n 3, 1, 3, 0, 0), (.iconst 1, 1, 0, 0, 1), (.iadd, 1, 0, 0, 0), (.iaload, 1, 0, 0, 0), (.invokevirtual 194, 3, 119, 1, 10), (.pop, 1, 0, 0, 0), (.aload_n 2, 1, 2, 0, 0), (.aload_n 0, 1, 0, 0, 0), (.iload_n 3, 1, 3, 0, 0), (.iconst 1, 1, 0, 0, 1), (.iadd, 1, 0, 0, 0), (.iaload, 1, 0, 0, 0), (.invokevirtual 197, 3, 256, 1, 11), (.pop, 1, 0, 0, 0), (.goto 603, 3, 2563, 0, 0)], 1963)
set_option maxRecDepth 100000 in
theorem ok_L_law_46 : pm_ok 12 4 false (some .boolean) cL_law bk_L_law_46.2.2 bk_L_law_46.1 bk_L_law_46.2.1 = true := okG_ok _ _ (by decide +kernel)
noncomputable def bk_L_law_47 : Nat × List pm_Op × Nat := (1963, [(.aload_n 1, 1, 1, 0, 0), (.aload_n 0, 1, 0, 0, 0), (.iload_n 3, 1, 3, 0, 0), (.iconst 1, 1, 0, 0, 1), (.iadd, 1, 0, 0, 0), (.iaload, 1, 0, 0, 0), (.aload_n 0, 1, 0, 0, 0), (.iload_n 3, 1, 3, 0, 0), (.iconst 2, 1, 0, 0, 2), (.iadd, 1, 0, 0, 0), (.iaload, 1, 0, 0, 0), (.invokevirtual 198, 3, 120, 2, 10), (.pop, 1, 0, 0, 0), (.aload_n 2, 1, 2, 0, 0), (.aload_n 0, 1, 0, 0, 0), (.iload_n 3, 1, 3, 0, 0), (.iconst 1, 1, 0, 0, 1), (.iadd, 1, 0, 0, 0), (.iaload, 1, 0, 0, 0), (.aload_n 0, 1, 0, 0, 0), (.iload_n 3, 1, 3, 0, 0), (.iconst 2, 1, 0, 0, 2), (.iadd, 1, 0, 0, 0), (.iaload, 1, 0, 0, 0), (.invokevirtual 201, 3, 257, 2, 11), (.pop, 1, 0, 0, 0), (.goto 570, 3, 2563, 0, 0)], 1996)
set_option maxRecDepth 100000 in
theorem ok_L_law_47 : pm_ok 12 4 false (some .boolean) cL_law bk_L_law_47.2.2 bk_L_law_47.1 bk_L_law_47.2.1 = true := okG_ok _ _ (by decide +kernel)
noncomputable def bk_L_law_48 : Nat × List pm_Op × Nat := (1996, [(.aload_n 1, 1, 1, 0, 0), (.aload_n 0, 1, 0, 0, 0), (.iload_n 3, 1, 3, 0, 0), (.iconst 1, 1, 0, 0, 1), (.iadd, 1, 0, 0, 0), (.iaload, 1, 0, 0, 0), (.aload_n 0, 1, 0, 0, 0), (.iload_n 3, 1, 3, 0, 0), (.iconst 2, 1, 0, 0, 2), (.iadd, 1, 0, 0, 0), (.iaload, 1, 0, 0, 0), (.aload_n 0, 1, 0, 0, 0), (.iload_n 3, 1, 3, 0, 0), (.iconst 3, 1, 0, 0, 3), (.iadd, 1, 0, 0, 0), (.iaload, 1, 0, 0, 0), (.invokevirtual 202, 3, 126, 3, 10), (.pop, 1, 0, 0, 0), (.aload_n 2, 1, 2, 0, 0), (.aload_n 0, 1, 0, 0, 0), (.iload_n 3, 1, 3, 0, 0), (.iconst 1, 1, 0, 0, 1), (.iadd, 1, 0, 0, 0), (.iaload, 1, 0, 0, 0), (.aload_n 0, 1, 0, 0, 0), (.iload_n 3, 1, 3, 0, 0), (.iconst 2, 1, 0, 0, 2), (.iadd, 1, 0, 0, 0), (.iaload, 1, 0, 0, 0), (.aload_n 0, 1, 0, 0, 0), (.iload_n 3, 1, 3, 0, 0), (.iconst 3, 1, 0, 0, 3), (.iadd, 1, 0, 0, 0), (.iaload, 1, 0, 0, 0), (.invokevirtual 205, 3, 262, 3, 11), (.pop, 1, 0, 0, 0), (.goto 527, 3, 2563, 0, 0)], 2039)
set_option maxRecDepth 100000 in
theorem ok_L_law_48 : pm_ok 12 4 false (some .boolean) cL_law bk_L_law_48.2.2 bk_L_law_48.1 bk_L_law_48.2.1 = true := okG_ok _ _ (by decide +kernel)
noncomputable def bk_L_law_49 : Nat × List pm_Op × Nat := (2039, [(.aload_n 1, 1, 1, 0, 0), (.aload_n 0, 1, 0, 0, 0), (.iload_n 3, 1, 3, 0, 0), (.iconst 1, 1, 0, 0, 1), (.iadd, 1, 0, 0, 0), (.iaload, 1, 0, 0, 0), (.aload_n 0, 1, 0, 0, 0), (.iload_n 3, 1, 3, 0, 0), (.iconst 2, 1, 0, 0, 2), (.iadd, 1, 0, 0, 0), (.iaload, 1, 0, 0, 0), (.invokevirtual 206, 3, 127, 2, 10), (.pop, 1, 0, 0, 0), (.aload_n 2, 1, 2, 0, 0), (.aload_n 0, 1, 0, 0, 0), (.iload_n 3, 1, 3, 0, 0), (.iconst 1, 1, 0, 0, 1), (.iadd, 1, 0, 0, 0), (.iaload, 1, 0, 0, 0), (.aload_n 0, 1, 0, 0, 0), (.iload_n 3, 1, 3, 0, 0), (.iconst 2, 1, 0, 0, 2), (.iadd, 1, 0, 0, 0), (.iaload, 1, 0, 0, 0), (.invokevirtual 209, 3, 263, 2, 11), (.pop, 1, 0, 0, 0), (.goto 494, 3, 2563, 0, 0)], 2072)
set_option maxRecDepth 100000 in
theorem ok_L_law_49 : pm_ok 12 4 false (some .boolean) cL_law bk_L_law_49.2.2 bk_L_law_49.1 bk_L_law_49.2.1 = true := okG_ok _ _ (by decide +kernel)
end
section
noncomputable def bk_L_law_50 : Nat × List pm_Op × Nat := (2072, [(.aload_n 1, 1, 1, 0, 0), (.aload_n 0, 1, 0, 0, 0), (.iload_n 3, 1, 3, 0, 0), (.iconst 1, 1, 0, 0, 1), (.iadd, 1, 0, 0, 0), (.iaload, 1, 0, 0, 0), (.invokevirtual 210, 3, 128, 1, 10), (.pop, 1, 0, 0, 0), (.aload_n 2, 1, 2, 0, 0), (.aload_n 0, 1, 0, 0, 0), (.iload_n 3, 1, 3, 0, 0), (.iconst 1, 1, 0, 0, 1), (.iadd, 1, 0, 0, 0), (.iaload, 1, 0, 0, 0), (.invokevirtual 213, 3, 264, 1, 11), (.pop, 1, 0, 0, 0), (.goto 471, 3, 2563, 0, 0)], 2095)
set_option maxRecDepth 100000 in
theorem ok_L_law_50 : pm_ok 12 4 false (some .boolean) cL_law bk_L_law_50.2.2 bk_L_law_50.1 bk_L_law_50.2.1 = true := okG_ok _ _ (by decide +kernel)
noncomputable def bk_L_law_51 : Nat × List pm_Op × Nat := (2095, [(.aload_n 1, 1, 1, 0, 0), (.invokevirtual 214, 3, 130, 0, 10), (.pop2, 1, 0, 0, 0), (.aload_n 2, 1, 2, 0, 0), (.invokevirtual 218, 3, 265, 0, 11), (.pop2, 1, 0, 0, 0), (.goto 458, 3, 2563, 0, 0)], 2108)
set_option maxRecDepth 100000 in
theorem ok_L_law_51 : pm_ok 12 4 false (some .boolean) cL_law bk_L_law_51.2.2 bk_L_law_51.1 bk_L_law_51.2.1 = true := okG_ok _ _ (by decide +kernel)
noncomputable def bk_L_law_52 : Nat × List pm_Op × Nat := (2108, [(.aload_n 1, 1, 1, 0, 0), (.aload_n 0, 1, 0, 0, 0), (.iload_n 3, 1, 3, 0, 0), (.iconst 1, 1, 0, 0, 1), (.iadd, 1, 0, 0, 0), (.iaload, 1, 0, 0, 0), (.invokevirtual 219, 3, 131, 1, 10), (.pop, 1, 0, 0, 0), (.aload_n 2, 1, 2, 0, 0), (.aload_n 0, 1, 0, 0, 0), (.iload_n 3, 1, 3, 0, 0), (.iconst 1, 1, 0, 0, 1), (.iadd, 1, 0, 0, 0), (.iaload, 1, 0, 0, 0), (.invokevirtual 222, 3, 266, 1, 11), (.pop, 1, 0, 0, 0), (.goto 435, 3, 2563, 0, 0)], 2131)
set_option maxRecDepth 100000 in
theorem ok_L_law_52 : pm_ok 12 4 false (some .boolean) cL_law bk_L_law_52.2.2 bk_L_law_52.1 bk_L_law_52.2.1 = true := okG_ok _ _ (by decide +kernel)
noncomputable def bk_L_law_53 : Nat × List pm_Op × Nat := (2131, [(.aload_n 1, 1, 1, 0, 0), (.aload_n 0, 1, 0, 0, 0), (.iload_n 3, 1, 3, 0, 0), (.iconst 1, 1, 0, 0, 1), (.iadd, 1, 0, 0, 0), (.iaload, 1, 0, 0, 0), (.aload_n 0, 1, 0, 0, 0), (.iload_n 3, 1, 3, 0, 0), (.iconst 2, 1, 0, 0, 2), (.iadd, 1, 0, 0, 0), (.iaload, 1, 0, 0, 0), (.aload_n 0, 1, 0, 0, 0), (.iload_n 3, 1, 3, 0, 0), (.iconst 3, 1, 0, 0, 3), (.iadd, 1, 0, 0, 0), (.iaload, 1, 0, 0, 0), (.invokevirtual 223, 3, 134, 3, 10), (.pop, 1, 0, 0, 0), (.aload_n 2, 1, 2, 0, 0), (.aload_n 0, 1, 0, 0, 0), (.iload_n 3, 1, 3, 0, 0), (.iconst 1, 1, 0, 0, 1), (.iadd, 1, 0, 0, 0), (.iaload, 1, 0, 0, 0), (.aload_n 0, 1, 0, 0, 0), (.iload_n 3, 1, 3, 0, 0), (.iconst 2, 1, 0, 0, 2), (.iadd, 1, 0, 0, 0), (.iaload, 1, 0, 0, 0), (.aload_n 0, 1, 0, 0, 0), (.iload_n 3, 1, 3, 0, 0), (.iconst 3, 1, 0, 0, 3), (.iadd, 1, 0, 0, 0), (.iaload, 1, 0, 0, 0), (.invokevirtual 226, 3, 267, 3, 11), (.pop, 1, 0, 0, 0), (.goto 392, 3, 2563, 0, 0)], 2174)
set_option maxRecDepth 100000 in
theorem ok_L_law_53 : pm_ok 12 4 false (some .boolean) cL_law bk_L_law_53.2.2 bk_L_law_53.1 bk_L_law_53.2.1 = true := okG_ok _ _ (by decide +kernel)
noncomputable def bk_L_law_54 : Nat × List pm_Op × Nat := (2174, [(.aload_n 1, 1, 1, 0, 0), (.aload_n 0, 1, 0, 0, 0), (.iload_n 3, 1, 3, 0, 0), (.iconst 1, 1, 0, 0, 1), (.iadd, 1, 0, 0, 0), (.iaload, 1, 0, 0, 0), (.invokevirtual 227, 3, 138, 1, 10), (.pop, 1, 0, 0, 0), (.aload_n 2, 1, 2, 0, 0), (.aload_n 0, 1, 0, 0, 0), (.iload_n 3, 1, 3, 0, 0), (.iconst 1, 1, 0, 0, 1), (.iadd, 1, 0, 0, 0), (.iaload, 1, 0, 0, 0), (.invokevirtual 230, 3, 270, 1, 11), (.pop, 1, 0, 0, 0), (.goto 369, 3, 2563, 0, 0)], 2197)
set_option maxRecDepth 100000 in
theorem ok_L_law_54 : pm_ok 12 4 false (some .boolean) cL_law bk_L_law_54.2.2 bk_L_law_54.1 bk_L_law_54.2.1 = true := okG_ok _ _ (by decide +kernel)
noncomputable def bk_L_law_55 : Nat × List pm_Op × Nat := (2197, [(.aload_n 1, 1, 1, 0, 0), (.aload_n 0, 1, 0, 0, 0), (.iload_n 3, 1, 3, 0, 0), (.iconst 1, 1, 0, 0, 1), (.iadd, 1, 0, 0, 0), (.iaload, 1, 0, 0, 0), (.aload_n 0, 1, 0, 0, 0), (.iload_n 3, 1, 3, 0, 0), (.iconst 2, 1, 0, 0, 2), (.iadd, 1, 0, 0, 0), (.iaload, 1, 0, 0, 0), (.invokevirtual 231, 3, 141, 2, 10), (.pop, 1, 0, 0, 0), (.aload_n 2, 1, 2, 0, 0), (.aload_n 0, 1, 0, 0, 0), (.iload_n 3, 1, 3, 0, 0), (.iconst 1, 1, 0, 0, 1), (.iadd, 1, 0, 0, 0), (.iaload, 1, 0, 0, 0), (.aload_n 0, 1, 0, 0, 0), (.iload_n 3, 1, 3, 0, 0), (.iconst 2, 1, 0, 0, 2), (.iadd, 1, 0, 0, 0), (.iaload, 1, 0, 0, 0), (.invokevirtual 234, 3, 271, 2, 11), (.pop, 1, 0, 0, 0), (.goto 336, 3, 2563, 0, 0)], 2230)
set_option maxRecDepth 100000 in
theorem ok_L_law_55 : pm_ok 12 4 false (some .boolean) cL_law bk_L_law_55.2.2 bk_L_law_55.1 bk_L_law_55.2.1 = true := okG_ok _ _ (by decide +kernel)
noncomputable def bk_L_law_56 : Nat × List pm_Op × Nat := (2230, [(.aload_n 1, 1, 1, 0, 0), (.aload_n 0, 1, 0, 0, 0), (.iload_n 3, 1, 3, 0, 0), (.iconst 1, 1, 0, 0, 1), (.iadd, 1, 0, 0, 0), (.iaload, 1, 0, 0, 0), (.aload_n 0, 1, 0, 0, 0), (.iload_n 3, 1, 3, 0, 0), (.iconst 2, 1, 0, 0, 2), (.iadd, 1, 0, 0, 0), (.iaload, 1, 0, 0, 0), (.invokevirtual 235, 3, 143, 2, 10), (.pop, 1, 0, 0, 0), (.aload_n 2, 1, 2, 0, 0), (.aload_n 0, 1, 0, 0, 0), (.iload_n 3, 1, 3, 0, 0), (.iconst 1, 1, 0, 0, 1), (.iadd, 1, 0, 0, 0), (.iaload, 1, 0, 0, 0), (.aload_n 0, 1, 0, 0, 0), (.iload_n 3, 1, 3, 0, 0), (.iconst 2, 1, 0, 0, 2), (.iadd, 1, 0, 0, 0), (.iaload, 1, 0, 0, 0), (.invokevirtual 238, 3, 272, 2, 11), (.pop, 1, 0, 0, 0), (.goto 303, 3, 2563, 0, 0)], 2263)
set_option maxRecDepth 100000 in
theorem ok_L_law_56 : pm_ok 12 4 false (some .boolean) cL_law bk_L_law_56.2.2 bk_L_law_56.1 bk_L_law_56.2.1 = true := okG_ok _ _ (by decide +kernel)
noncomputable def bk_L_law_57 : Nat × List pm_Op × Nat := (2263, [(.aload_n 1, 1, 1, 0, 0), (.aload_n 0, 1, 0, 0, 0), (.iload_n 3, 1, 3, 0, 0), (.iconst 1, 1, 0, 0, 1), (.iadd, 1, 0, 0, 0), (.iaload, 1, 0, 0, 0), (.aload_n 0, 1, 0, 0, 0), (.iload_n 3, 1, 3, 0, 0), (.iconst 2, 1, 0, 0, 2), (.iadd, 1, 0, 0, 0), (.iaload, 1, 0, 0, 0), (.aload_n 0, 1, 0, 0, 0), (.iload_n 3, 1, 3, 0, 0), (.iconst 3, 1, 0, 0, 3), (.iadd, 1, 0, 0, 0), (.iaload, 1, 0, 0, 0), (.invokevirtual 239, 3, 148, 3, 10), (.pop, 1, 0, 0, 0), (.aload_n 2, 1, 2, 0, 0), (.aload_n 0, 1, 0, 0, 0), (.iload_n 3, 1, 3, 0, 0), (.iconst 1, 1, 0, 0, 1), (.iadd, 1, 0, 0, 0), (.iaload, 1, 0, 0, 0), (.aload_n 0, 1, 0, 0, 0), (.iload_n 3, 1, 3, 0, 0), (.iconst 2, 1, 0, 0, 2), (.iadd, 1, 0, 0, 0), (.iaload, 1, 0, 0, 0), (.aload_n 0, 1, 0, 0, 0), (.iload_n 3, 1, 3, 0, 0), (.iconst 3, 1, 0, 0, 3), (.iadd, 1, 0, 0, 0), (.iaload, 1, 0, 0, 0), (.invokevirtual 242, 3, 226, 3, 11), (.pop, 1, 0, 0, 0), (.goto 260, 3, 2563, 0, 0)], 2306)
set_option maxRecDepth 100000 in
theorem ok_L_law_57 : pm_ok 12 4 false (some .boolean) cL_law bk_L_law_57.2.2 bk_L_law_57.1 bk_L_law_57.2.1 = true := okG_ok _ _ (by decide +kernel)
noncomputable def bk_L_law_58 : Nat × List pm_Op × Nat := (2306, [(.aload_n 1, 1, 1, 0, 0), (.aload_n 0, 1, 0, 0, 0), (.iload_n 3, 1, 3, 0, 0), (.iconst 1, 1, 0, 0, 1), (.iadd, 1, 0, 0, 0), (.iaload, 1, 0, 0, 0), (.aload_n 0, 1, 0, 0, 0), (.iload_n 3, 1, 3, 0, 0), (.iconst 2, 1, 0, 0, 2), (.iadd, 1, 0, 0, 0), (.iaload, 1, 0, 0, 0), (.aload_n 0, 1, 0, 0, 0), (.iload_n 3, 1, 3, 0, 0), (.iconst 3, 1, 0, 0, 3), (.iadd, 1, 0, 0, 0), (.iaload, 1, 0, 0, 0), (.invokevirtual 243, 3, 150, 3, 10), (.pop, 1, 0, 0, 0), (.aload_n 2, 1, 2, 0, 0), (.aload_n 0, 1, 0, 0, 0), (.iload_n 3, 1, 3, 0, 0), (.iconst 1, 1, 0, 0, 1), (.iadd, 1, 0, 0, 0), (.iaload, 1, 0, 0, 0), (.aload_n 0, 1, 0, 0, 0), (.iload_n 3, 1, 3, 0, 0), (.iconst 2, 1, 0, 0, 2), (.iadd, 1, 0, 0, 0), (.iaload, 1, 0, 0, 0), (.aload_n 0, 1, 0, 0, 0), (.iload_n 3, 1, 3, 0, 0), (.iconst 3, 1, 0, 0, 3), (.iadd, 1, 0, 0, 0), (.iaload, 1, 0, 0, 0), (.invokevirtual 246, 3, 231, 3, 11), (.pop, 1, 0, 0, 0), (.goto 217, 3, 2563, 0, 0)], 2349)
set_option maxRecDepth 100000 in
theorem ok_L_law_58 : pm_ok 12 4 false (some .boolean) cL_law bk_L_law_58.2.2 bk_L_law_58.1 bk_L_law_58.2.1 = true := okG_ok _ _ (by decide +kernel)
noncomputable def bk_L_law_59 : Nat × List pm_Op × Nat := (2349, [(.aload_n 1, 1, 1, 0, 0), (.aload_n 0, 1, 0, 0, 0), (.iload_n 3, 1, 3, 0, 0), (.iconst 1, 1, 0, 0, 1), (.iadd, 1, 0, 0, 0), (.iaload, 1, 0, 0, 0), (.invokevirtual 247, 3, 151, 1, 10), (.pop, 1, 0, 0, 0), (.aload_n 2, 1, 2, 0, 0), (.aload_n 0, 1, 0, 0, 0), (.iload_n 3, 1, 3, 0, 0), (.iconst 1, 1, 0, 0, 1), (.iadd, 1, 0, 0, 0), (.iaload, 1, 0, 0, 0), (.invokevirtual 250, 3, 233, 1, 11), (.pop, 1, 0, 0, 0), (.goto 194, 3, 2563, 0, 0)], 2372)
set_option maxRecDepth 100000 in
theorem ok_L_law_59 : pm_ok 12 4 false (some .boolean) cL_law bk_L_law_59.2.2 bk_L_law_59.1 bk_L_law_59.2.1 = true := okG_ok _ _ (by decide +kernel)
end
section
noncomputable def bk_L_law_60 : Nat × List pm_Op × Nat := (2372, [(.aload_n 1, 1, 1, 0, 0), (.aload_n 0, 1, 0, 0, 0), (.iload_n 3, 1, 3, 0, 0), (.iconst 1, 1, 0, 0, 1), (.iadd, 1, 0, 0, 0), (.iaload, 1, 0, 0, 0), (.invokevirtual 251, 3, 152, 1, 10), (.pop, 1, 0, 0, 0), (.aload_n 2, 1, 2, 0, 0), (.aload_n 0, 1, 0, 0, 0), (.iload_n 3, 1, 3, 0, 0), (.iconst 1, 1, 0, 0, 1), (.iadd, 1, 0, 0, 0), (.iaload, 1, 0, 0, 0), (.invokevirtual 254, 3, 234, 1, 11), (.pop, 1, 0, 0, 0), (.goto 171, 3, 2563, 0, 0)], 2395)
set_option maxRecDepth 100000 in
theorem ok_L_law_60 : pm_ok 12 4 false (some .boolean) cL_law bk_L_law_60.2.2 bk_L_law_60.1 bk_L_law_60.2.1 = true := okG_ok _ _ (by decide +kernel)
noncomputable def bk_L_law_61 : Nat × List pm_Op × Nat := (2395, [(.aload_n 1, 1, 1, 0, 0), (.aload_n 0, 1, 0, 0, 0), (.iload_n 3, 1, 3, 0, 0), (.iconst 1, 1, 0, 0, 1), (.iadd, 1, 0, 0, 0), (.iaload, 1, 0, 0, 0), (.aload_n 0, 1, 0, 0, 0), (.iload_n 3, 1, 3, 0, 0), (.iconst 2, 1, 0, 0, 2), (.iadd, 1, 0, 0, 0), (.iaload, 1, 0, 0, 0), (.invokevirtual 255, 3, 155, 2, 10), (.pop, 1, 0, 0, 0), (.aload_n 2, 1, 2, 0, 0), (.aload_n 0, 1, 0, 0, 0), (.iload_n 3, 1, 3, 0, 0), (.iconst 1, 1, 0, 0, 1), (.iadd, 1, 0, 0, 0), (.iaload, 1, 0, 0, 0), (.aload_n 0, 1, 0, 0, 0), (.iload_n 3, 1, 3, 0, 0), (.iconst 2, 1, 0, 0, 2), (.iadd, 1, 0, 0, 0), (.iaload, 1, 0, 0, 0), (.invokevirtual 258, 3, 237, 2, 11), (.pop, 1, 0, 0, 0), (.goto 138, 3, 2563, 0, 0)], 2428)
set_option maxRecDepth 100000 in
theorem ok_L_law_61 : pm_ok 12 4 false (some .boolean) cL_law bk_L_law_61.2.2 bk_L_law_61.1 bk_L_law_61.2.1 = true := okG_ok _ _ (by decide +kernel)
noncomputable def bk_L_law_62 : Nat × List pm_Op × Nat := (2428, [(.aload_n 1, 1, 1, 0, 0), (.aload_n 0, 1, 0, 0, 0), (.iload_n 3, 1, 3, 0, 0), (.iconst 1, 1, 0, 0, 1), (.iadd, 1, 0, 0, 0), (.iaload, 1, 0, 0, 0), (.aload_n 0, 1, 0, 0, 0), (.iload_n 3, 1, 3, 0, 0), (.iconst 2, 1, 0, 0, 2), (.iadd, 1, 0, 0, 0), (.iaload, 1, 0, 0, 0), (.invokevirtual 259, 3, 158, 2, 10), (.pop, 1, 0, 0, 0), (.aload_n 2, 1, 2, 0, 0), (.aload_n 0, 1, 0, 0, 0), (.iload_n 3, 1, 3, 0, 0), (.iconst 1, 1, 0, 0, 1), (.iadd, 1, 0, 0, 0), (.iaload, 1, 0, 0, 0), (.aload_n 0, 1, 0, 0, 0), (.iload_n 3, 1, 3, 0, 0), (.iconst 2, 1, 0, 0, 2), (.iadd, 1, 0, 0, 0), (.iaload, 1, 0, 0, 0), (.invokevirtual 262, 3, 275, 2, 11), (.pop, 1, 0, 0, 0), (.goto 105, 3, 2563, 0, 0)], 2461)
set_option maxRecDepth 100000 in
theorem ok_L_law_62 : pm_ok 12 4 false (some .boolean) cL_law bk_L_law_62.2.2 bk_L_law_62.1 bk_L_law_62.2.1 = true := okG_ok _ _ (by decide +kernel)
noncomputable def bk_L_law_63 : Nat × List pm_Op × Nat := (2461, [(.aload_n 1, 1, 1, 0, 0), (.aload_n 0, 1, 0, 0, 0), (.iload_n 3, 1, 3, 0, 0), (.iconst 1, 1, 0, 0, 1), (.iadd, 1, 0, 0, 0), (.iaload, 1, 0, 0, 0), (.aload_n 0, 1, 0, 0, 0), (.iload_n 3, 1, 3, 0, 0), (.iconst 2, 1, 0, 0, 2), (.iadd, 1, 0, 0, 0), (.iaload, 1, 0, 0, 0), (.aload_n 0, 1, 0, 0, 0), (.iload_n 3, 1, 3, 0, 0), (.iconst 3, 1, 0, 0, 3), (.iadd, 1, 0, 0, 0), (.iaload, 1, 0, 0, 0), (.invokevirtual 263, 3, 160, 3, 10), (.pop, 1, 0, 0, 0), (.aload_n 2, 1, 2, 0, 0), (.aload_n 0, 1, 0, 0, 0), (.iload_n 3, 1, 3, 0, 0), (.iconst 1, 1, 0, 0, 1), (.iadd, 1, 0, 0, 0), (.iaload, 1, 0, 0, 0), (.aload_n 0, 1, 0, 0, 0), (.iload_n 3, 1, 3, 0, 0), (.iconst 2, 1, 0, 0, 2), (.iadd, 1, 0, 0, 0), (.iaload, 1, 0, 0, 0), (.aload_n 0, 1, 0, 0, 0), (.iload_n 3, 1, 3, 0, 0), (.iconst 3, 1, 0, 0, 3), (.iadd, 1, 0, 0, 0), (.iaload, 1, 0, 0, 0), (.invokevirtual 266, 3, 277, 3, 11), (.pop, 1, 0, 0, 0), (.goto 62, 3, 2563, 0, 0)], 2504)
set_option maxRecDepth 100000 in
theorem ok_L_law_63 : pm_ok 12 4 false (some .boolean) cL_law bk_L_law_63.2.2 bk_L_law_63.1 bk_L_law_63.2.1 = true := okG_ok _ _ (by decide +kernel)
noncomputable def bk_L_law_64 : Nat × List pm_Op × Nat := (2504, [(.aload_n 1, 1, 1, 0, 0), (.invokevirtual 267, 3, 161, 0, 10), (.pop, 1, 0, 0, 0), (.aload_n 2, 1, 2, 0, 0), (.invokevirtual 271, 3, 278, 0, 11), (.pop, 1, 0, 0, 0), (.goto 49, 3, 2563, 0, 0)], 2517)
set_option maxRecDepth 100000 in
theorem ok_L_law_64 : pm_ok 12 4 false (some .boolean) cL_law bk_L_law_64.2.2 bk_L_law_64.1 bk_L_law_64.2.1 = true := okG_ok _ _ (by decide +kernel)
noncomputable def bk_L_law_65 : Nat × List pm_Op × Nat := (2517, [(.aload_n 1, 1, 1, 0, 0), (.aload_n 0, 1, 0, 0, 0), (.iload_n 3, 1, 3, 0, 0), (.iconst 1, 1, 0, 0, 1), (.iadd, 1, 0, 0, 0), (.iaload, 1, 0, 0, 0), (.aload_n 0, 1, 0, 0, 0), (.iload_n 3, 1, 3, 0, 0), (.iconst 2, 1, 0, 0, 2), (.iadd, 1, 0, 0, 0), (.iaload, 1, 0, 0, 0), (.invokevirtual 272, 3, 163, 2, 10), (.pop, 1, 0, 0, 0), (.aload_n 2, 1, 2, 0, 0), (.aload_n 0, 1, 0, 0, 0), (.iload_n 3, 1, 3, 0, 0), (.iconst 1, 1, 0, 0, 1), (.iadd, 1, 0, 0, 0), (.iaload, 1, 0, 0, 0), (.aload_n 0, 1, 0, 0, 0), (.iload_n 3, 1, 3, 0, 0), (.iconst 2, 1, 0, 0, 2), (.iadd, 1, 0, 0, 0), (.iaload, 1, 0, 0, 0), (.invokevirtual 275, 3, 281, 2, 11), (.pop, 1, 0, 0, 0), (.goto 16, 3, 2563, 0, 0)], 2550)
set_option maxRecDepth 100000 in
theorem ok_L_law_65 : pm_ok 12 4 false (some .boolean) cL_law bk_L_law_65.2.2 bk_L_law_65.1 bk_L_law_65.2.1 = true := okG_ok _ _ (by decide +kernel)
noncomputable def bk_L_law_66 : Nat × List pm_Op × Nat := (2550, [(.aload_n 1, 1, 1, 0, 0), (.invokevirtual 276, 3, 165, 0, 10), (.pop, 1, 0, 0, 0), (.aload_n 2, 1, 2, 0, 0), (.invokevirtual 279, 3, 282, 0, 11), (.pop, 1, 0, 0, 0), (.goto 3, 3, 2563, 0, 0)], 2563)
set_option maxRecDepth 100000 in
theorem ok_L_law_66 : pm_ok 12 4 false (some .boolean) cL_law bk_L_law_66.2.2 bk_L_law_66.1 bk_L_law_66.2.1 = true := okG_ok _ _ (by decide +kernel)
noncomputable def bk_L_law_67 : Nat × List pm_Op × Nat := (2563, [(.iinc 3 6, 3, 3, 0, 6), (.goto (-2548), 3, 18, 0, 0)], 2569)
set_option maxRecDepth 100000 in
theorem ok_L_law_67 : pm_ok 12 4 false (some .boolean) cL_law bk_L_law_67.2.2 bk_L_law_67.1 bk_L_law_67.2.1 = true := okG_ok _ _ (by decide +kernel)
noncomputable def bk_L_law_68 : Nat × List pm_Op × Nat := (2569, [(.iconst 1, 1, 0, 0, 1), (.ireturn, 1, 1, 0, 0)], 2571)
set_option maxRecDepth 100000 in
theorem ok_L_law_68 : pm_ok 12 4 false (some .boolean) cL_law bk_L_law_68.2.2 bk_L_law_68.1 bk_L_law_68.2.1 = true := okG_ok _ _ (by decide +kernel)
end
section
noncomputable def bk_L_law : pm_B := [bk_L_law_0, bk_L_law_1, bk_L_law_2, bk_L_law_3, bk_L_law_4, bk_L_law_5, bk_L_law_6, bk_L_law_7, bk_L_law_8, bk_L_law_9, bk_L_law_10, bk_L_law_11, bk_L_law_12, bk_L_law_13, bk_L_law_14, bk_L_law_15, bk_L_law_16, bk_L_law_17, bk_L_law_18, bk_L_law_19, bk_L_law_20, bk_L_law_21, bk_L_law_22, bk_L_law_23, bk_L_law_24, bk_L_law_25, bk_L_law_26, bk_L_law_27, bk_L_law_28, bk_L_law_29, bk_L_law_30, bk_L_law_31, bk_L_law_32, bk_L_law_33, bk_L_law_34, bk_L_law_35, bk_L_law_36, bk_L_law_37, bk_L_law_38, bk_L_law_39, bk_L_law_40, bk_L_law_41, bk_L_law_42, bk_L_law_43, bk_L_law_44, bk_L_law_45, bk_L_law_46, bk_L_law_47, bk_L_law_48, bk_L_law_49, bk_L_law_50, bk_L_law_51, bk_L_law_52, bk_L_law_53, bk_L_law_54, bk_L_law_55, bk_L_law_56, bk_L_law_57, bk_L_law_58, bk_L_law_59, bk_L_law_60, bk_L_law_61, bk_L_law_62, bk_L_law_63, bk_L_law_64, bk_L_law_65, bk_L_law_66, bk_L_law_67, bk_L_law_68]
theorem ok_L_law : pm_oks 12 false 4 (some .boolean) cL_law bk_L_law = true := List.all_eq_true.mpr (List.forall_mem_cons.mpr ⟨ok_L_law_0, List.forall_mem_cons.mpr ⟨ok_L_law_1, List.forall_mem_cons.mpr ⟨ok_L_law_2, List.forall_mem_cons.mpr ⟨ok_L_law_3, List.forall_mem_cons.mpr ⟨ok_L_law_4, List.forall_mem_cons.mpr ⟨ok_L_law_5, List.forall_mem_cons.mpr ⟨ok_L_law_6, List.forall_mem_cons.mpr ⟨ok_L_law_7, List.forall_mem_cons.mpr ⟨ok_L_law_8, List.forall_mem_cons.mpr ⟨ok_L_law_9, List.forall_mem_cons.mpr ⟨ok_L_law_10, List.forall_mem_cons.mpr ⟨ok_L_law_11, List.forall_mem_cons.mpr ⟨ok_L_law_12, List.forall_mem_cons.mpr ⟨ok_L_law_13, List.forall_mem_cons.mpr ⟨ok_L_law_14, List.forall_mem_cons.mpr ⟨ok_L_law_15, List.forall_mem_cons.mpr ⟨ok_L_law_16, List.forall_mem_cons.mpr ⟨ok_L_law_17, List.forall_mem_cons.mpr ⟨ok_L_law_18, List.forall_mem_cons.mpr ⟨ok_L_law_19, List.forall_mem_cons.mpr ⟨ok_L_law_20, List.forall_mem_cons.mpr ⟨ok_L_law_21, List.forall_mem_cons.mpr ⟨ok_L_law_22, List.forall_mem_cons.mpr ⟨ok_L_law_23, List.forall_mem_cons.mpr ⟨ok_L_law_24, List.forall_mem_cons.mpr ⟨ok_L_law_25, List.forall_mem_cons.mpr ⟨ok_L_law_26, List.forall_mem_cons.mpr ⟨ok_L_law_27, List.forall_mem_cons.mpr ⟨ok_L_law_28, List.forall_mem_cons.mpr ⟨ok_L_law_29, List.forall_mem_cons.mpr ⟨ok_L_law_30, List.forall_mem_cons.mpr ⟨ok_L_law_31, List.forall_mem_cons.mpr ⟨ok_L_law_32, List.forall_mem_cons.mpr ⟨ok_L_law_33, List.forall_mem_cons.mpr ⟨ok_L_law_34, List.forall_mem_cons.mpr ⟨ok_L_law_35, List.forall_mem_cons.mpr ⟨ok_L_law_36, List.forall_mem_cons.mpr ⟨ok_L_law_37, List.forall_mem_cons.mpr ⟨ok_L_law_38, List.forall_mem_cons.mpr ⟨ok_L_law_39, List.forall_mem_cons.mpr ⟨ok_L_law_40, List.forall_mem_cons.mpr ⟨ok_L_law_41, List.forall_mem_cons.mpr ⟨ok_L_law_42, List.forall_mem_cons.mpr ⟨ok_L_law_43, List.forall_mem_cons.mpr ⟨ok_L_law_44, List.forall_mem_cons.mpr ⟨ok_L_law_45, List.forall_mem_cons.mpr ⟨ok_L_law_46, List.forall_mem_cons.mpr ⟨ok_L_law_47, List.forall_mem_cons.mpr ⟨ok_L_law_48, List.forall_mem_cons.mpr ⟨ok_L_law_49, List.forall_mem_cons.mpr ⟨ok_L_law_50, List.forall_mem_cons.mpr ⟨ok_L_law_51, List.forall_mem_cons.mpr ⟨ok_L_law_52, List.forall_mem_cons.mpr ⟨ok_L_law_53, List.forall_mem_cons.mpr ⟨ok_L_law_54, List.forall_mem_cons.mpr ⟨ok_L_law_55, List.forall_mem_cons.mpr ⟨ok_L_law_56, List.forall_mem_cons.mpr ⟨ok_L_law_57, List.forall_mem_cons.mpr ⟨ok_L_law_58, List.forall_mem_cons.mpr ⟨ok_L_law_59, List.forall_mem_cons.mpr ⟨ok_L_law_60, List.forall_mem_cons.mpr ⟨ok_L_law_61, List.forall_mem_cons.mpr ⟨ok_L_law_62, List.forall_mem_cons.mpr ⟨ok_L_law_63, List.forall_mem_cons.mpr ⟨ok_L_law_64, List.forall_mem_cons.mpr ⟨ok_L_law_65, List.forall_mem_cons.mpr ⟨ok_L_law_66, List.forall_mem_cons.mpr ⟨ok_L_law_67, List.forall_mem_cons.mpr ⟨ok_L_law_68, fun _ h => absurd h List.not_mem_nil⟩⟩⟩⟩⟩⟩⟩⟩⟩⟩⟩⟩⟩⟩⟩⟩⟩⟩⟩⟩⟩⟩⟩⟩⟩⟩⟩⟩⟩⟩⟩⟩⟩⟩⟩⟩⟩⟩⟩⟩⟩⟩⟩⟩⟩⟩⟩⟩⟩⟩⟩⟩⟩⟩⟩⟩⟩⟩⟩⟩⟩⟩⟩⟩⟩⟩⟩⟩⟩)
end
section
/-! cells one by one, newest first -/
noncomputable def al (A : pm_H) : List (Nat × va_E) → pm_H
  | [] => A
  | p :: r => pm_up (al A r) p.1 p.2
theorem al_none {A : pm_H} {b : Nat} : ∀ {L : List (Nat × va_E)}, al A L b = none → (∀ p ∈ L, b ≠ p.1) ∧ A b = none
  | [], h => ⟨fun _ h => absurd h List.not_mem_nil, h⟩
  | p :: r, h => by
    have h1 : pm_up (al A r) p.1 p.2 b = none := h
    by_cases hb : b = p.1
    · rw [hb, pm_up_s] at h1; cases h1
    · rw [pm_up_n hb] at h1
      obtain ⟨h2, h3⟩ := al_none h1
      exact ⟨List.forall_mem_cons.mpr ⟨hb, h2⟩, h3⟩
theorem al_nd {A : pm_H} {b : Nat} {e : va_E} {L : List (Nat × va_E)} (nd : (L.map Prod.fst).Nodup) (h : al A L b = none) : (((b, e) :: L).map Prod.fst).Nodup := by
  rw [List.map_cons, List.nodup_cons]
  refine ⟨fun hm => ?_, nd⟩
  obtain ⟨p, hp, he⟩ := List.mem_map.mp hm
  exact (al_none h).1 p hp he.symm
theorem al_out {A : pm_H} {x : Nat} : ∀ {L : List (Nat × va_E)}, (∀ p ∈ L, x ≠ p.1) → al A L x = A x
  | [], _ => rfl
  | p :: r, h => by
    show pm_up (al A r) p.1 p.2 x = A x
    rw [pm_up_n (h p List.mem_cons_self), al_out (fun q hq => h q (List.mem_cons_of_mem _ hq))]
theorem al_get {A : pm_H} {a : Nat} {e : va_E} : ∀ {L : List (Nat × va_E)} {k : Nat}, (L.map Prod.fst).Nodup → L[k]? = some (a, e) → al A L a = some e
  | [], k, _, h => by simp at h
  | p :: r, 0, _, h => by
    simp only [List.getElem?_cons_zero, Option.some.injEq] at h
    subst h
    exact pm_up_s
  | p :: r, k + 1, nd, h => by
    rw [List.getElem?_cons_succ] at h
    rw [List.map_cons, List.nodup_cons] at nd
    have hn : a ≠ p.1 := fun q => nd.1 (by rw [← q]; exact List.mem_map.mpr ⟨(a, e), List.mem_of_getElem? h, rfl⟩)
    show pm_up (al A r) p.1 p.2 a = some e
    rw [pm_up_n hn]
    exact al_get nd.2 h
theorem pm_up_c {A : pm_H} {a b : Nat} {e e' : va_E} (h : a ≠ b) : pm_up (pm_up A a e) b e' = pm_up (pm_up A b e') a e := by
  funext q
  by_cases h1 : q = a
  · subst h1
    rw [pm_up_n h, pm_up_s, pm_up_s]
  · by_cases h2 : q = b
    · subst h2
      rw [pm_up_s, pm_up_n h1, pm_up_s]
    · rw [pm_up_n h2, pm_up_n h1, pm_up_n h1, pm_up_n h2]
theorem al_set0 {A : pm_H} {a : Nat} {e e0 : va_E} : ∀ {L : List (Nat × va_E)} {k : Nat}, (L.map Prod.fst).Nodup → L[k]? = some (a, e0) → pm_up (al A L) a e = al A (L.set k (a, e))
  | [], k, _, h => by simp at h
  | p :: r, 0, _, h => by
    simp only [List.getElem?_cons_zero, Option.some.injEq] at h
    subst h
    show pm_up (pm_up (al A r) a e0) a e = pm_up (al A r) a e
    exact pm_up_up
  | p :: r, k + 1, nd, h => by
    rw [List.getElem?_cons_succ] at h
    rw [List.map_cons, List.nodup_cons] at nd
    have hn : p.1 ≠ a := fun q => nd.1 (by rw [q]; exact List.mem_map.mpr ⟨(a, e0), List.mem_of_getElem? h, rfl⟩)
    show pm_up (pm_up (al A r) p.1 p.2) a e = pm_up (al A (r.set k (a, e))) p.1 p.2
    rw [pm_up_c hn, al_set0 nd.2 h]
theorem al_set {A : pm_H} {a : Nat} {e e0 : va_E} {L L' : List (Nat × va_E)} {k : Nat} (nd : (L.map Prod.fst).Nodup) (h : L[k]? = some (a, e0)) (h' : L.set k (a, e) = L') : pm_up (al A L) a e = al A L' := by rw [← h']; exact al_set0 nd h
theorem al_upm {g : pm_G} {A : pm_H} {L : List (Nat × va_E)} {a : Nat} {r : Nat → Nat} (h3 : ∀ j, j < 9 → r j ≠ a) (h4 : ∀ x y, x < 9 → y < 9 → r x = r y → x = y) : pm_upm g (al A L) a r 9 161 = al A ((r 8, pm_ia g 161 (fun _ => 0)) :: (r 7, pm_ia g 161 (fun _ => 0)) :: (r 6, pm_ia g 161 (fun _ => 0)) :: (r 5, pm_ia g 161 (fun _ => 0)) :: (r 4, pm_ia g 161 (fun _ => 0)) :: (r 3, pm_ia g 161 (fun _ => 0)) :: (r 2, pm_ia g 161 (fun _ => 0)) :: (r 1, pm_ia g 161 (fun _ => 0)) :: (r 0, pm_ia g 161 (fun _ => 0)) :: (a, pm_ma g 9 (fun j => if j < 9 then some (r j) else none)) :: L) := by
  funext q
  show pm_upm g (al A L) a r 9 161 q = pm_up (pm_up (pm_up (pm_up (pm_up (pm_up (pm_up (pm_up (pm_up (pm_up (al A L) a _) (r 0) _) (r 1) _) (r 2) _) (r 3) _) (r 4) _) (r 5) _) (r 6) _) (r 7) _) (r 8) _ q
  unfold pm_upm
  by_cases ha : q = a
  · rw [if_pos ha]
    subst ha
    rw [pm_up_n (h3 8 (by decide)).symm, pm_up_n (h3 7 (by decide)).symm, pm_up_n (h3 6 (by decide)).symm, pm_up_n (h3 5 (by decide)).symm, pm_up_n (h3 4 (by decide)).symm, pm_up_n (h3 3 (by decide)).symm, pm_up_n (h3 2 (by decide)).symm, pm_up_n (h3 1 (by decide)).symm, pm_up_n (h3 0 (by decide)).symm, pm_up_s]
  · rw [if_neg ha]
    by_cases hj : ∃ j, j < 9 ∧ q = r j
    · rw [if_pos hj]
      obtain ⟨j, hj9, rfl⟩ := hj
      unfold pm_up
      by_cases e8 : r j = r 8
      · rw [if_pos e8]
      · rw [if_neg e8]
        by_cases e7 : r j = r 7
        · rw [if_pos e7]
        · rw [if_neg e7]
          by_cases e6 : r j = r 6
          · rw [if_pos e6]
          · rw [if_neg e6]
            by_cases e5 : r j = r 5
            · rw [if_pos e5]
            · rw [if_neg e5]
              by_cases e4 : r j = r 4
              · rw [if_pos e4]
              · rw [if_neg e4]
                by_cases e3 : r j = r 3
                · rw [if_pos e3]
                · rw [if_neg e3]
                  by_cases e2 : r j = r 2
                  · rw [if_pos e2]
                  · rw [if_neg e2]
                    by_cases e1 : r j = r 1
                    · rw [if_pos e1]
                    · rw [if_neg e1]
                      by_cases e0 : r j = r 0
                      · rw [if_pos e0]
                      · exfalso
                        rcases (show j = 0 ∨ j = 1 ∨ j = 2 ∨ j = 3 ∨ j = 4 ∨ j = 5 ∨ j = 6 ∨ j = 7 ∨ j = 8 by omega) with rfl | rfl | rfl | rfl | rfl | rfl | rfl | rfl | rfl
                        · exact e0 rfl
                        · exact e1 rfl
                        · exact e2 rfl
                        · exact e3 rfl
                        · exact e4 rfl
                        · exact e5 rfl
                        · exact e6 rfl
                        · exact e7 rfl
                        · exact e8 rfl
    · rw [if_neg hj]
      have hq : ∀ j, j < 9 → q ≠ r j := fun j h9 e9 => hj ⟨j, h9, e9⟩
      rw [pm_up_n (hq 8 (by decide)), pm_up_n (hq 7 (by decide)), pm_up_n (hq 6 (by decide)), pm_up_n (hq 5 (by decide)), pm_up_n (hq 4 (by decide)), pm_up_n (hq 3 (by decide)), pm_up_n (hq 2 (by decide)), pm_up_n (hq 1 (by decide)), pm_up_n (hq 0 (by decide)), pm_up_n ha]
theorem al_nd9 {A : pm_H} {L : List (Nat × va_E)} {a : Nat} {r : Nat → Nat} {ea e : va_E} (nd : (L.map Prod.fst).Nodup) (h1 : al A L a = none) (h2 : ∀ j, j < 9 → al A L (r j) = none) (h3 : ∀ j, j < 9 → r j ≠ a) (h4 : ∀ x y, x < 9 → y < 9 → r x = r y → x = y) : (((r 8, e) :: (r 7, e) :: (r 6, e) :: (r 5, e) :: (r 4, e) :: (r 3, e) :: (r 2, e) :: (r 1, e) :: (r 0, e) :: (a, ea) :: L).map Prod.fst).Nodup := by
  have key : ∀ n, n ≤ 9 → ∀ M : List (Nat × va_E), (∀ p ∈ M, (p.1 = a ∨ (∃ k, k < n ∧ p.1 = r k)) ∨ p ∈ L) → (M.map Prod.fst).Nodup → n < 9 → (((r n, e) :: M).map Prod.fst).Nodup := by
    intro n _ M hM ndM hn
    rw [List.map_cons, List.nodup_cons]
    refine ⟨fun hm => ?_, ndM⟩
    obtain ⟨p, hp, he⟩ := List.mem_map.mp hm
    rcases hM p hp with (ha | ⟨k, hk, hr⟩) | hl
    · exact h3 n hn (by rw [← ha]; exact he.symm)
    · have := h4 n k hn (by omega) (by rw [← hr]; exact he.symm)
      omega
    · exact (al_none (h2 n hn)).1 p hl he.symm
  have b0 : (((a, ea) :: L).map Prod.fst).Nodup := al_nd nd h1
  have m0 : ∀ p ∈ (a, ea) :: L, (p.1 = a ∨ (∃ k, k < 0 ∧ p.1 = r k)) ∨ p ∈ L := fun p hp => by
    rcases List.mem_cons.mp hp with h | h
    · rw [h]; exact Or.inl (Or.inl rfl)
    · exact Or.inr h
  have st : ∀ n (M : List (Nat × va_E)), (∀ p ∈ M, (p.1 = a ∨ (∃ k, k < n ∧ p.1 = r k)) ∨ p ∈ L) → ∀ p ∈ (r n, e) :: M, (p.1 = a ∨ (∃ k, k < n + 1 ∧ p.1 = r k)) ∨ p ∈ L := fun n M hM p hp => by
    rcases List.mem_cons.mp hp with h | h
    · rw [h]; exact Or.inl (Or.inr ⟨n, by omega, rfl⟩)
    · rcases hM p h with (h5 | ⟨k, h5, h6⟩) | h5
      · exact Or.inl (Or.inl h5)
      · exact Or.inl (Or.inr ⟨k, by omega, h6⟩)
      · exact Or.inr h5
  have b1 := key 0 (by omega) _ m0 b0 (by omega)
  have m1 := st 0 _ m0
  have b2 := key 1 (by omega) _ m1 b1 (by omega)
  have m2 := st 1 _ m1
  have b3 := key 2 (by omega) _ m2 b2 (by omega)
  have m3 := st 2 _ m2
  have b4 := key 3 (by omega) _ m3 b3 (by omega)
  have m4 := st 3 _ m3
  have b5 := key 4 (by omega) _ m4 b4 (by omega)
  have m5 := st 4 _ m4
  have b6 := key 5 (by omega) _ m5 b5 (by omega)
  have m6 := st 5 _ m5
  have b7 := key 6 (by omega) _ m6 b6 (by omega)
  have m7 := st 6 _ m6
  have b8 := key 7 (by omega) _ m7 b7 (by omega)
  have m8 := st 7 _ m7
  exact key 8 (by omega) _ m8 b8 (by omega)
end
section
section
variable {l : Launch} {g : pm_G}
set_option maxRecDepth 100000 in
set_option maxHeartbeats 2000000 in
theorem ci_X7_init {A : pm_H} {ws : List (Nat × va_E)} {a : Nat} (nd : (List.map Prod.fst ((a, pm_ob 7 (pm_df 7)) :: ws)).Nodup) : pm_Mt l g 2 1 3 480 [.ref a] (al A ((a, pm_ob 7 (pm_df 7)) :: ws)) (fun r A9 => r = none ∧ ∃ (a1 : Nat) (a4 : Nat) (a7 : Nat), A9 = al A ((a7, pm_ia g 160 (fun _ => 0)) :: (a4, pm_ia g 160 (fun _ => 0)) :: (a1, pm_ia g 160 (fun _ => 0)) :: (a, pm_ob 7 [.ref a1, .ref a4, .ref a7, .int 0, .int 0]) :: ws) ∧ (List.map Prod.fst ((a7, pm_ia g 160 (fun _ => 0)) :: (a4, pm_ia g 160 (fun _ => 0)) :: (a1, pm_ia g 160 (fun _ => 0)) :: (a, pm_ob 7 [.ref a1, .ref a4, .ref a7, .int 0, .int 0]) :: ws)).Nodup ∧ A a1 = none ∧ A a4 = none ∧ A a7 = none) := by
  refine mt_X7_init rfl (fun J hC => ?_)
  refine hC.1 0 0 _ _ rfl _ _ _ _ _ ?_
  refine And.intro rfl ?_
  refine And.intro rfl (And.intro rfl (fun a1 h1 => ?_))
  have g2 := al_none h1
  have nd2 : (List.map Prod.fst ((a1, pm_ia g 160 (fun _ => 0)) :: ((a, pm_ob 7 (pm_df 7)) :: ws))).Nodup := al_nd nd h1
  rw [show pm_up (al A ((a, pm_ob 7 (pm_df 7)) :: ws)) a1 (pm_ia g 160 (fun _ => 0)) = al A ((a1, pm_ia g 160 (fun _ => 0)) :: ((a, pm_ob 7 (pm_df 7)) :: ws)) from rfl]
  refine Exists.intro _ (And.intro (al_get (k := 1) nd2 rfl) (And.intro rfl ?_))
  rw [show pm_up (al A ((a1, pm_ia g 160 (fun _ => 0)) :: (a, pm_ob 7 (pm_df 7)) :: ws)) a (pm_ob 7 ((pm_df 7).set 0 (.ref a1))) = al A ((a1, pm_ia g 160 (fun _ => 0)) :: (a, pm_ob 7 [.ref a1, .null, .null, .int 0, .int 0]) :: ws) from al_set (k := 1) nd2 rfl rfl]
  have nd3 : (List.map Prod.fst ((a1, pm_ia g 160 (fun _ => 0)) :: (a, pm_ob 7 [.ref a1, .null, .null, .int 0, .int 0]) :: ws)).Nodup := nd2
  refine And.intro rfl (And.intro rfl (fun a4 h4 => ?_))
  have g5 := al_none h4
  have nd5 : (List.map Prod.fst ((a4, pm_ia g 160 (fun _ => 0)) :: ((a1, pm_ia g 160 (fun _ => 0)) :: (a, pm_ob 7 [.ref a1, .null, .null, .int 0, .int 0]) :: ws))).Nodup := al_nd nd3 h4
  rw [show pm_up (al A ((a1, pm_ia g 160 (fun _ => 0)) :: (a, pm_ob 7 [.ref a1, .null, .null, .int 0, .int 0]) :: ws)) a4 (pm_ia g 160 (fun _ => 0)) = al A ((a4, pm_ia g 160 (fun _ => 0)) :: ((a1, pm_ia g 160 (fun _ => 0)) :: (a, pm_ob 7 [.ref a1, .null, .null, .int 0, .int 0]) :: ws)) from rfl]
  refine Exists.intro _ (And.intro (al_get (k := 2) nd5 rfl) (And.intro rfl ?_))
  rw [show pm_up (al A ((a4, pm_ia g 160 (fun _ => 0)) :: (a1, pm_ia g 160 (fun _ => 0)) :: (a, pm_ob 7 [.ref a1, .null, .null, .int 0, .int 0]) :: ws)) a (pm_ob 7 (([.ref a1, .null, .null, .int 0, .int 0] : List Value).set 1 (.ref a4))) = al A ((a4, pm_ia g 160 (fun _ => 0)) :: (a1, pm_ia g 160 (fun _ => 0)) :: (a, pm_ob 7 [.ref a1, .ref a4, .null, .int 0, .int 0]) :: ws) from al_set (k := 2) nd5 rfl rfl]
  have nd6 : (List.map Prod.fst ((a4, pm_ia g 160 (fun _ => 0)) :: (a1, pm_ia g 160 (fun _ => 0)) :: (a, pm_ob 7 [.ref a1, .ref a4, .null, .int 0, .int 0]) :: ws)).Nodup := nd5
  refine And.intro rfl (And.intro rfl (fun a7 h7 => ?_))
  have g8 := al_none h7
  have nd8 : (List.map Prod.fst ((a7, pm_ia g 160 (fun _ => 0)) :: ((a4, pm_ia g 160 (fun _ => 0)) :: (a1, pm_ia g 160 (fun _ => 0)) :: (a, pm_ob 7 [.ref a1, .ref a4, .null, .int 0, .int 0]) :: ws))).Nodup := al_nd nd6 h7
  rw [show pm_up (al A ((a4, pm_ia g 160 (fun _ => 0)) :: (a1, pm_ia g 160 (fun _ => 0)) :: (a, pm_ob 7 [.ref a1, .ref a4, .null, .int 0, .int 0]) :: ws)) a7 (pm_ia g 160 (fun _ => 0)) = al A ((a7, pm_ia g 160 (fun _ => 0)) :: ((a4, pm_ia g 160 (fun _ => 0)) :: (a1, pm_ia g 160 (fun _ => 0)) :: (a, pm_ob 7 [.ref a1, .ref a4, .null, .int 0, .int 0]) :: ws)) from rfl]
  refine Exists.intro _ (And.intro (al_get (k := 3) nd8 rfl) (And.intro rfl ?_))
  rw [show pm_up (al A ((a7, pm_ia g 160 (fun _ => 0)) :: (a4, pm_ia g 160 (fun _ => 0)) :: (a1, pm_ia g 160 (fun _ => 0)) :: (a, pm_ob 7 [.ref a1, .ref a4, .null, .int 0, .int 0]) :: ws)) a (pm_ob 7 (([.ref a1, .ref a4, .null, .int 0, .int 0] : List Value).set 2 (.ref a7))) = al A ((a7, pm_ia g 160 (fun _ => 0)) :: (a4, pm_ia g 160 (fun _ => 0)) :: (a1, pm_ia g 160 (fun _ => 0)) :: (a, pm_ob 7 [.ref a1, .ref a4, .ref a7, .int 0, .int 0]) :: ws) from al_set (k := 3) nd8 rfl rfl]
  have nd9 : (List.map Prod.fst ((a7, pm_ia g 160 (fun _ => 0)) :: (a4, pm_ia g 160 (fun _ => 0)) :: (a1, pm_ia g 160 (fun _ => 0)) :: (a, pm_ob 7 [.ref a1, .ref a4, .ref a7, .int 0, .int 0]) :: ws)).Nodup := nd8
  exact ⟨rfl, rfl, rfl, a1, a4, a7, rfl, nd9, g2.2, g5.2, g8.2⟩

set_option maxRecDepth 100000 in
set_option maxHeartbeats 2000000 in
theorem ci_X9_init {A : pm_H} {ws : List (Nat × va_E)} {a : Nat} (nd : (List.map Prod.fst ((a, pm_ob 9 (pm_df 9)) :: ws)).Nodup) : pm_Mt l g 1 2 7 710 [.ref a] (al A ((a, pm_ob 9 (pm_df 9)) :: ws)) (fun r A9 => r = none ∧ ∃ (a1 : Nat) (a4 : Nat) (a7 : Nat) (a10 : Nat) (a1_12 : Nat) (a4_12 : Nat) (a7_12 : Nat), A9 = al A ((a7_12, pm_ia g 160 (fun _ => 0)) :: (a4_12, pm_ia g 160 (fun _ => 0)) :: (a1_12, pm_ia g 160 (fun _ => 0)) :: (a10, pm_ob 7 [.ref a1_12, .ref a4_12, .ref a7_12, .int 0, .int 0]) :: (a7, pm_ia g 24 (fun _ => 0)) :: (a4, pm_ia g 160 (fun _ => 0)) :: (a1, pm_ra g 41 (va_up (fun _ => none) (0 : Int32).toInt.toNat (some a10))) :: (a, pm_ob 9 [.ref a1, .ref a4, .ref a7, .ref a10, .ref a10, .int 0, .int 0, .int 0]) :: ws) ∧ (List.map Prod.fst ((a7_12, pm_ia g 160 (fun _ => 0)) :: (a4_12, pm_ia g 160 (fun _ => 0)) :: (a1_12, pm_ia g 160 (fun _ => 0)) :: (a10, pm_ob 7 [.ref a1_12, .ref a4_12, .ref a7_12, .int 0, .int 0]) :: (a7, pm_ia g 24 (fun _ => 0)) :: (a4, pm_ia g 160 (fun _ => 0)) :: (a1, pm_ra g 41 (va_up (fun _ => none) (0 : Int32).toInt.toNat (some a10))) :: (a, pm_ob 9 [.ref a1, .ref a4, .ref a7, .ref a10, .ref a10, .int 0, .int 0, .int 0]) :: ws)).Nodup ∧ A a1 = none ∧ A a4 = none ∧ A a7 = none ∧ A a10 = none ∧ A a1_12 = none ∧ A a4_12 = none ∧ A a7_12 = none) := by
  refine mt_X9_init rfl (fun J hC => ?_)
  refine hC.1 0 0 _ _ rfl _ _ _ _ _ ?_
  refine And.intro rfl ?_
  refine And.intro rfl (And.intro rfl (fun a1 h1 => ?_))
  have g2 := al_none h1
  have nd2 : (List.map Prod.fst ((a1, pm_ra g 41 (fun _ => none)) :: ((a, pm_ob 9 (pm_df 9)) :: ws))).Nodup := al_nd nd h1
  rw [show pm_up (al A ((a, pm_ob 9 (pm_df 9)) :: ws)) a1 (pm_ra g 41 (fun _ => none)) = al A ((a1, pm_ra g 41 (fun _ => none)) :: ((a, pm_ob 9 (pm_df 9)) :: ws)) from rfl]
  refine Exists.intro _ (And.intro (al_get (k := 1) nd2 rfl) (And.intro rfl ?_))
  rw [show pm_up (al A ((a1, pm_ra g 41 (fun _ => none)) :: (a, pm_ob 9 (pm_df 9)) :: ws)) a (pm_ob 9 ((pm_df 9).set 0 (.ref a1))) = al A ((a1, pm_ra g 41 (fun _ => none)) :: (a, pm_ob 9 [.ref a1, .null, .null, .null, .null, .int 0, .int 0, .int 0]) :: ws) from al_set (k := 1) nd2 rfl rfl]
  have nd3 : (List.map Prod.fst ((a1, pm_ra g 41 (fun _ => none)) :: (a, pm_ob 9 [.ref a1, .null, .null, .null, .null, .int 0, .int 0, .int 0]) :: ws)).Nodup := nd2
  refine And.intro rfl (And.intro rfl (fun a4 h4 => ?_))
  have g5 := al_none h4
  have nd5 : (List.map Prod.fst ((a4, pm_ia g 160 (fun _ => 0)) :: ((a1, pm_ra g 41 (fun _ => none)) :: (a, pm_ob 9 [.ref a1, .null, .null, .null, .null, .int 0, .int 0, .int 0]) :: ws))).Nodup := al_nd nd3 h4
  rw [show pm_up (al A ((a1, pm_ra g 41 (fun _ => none)) :: (a, pm_ob 9 [.ref a1, .null, .null, .null, .null, .int 0, .int 0, .int 0]) :: ws)) a4 (pm_ia g 160 (fun _ => 0)) = al A ((a4, pm_ia g 160 (fun _ => 0)) :: ((a1, pm_ra g 41 (fun _ => none)) :: (a, pm_ob 9 [.ref a1, .null, .null, .null, .null, .int 0, .int 0, .int 0]) :: ws)) from rfl]
  refine Exists.intro _ (And.intro (al_get (k := 2) nd5 rfl) (And.intro rfl ?_))
  rw [show pm_up (al A ((a4, pm_ia g 160 (fun _ => 0)) :: (a1, pm_ra g 41 (fun _ => none)) :: (a, pm_ob 9 [.ref a1, .null, .null, .null, .null, .int 0, .int 0, .int 0]) :: ws)) a (pm_ob 9 (([.ref a1, .null, .null, .null, .null, .int 0, .int 0, .int 0] : List Value).set 1 (.ref a4))) = al A ((a4, pm_ia g 160 (fun _ => 0)) :: (a1, pm_ra g 41 (fun _ => none)) :: (a, pm_ob 9 [.ref a1, .ref a4, .null, .null, .null, .int 0, .int 0, .int 0]) :: ws) from al_set (k := 2) nd5 rfl rfl]
  have nd6 : (List.map Prod.fst ((a4, pm_ia g 160 (fun _ => 0)) :: (a1, pm_ra g 41 (fun _ => none)) :: (a, pm_ob 9 [.ref a1, .ref a4, .null, .null, .null, .int 0, .int 0, .int 0]) :: ws)).Nodup := nd5
  refine And.intro rfl (And.intro rfl (fun a7 h7 => ?_))
  have g8 := al_none h7
  have nd8 : (List.map Prod.fst ((a7, pm_ia g 24 (fun _ => 0)) :: ((a4, pm_ia g 160 (fun _ => 0)) :: (a1, pm_ra g 41 (fun _ => none)) :: (a, pm_ob 9 [.ref a1, .ref a4, .null, .null, .null, .int 0, .int 0, .int 0]) :: ws))).Nodup := al_nd nd6 h7
  rw [show pm_up (al A ((a4, pm_ia g 160 (fun _ => 0)) :: (a1, pm_ra g 41 (fun _ => none)) :: (a, pm_ob 9 [.ref a1, .ref a4, .null, .null, .null, .int 0, .int 0, .int 0]) :: ws)) a7 (pm_ia g 24 (fun _ => 0)) = al A ((a7, pm_ia g 24 (fun _ => 0)) :: ((a4, pm_ia g 160 (fun _ => 0)) :: (a1, pm_ra g 41 (fun _ => none)) :: (a, pm_ob 9 [.ref a1, .ref a4, .null, .null, .null, .int 0, .int 0, .int 0]) :: ws)) from rfl]
  refine Exists.intro _ (And.intro (al_get (k := 3) nd8 rfl) (And.intro rfl ?_))
  rw [show pm_up (al A ((a7, pm_ia g 24 (fun _ => 0)) :: (a4, pm_ia g 160 (fun _ => 0)) :: (a1, pm_ra g 41 (fun _ => none)) :: (a, pm_ob 9 [.ref a1, .ref a4, .null, .null, .null, .int 0, .int 0, .int 0]) :: ws)) a (pm_ob 9 (([.ref a1, .ref a4, .null, .null, .null, .int 0, .int 0, .int 0] : List Value).set 2 (.ref a7))) = al A ((a7, pm_ia g 24 (fun _ => 0)) :: (a4, pm_ia g 160 (fun _ => 0)) :: (a1, pm_ra g 41 (fun _ => none)) :: (a, pm_ob 9 [.ref a1, .ref a4, .ref a7, .null, .null, .int 0, .int 0, .int 0]) :: ws) from al_set (k := 3) nd8 rfl rfl]
  have nd9 : (List.map Prod.fst ((a7, pm_ia g 24 (fun _ => 0)) :: (a4, pm_ia g 160 (fun _ => 0)) :: (a1, pm_ra g 41 (fun _ => none)) :: (a, pm_ob 9 [.ref a1, .ref a4, .ref a7, .null, .null, .int 0, .int 0, .int 0]) :: ws)).Nodup := nd8
  refine And.intro rfl (fun a10 h10 => ?_)
  have g11 := al_none h10
  have nd11 : (List.map Prod.fst ((a10, pm_ob 7 (pm_df 7)) :: ((a7, pm_ia g 24 (fun _ => 0)) :: (a4, pm_ia g 160 (fun _ => 0)) :: (a1, pm_ra g 41 (fun _ => none)) :: (a, pm_ob 9 [.ref a1, .ref a4, .ref a7, .null, .null, .int 0, .int 0, .int 0]) :: ws))).Nodup := al_nd nd9 h10
  rw [show pm_up (al A ((a7, pm_ia g 24 (fun _ => 0)) :: (a4, pm_ia g 160 (fun _ => 0)) :: (a1, pm_ra g 41 (fun _ => none)) :: (a, pm_ob 9 [.ref a1, .ref a4, .ref a7, .null, .null, .int 0, .int 0, .int 0]) :: ws)) a10 (pm_ob 7 (pm_df 7)) = al A ((a10, pm_ob 7 (pm_df 7)) :: ((a7, pm_ia g 24 (fun _ => 0)) :: (a4, pm_ia g 160 (fun _ => 0)) :: (a1, pm_ra g 41 (fun _ => none)) :: (a, pm_ob 9 [.ref a1, .ref a4, .ref a7, .null, .null, .int 0, .int 0, .int 0]) :: ws)) from rfl]
  refine Exists.intro _ (Exists.intro _ (Exists.intro _ (Exists.intro _ (And.intro (ci_X7_init nd11) (And.intro rfl (fun r9 A9 h9 => ?_))))))
  obtain ⟨rfl, a1_12, a4_12, a7_12, rfl, nd12, f12_0, f12_1, f12_2⟩ := h9
  refine Exists.intro _ (And.intro (al_get (k := 7) nd12 rfl) (And.intro rfl ?_))
  rw [show pm_up (al A ((a7_12, pm_ia g 160 (fun _ => 0)) :: (a4_12, pm_ia g 160 (fun _ => 0)) :: (a1_12, pm_ia g 160 (fun _ => 0)) :: (a10, pm_ob 7 [.ref a1_12, .ref a4_12, .ref a7_12, .int 0, .int 0]) :: (a7, pm_ia g 24 (fun _ => 0)) :: (a4, pm_ia g 160 (fun _ => 0)) :: (a1, pm_ra g 41 (fun _ => none)) :: (a, pm_ob 9 [.ref a1, .ref a4, .ref a7, .null, .null, .int 0, .int 0, .int 0]) :: ws)) a (pm_ob 9 (([.ref a1, .ref a4, .ref a7, .null, .null, .int 0, .int 0, .int 0] : List Value).set 4 (.ref a10))) = al A ((a7_12, pm_ia g 160 (fun _ => 0)) :: (a4_12, pm_ia g 160 (fun _ => 0)) :: (a1_12, pm_ia g 160 (fun _ => 0)) :: (a10, pm_ob 7 [.ref a1_12, .ref a4_12, .ref a7_12, .int 0, .int 0]) :: (a7, pm_ia g 24 (fun _ => 0)) :: (a4, pm_ia g 160 (fun _ => 0)) :: (a1, pm_ra g 41 (fun _ => none)) :: (a, pm_ob 9 [.ref a1, .ref a4, .ref a7, .null, .ref a10, .int 0, .int 0, .int 0]) :: ws) from al_set (k := 7) nd12 rfl rfl]
  have nd13 : (List.map Prod.fst ((a7_12, pm_ia g 160 (fun _ => 0)) :: (a4_12, pm_ia g 160 (fun _ => 0)) :: (a1_12, pm_ia g 160 (fun _ => 0)) :: (a10, pm_ob 7 [.ref a1_12, .ref a4_12, .ref a7_12, .int 0, .int 0]) :: (a7, pm_ia g 24 (fun _ => 0)) :: (a4, pm_ia g 160 (fun _ => 0)) :: (a1, pm_ra g 41 (fun _ => none)) :: (a, pm_ob 9 [.ref a1, .ref a4, .ref a7, .null, .ref a10, .int 0, .int 0, .int 0]) :: ws)).Nodup := nd12
  refine Exists.intro _ (And.intro (al_get (k := 7) nd13 rfl) ?_)
  refine Exists.intro _ (And.intro (al_get (k := 7) nd13 rfl) (And.intro rfl ?_))
  rw [show pm_up (al A ((a7_12, pm_ia g 160 (fun _ => 0)) :: (a4_12, pm_ia g 160 (fun _ => 0)) :: (a1_12, pm_ia g 160 (fun _ => 0)) :: (a10, pm_ob 7 [.ref a1_12, .ref a4_12, .ref a7_12, .int 0, .int 0]) :: (a7, pm_ia g 24 (fun _ => 0)) :: (a4, pm_ia g 160 (fun _ => 0)) :: (a1, pm_ra g 41 (fun _ => none)) :: (a, pm_ob 9 [.ref a1, .ref a4, .ref a7, .null, .ref a10, .int 0, .int 0, .int 0]) :: ws)) a (pm_ob 9 (([.ref a1, .ref a4, .ref a7, .null, .ref a10, .int 0, .int 0, .int 0] : List Value).set 3 (.ref a10))) = al A ((a7_12, pm_ia g 160 (fun _ => 0)) :: (a4_12, pm_ia g 160 (fun _ => 0)) :: (a1_12, pm_ia g 160 (fun _ => 0)) :: (a10, pm_ob 7 [.ref a1_12, .ref a4_12, .ref a7_12, .int 0, .int 0]) :: (a7, pm_ia g 24 (fun _ => 0)) :: (a4, pm_ia g 160 (fun _ => 0)) :: (a1, pm_ra g 41 (fun _ => none)) :: (a, pm_ob 9 [.ref a1, .ref a4, .ref a7, .ref a10, .ref a10, .int 0, .int 0, .int 0]) :: ws) from al_set (k := 7) nd13 rfl rfl]
  have nd14 : (List.map Prod.fst ((a7_12, pm_ia g 160 (fun _ => 0)) :: (a4_12, pm_ia g 160 (fun _ => 0)) :: (a1_12, pm_ia g 160 (fun _ => 0)) :: (a10, pm_ob 7 [.ref a1_12, .ref a4_12, .ref a7_12, .int 0, .int 0]) :: (a7, pm_ia g 24 (fun _ => 0)) :: (a4, pm_ia g 160 (fun _ => 0)) :: (a1, pm_ra g 41 (fun _ => none)) :: (a, pm_ob 9 [.ref a1, .ref a4, .ref a7, .ref a10, .ref a10, .int 0, .int 0, .int 0]) :: ws)).Nodup := nd13
  refine Exists.intro _ (And.intro (al_get (k := 7) nd14 rfl) ?_)
  refine Exists.intro _ (And.intro (al_get (k := 7) nd14 rfl) ?_)
  refine Exists.intro _ (Exists.intro _ (Exists.intro _ (And.intro (al_get (k := 6) nd14 rfl) (And.intro (al_get (k := 3) nd14 rfl) (And.intro (by decide) ?_)))))
  rw [show pm_up (al A ((a7_12, pm_ia g 160 (fun _ => 0)) :: (a4_12, pm_ia g 160 (fun _ => 0)) :: (a1_12, pm_ia g 160 (fun _ => 0)) :: (a10, pm_ob 7 [.ref a1_12, .ref a4_12, .ref a7_12, .int 0, .int 0]) :: (a7, pm_ia g 24 (fun _ => 0)) :: (a4, pm_ia g 160 (fun _ => 0)) :: (a1, pm_ra g 41 (fun _ => none)) :: (a, pm_ob 9 [.ref a1, .ref a4, .ref a7, .ref a10, .ref a10, .int 0, .int 0, .int 0]) :: ws)) a1 (pm_ra g 41 (va_up (fun _ => none) (0 : Int32).toInt.toNat (some a10))) = al A ((a7_12, pm_ia g 160 (fun _ => 0)) :: (a4_12, pm_ia g 160 (fun _ => 0)) :: (a1_12, pm_ia g 160 (fun _ => 0)) :: (a10, pm_ob 7 [.ref a1_12, .ref a4_12, .ref a7_12, .int 0, .int 0]) :: (a7, pm_ia g 24 (fun _ => 0)) :: (a4, pm_ia g 160 (fun _ => 0)) :: (a1, pm_ra g 41 (va_up (fun _ => none) (0 : Int32).toInt.toNat (some a10))) :: (a, pm_ob 9 [.ref a1, .ref a4, .ref a7, .ref a10, .ref a10, .int 0, .int 0, .int 0]) :: ws) from al_set (k := 6) nd14 rfl rfl]
  have nd15 : (List.map Prod.fst ((a7_12, pm_ia g 160 (fun _ => 0)) :: (a4_12, pm_ia g 160 (fun _ => 0)) :: (a1_12, pm_ia g 160 (fun _ => 0)) :: (a10, pm_ob 7 [.ref a1_12, .ref a4_12, .ref a7_12, .int 0, .int 0]) :: (a7, pm_ia g 24 (fun _ => 0)) :: (a4, pm_ia g 160 (fun _ => 0)) :: (a1, pm_ra g 41 (va_up (fun _ => none) (0 : Int32).toInt.toNat (some a10))) :: (a, pm_ob 9 [.ref a1, .ref a4, .ref a7, .ref a10, .ref a10, .int 0, .int 0, .int 0]) :: ws)).Nodup := nd14
  exact ⟨rfl, rfl, rfl, a1, a4, a7, a10, a1_12, a4_12, a7_12, rfl, nd15, g2.2, g5.2, g8.2, g11.2, f12_0, f12_1, f12_2⟩

set_option maxRecDepth 100000 in
set_option maxHeartbeats 2000000 in
theorem ci_X2_init {A : pm_H} {ws : List (Nat × va_E)} {a : Nat} (nd : (List.map Prod.fst ((a, pm_ob 2 (pm_df 2)) :: ws)).Nodup) : pm_Mt l g 3 1 2 48 [.ref a] (al A ((a, pm_ob 2 (pm_df 2)) :: ws)) (fun r A9 => r = none ∧ ∃ (a1 : Nat) (a4 : Nat), A9 = al A ((a4, pm_ia g 24 (fun j => if j < 24 then (1 : Int32) else 0)) :: (a1, pm_ia g 24 (fun _ => 0)) :: (a, pm_ob 2 [.ref a1, .ref a4, .int 0, .int 0, .int 0, .int 0]) :: ws) ∧ (List.map Prod.fst ((a4, pm_ia g 24 (fun j => if j < 24 then (1 : Int32) else 0)) :: (a1, pm_ia g 24 (fun _ => 0)) :: (a, pm_ob 2 [.ref a1, .ref a4, .int 0, .int 0, .int 0, .int 0]) :: ws)).Nodup ∧ A a1 = none ∧ A a4 = none) := by
  refine mt_X2_init rfl (fun J hC => ?_)
  refine hC.1 0 0 _ _ rfl _ _ _ _ _ ?_
  refine And.intro rfl ?_
  refine And.intro rfl (And.intro rfl (fun a1 h1 => ?_))
  have g2 := al_none h1
  have nd2 : (List.map Prod.fst ((a1, pm_ia g 24 (fun _ => 0)) :: ((a, pm_ob 2 (pm_df 2)) :: ws))).Nodup := al_nd nd h1
  rw [show pm_up (al A ((a, pm_ob 2 (pm_df 2)) :: ws)) a1 (pm_ia g 24 (fun _ => 0)) = al A ((a1, pm_ia g 24 (fun _ => 0)) :: ((a, pm_ob 2 (pm_df 2)) :: ws)) from rfl]
  refine Exists.intro _ (And.intro (al_get (k := 1) nd2 rfl) (And.intro rfl ?_))
  rw [show pm_up (al A ((a1, pm_ia g 24 (fun _ => 0)) :: (a, pm_ob 2 (pm_df 2)) :: ws)) a (pm_ob 2 ((pm_df 2).set 0 (.ref a1))) = al A ((a1, pm_ia g 24 (fun _ => 0)) :: (a, pm_ob 2 [.ref a1, .null, .int 0, .int 0, .int 0, .int 0]) :: ws) from al_set (k := 1) nd2 rfl rfl]
  have nd3 : (List.map Prod.fst ((a1, pm_ia g 24 (fun _ => 0)) :: (a, pm_ob 2 [.ref a1, .null, .int 0, .int 0, .int 0, .int 0]) :: ws)).Nodup := nd2
  refine And.intro rfl (And.intro rfl (fun a4 h4 => ?_))
  have g5 := al_none h4
  have nd5 : (List.map Prod.fst ((a4, pm_ia g 24 (fun _ => 0)) :: ((a1, pm_ia g 24 (fun _ => 0)) :: (a, pm_ob 2 [.ref a1, .null, .int 0, .int 0, .int 0, .int 0]) :: ws))).Nodup := al_nd nd3 h4
  rw [show pm_up (al A ((a1, pm_ia g 24 (fun _ => 0)) :: (a, pm_ob 2 [.ref a1, .null, .int 0, .int 0, .int 0, .int 0]) :: ws)) a4 (pm_ia g 24 (fun _ => 0)) = al A ((a4, pm_ia g 24 (fun _ => 0)) :: ((a1, pm_ia g 24 (fun _ => 0)) :: (a, pm_ob 2 [.ref a1, .null, .int 0, .int 0, .int 0, .int 0]) :: ws)) from rfl]
  refine Exists.intro _ (And.intro (al_get (k := 2) nd5 rfl) (And.intro rfl ?_))
  rw [show pm_up (al A ((a4, pm_ia g 24 (fun _ => 0)) :: (a1, pm_ia g 24 (fun _ => 0)) :: (a, pm_ob 2 [.ref a1, .null, .int 0, .int 0, .int 0, .int 0]) :: ws)) a (pm_ob 2 (([.ref a1, .null, .int 0, .int 0, .int 0, .int 0] : List Value).set 1 (.ref a4))) = al A ((a4, pm_ia g 24 (fun _ => 0)) :: (a1, pm_ia g 24 (fun _ => 0)) :: (a, pm_ob 2 [.ref a1, .ref a4, .int 0, .int 0, .int 0, .int 0]) :: ws) from al_set (k := 2) nd5 rfl rfl]
  have nd6 : (List.map Prod.fst ((a4, pm_ia g 24 (fun _ => 0)) :: (a1, pm_ia g 24 (fun _ => 0)) :: (a, pm_ob 2 [.ref a1, .ref a4, .int 0, .int 0, .int 0, .int 0]) :: ws)).Nodup := nd5
  refine Exists.intro _ (And.intro (al_get (k := 2) nd6 rfl) ?_)
  refine Exists.intro _ (Exists.intro _ (Exists.intro _ (Exists.intro _ (And.intro (c_fill (al_get (k := 0) nd6 rfl) (by decide) (1)) (And.intro rfl (fun r9 A9 h9 => ?_))))))
  obtain ⟨rfl, rfl⟩ := h9
  rw [al_set (L := ((a4, pm_ia g 24 (fun _ => 0)) :: (a1, pm_ia g 24 (fun _ => 0)) :: (a, pm_ob 2 [.ref a1, .ref a4, .int 0, .int 0, .int 0, .int 0]) :: ws)) (L' := ((a4, pm_ia g 24 (fun j => if j < 24 then (1 : Int32) else 0)) :: (a1, pm_ia g 24 (fun _ => 0)) :: (a, pm_ob 2 [.ref a1, .ref a4, .int 0, .int 0, .int 0, .int 0]) :: ws)) (k := 0) nd6 rfl rfl]
  have nd7 : (List.map Prod.fst ((a4, pm_ia g 24 (fun j => if j < 24 then (1 : Int32) else 0)) :: (a1, pm_ia g 24 (fun _ => 0)) :: (a, pm_ob 2 [.ref a1, .ref a4, .int 0, .int 0, .int 0, .int 0]) :: ws)).Nodup := nd6
  exact ⟨rfl, rfl, rfl, a1, a4, rfl, nd7, g2.2, g5.2⟩

set_option maxRecDepth 100000 in
set_option maxHeartbeats 2000000 in
theorem ci_X0_init {A : pm_H} {ws : List (Nat × va_E)} {a : Nat} (nd : (List.map Prod.fst ((a, pm_ob 0 (pm_df 0)) :: ws)).Nodup) : pm_Mt l g 5 1 2 184 [.ref a] (al A ((a, pm_ob 0 (pm_df 0)) :: ws)) (fun r A9 => r = none ∧ ∃ (a1 : Nat) (a4 : Nat), A9 = al A ((a4, pm_ia g 160 (fun _ => 0)) :: (a1, pm_ia g 24 (fun _ => 0)) :: (a, pm_ob 0 [.ref a1, .ref a4, .int 0]) :: ws) ∧ (List.map Prod.fst ((a4, pm_ia g 160 (fun _ => 0)) :: (a1, pm_ia g 24 (fun _ => 0)) :: (a, pm_ob 0 [.ref a1, .ref a4, .int 0]) :: ws)).Nodup ∧ A a1 = none ∧ A a4 = none) := by
  refine mt_X0_init rfl (fun J hC => ?_)
  refine hC.1 0 0 _ _ rfl _ _ _ _ _ ?_
  refine And.intro rfl ?_
  refine And.intro rfl (And.intro rfl (fun a1 h1 => ?_))
  have g2 := al_none h1
  have nd2 : (List.map Prod.fst ((a1, pm_ia g 24 (fun _ => 0)) :: ((a, pm_ob 0 (pm_df 0)) :: ws))).Nodup := al_nd nd h1
  rw [show pm_up (al A ((a, pm_ob 0 (pm_df 0)) :: ws)) a1 (pm_ia g 24 (fun _ => 0)) = al A ((a1, pm_ia g 24 (fun _ => 0)) :: ((a, pm_ob 0 (pm_df 0)) :: ws)) from rfl]
  refine Exists.intro _ (And.intro (al_get (k := 1) nd2 rfl) (And.intro rfl ?_))
  rw [show pm_up (al A ((a1, pm_ia g 24 (fun _ => 0)) :: (a, pm_ob 0 (pm_df 0)) :: ws)) a (pm_ob 0 ((pm_df 0).set 0 (.ref a1))) = al A ((a1, pm_ia g 24 (fun _ => 0)) :: (a, pm_ob 0 [.ref a1, .null, .int 0]) :: ws) from al_set (k := 1) nd2 rfl rfl]
  have nd3 : (List.map Prod.fst ((a1, pm_ia g 24 (fun _ => 0)) :: (a, pm_ob 0 [.ref a1, .null, .int 0]) :: ws)).Nodup := nd2
  refine And.intro rfl (And.intro rfl (fun a4 h4 => ?_))
  have g5 := al_none h4
  have nd5 : (List.map Prod.fst ((a4, pm_ia g 160 (fun _ => 0)) :: ((a1, pm_ia g 24 (fun _ => 0)) :: (a, pm_ob 0 [.ref a1, .null, .int 0]) :: ws))).Nodup := al_nd nd3 h4
  rw [show pm_up (al A ((a1, pm_ia g 24 (fun _ => 0)) :: (a, pm_ob 0 [.ref a1, .null, .int 0]) :: ws)) a4 (pm_ia g 160 (fun _ => 0)) = al A ((a4, pm_ia g 160 (fun _ => 0)) :: ((a1, pm_ia g 24 (fun _ => 0)) :: (a, pm_ob 0 [.ref a1, .null, .int 0]) :: ws)) from rfl]
  refine Exists.intro _ (And.intro (al_get (k := 2) nd5 rfl) (And.intro rfl ?_))
  rw [show pm_up (al A ((a4, pm_ia g 160 (fun _ => 0)) :: (a1, pm_ia g 24 (fun _ => 0)) :: (a, pm_ob 0 [.ref a1, .null, .int 0]) :: ws)) a (pm_ob 0 (([.ref a1, .null, .int 0] : List Value).set 1 (.ref a4))) = al A ((a4, pm_ia g 160 (fun _ => 0)) :: (a1, pm_ia g 24 (fun _ => 0)) :: (a, pm_ob 0 [.ref a1, .ref a4, .int 0]) :: ws) from al_set (k := 2) nd5 rfl rfl]
  have nd6 : (List.map Prod.fst ((a4, pm_ia g 160 (fun _ => 0)) :: (a1, pm_ia g 24 (fun _ => 0)) :: (a, pm_ob 0 [.ref a1, .ref a4, .int 0]) :: ws)).Nodup := nd5
  exact ⟨rfl, rfl, rfl, a1, a4, rfl, nd6, g2.2, g5.2⟩

set_option maxRecDepth 100000 in
set_option maxHeartbeats 2000000 in
theorem ci_X1_init {A : pm_H} {ws : List (Nat × va_E)} {a : Nat} (nd : (List.map Prod.fst ((a, pm_ob 1 (pm_df 1)) :: ws)).Nodup) : pm_Mt l g 6 1 3 208 [.ref a] (al A ((a, pm_ob 1 (pm_df 1)) :: ws)) (fun r A9 => r = none ∧ ∃ (a1 : Nat) (a4 : Nat) (a7 : Nat), A9 = al A ((a7, pm_ia g 24 (fun _ => 0)) :: (a4, pm_ia g 24 (fun _ => 0)) :: (a1, pm_ia g 160 (fun _ => 0)) :: (a, pm_ob 1 [.ref a1, .ref a4, .ref a7, .int 0, .int 0]) :: ws) ∧ (List.map Prod.fst ((a7, pm_ia g 24 (fun _ => 0)) :: (a4, pm_ia g 24 (fun _ => 0)) :: (a1, pm_ia g 160 (fun _ => 0)) :: (a, pm_ob 1 [.ref a1, .ref a4, .ref a7, .int 0, .int 0]) :: ws)).Nodup ∧ A a1 = none ∧ A a4 = none ∧ A a7 = none) := by
  refine mt_X1_init rfl (fun J hC => ?_)
  refine hC.1 0 0 _ _ rfl _ _ _ _ _ ?_
  refine And.intro rfl ?_
  refine And.intro rfl (And.intro rfl (fun a1 h1 => ?_))
  have g2 := al_none h1
  have nd2 : (List.map Prod.fst ((a1, pm_ia g 160 (fun _ => 0)) :: ((a, pm_ob 1 (pm_df 1)) :: ws))).Nodup := al_nd nd h1
  rw [show pm_up (al A ((a, pm_ob 1 (pm_df 1)) :: ws)) a1 (pm_ia g 160 (fun _ => 0)) = al A ((a1, pm_ia g 160 (fun _ => 0)) :: ((a, pm_ob 1 (pm_df 1)) :: ws)) from rfl]
  refine Exists.intro _ (And.intro (al_get (k := 1) nd2 rfl) (And.intro rfl ?_))
  rw [show pm_up (al A ((a1, pm_ia g 160 (fun _ => 0)) :: (a, pm_ob 1 (pm_df 1)) :: ws)) a (pm_ob 1 ((pm_df 1).set 0 (.ref a1))) = al A ((a1, pm_ia g 160 (fun _ => 0)) :: (a, pm_ob 1 [.ref a1, .null, .null, .int 0, .int 0]) :: ws) from al_set (k := 1) nd2 rfl rfl]
  have nd3 : (List.map Prod.fst ((a1, pm_ia g 160 (fun _ => 0)) :: (a, pm_ob 1 [.ref a1, .null, .null, .int 0, .int 0]) :: ws)).Nodup := nd2
  refine And.intro rfl (And.intro rfl (fun a4 h4 => ?_))
  have g5 := al_none h4
  have nd5 : (List.map Prod.fst ((a4, pm_ia g 24 (fun _ => 0)) :: ((a1, pm_ia g 160 (fun _ => 0)) :: (a, pm_ob 1 [.ref a1, .null, .null, .int 0, .int 0]) :: ws))).Nodup := al_nd nd3 h4
  rw [show pm_up (al A ((a1, pm_ia g 160 (fun _ => 0)) :: (a, pm_ob 1 [.ref a1, .null, .null, .int 0, .int 0]) :: ws)) a4 (pm_ia g 24 (fun _ => 0)) = al A ((a4, pm_ia g 24 (fun _ => 0)) :: ((a1, pm_ia g 160 (fun _ => 0)) :: (a, pm_ob 1 [.ref a1, .null, .null, .int 0, .int 0]) :: ws)) from rfl]
  refine Exists.intro _ (And.intro (al_get (k := 2) nd5 rfl) (And.intro rfl ?_))
  rw [show pm_up (al A ((a4, pm_ia g 24 (fun _ => 0)) :: (a1, pm_ia g 160 (fun _ => 0)) :: (a, pm_ob 1 [.ref a1, .null, .null, .int 0, .int 0]) :: ws)) a (pm_ob 1 (([.ref a1, .null, .null, .int 0, .int 0] : List Value).set 1 (.ref a4))) = al A ((a4, pm_ia g 24 (fun _ => 0)) :: (a1, pm_ia g 160 (fun _ => 0)) :: (a, pm_ob 1 [.ref a1, .ref a4, .null, .int 0, .int 0]) :: ws) from al_set (k := 2) nd5 rfl rfl]
  have nd6 : (List.map Prod.fst ((a4, pm_ia g 24 (fun _ => 0)) :: (a1, pm_ia g 160 (fun _ => 0)) :: (a, pm_ob 1 [.ref a1, .ref a4, .null, .int 0, .int 0]) :: ws)).Nodup := nd5
  refine And.intro rfl (And.intro rfl (fun a7 h7 => ?_))
  have g8 := al_none h7
  have nd8 : (List.map Prod.fst ((a7, pm_ia g 24 (fun _ => 0)) :: ((a4, pm_ia g 24 (fun _ => 0)) :: (a1, pm_ia g 160 (fun _ => 0)) :: (a, pm_ob 1 [.ref a1, .ref a4, .null, .int 0, .int 0]) :: ws))).Nodup := al_nd nd6 h7
  rw [show pm_up (al A ((a4, pm_ia g 24 (fun _ => 0)) :: (a1, pm_ia g 160 (fun _ => 0)) :: (a, pm_ob 1 [.ref a1, .ref a4, .null, .int 0, .int 0]) :: ws)) a7 (pm_ia g 24 (fun _ => 0)) = al A ((a7, pm_ia g 24 (fun _ => 0)) :: ((a4, pm_ia g 24 (fun _ => 0)) :: (a1, pm_ia g 160 (fun _ => 0)) :: (a, pm_ob 1 [.ref a1, .ref a4, .null, .int 0, .int 0]) :: ws)) from rfl]
  refine Exists.intro _ (And.intro (al_get (k := 3) nd8 rfl) (And.intro rfl ?_))
  rw [show pm_up (al A ((a7, pm_ia g 24 (fun _ => 0)) :: (a4, pm_ia g 24 (fun _ => 0)) :: (a1, pm_ia g 160 (fun _ => 0)) :: (a, pm_ob 1 [.ref a1, .ref a4, .null, .int 0, .int 0]) :: ws)) a (pm_ob 1 (([.ref a1, .ref a4, .null, .int 0, .int 0] : List Value).set 2 (.ref a7))) = al A ((a7, pm_ia g 24 (fun _ => 0)) :: (a4, pm_ia g 24 (fun _ => 0)) :: (a1, pm_ia g 160 (fun _ => 0)) :: (a, pm_ob 1 [.ref a1, .ref a4, .ref a7, .int 0, .int 0]) :: ws) from al_set (k := 3) nd8 rfl rfl]
  have nd9 : (List.map Prod.fst ((a7, pm_ia g 24 (fun _ => 0)) :: (a4, pm_ia g 24 (fun _ => 0)) :: (a1, pm_ia g 160 (fun _ => 0)) :: (a, pm_ob 1 [.ref a1, .ref a4, .ref a7, .int 0, .int 0]) :: ws)).Nodup := nd8
  exact ⟨rfl, rfl, rfl, a1, a4, a7, rfl, nd9, g2.2, g5.2, g8.2⟩

set_option maxRecDepth 100000 in
set_option maxHeartbeats 2000000 in
theorem ci_X6_init {A : pm_H} {ws : List (Nat × va_E)} {a : Nat} (nd : (List.map Prod.fst ((a, pm_ob 6 (pm_df 6)) :: ws)).Nodup) : pm_Mt l g 7 1 1 24 [.ref a] (al A ((a, pm_ob 6 (pm_df 6)) :: ws)) (fun r A9 => r = none ∧ ∃ (a1 : Nat), A9 = al A ((a1, pm_ia g 24 (fun _ => 0)) :: (a, pm_ob 6 [.ref a1, .int 0, .int 0, .int 0, .int 0]) :: ws) ∧ (List.map Prod.fst ((a1, pm_ia g 24 (fun _ => 0)) :: (a, pm_ob 6 [.ref a1, .int 0, .int 0, .int 0, .int 0]) :: ws)).Nodup ∧ A a1 = none) := by
  refine mt_X6_init rfl (fun J hC => ?_)
  refine hC.1 0 0 _ _ rfl _ _ _ _ _ ?_
  refine And.intro rfl ?_
  refine And.intro rfl (And.intro rfl (fun a1 h1 => ?_))
  have g2 := al_none h1
  have nd2 : (List.map Prod.fst ((a1, pm_ia g 24 (fun _ => 0)) :: ((a, pm_ob 6 (pm_df 6)) :: ws))).Nodup := al_nd nd h1
  rw [show pm_up (al A ((a, pm_ob 6 (pm_df 6)) :: ws)) a1 (pm_ia g 24 (fun _ => 0)) = al A ((a1, pm_ia g 24 (fun _ => 0)) :: ((a, pm_ob 6 (pm_df 6)) :: ws)) from rfl]
  refine Exists.intro _ (And.intro (al_get (k := 1) nd2 rfl) (And.intro rfl ?_))
  rw [show pm_up (al A ((a1, pm_ia g 24 (fun _ => 0)) :: (a, pm_ob 6 (pm_df 6)) :: ws)) a (pm_ob 6 ((pm_df 6).set 0 (.ref a1))) = al A ((a1, pm_ia g 24 (fun _ => 0)) :: (a, pm_ob 6 [.ref a1, .int 0, .int 0, .int 0, .int 0]) :: ws) from al_set (k := 1) nd2 rfl rfl]
  have nd3 : (List.map Prod.fst ((a1, pm_ia g 24 (fun _ => 0)) :: (a, pm_ob 6 [.ref a1, .int 0, .int 0, .int 0, .int 0]) :: ws)).Nodup := nd2
  exact ⟨rfl, rfl, rfl, a1, rfl, nd3, g2.2⟩

set_option maxRecDepth 100000 in
set_option maxHeartbeats 2000000 in
theorem ci_X8_init {A : pm_H} {ws : List (Nat × va_E)} {a : Nat} (nd : (List.map Prod.fst ((a, pm_ob 8 (pm_df 8)) :: ws)).Nodup) : pm_Mt l g 8 1 3 208 [.ref a] (al A ((a, pm_ob 8 (pm_df 8)) :: ws)) (fun r A9 => r = none ∧ ∃ (a1 : Nat) (a4 : Nat) (a7 : Nat), A9 = al A ((a7, pm_ia g 24 (fun _ => 0)) :: (a4, pm_ia g 24 (fun _ => 0)) :: (a1, pm_ia g 160 (fun _ => 0)) :: (a, pm_ob 8 [.ref a1, .ref a4, .ref a7, .int 0, .int 0]) :: ws) ∧ (List.map Prod.fst ((a7, pm_ia g 24 (fun _ => 0)) :: (a4, pm_ia g 24 (fun _ => 0)) :: (a1, pm_ia g 160 (fun _ => 0)) :: (a, pm_ob 8 [.ref a1, .ref a4, .ref a7, .int 0, .int 0]) :: ws)).Nodup ∧ A a1 = none ∧ A a4 = none ∧ A a7 = none) := by
  refine mt_X8_init rfl (fun J hC => ?_)
  refine hC.1 0 0 _ _ rfl _ _ _ _ _ ?_
  refine And.intro rfl ?_
  refine And.intro rfl (And.intro rfl (fun a1 h1 => ?_))
  have g2 := al_none h1
  have nd2 : (List.map Prod.fst ((a1, pm_ia g 160 (fun _ => 0)) :: ((a, pm_ob 8 (pm_df 8)) :: ws))).Nodup := al_nd nd h1
  rw [show pm_up (al A ((a, pm_ob 8 (pm_df 8)) :: ws)) a1 (pm_ia g 160 (fun _ => 0)) = al A ((a1, pm_ia g 160 (fun _ => 0)) :: ((a, pm_ob 8 (pm_df 8)) :: ws)) from rfl]
  refine Exists.intro _ (And.intro (al_get (k := 1) nd2 rfl) (And.intro rfl ?_))
  rw [show pm_up (al A ((a1, pm_ia g 160 (fun _ => 0)) :: (a, pm_ob 8 (pm_df 8)) :: ws)) a (pm_ob 8 ((pm_df 8).set 0 (.ref a1))) = al A ((a1, pm_ia g 160 (fun _ => 0)) :: (a, pm_ob 8 [.ref a1, .null, .null, .int 0, .int 0]) :: ws) from al_set (k := 1) nd2 rfl rfl]
  have nd3 : (List.map Prod.fst ((a1, pm_ia g 160 (fun _ => 0)) :: (a, pm_ob 8 [.ref a1, .null, .null, .int 0, .int 0]) :: ws)).Nodup := nd2
  refine And.intro rfl (And.intro rfl (fun a4 h4 => ?_))
  have g5 := al_none h4
  have nd5 : (List.map Prod.fst ((a4, pm_ia g 24 (fun _ => 0)) :: ((a1, pm_ia g 160 (fun _ => 0)) :: (a, pm_ob 8 [.ref a1, .null, .null, .int 0, .int 0]) :: ws))).Nodup := al_nd nd3 h4
  rw [show pm_up (al A ((a1, pm_ia g 160 (fun _ => 0)) :: (a, pm_ob 8 [.ref a1, .null, .null, .int 0, .int 0]) :: ws)) a4 (pm_ia g 24 (fun _ => 0)) = al A ((a4, pm_ia g 24 (fun _ => 0)) :: ((a1, pm_ia g 160 (fun _ => 0)) :: (a, pm_ob 8 [.ref a1, .null, .null, .int 0, .int 0]) :: ws)) from rfl]
  refine Exists.intro _ (And.intro (al_get (k := 2) nd5 rfl) (And.intro rfl ?_))
  rw [show pm_up (al A ((a4, pm_ia g 24 (fun _ => 0)) :: (a1, pm_ia g 160 (fun _ => 0)) :: (a, pm_ob 8 [.ref a1, .null, .null, .int 0, .int 0]) :: ws)) a (pm_ob 8 (([.ref a1, .null, .null, .int 0, .int 0] : List Value).set 1 (.ref a4))) = al A ((a4, pm_ia g 24 (fun _ => 0)) :: (a1, pm_ia g 160 (fun _ => 0)) :: (a, pm_ob 8 [.ref a1, .ref a4, .null, .int 0, .int 0]) :: ws) from al_set (k := 2) nd5 rfl rfl]
  have nd6 : (List.map Prod.fst ((a4, pm_ia g 24 (fun _ => 0)) :: (a1, pm_ia g 160 (fun _ => 0)) :: (a, pm_ob 8 [.ref a1, .ref a4, .null, .int 0, .int 0]) :: ws)).Nodup := nd5
  refine And.intro rfl (And.intro rfl (fun a7 h7 => ?_))
  have g8 := al_none h7
  have nd8 : (List.map Prod.fst ((a7, pm_ia g 24 (fun _ => 0)) :: ((a4, pm_ia g 24 (fun _ => 0)) :: (a1, pm_ia g 160 (fun _ => 0)) :: (a, pm_ob 8 [.ref a1, .ref a4, .null, .int 0, .int 0]) :: ws))).Nodup := al_nd nd6 h7
  rw [show pm_up (al A ((a4, pm_ia g 24 (fun _ => 0)) :: (a1, pm_ia g 160 (fun _ => 0)) :: (a, pm_ob 8 [.ref a1, .ref a4, .null, .int 0, .int 0]) :: ws)) a7 (pm_ia g 24 (fun _ => 0)) = al A ((a7, pm_ia g 24 (fun _ => 0)) :: ((a4, pm_ia g 24 (fun _ => 0)) :: (a1, pm_ia g 160 (fun _ => 0)) :: (a, pm_ob 8 [.ref a1, .ref a4, .null, .int 0, .int 0]) :: ws)) from rfl]
  refine Exists.intro _ (And.intro (al_get (k := 3) nd8 rfl) (And.intro rfl ?_))
  rw [show pm_up (al A ((a7, pm_ia g 24 (fun _ => 0)) :: (a4, pm_ia g 24 (fun _ => 0)) :: (a1, pm_ia g 160 (fun _ => 0)) :: (a, pm_ob 8 [.ref a1, .ref a4, .null, .int 0, .int 0]) :: ws)) a (pm_ob 8 (([.ref a1, .ref a4, .null, .int 0, .int 0] : List Value).set 2 (.ref a7))) = al A ((a7, pm_ia g 24 (fun _ => 0)) :: (a4, pm_ia g 24 (fun _ => 0)) :: (a1, pm_ia g 160 (fun _ => 0)) :: (a, pm_ob 8 [.ref a1, .ref a4, .ref a7, .int 0, .int 0]) :: ws) from al_set (k := 3) nd8 rfl rfl]
  have nd9 : (List.map Prod.fst ((a7, pm_ia g 24 (fun _ => 0)) :: (a4, pm_ia g 24 (fun _ => 0)) :: (a1, pm_ia g 160 (fun _ => 0)) :: (a, pm_ob 8 [.ref a1, .ref a4, .ref a7, .int 0, .int 0]) :: ws)).Nodup := nd8
  exact ⟨rfl, rfl, rfl, a1, a4, a7, rfl, nd9, g2.2, g5.2, g8.2⟩

set_option maxRecDepth 100000 in
set_option maxHeartbeats 2000000 in
theorem ci_X4_init {A : pm_H} {ws : List (Nat × va_E)} {a : Nat} (nd : (List.map Prod.fst ((a, pm_ob 4 (pm_df 4)) :: ws)).Nodup) : pm_Mt l g 9 1 1 160 [.ref a] (al A ((a, pm_ob 4 (pm_df 4)) :: ws)) (fun r A9 => r = none ∧ ∃ (a1 : Nat), A9 = al A ((a1, pm_ia g 160 (fun _ => 0)) :: (a, pm_ob 4 [.ref a1, .int 0, .int 0]) :: ws) ∧ (List.map Prod.fst ((a1, pm_ia g 160 (fun _ => 0)) :: (a, pm_ob 4 [.ref a1, .int 0, .int 0]) :: ws)).Nodup ∧ A a1 = none) := by
  refine mt_X4_init rfl (fun J hC => ?_)
  refine hC.1 0 0 _ _ rfl _ _ _ _ _ ?_
  refine And.intro rfl ?_
  refine And.intro rfl (And.intro rfl (fun a1 h1 => ?_))
  have g2 := al_none h1
  have nd2 : (List.map Prod.fst ((a1, pm_ia g 160 (fun _ => 0)) :: ((a, pm_ob 4 (pm_df 4)) :: ws))).Nodup := al_nd nd h1
  rw [show pm_up (al A ((a, pm_ob 4 (pm_df 4)) :: ws)) a1 (pm_ia g 160 (fun _ => 0)) = al A ((a1, pm_ia g 160 (fun _ => 0)) :: ((a, pm_ob 4 (pm_df 4)) :: ws)) from rfl]
  refine Exists.intro _ (And.intro (al_get (k := 1) nd2 rfl) (And.intro rfl ?_))
  rw [show pm_up (al A ((a1, pm_ia g 160 (fun _ => 0)) :: (a, pm_ob 4 (pm_df 4)) :: ws)) a (pm_ob 4 ((pm_df 4).set 0 (.ref a1))) = al A ((a1, pm_ia g 160 (fun _ => 0)) :: (a, pm_ob 4 [.ref a1, .int 0, .int 0]) :: ws) from al_set (k := 1) nd2 rfl rfl]
  have nd3 : (List.map Prod.fst ((a1, pm_ia g 160 (fun _ => 0)) :: (a, pm_ob 4 [.ref a1, .int 0, .int 0]) :: ws)).Nodup := nd2
  exact ⟨rfl, rfl, rfl, a1, rfl, nd3, g2.2⟩

set_option maxRecDepth 100000 in
set_option maxHeartbeats 2000000 in
theorem ci_X3_init {A : pm_H} {ws : List (Nat × va_E)} {a : Nat} (nd : (List.map Prod.fst ((a, pm_ob 3 (pm_df 3)) :: ws)).Nodup) : pm_Mt l g 10 1 10 1458 [.ref a] (al A ((a, pm_ob 3 (pm_df 3)) :: ws)) (fun r A9 => r = none ∧ ∃ (a1 : Nat) (r1 : Nat → Nat), A9 = al A (((r1 8), pm_ia g 161 (fun _ => 0)) :: ((r1 7), pm_ia g 161 (fun _ => 0)) :: ((r1 6), pm_ia g 161 (fun _ => 0)) :: ((r1 5), pm_ia g 161 (fun _ => 0)) :: ((r1 4), pm_ia g 161 (fun _ => 0)) :: ((r1 3), pm_ia g 161 (fun _ => 0)) :: ((r1 2), pm_ia g 161 (fun _ => 0)) :: ((r1 1), pm_ia g 161 (fun _ => 0)) :: ((r1 0), pm_ia g 161 (fun _ => 0)) :: (a1, pm_ma g 9 (fun j => if j < 9 then some (r1 j) else none)) :: (a, pm_ob 3 [.ref a1]) :: ws) ∧ (List.map Prod.fst (((r1 8), pm_ia g 161 (fun _ => 0)) :: ((r1 7), pm_ia g 161 (fun _ => 0)) :: ((r1 6), pm_ia g 161 (fun _ => 0)) :: ((r1 5), pm_ia g 161 (fun _ => 0)) :: ((r1 4), pm_ia g 161 (fun _ => 0)) :: ((r1 3), pm_ia g 161 (fun _ => 0)) :: ((r1 2), pm_ia g 161 (fun _ => 0)) :: ((r1 1), pm_ia g 161 (fun _ => 0)) :: ((r1 0), pm_ia g 161 (fun _ => 0)) :: (a1, pm_ma g 9 (fun j => if j < 9 then some (r1 j) else none)) :: (a, pm_ob 3 [.ref a1]) :: ws)).Nodup ∧ A a1 = none ∧ A (r1 0) = none ∧ A (r1 1) = none ∧ A (r1 2) = none ∧ A (r1 3) = none ∧ A (r1 4) = none ∧ A (r1 5) = none ∧ A (r1 6) = none ∧ A (r1 7) = none ∧ A (r1 8) = none) := by
  refine mt_X3_init rfl (fun J hC => ?_)
  refine hC.1 0 0 _ _ rfl _ _ _ _ _ ?_
  refine And.intro rfl ?_
  refine And.intro rfl (And.intro rfl (And.intro rfl (fun a1 r1 h1 i1 j1 k1 => ?_)))
  have g1 := al_none h1
  have nd1 : (List.map Prod.fst (((r1 8), pm_ia g 161 (fun _ => 0)) :: ((r1 7), pm_ia g 161 (fun _ => 0)) :: ((r1 6), pm_ia g 161 (fun _ => 0)) :: ((r1 5), pm_ia g 161 (fun _ => 0)) :: ((r1 4), pm_ia g 161 (fun _ => 0)) :: ((r1 3), pm_ia g 161 (fun _ => 0)) :: ((r1 2), pm_ia g 161 (fun _ => 0)) :: ((r1 1), pm_ia g 161 (fun _ => 0)) :: ((r1 0), pm_ia g 161 (fun _ => 0)) :: (a1, pm_ma g 9 (fun j => if j < 9 then some (r1 j) else none)) :: (a, pm_ob 3 (pm_df 3)) :: ws)).Nodup := al_nd9 nd h1 i1 j1 k1
  rw [show pm_upm g (al A ((a, pm_ob 3 (pm_df 3)) :: ws)) a1 r1 9 161 = al A (((r1 8), pm_ia g 161 (fun _ => 0)) :: ((r1 7), pm_ia g 161 (fun _ => 0)) :: ((r1 6), pm_ia g 161 (fun _ => 0)) :: ((r1 5), pm_ia g 161 (fun _ => 0)) :: ((r1 4), pm_ia g 161 (fun _ => 0)) :: ((r1 3), pm_ia g 161 (fun _ => 0)) :: ((r1 2), pm_ia g 161 (fun _ => 0)) :: ((r1 1), pm_ia g 161 (fun _ => 0)) :: ((r1 0), pm_ia g 161 (fun _ => 0)) :: (a1, pm_ma g 9 (fun j => if j < 9 then some (r1 j) else none)) :: (a, pm_ob 3 (pm_df 3)) :: ws) from al_upm j1 k1]
  refine Exists.intro _ (And.intro (al_get (k := 10) nd1 rfl) (And.intro rfl ?_))
  rw [show pm_up (al A (((r1 8), pm_ia g 161 (fun _ => 0)) :: ((r1 7), pm_ia g 161 (fun _ => 0)) :: ((r1 6), pm_ia g 161 (fun _ => 0)) :: ((r1 5), pm_ia g 161 (fun _ => 0)) :: ((r1 4), pm_ia g 161 (fun _ => 0)) :: ((r1 3), pm_ia g 161 (fun _ => 0)) :: ((r1 2), pm_ia g 161 (fun _ => 0)) :: ((r1 1), pm_ia g 161 (fun _ => 0)) :: ((r1 0), pm_ia g 161 (fun _ => 0)) :: (a1, pm_ma g 9 (fun j => if j < 9 then some (r1 j) else none)) :: (a, pm_ob 3 (pm_df 3)) :: ws)) a (pm_ob 3 ((pm_df 3).set 0 (.ref a1))) = al A (((r1 8), pm_ia g 161 (fun _ => 0)) :: ((r1 7), pm_ia g 161 (fun _ => 0)) :: ((r1 6), pm_ia g 161 (fun _ => 0)) :: ((r1 5), pm_ia g 161 (fun _ => 0)) :: ((r1 4), pm_ia g 161 (fun _ => 0)) :: ((r1 3), pm_ia g 161 (fun _ => 0)) :: ((r1 2), pm_ia g 161 (fun _ => 0)) :: ((r1 1), pm_ia g 161 (fun _ => 0)) :: ((r1 0), pm_ia g 161 (fun _ => 0)) :: (a1, pm_ma g 9 (fun j => if j < 9 then some (r1 j) else none)) :: (a, pm_ob 3 [.ref a1]) :: ws) from al_set (k := 10) nd1 rfl rfl]
  have nd2 : (List.map Prod.fst (((r1 8), pm_ia g 161 (fun _ => 0)) :: ((r1 7), pm_ia g 161 (fun _ => 0)) :: ((r1 6), pm_ia g 161 (fun _ => 0)) :: ((r1 5), pm_ia g 161 (fun _ => 0)) :: ((r1 4), pm_ia g 161 (fun _ => 0)) :: ((r1 3), pm_ia g 161 (fun _ => 0)) :: ((r1 2), pm_ia g 161 (fun _ => 0)) :: ((r1 1), pm_ia g 161 (fun _ => 0)) :: ((r1 0), pm_ia g 161 (fun _ => 0)) :: (a1, pm_ma g 9 (fun j => if j < 9 then some (r1 j) else none)) :: (a, pm_ob 3 [.ref a1]) :: ws)).Nodup := nd1
  exact ⟨rfl, rfl, rfl, a1, r1, rfl, nd2, g1.2, (al_none (i1 0 (by decide))).2, (al_none (i1 1 (by decide))).2, (al_none (i1 2 (by decide))).2, (al_none (i1 3 (by decide))).2, (al_none (i1 4 (by decide))).2, (al_none (i1 5 (by decide))).2, (al_none (i1 6 (by decide))).2, (al_none (i1 7 (by decide))).2, (al_none (i1 8 (by decide))).2⟩

set_option maxRecDepth 100000 in
set_option maxHeartbeats 2000000 in
theorem ci_X5_init {A : pm_H} {ws : List (Nat × va_E)} {a : Nat} (nd : (List.map Prod.fst ((a, pm_ob 5 (pm_df 5)) :: ws)).Nodup) : pm_Mt l g 11 1 5 150 [.ref a] (al A ((a, pm_ob 5 (pm_df 5)) :: ws)) (fun r A9 => r = none ∧ ∃ (a1 : Nat) (a4 : Nat) (a7 : Nat) (a10 : Nat) (a13 : Nat), A9 = al A ((a13, pm_ia g 30 (fun _ => 0)) :: (a10, pm_ia g 30 (fun _ => 0)) :: (a7, pm_ia g 30 (fun _ => 0)) :: (a4, pm_ia g 30 (fun _ => 0)) :: (a1, pm_ia g 30 (fun _ => 0)) :: (a, pm_ob 5 [.ref a1, .ref a4, .ref a7, .ref a10, .ref a13, .int 0]) :: ws) ∧ (List.map Prod.fst ((a13, pm_ia g 30 (fun _ => 0)) :: (a10, pm_ia g 30 (fun _ => 0)) :: (a7, pm_ia g 30 (fun _ => 0)) :: (a4, pm_ia g 30 (fun _ => 0)) :: (a1, pm_ia g 30 (fun _ => 0)) :: (a, pm_ob 5 [.ref a1, .ref a4, .ref a7, .ref a10, .ref a13, .int 0]) :: ws)).Nodup ∧ A a1 = none ∧ A a4 = none ∧ A a7 = none ∧ A a10 = none ∧ A a13 = none) := by
  refine mt_X5_init rfl (fun J hC => ?_)
  refine hC.1 0 0 _ _ rfl _ _ _ _ _ ?_
  refine And.intro rfl ?_
  refine And.intro rfl (And.intro rfl (fun a1 h1 => ?_))
  have g2 := al_none h1
  have nd2 : (List.map Prod.fst ((a1, pm_ia g 30 (fun _ => 0)) :: ((a, pm_ob 5 (pm_df 5)) :: ws))).Nodup := al_nd nd h1
  rw [show pm_up (al A ((a, pm_ob 5 (pm_df 5)) :: ws)) a1 (pm_ia g 30 (fun _ => 0)) = al A ((a1, pm_ia g 30 (fun _ => 0)) :: ((a, pm_ob 5 (pm_df 5)) :: ws)) from rfl]
  refine Exists.intro _ (And.intro (al_get (k := 1) nd2 rfl) (And.intro rfl ?_))
  rw [show pm_up (al A ((a1, pm_ia g 30 (fun _ => 0)) :: (a, pm_ob 5 (pm_df 5)) :: ws)) a (pm_ob 5 ((pm_df 5).set 0 (.ref a1))) = al A ((a1, pm_ia g 30 (fun _ => 0)) :: (a, pm_ob 5 [.ref a1, .null, .null, .null, .null, .int 0]) :: ws) from al_set (k := 1) nd2 rfl rfl]
  have nd3 : (List.map Prod.fst ((a1, pm_ia g 30 (fun _ => 0)) :: (a, pm_ob 5 [.ref a1, .null, .null, .null, .null, .int 0]) :: ws)).Nodup := nd2
  refine And.intro rfl (And.intro rfl (fun a4 h4 => ?_))
  have g5 := al_none h4
  have nd5 : (List.map Prod.fst ((a4, pm_ia g 30 (fun _ => 0)) :: ((a1, pm_ia g 30 (fun _ => 0)) :: (a, pm_ob 5 [.ref a1, .null, .null, .null, .null, .int 0]) :: ws))).Nodup := al_nd nd3 h4
  rw [show pm_up (al A ((a1, pm_ia g 30 (fun _ => 0)) :: (a, pm_ob 5 [.ref a1, .null, .null, .null, .null, .int 0]) :: ws)) a4 (pm_ia g 30 (fun _ => 0)) = al A ((a4, pm_ia g 30 (fun _ => 0)) :: ((a1, pm_ia g 30 (fun _ => 0)) :: (a, pm_ob 5 [.ref a1, .null, .null, .null, .null, .int 0]) :: ws)) from rfl]
  refine Exists.intro _ (And.intro (al_get (k := 2) nd5 rfl) (And.intro rfl ?_))
  rw [show pm_up (al A ((a4, pm_ia g 30 (fun _ => 0)) :: (a1, pm_ia g 30 (fun _ => 0)) :: (a, pm_ob 5 [.ref a1, .null, .null, .null, .null, .int 0]) :: ws)) a (pm_ob 5 (([.ref a1, .null, .null, .null, .null, .int 0] : List Value).set 1 (.ref a4))) = al A ((a4, pm_ia g 30 (fun _ => 0)) :: (a1, pm_ia g 30 (fun _ => 0)) :: (a, pm_ob 5 [.ref a1, .ref a4, .null, .null, .null, .int 0]) :: ws) from al_set (k := 2) nd5 rfl rfl]
  have nd6 : (List.map Prod.fst ((a4, pm_ia g 30 (fun _ => 0)) :: (a1, pm_ia g 30 (fun _ => 0)) :: (a, pm_ob 5 [.ref a1, .ref a4, .null, .null, .null, .int 0]) :: ws)).Nodup := nd5
  refine And.intro rfl (And.intro rfl (fun a7 h7 => ?_))
  have g8 := al_none h7
  have nd8 : (List.map Prod.fst ((a7, pm_ia g 30 (fun _ => 0)) :: ((a4, pm_ia g 30 (fun _ => 0)) :: (a1, pm_ia g 30 (fun _ => 0)) :: (a, pm_ob 5 [.ref a1, .ref a4, .null, .null, .null, .int 0]) :: ws))).Nodup := al_nd nd6 h7
  rw [show pm_up (al A ((a4, pm_ia g 30 (fun _ => 0)) :: (a1, pm_ia g 30 (fun _ => 0)) :: (a, pm_ob 5 [.ref a1, .ref a4, .null, .null, .null, .int 0]) :: ws)) a7 (pm_ia g 30 (fun _ => 0)) = al A ((a7, pm_ia g 30 (fun _ => 0)) :: ((a4, pm_ia g 30 (fun _ => 0)) :: (a1, pm_ia g 30 (fun _ => 0)) :: (a, pm_ob 5 [.ref a1, .ref a4, .null, .null, .null, .int 0]) :: ws)) from rfl]
  refine Exists.intro _ (And.intro (al_get (k := 3) nd8 rfl) (And.intro rfl ?_))
  rw [show pm_up (al A ((a7, pm_ia g 30 (fun _ => 0)) :: (a4, pm_ia g 30 (fun _ => 0)) :: (a1, pm_ia g 30 (fun _ => 0)) :: (a, pm_ob 5 [.ref a1, .ref a4, .null, .null, .null, .int 0]) :: ws)) a (pm_ob 5 (([.ref a1, .ref a4, .null, .null, .null, .int 0] : List Value).set 2 (.ref a7))) = al A ((a7, pm_ia g 30 (fun _ => 0)) :: (a4, pm_ia g 30 (fun _ => 0)) :: (a1, pm_ia g 30 (fun _ => 0)) :: (a, pm_ob 5 [.ref a1, .ref a4, .ref a7, .null, .null, .int 0]) :: ws) from al_set (k := 3) nd8 rfl rfl]
  have nd9 : (List.map Prod.fst ((a7, pm_ia g 30 (fun _ => 0)) :: (a4, pm_ia g 30 (fun _ => 0)) :: (a1, pm_ia g 30 (fun _ => 0)) :: (a, pm_ob 5 [.ref a1, .ref a4, .ref a7, .null, .null, .int 0]) :: ws)).Nodup := nd8
  refine And.intro rfl (And.intro rfl (fun a10 h10 => ?_))
  have g11 := al_none h10
  have nd11 : (List.map Prod.fst ((a10, pm_ia g 30 (fun _ => 0)) :: ((a7, pm_ia g 30 (fun _ => 0)) :: (a4, pm_ia g 30 (fun _ => 0)) :: (a1, pm_ia g 30 (fun _ => 0)) :: (a, pm_ob 5 [.ref a1, .ref a4, .ref a7, .null, .null, .int 0]) :: ws))).Nodup := al_nd nd9 h10
  rw [show pm_up (al A ((a7, pm_ia g 30 (fun _ => 0)) :: (a4, pm_ia g 30 (fun _ => 0)) :: (a1, pm_ia g 30 (fun _ => 0)) :: (a, pm_ob 5 [.ref a1, .ref a4, .ref a7, .null, .null, .int 0]) :: ws)) a10 (pm_ia g 30 (fun _ => 0)) = al A ((a10, pm_ia g 30 (fun _ => 0)) :: ((a7, pm_ia g 30 (fun _ => 0)) :: (a4, pm_ia g 30 (fun _ => 0)) :: (a1, pm_ia g 30 (fun _ => 0)) :: (a, pm_ob 5 [.ref a1, .ref a4, .ref a7, .null, .null, .int 0]) :: ws)) from rfl]
  refine Exists.intro _ (And.intro (al_get (k := 4) nd11 rfl) (And.intro rfl ?_))
  rw [show pm_up (al A ((a10, pm_ia g 30 (fun _ => 0)) :: (a7, pm_ia g 30 (fun _ => 0)) :: (a4, pm_ia g 30 (fun _ => 0)) :: (a1, pm_ia g 30 (fun _ => 0)) :: (a, pm_ob 5 [.ref a1, .ref a4, .ref a7, .null, .null, .int 0]) :: ws)) a (pm_ob 5 (([.ref a1, .ref a4, .ref a7, .null, .null, .int 0] : List Value).set 3 (.ref a10))) = al A ((a10, pm_ia g 30 (fun _ => 0)) :: (a7, pm_ia g 30 (fun _ => 0)) :: (a4, pm_ia g 30 (fun _ => 0)) :: (a1, pm_ia g 30 (fun _ => 0)) :: (a, pm_ob 5 [.ref a1, .ref a4, .ref a7, .ref a10, .null, .int 0]) :: ws) from al_set (k := 4) nd11 rfl rfl]
  have nd12 : (List.map Prod.fst ((a10, pm_ia g 30 (fun _ => 0)) :: (a7, pm_ia g 30 (fun _ => 0)) :: (a4, pm_ia g 30 (fun _ => 0)) :: (a1, pm_ia g 30 (fun _ => 0)) :: (a, pm_ob 5 [.ref a1, .ref a4, .ref a7, .ref a10, .null, .int 0]) :: ws)).Nodup := nd11
  refine And.intro rfl (And.intro rfl (fun a13 h13 => ?_))
  have g14 := al_none h13
  have nd14 : (List.map Prod.fst ((a13, pm_ia g 30 (fun _ => 0)) :: ((a10, pm_ia g 30 (fun _ => 0)) :: (a7, pm_ia g 30 (fun _ => 0)) :: (a4, pm_ia g 30 (fun _ => 0)) :: (a1, pm_ia g 30 (fun _ => 0)) :: (a, pm_ob 5 [.ref a1, .ref a4, .ref a7, .ref a10, .null, .int 0]) :: ws))).Nodup := al_nd nd12 h13
  rw [show pm_up (al A ((a10, pm_ia g 30 (fun _ => 0)) :: (a7, pm_ia g 30 (fun _ => 0)) :: (a4, pm_ia g 30 (fun _ => 0)) :: (a1, pm_ia g 30 (fun _ => 0)) :: (a, pm_ob 5 [.ref a1, .ref a4, .ref a7, .ref a10, .null, .int 0]) :: ws)) a13 (pm_ia g 30 (fun _ => 0)) = al A ((a13, pm_ia g 30 (fun _ => 0)) :: ((a10, pm_ia g 30 (fun _ => 0)) :: (a7, pm_ia g 30 (fun _ => 0)) :: (a4, pm_ia g 30 (fun _ => 0)) :: (a1, pm_ia g 30 (fun _ => 0)) :: (a, pm_ob 5 [.ref a1, .ref a4, .ref a7, .ref a10, .null, .int 0]) :: ws)) from rfl]
  refine Exists.intro _ (And.intro (al_get (k := 5) nd14 rfl) (And.intro rfl ?_))
  rw [show pm_up (al A ((a13, pm_ia g 30 (fun _ => 0)) :: (a10, pm_ia g 30 (fun _ => 0)) :: (a7, pm_ia g 30 (fun _ => 0)) :: (a4, pm_ia g 30 (fun _ => 0)) :: (a1, pm_ia g 30 (fun _ => 0)) :: (a, pm_ob 5 [.ref a1, .ref a4, .ref a7, .ref a10, .null, .int 0]) :: ws)) a (pm_ob 5 (([.ref a1, .ref a4, .ref a7, .ref a10, .null, .int 0] : List Value).set 4 (.ref a13))) = al A ((a13, pm_ia g 30 (fun _ => 0)) :: (a10, pm_ia g 30 (fun _ => 0)) :: (a7, pm_ia g 30 (fun _ => 0)) :: (a4, pm_ia g 30 (fun _ => 0)) :: (a1, pm_ia g 30 (fun _ => 0)) :: (a, pm_ob 5 [.ref a1, .ref a4, .ref a7, .ref a10, .ref a13, .int 0]) :: ws) from al_set (k := 5) nd14 rfl rfl]
  have nd15 : (List.map Prod.fst ((a13, pm_ia g 30 (fun _ => 0)) :: (a10, pm_ia g 30 (fun _ => 0)) :: (a7, pm_ia g 30 (fun _ => 0)) :: (a4, pm_ia g 30 (fun _ => 0)) :: (a1, pm_ia g 30 (fun _ => 0)) :: (a, pm_ob 5 [.ref a1, .ref a4, .ref a7, .ref a10, .ref a13, .int 0]) :: ws)).Nodup := nd14
  exact ⟨rfl, rfl, rfl, a1, a4, a7, a10, a13, rfl, nd15, g2.2, g5.2, g8.2, g11.2, g14.2⟩
end
end
section
noncomputable def cw_e0 : Nat → Nat → Int32 := fun i => if i = 15 then (fun j => if j < 24 then 1 else 0) else fun _ => 0
noncomputable def cw_pi (i : Nat) : Nat := ([43, 42, 34, 31, 28, 24, 22, 18, 16, 5, 41, 15, 40, 39, 33, 32, 30, 29, 27, 26, 25, 23, 21, 20, 19, 17, 14, 13, 12, 11, 10, 9, 8, 7, 6, 4, 3, 2, 1, 0, 38, 37, 36, 35] : List Nat).getD i 0
theorem cw_pi_lt : ∀ i, i < 44 → cw_pi i < 44 := by decide +kernel
theorem cw_pi_inj : ∀ i, i < 44 → ∀ j, j < 44 → cw_pi i = cw_pi j → i = j := by decide +kernel
theorem cw_I0 {q : Nat → Nat} (D : gw_D 44 q) : cw_I 1 40 40 q (fun _ => 0) cw_e0 := ⟨D, by unfold cw_W; decide, fun _ _ _ => (by decide : 0 ≤ (0 : Int32).toInt ∧ (0 : Int32).toInt ≤ 160), fun o h1 _ j => by
  have e1 : cw_e0 (o + 1) j = 0 := by unfold cw_e0; rw [if_neg (by omega)]
  have e3 : cw_e0 (o + 3) j = 0 := by unfold cw_e0; rw [if_neg (by omega)]
  rw [e1, e3]; decide⟩
theorem cw_S0 : cw_S (fun _ => 0) (fun _ _ => 0) := ⟨by decide, fun _ => (by decide : 0 ≤ (0 : Int32).toInt ∧ (0 : Int32).toInt ≤ 23), fun _ => (by decide : -1 ≤ (0 : Int32).toInt ∧ (0 : Int32).toInt ≤ 159)⟩
set_option maxRecDepth 100000 in
set_option maxHeartbeats 4000000 in
theorem cw_init_of {A : pm_H} {g : pm_G} {a : Nat} {a1 : Nat} {a1_3 : Nat} {a4_3 : Nat} {a7_3 : Nat} {a10_3 : Nat} {a1_12_3 : Nat} {a4_12_3 : Nat} {a7_12_3 : Nat} {a5 : Nat} {a1_7 : Nat} {a4_7 : Nat} {a9 : Nat} {a1_11 : Nat} {a4_11 : Nat} {a13 : Nat} {a1_15 : Nat} {a4_15 : Nat} {a7_15 : Nat} {a17 : Nat} {a1_19 : Nat} {a21 : Nat} {a1_23 : Nat} {a4_23 : Nat} {a7_23 : Nat} {a25 : Nat} {a1_27 : Nat} {a29 : Nat} {a1_31 : Nat} {r1_31 : Nat → Nat} {a33 : Nat} {a1_35 : Nat} {a4_35 : Nat} {a7_35 : Nat} {a10_35 : Nat} {a13_35 : Nat} (nd : (List.map Prod.fst ((a13_35, pm_ia g 30 (fun _ => 0)) :: (a10_35, pm_ia g 30 (fun _ => 0)) :: (a7_35, pm_ia g 30 (fun _ => 0)) :: (a4_35, pm_ia g 30 (fun _ => 0)) :: (a1_35, pm_ia g 30 (fun _ => 0)) :: (a33, pm_ob 5 [.ref a1_35, .ref a4_35, .ref a7_35, .ref a10_35, .ref a13_35, .int 0]) :: ((r1_31 8), pm_ia g 161 (fun _ => 0)) :: ((r1_31 7), pm_ia g 161 (fun _ => 0)) :: ((r1_31 6), pm_ia g 161 (fun _ => 0)) :: ((r1_31 5), pm_ia g 161 (fun _ => 0)) :: ((r1_31 4), pm_ia g 161 (fun _ => 0)) :: ((r1_31 3), pm_ia g 161 (fun _ => 0)) :: ((r1_31 2), pm_ia g 161 (fun _ => 0)) :: ((r1_31 1), pm_ia g 161 (fun _ => 0)) :: ((r1_31 0), pm_ia g 161 (fun _ => 0)) :: (a1_31, pm_ma g 9 (fun j => if j < 9 then some (r1_31 j) else none)) :: (a29, pm_ob 3 [.ref a1_31]) :: (a1_27, pm_ia g 160 (fun _ => 0)) :: (a25, pm_ob 4 [.ref a1_27, .int 0, .int 0]) :: (a7_23, pm_ia g 24 (fun _ => 0)) :: (a4_23, pm_ia g 24 (fun _ => 0)) :: (a1_23, pm_ia g 160 (fun _ => 0)) :: (a21, pm_ob 8 [.ref a1_23, .ref a4_23, .ref a7_23, .int 0, .int 0]) :: (a1_19, pm_ia g 24 (fun _ => 0)) :: (a17, pm_ob 6 [.ref a1_19, .int 0, .int 0, .int 0, .int 0]) :: (a7_15, pm_ia g 24 (fun _ => 0)) :: (a4_15, pm_ia g 24 (fun _ => 0)) :: (a1_15, pm_ia g 160 (fun _ => 0)) :: (a13, pm_ob 1 [.ref a1_15, .ref a4_15, .ref a7_15, .int 0, .int 0]) :: (a4_11, pm_ia g 160 (fun _ => 0)) :: (a1_11, pm_ia g 24 (fun _ => 0)) :: (a9, pm_ob 0 [.ref a1_11, .ref a4_11, .int 0]) :: (a4_7, pm_ia g 24 (fun j => if j < 24 then (1 : Int32) else 0)) :: (a1_7, pm_ia g 24 (fun _ => 0)) :: (a5, pm_ob 2 [.ref a1_7, .ref a4_7, .int 0, .int 0, .int 0, .int 0]) :: (a7_12_3, pm_ia g 160 (fun _ => 0)) :: (a4_12_3, pm_ia g 160 (fun _ => 0)) :: (a1_12_3, pm_ia g 160 (fun _ => 0)) :: (a10_3, pm_ob 7 [.ref a1_12_3, .ref a4_12_3, .ref a7_12_3, .int 0, .int 0]) :: (a7_3, pm_ia g 24 (fun _ => 0)) :: (a4_3, pm_ia g 160 (fun _ => 0)) :: (a1_3, pm_ra g 41 (va_up (fun _ => none) (0 : Int32).toInt.toNat (some a10_3))) :: (a1, pm_ob 9 [.ref a1_3, .ref a4_3, .ref a7_3, .ref a10_3, .ref a10_3, .int 0, .int 0, .int 0]) :: (a, pm_ob 10 [.ref a1, .ref a5, .ref a9, .ref a13, .ref a17, .ref a21, .ref a25, .ref a29, .ref a33]) :: [])).Nodup) (f0 : A a1 = none) (f1 : A a1_3 = none) (f2 : A a4_3 = none) (f3 : A a7_3 = none) (f4 : A a10_3 = none) (f5 : A a1_12_3 = none) (f6 : A a4_12_3 = none) (f7 : A a7_12_3 = none) (f8 : A a5 = none) (f9 : A a1_7 = none) (f10 : A a4_7 = none) (f11 : A a9 = none) (f12 : A a1_11 = none) (f13 : A a4_11 = none) (f14 : A a13 = none) (f15 : A a1_15 = none) (f16 : A a4_15 = none) (f17 : A a7_15 = none) (f18 : A a17 = none) (f19 : A a1_19 = none) (f20 : A a21 = none) (f21 : A a1_23 = none) (f22 : A a4_23 = none) (f23 : A a7_23 = none) (f24 : A a25 = none) (f25 : A a1_27 = none) (f26 : A a29 = none) (f27 : A a1_31 = none) (f28 : A (r1_31 0) = none) (f29 : A (r1_31 1) = none) (f30 : A (r1_31 2) = none) (f31 : A (r1_31 3) = none) (f32 : A (r1_31 4) = none) (f33 : A (r1_31 5) = none) (f34 : A (r1_31 6) = none) (f35 : A (r1_31 7) = none) (f36 : A (r1_31 8) = none) (f37 : A a33 = none) (f38 : A a1_35 = none) (f39 : A a4_35 = none) (f40 : A a7_35 = none) (f41 : A a10_35 = none) (f42 : A a13_35 = none) : ∃ q : Nat → Nat, q 0 = a ∧ al A ((a13_35, pm_ia g 30 (fun _ => 0)) :: (a10_35, pm_ia g 30 (fun _ => 0)) :: (a7_35, pm_ia g 30 (fun _ => 0)) :: (a4_35, pm_ia g 30 (fun _ => 0)) :: (a1_35, pm_ia g 30 (fun _ => 0)) :: (a33, pm_ob 5 [.ref a1_35, .ref a4_35, .ref a7_35, .ref a10_35, .ref a13_35, .int 0]) :: ((r1_31 8), pm_ia g 161 (fun _ => 0)) :: ((r1_31 7), pm_ia g 161 (fun _ => 0)) :: ((r1_31 6), pm_ia g 161 (fun _ => 0)) :: ((r1_31 5), pm_ia g 161 (fun _ => 0)) :: ((r1_31 4), pm_ia g 161 (fun _ => 0)) :: ((r1_31 3), pm_ia g 161 (fun _ => 0)) :: ((r1_31 2), pm_ia g 161 (fun _ => 0)) :: ((r1_31 1), pm_ia g 161 (fun _ => 0)) :: ((r1_31 0), pm_ia g 161 (fun _ => 0)) :: (a1_31, pm_ma g 9 (fun j => if j < 9 then some (r1_31 j) else none)) :: (a29, pm_ob 3 [.ref a1_31]) :: (a1_27, pm_ia g 160 (fun _ => 0)) :: (a25, pm_ob 4 [.ref a1_27, .int 0, .int 0]) :: (a7_23, pm_ia g 24 (fun _ => 0)) :: (a4_23, pm_ia g 24 (fun _ => 0)) :: (a1_23, pm_ia g 160 (fun _ => 0)) :: (a21, pm_ob 8 [.ref a1_23, .ref a4_23, .ref a7_23, .int 0, .int 0]) :: (a1_19, pm_ia g 24 (fun _ => 0)) :: (a17, pm_ob 6 [.ref a1_19, .int 0, .int 0, .int 0, .int 0]) :: (a7_15, pm_ia g 24 (fun _ => 0)) :: (a4_15, pm_ia g 24 (fun _ => 0)) :: (a1_15, pm_ia g 160 (fun _ => 0)) :: (a13, pm_ob 1 [.ref a1_15, .ref a4_15, .ref a7_15, .int 0, .int 0]) :: (a4_11, pm_ia g 160 (fun _ => 0)) :: (a1_11, pm_ia g 24 (fun _ => 0)) :: (a9, pm_ob 0 [.ref a1_11, .ref a4_11, .int 0]) :: (a4_7, pm_ia g 24 (fun j => if j < 24 then (1 : Int32) else 0)) :: (a1_7, pm_ia g 24 (fun _ => 0)) :: (a5, pm_ob 2 [.ref a1_7, .ref a4_7, .int 0, .int 0, .int 0, .int 0]) :: (a7_12_3, pm_ia g 160 (fun _ => 0)) :: (a4_12_3, pm_ia g 160 (fun _ => 0)) :: (a1_12_3, pm_ia g 160 (fun _ => 0)) :: (a10_3, pm_ob 7 [.ref a1_12_3, .ref a4_12_3, .ref a7_12_3, .int 0, .int 0]) :: (a7_3, pm_ia g 24 (fun _ => 0)) :: (a4_3, pm_ia g 160 (fun _ => 0)) :: (a1_3, pm_ra g 41 (va_up (fun _ => none) (0 : Int32).toInt.toNat (some a10_3))) :: (a1, pm_ob 9 [.ref a1_3, .ref a4_3, .ref a7_3, .ref a10_3, .ref a10_3, .int 0, .int 0, .int 0]) :: (a, pm_ob 10 [.ref a1, .ref a5, .ref a9, .ref a13, .ref a17, .ref a21, .ref a25, .ref a29, .ref a33]) :: []) = cw A g 1 40 40 q (fun _ => 0) cw_e0 (fun _ => 0) (fun _ _ => 0) ∧ gw_D 44 q ∧ ∀ i, 0 < i → i < 44 → A (q i) = none := by
  obtain ⟨q, eq⟩ : ∃ q : Nat → Nat, q = fun i => (List.map Prod.fst ((a13_35, pm_ia g 30 (fun _ => 0)) :: (a10_35, pm_ia g 30 (fun _ => 0)) :: (a7_35, pm_ia g 30 (fun _ => 0)) :: (a4_35, pm_ia g 30 (fun _ => 0)) :: (a1_35, pm_ia g 30 (fun _ => 0)) :: (a33, pm_ob 5 [.ref a1_35, .ref a4_35, .ref a7_35, .ref a10_35, .ref a13_35, .int 0]) :: ((r1_31 8), pm_ia g 161 (fun _ => 0)) :: ((r1_31 7), pm_ia g 161 (fun _ => 0)) :: ((r1_31 6), pm_ia g 161 (fun _ => 0)) :: ((r1_31 5), pm_ia g 161 (fun _ => 0)) :: ((r1_31 4), pm_ia g 161 (fun _ => 0)) :: ((r1_31 3), pm_ia g 161 (fun _ => 0)) :: ((r1_31 2), pm_ia g 161 (fun _ => 0)) :: ((r1_31 1), pm_ia g 161 (fun _ => 0)) :: ((r1_31 0), pm_ia g 161 (fun _ => 0)) :: (a1_31, pm_ma g 9 (fun j => if j < 9 then some (r1_31 j) else none)) :: (a29, pm_ob 3 [.ref a1_31]) :: (a1_27, pm_ia g 160 (fun _ => 0)) :: (a25, pm_ob 4 [.ref a1_27, .int 0, .int 0]) :: (a7_23, pm_ia g 24 (fun _ => 0)) :: (a4_23, pm_ia g 24 (fun _ => 0)) :: (a1_23, pm_ia g 160 (fun _ => 0)) :: (a21, pm_ob 8 [.ref a1_23, .ref a4_23, .ref a7_23, .int 0, .int 0]) :: (a1_19, pm_ia g 24 (fun _ => 0)) :: (a17, pm_ob 6 [.ref a1_19, .int 0, .int 0, .int 0, .int 0]) :: (a7_15, pm_ia g 24 (fun _ => 0)) :: (a4_15, pm_ia g 24 (fun _ => 0)) :: (a1_15, pm_ia g 160 (fun _ => 0)) :: (a13, pm_ob 1 [.ref a1_15, .ref a4_15, .ref a7_15, .int 0, .int 0]) :: (a4_11, pm_ia g 160 (fun _ => 0)) :: (a1_11, pm_ia g 24 (fun _ => 0)) :: (a9, pm_ob 0 [.ref a1_11, .ref a4_11, .int 0]) :: (a4_7, pm_ia g 24 (fun j => if j < 24 then (1 : Int32) else 0)) :: (a1_7, pm_ia g 24 (fun _ => 0)) :: (a5, pm_ob 2 [.ref a1_7, .ref a4_7, .int 0, .int 0, .int 0, .int 0]) :: (a7_12_3, pm_ia g 160 (fun _ => 0)) :: (a4_12_3, pm_ia g 160 (fun _ => 0)) :: (a1_12_3, pm_ia g 160 (fun _ => 0)) :: (a10_3, pm_ob 7 [.ref a1_12_3, .ref a4_12_3, .ref a7_12_3, .int 0, .int 0]) :: (a7_3, pm_ia g 24 (fun _ => 0)) :: (a4_3, pm_ia g 160 (fun _ => 0)) :: (a1_3, pm_ra g 41 (va_up (fun _ => none) (0 : Int32).toInt.toNat (some a10_3))) :: (a1, pm_ob 9 [.ref a1_3, .ref a4_3, .ref a7_3, .ref a10_3, .ref a10_3, .int 0, .int 0, .int 0]) :: (a, pm_ob 10 [.ref a1, .ref a5, .ref a9, .ref a13, .ref a17, .ref a21, .ref a25, .ref a29, .ref a33]) :: [])).getD (cw_pi i) 0 := ⟨_, rfl⟩
  have q0 : q 0 = a := by rw [eq]; rfl
  have q1 : q 1 = a1 := by rw [eq]; rfl
  have q2 : q 2 = a5 := by rw [eq]; rfl
  have q3 : q 3 = a9 := by rw [eq]; rfl
  have q4 : q 4 = a13 := by rw [eq]; rfl
  have q5 : q 5 = a17 := by rw [eq]; rfl
  have q6 : q 6 = a21 := by rw [eq]; rfl
  have q7 : q 7 = a25 := by rw [eq]; rfl
  have q8 : q 8 = a29 := by rw [eq]; rfl
  have q9 : q 9 = a33 := by rw [eq]; rfl
  have q10 : q 10 = a1_3 := by rw [eq]; rfl
  have q11 : q 11 = a1_31 := by rw [eq]; rfl
  have q12 : q 12 = a4_3 := by rw [eq]; rfl
  have q13 : q 13 = a7_3 := by rw [eq]; rfl
  have q14 : q 14 = a1_7 := by rw [eq]; rfl
  have q15 : q 15 = a4_7 := by rw [eq]; rfl
  have q16 : q 16 = a1_11 := by rw [eq]; rfl
  have q17 : q 17 = a4_11 := by rw [eq]; rfl
  have q18 : q 18 = a1_15 := by rw [eq]; rfl
  have q19 : q 19 = a4_15 := by rw [eq]; rfl
  have q20 : q 20 = a7_15 := by rw [eq]; rfl
  have q21 : q 21 = a1_19 := by rw [eq]; rfl
  have q22 : q 22 = a1_23 := by rw [eq]; rfl
  have q23 : q 23 = a4_23 := by rw [eq]; rfl
  have q24 : q 24 = a7_23 := by rw [eq]; rfl
  have q25 : q 25 = a1_27 := by rw [eq]; rfl
  have q26 : q 26 = (r1_31 0) := by rw [eq]; rfl
  have q27 : q 27 = (r1_31 1) := by rw [eq]; rfl
  have q28 : q 28 = (r1_31 2) := by rw [eq]; rfl
  have q29 : q 29 = (r1_31 3) := by rw [eq]; rfl
  have q30 : q 30 = (r1_31 4) := by rw [eq]; rfl
  have q31 : q 31 = (r1_31 5) := by rw [eq]; rfl
  have q32 : q 32 = (r1_31 6) := by rw [eq]; rfl
  have q33 : q 33 = (r1_31 7) := by rw [eq]; rfl
  have q34 : q 34 = (r1_31 8) := by rw [eq]; rfl
  have q35 : q 35 = a1_35 := by rw [eq]; rfl
  have q36 : q 36 = a4_35 := by rw [eq]; rfl
  have q37 : q 37 = a7_35 := by rw [eq]; rfl
  have q38 : q 38 = a10_35 := by rw [eq]; rfl
  have q39 : q 39 = a13_35 := by rw [eq]; rfl
  have q40 : q 40 = a10_3 := by rw [eq]; rfl
  have q41 : q 41 = a1_12_3 := by rw [eq]; rfl
  have q42 : q 42 = a4_12_3 := by rw [eq]; rfl
  have q43 : q 43 = a7_12_3 := by rw [eq]; rfl
  refine ⟨q, q0, ?_, ?_, ?_⟩
  · refine gw_char (fun i hi => ?_) (fun x hx => ?_)
    · rcases (show i = 0 ∨ i = 1 ∨ i = 2 ∨ i = 3 ∨ i = 4 ∨ i = 5 ∨ i = 6 ∨ i = 7 ∨ i = 8 ∨ i = 9 ∨ i = 10 ∨ i = 11 ∨ i = 12 ∨ i = 13 ∨ i = 14 ∨ i = 15 ∨ i = 16 ∨ i = 17 ∨ i = 18 ∨ i = 19 ∨ i = 20 ∨ i = 21 ∨ i = 22 ∨ i = 23 ∨ i = 24 ∨ i = 25 ∨ i = 26 ∨ i = 27 ∨ i = 28 ∨ i = 29 ∨ i = 30 ∨ i = 31 ∨ i = 32 ∨ i = 33 ∨ i = 34 ∨ i = 35 ∨ i = 36 ∨ i = 37 ∨ i = 38 ∨ i = 39 ∨ i = 40 ∨ i = 41 ∨ i = 42 ∨ i = 43 by omega) with rfl | rfl | rfl | rfl | rfl | rfl | rfl | rfl | rfl | rfl | rfl | rfl | rfl | rfl | rfl | rfl | rfl | rfl | rfl | rfl | rfl | rfl | rfl | rfl | rfl | rfl | rfl | rfl | rfl | rfl | rfl | rfl | rfl | rfl | rfl | rfl | rfl | rfl | rfl | rfl | rfl | rfl | rfl | rfl
      · rw [q0]
        refine (al_get (k := 43) nd rfl).trans (congrArg some ?_)
        rw [← q1, ← q2, ← q3, ← q4, ← q5, ← q6, ← q7, ← q8, ← q9]
        rfl
      · rw [q1]
        refine (al_get (k := 42) nd rfl).trans (congrArg some ?_)
        rw [← q10, ← q12, ← q13, ← q40]
        rfl
      · rw [q2]
        refine (al_get (k := 34) nd rfl).trans (congrArg some ?_)
        rw [← q14, ← q15]
        rfl
      · rw [q3]
        refine (al_get (k := 31) nd rfl).trans (congrArg some ?_)
        rw [← q16, ← q17]
        rfl
      · rw [q4]
        refine (al_get (k := 28) nd rfl).trans (congrArg some ?_)
        rw [← q18, ← q19, ← q20]
        rfl
      · rw [q5]
        refine (al_get (k := 24) nd rfl).trans (congrArg some ?_)
        rw [← q21]
        rfl
      · rw [q6]
        refine (al_get (k := 22) nd rfl).trans (congrArg some ?_)
        rw [← q22, ← q23, ← q24]
        rfl
      · rw [q7]
        refine (al_get (k := 18) nd rfl).trans (congrArg some ?_)
        rw [← q25]
        rfl
      · rw [q8]
        refine (al_get (k := 16) nd rfl).trans (congrArg some ?_)
        rw [← q11]
        rfl
      · rw [q9]
        refine (al_get (k := 5) nd rfl).trans (congrArg some ?_)
        rw [← q35, ← q36, ← q37, ← q38, ← q39]
        rfl
      · rw [q10]
        refine (al_get (k := 41) nd rfl).trans (congrArg some ?_)
        show pm_ra g 41 _ = pm_ra g 41 (cw_rr 1 q)
        have e9 : (va_up (fun _ => none) (0 : Int32).toInt.toNat (some a10_3) : Nat → Option Nat) = cw_rr 1 q := by
          funext j
          unfold cw_rr
          by_cases hj : j = 0
          · subst hj
            rw [if_pos (by decide), q40]
            rfl
          · rw [if_neg (by omega)]
            have hz : (0 : Int32).toInt.toNat = 0 := rfl
            simp [va_up, hz, hj]
        rw [e9]
      · rw [q11]
        refine (al_get (k := 15) nd rfl).trans (congrArg some ?_)
        show pm_ma g 9 _ = pm_ma g 9 (cw_ww q)
        have e9 : (fun j => if j < 9 then some (r1_31 j) else none : Nat → Option Nat) = cw_ww q := by
          funext j
          unfold cw_ww
          by_cases hj : j < 9
          · rw [if_pos hj, if_pos hj]
            rcases (show j = 0 ∨ j = 1 ∨ j = 2 ∨ j = 3 ∨ j = 4 ∨ j = 5 ∨ j = 6 ∨ j = 7 ∨ j = 8 by omega) with rfl | rfl | rfl | rfl | rfl | rfl | rfl | rfl | rfl
            · rw [q26]
            · rw [q27]
            · rw [q28]
            · rw [q29]
            · rw [q30]
            · rw [q31]
            · rw [q32]
            · rw [q33]
            · rw [q34]
          · rw [if_neg hj, if_neg hj]
        rw [e9]
      · rw [q12]
        refine (al_get (k := 40) nd rfl).trans (congrArg some ?_)
        rfl
      · rw [q13]
        refine (al_get (k := 39) nd rfl).trans (congrArg some ?_)
        rfl
      · rw [q14]
        refine (al_get (k := 33) nd rfl).trans (congrArg some ?_)
        rfl
      · rw [q15]
        refine (al_get (k := 32) nd rfl).trans (congrArg some ?_)
        rfl
      · rw [q16]
        refine (al_get (k := 30) nd rfl).trans (congrArg some ?_)
        rfl
      · rw [q17]
        refine (al_get (k := 29) nd rfl).trans (congrArg some ?_)
        rfl
      · rw [q18]
        refine (al_get (k := 27) nd rfl).trans (congrArg some ?_)
        rfl
      · rw [q19]
        refine (al_get (k := 26) nd rfl).trans (congrArg some ?_)
        rfl
      · rw [q20]
        refine (al_get (k := 25) nd rfl).trans (congrArg some ?_)
        rfl
      · rw [q21]
        refine (al_get (k := 23) nd rfl).trans (congrArg some ?_)
        rfl
      · rw [q22]
        refine (al_get (k := 21) nd rfl).trans (congrArg some ?_)
        rfl
      · rw [q23]
        refine (al_get (k := 20) nd rfl).trans (congrArg some ?_)
        rfl
      · rw [q24]
        refine (al_get (k := 19) nd rfl).trans (congrArg some ?_)
        rfl
      · rw [q25]
        refine (al_get (k := 17) nd rfl).trans (congrArg some ?_)
        rfl
      · rw [q26]
        refine (al_get (k := 14) nd rfl).trans (congrArg some ?_)
        rfl
      · rw [q27]
        refine (al_get (k := 13) nd rfl).trans (congrArg some ?_)
        rfl
      · rw [q28]
        refine (al_get (k := 12) nd rfl).trans (congrArg some ?_)
        rfl
      · rw [q29]
        refine (al_get (k := 11) nd rfl).trans (congrArg some ?_)
        rfl
      · rw [q30]
        refine (al_get (k := 10) nd rfl).trans (congrArg some ?_)
        rfl
      · rw [q31]
        refine (al_get (k := 9) nd rfl).trans (congrArg some ?_)
        rfl
      · rw [q32]
        refine (al_get (k := 8) nd rfl).trans (congrArg some ?_)
        rfl
      · rw [q33]
        refine (al_get (k := 7) nd rfl).trans (congrArg some ?_)
        rfl
      · rw [q34]
        refine (al_get (k := 6) nd rfl).trans (congrArg some ?_)
        rfl
      · rw [q35]
        refine (al_get (k := 4) nd rfl).trans (congrArg some ?_)
        rfl
      · rw [q36]
        refine (al_get (k := 3) nd rfl).trans (congrArg some ?_)
        rfl
      · rw [q37]
        refine (al_get (k := 2) nd rfl).trans (congrArg some ?_)
        rfl
      · rw [q38]
        refine (al_get (k := 1) nd rfl).trans (congrArg some ?_)
        rfl
      · rw [q39]
        refine (al_get (k := 0) nd rfl).trans (congrArg some ?_)
        rfl
      · rw [q40]
        refine (al_get (k := 38) nd rfl).trans (congrArg some ?_)
        rw [← q41, ← q42, ← q43]
        rfl
      · rw [q41]
        refine (al_get (k := 37) nd rfl).trans (congrArg some ?_)
        rfl
      · rw [q42]
        refine (al_get (k := 36) nd rfl).trans (congrArg some ?_)
        rfl
      · rw [q43]
        refine (al_get (k := 35) nd rfl).trans (congrArg some ?_)
        rfl
    · refine al_out (List.forall_mem_cons.mpr ⟨by have h9 := hx 39 (by decide); rw [q39] at h9; exact h9, List.forall_mem_cons.mpr ⟨by have h9 := hx 38 (by decide); rw [q38] at h9; exact h9, List.forall_mem_cons.mpr ⟨by have h9 := hx 37 (by decide); rw [q37] at h9; exact h9, List.forall_mem_cons.mpr ⟨by have h9 := hx 36 (by decide); rw [q36] at h9; exact h9, List.forall_mem_cons.mpr ⟨by have h9 := hx 35 (by decide); rw [q35] at h9; exact h9, List.forall_mem_cons.mpr ⟨by have h9 := hx 9 (by decide); rw [q9] at h9; exact h9, List.forall_mem_cons.mpr ⟨by have h9 := hx 34 (by decide); rw [q34] at h9; exact h9, List.forall_mem_cons.mpr ⟨by have h9 := hx 33 (by decide); rw [q33] at h9; exact h9, List.forall_mem_cons.mpr ⟨by have h9 := hx 32 (by decide); rw [q32] at h9; exact h9, List.forall_mem_cons.mpr ⟨by have h9 := hx 31 (by decide); rw [q31] at h9; exact h9, List.forall_mem_cons.mpr ⟨by have h9 := hx 30 (by decide); rw [q30] at h9; exact h9, List.forall_mem_cons.mpr ⟨by have h9 := hx 29 (by decide); rw [q29] at h9; exact h9, List.forall_mem_cons.mpr ⟨by have h9 := hx 28 (by decide); rw [q28] at h9; exact h9, List.forall_mem_cons.mpr ⟨by have h9 := hx 27 (by decide); rw [q27] at h9; exact h9, List.forall_mem_cons.mpr ⟨by have h9 := hx 26 (by decide); rw [q26] at h9; exact h9, List.forall_mem_cons.mpr ⟨by have h9 := hx 11 (by decide); rw [q11] at h9; exact h9, List.forall_mem_cons.mpr ⟨by have h9 := hx 8 (by decide); rw [q8] at h9; exact h9, List.forall_mem_cons.mpr ⟨by have h9 := hx 25 (by decide); rw [q25] at h9; exact h9, List.forall_mem_cons.mpr ⟨by have h9 := hx 7 (by decide); rw [q7] at h9; exact h9, List.forall_mem_cons.mpr ⟨by have h9 := hx 24 (by decide); rw [q24] at h9; exact h9, List.forall_mem_cons.mpr ⟨by have h9 := hx 23 (by decide); rw [q23] at h9; exact h9, List.forall_mem_cons.mpr ⟨by have h9 := hx 22 (by decide); rw [q22] at h9; exact h9, List.forall_mem_cons.mpr ⟨by have h9 := hx 6 (by decide); rw [q6] at h9; exact h9, List.forall_mem_cons.mpr ⟨by have h9 := hx 21 (by decide); rw [q21] at h9; exact h9, List.forall_mem_cons.mpr ⟨by have h9 := hx 5 (by decide); rw [q5] at h9; exact h9, List.forall_mem_cons.mpr ⟨by have h9 := hx 20 (by decide); rw [q20] at h9; exact h9, List.forall_mem_cons.mpr ⟨by have h9 := hx 19 (by decide); rw [q19] at h9; exact h9, List.forall_mem_cons.mpr ⟨by have h9 := hx 18 (by decide); rw [q18] at h9; exact h9, List.forall_mem_cons.mpr ⟨by have h9 := hx 4 (by decide); rw [q4] at h9; exact h9, List.forall_mem_cons.mpr ⟨by have h9 := hx 17 (by decide); rw [q17] at h9; exact h9, List.forall_mem_cons.mpr ⟨by have h9 := hx 16 (by decide); rw [q16] at h9; exact h9, List.forall_mem_cons.mpr ⟨by have h9 := hx 3 (by decide); rw [q3] at h9; exact h9, List.forall_mem_cons.mpr ⟨by have h9 := hx 15 (by decide); rw [q15] at h9; exact h9, List.forall_mem_cons.mpr ⟨by have h9 := hx 14 (by decide); rw [q14] at h9; exact h9, List.forall_mem_cons.mpr ⟨by have h9 := hx 2 (by decide); rw [q2] at h9; exact h9, List.forall_mem_cons.mpr ⟨by have h9 := hx 43 (by decide); rw [q43] at h9; exact h9, List.forall_mem_cons.mpr ⟨by have h9 := hx 42 (by decide); rw [q42] at h9; exact h9, List.forall_mem_cons.mpr ⟨by have h9 := hx 41 (by decide); rw [q41] at h9; exact h9, List.forall_mem_cons.mpr ⟨by have h9 := hx 40 (by decide); rw [q40] at h9; exact h9, List.forall_mem_cons.mpr ⟨by have h9 := hx 13 (by decide); rw [q13] at h9; exact h9, List.forall_mem_cons.mpr ⟨by have h9 := hx 12 (by decide); rw [q12] at h9; exact h9, List.forall_mem_cons.mpr ⟨by have h9 := hx 10 (by decide); rw [q10] at h9; exact h9, List.forall_mem_cons.mpr ⟨by have h9 := hx 1 (by decide); rw [q1] at h9; exact h9, List.forall_mem_cons.mpr ⟨by have h9 := hx 0 (by decide); rw [q0] at h9; exact h9, fun _ h9 => absurd h9 List.not_mem_nil⟩⟩⟩⟩⟩⟩⟩⟩⟩⟩⟩⟩⟩⟩⟩⟩⟩⟩⟩⟩⟩⟩⟩⟩⟩⟩⟩⟩⟩⟩⟩⟩⟩⟩⟩⟩⟩⟩⟩⟩⟩⟩⟩⟩)
  · intro i j hi hj hij
    rw [eq] at hij
    have h9 := (List.getD_inj (fallback := 0) (show cw_pi i < 44 from cw_pi_lt i hi) (show cw_pi j < 44 from cw_pi_lt j hj) nd).mp hij
    exact cw_pi_inj i hi j hj h9
  · intro i h0 hi
    rcases (show i = 1 ∨ i = 2 ∨ i = 3 ∨ i = 4 ∨ i = 5 ∨ i = 6 ∨ i = 7 ∨ i = 8 ∨ i = 9 ∨ i = 10 ∨ i = 11 ∨ i = 12 ∨ i = 13 ∨ i = 14 ∨ i = 15 ∨ i = 16 ∨ i = 17 ∨ i = 18 ∨ i = 19 ∨ i = 20 ∨ i = 21 ∨ i = 22 ∨ i = 23 ∨ i = 24 ∨ i = 25 ∨ i = 26 ∨ i = 27 ∨ i = 28 ∨ i = 29 ∨ i = 30 ∨ i = 31 ∨ i = 32 ∨ i = 33 ∨ i = 34 ∨ i = 35 ∨ i = 36 ∨ i = 37 ∨ i = 38 ∨ i = 39 ∨ i = 40 ∨ i = 41 ∨ i = 42 ∨ i = 43 by omega) with rfl | rfl | rfl | rfl | rfl | rfl | rfl | rfl | rfl | rfl | rfl | rfl | rfl | rfl | rfl | rfl | rfl | rfl | rfl | rfl | rfl | rfl | rfl | rfl | rfl | rfl | rfl | rfl | rfl | rfl | rfl | rfl | rfl | rfl | rfl | rfl | rfl | rfl | rfl | rfl | rfl | rfl | rfl
    · rw [q1]; exact f0
    · rw [q2]; exact f8
    · rw [q3]; exact f11
    · rw [q4]; exact f14
    · rw [q5]; exact f18
    · rw [q6]; exact f20
    · rw [q7]; exact f24
    · rw [q8]; exact f26
    · rw [q9]; exact f37
    · rw [q10]; exact f1
    · rw [q11]; exact f27
    · rw [q12]; exact f2
    · rw [q13]; exact f3
    · rw [q14]; exact f9
    · rw [q15]; exact f10
    · rw [q16]; exact f12
    · rw [q17]; exact f13
    · rw [q18]; exact f15
    · rw [q19]; exact f16
    · rw [q20]; exact f17
    · rw [q21]; exact f19
    · rw [q22]; exact f21
    · rw [q23]; exact f22
    · rw [q24]; exact f23
    · rw [q25]; exact f25
    · rw [q26]; exact f28
    · rw [q27]; exact f29
    · rw [q28]; exact f30
    · rw [q29]; exact f31
    · rw [q30]; exact f32
    · rw [q31]; exact f33
    · rw [q32]; exact f34
    · rw [q33]; exact f35
    · rw [q34]; exact f36
    · rw [q35]; exact f38
    · rw [q36]; exact f39
    · rw [q37]; exact f40
    · rw [q38]; exact f41
    · rw [q39]; exact f42
    · rw [q40]; exact f4
    · rw [q41]; exact f5
    · rw [q42]; exact f6
    · rw [q43]; exact f7
end
section
section
variable {l : Launch} {g : pm_G}
set_option maxRecDepth 100000 in
set_option maxHeartbeats 2000000 in
theorem ci_X10_q {A : pm_H} {a : Nat} (nd : (List.map Prod.fst ((a, pm_ob 10 (pm_df 10)) :: [])).Nodup) : pm_Mt l g 0 3 43 3192 [.ref a] (al A ((a, pm_ob 10 (pm_df 10)) :: [])) (fun r A9 => r = none ∧ ∃ q : Nat → Nat, q 0 = a ∧ A9 = cw A g 1 40 40 q (fun _ => 0) cw_e0 (fun _ => 0) (fun _ _ => 0) ∧ gw_D 44 q ∧ ∀ i, 0 < i → i < 44 → A (q i) = none) := by
  refine mt_X10_init rfl (fun J hC => ?_)
  refine hC.1 0 0 _ _ rfl _ _ _ _ _ ?_
  refine And.intro rfl ?_
  refine And.intro rfl (fun a1 h1 => ?_)
  have g2 := al_none h1
  have nd2 : (List.map Prod.fst ((a1, pm_ob 9 (pm_df 9)) :: ((a, pm_ob 10 (pm_df 10)) :: []))).Nodup := al_nd nd h1
  rw [show pm_up (al A ((a, pm_ob 10 (pm_df 10)) :: [])) a1 (pm_ob 9 (pm_df 9)) = al A ((a1, pm_ob 9 (pm_df 9)) :: ((a, pm_ob 10 (pm_df 10)) :: [])) from rfl]
  refine Exists.intro _ (Exists.intro _ (Exists.intro _ (Exists.intro _ (And.intro (ci_X9_init nd2) (And.intro rfl (fun r9 A9 h9 => ?_))))))
  obtain ⟨rfl, a1_3, a4_3, a7_3, a10_3, a1_12_3, a4_12_3, a7_12_3, rfl, nd3, f3_0, f3_1, f3_2, f3_3, f3_4, f3_5, f3_6⟩ := h9
  refine Exists.intro _ (And.intro (al_get (k := 8) nd3 rfl) (And.intro rfl ?_))
  rw [show pm_up (al A ((a7_12_3, pm_ia g 160 (fun _ => 0)) :: (a4_12_3, pm_ia g 160 (fun _ => 0)) :: (a1_12_3, pm_ia g 160 (fun _ => 0)) :: (a10_3, pm_ob 7 [.ref a1_12_3, .ref a4_12_3, .ref a7_12_3, .int 0, .int 0]) :: (a7_3, pm_ia g 24 (fun _ => 0)) :: (a4_3, pm_ia g 160 (fun _ => 0)) :: (a1_3, pm_ra g 41 (va_up (fun _ => none) (0 : Int32).toInt.toNat (some a10_3))) :: (a1, pm_ob 9 [.ref a1_3, .ref a4_3, .ref a7_3, .ref a10_3, .ref a10_3, .int 0, .int 0, .int 0]) :: (a, pm_ob 10 (pm_df 10)) :: [])) a (pm_ob 10 ((pm_df 10).set 0 (.ref a1))) = al A ((a7_12_3, pm_ia g 160 (fun _ => 0)) :: (a4_12_3, pm_ia g 160 (fun _ => 0)) :: (a1_12_3, pm_ia g 160 (fun _ => 0)) :: (a10_3, pm_ob 7 [.ref a1_12_3, .ref a4_12_3, .ref a7_12_3, .int 0, .int 0]) :: (a7_3, pm_ia g 24 (fun _ => 0)) :: (a4_3, pm_ia g 160 (fun _ => 0)) :: (a1_3, pm_ra g 41 (va_up (fun _ => none) (0 : Int32).toInt.toNat (some a10_3))) :: (a1, pm_ob 9 [.ref a1_3, .ref a4_3, .ref a7_3, .ref a10_3, .ref a10_3, .int 0, .int 0, .int 0]) :: (a, pm_ob 10 [.ref a1, .null, .null, .null, .null, .null, .null, .null, .null]) :: []) from al_set (k := 8) nd3 rfl rfl]
  have nd4 : (List.map Prod.fst ((a7_12_3, pm_ia g 160 (fun _ => 0)) :: (a4_12_3, pm_ia g 160 (fun _ => 0)) :: (a1_12_3, pm_ia g 160 (fun _ => 0)) :: (a10_3, pm_ob 7 [.ref a1_12_3, .ref a4_12_3, .ref a7_12_3, .int 0, .int 0]) :: (a7_3, pm_ia g 24 (fun _ => 0)) :: (a4_3, pm_ia g 160 (fun _ => 0)) :: (a1_3, pm_ra g 41 (va_up (fun _ => none) (0 : Int32).toInt.toNat (some a10_3))) :: (a1, pm_ob 9 [.ref a1_3, .ref a4_3, .ref a7_3, .ref a10_3, .ref a10_3, .int 0, .int 0, .int 0]) :: (a, pm_ob 10 [.ref a1, .null, .null, .null, .null, .null, .null, .null, .null]) :: [])).Nodup := nd3
  refine And.intro rfl (fun a5 h5 => ?_)
  have g6 := al_none h5
  have nd6 : (List.map Prod.fst ((a5, pm_ob 2 (pm_df 2)) :: ((a7_12_3, pm_ia g 160 (fun _ => 0)) :: (a4_12_3, pm_ia g 160 (fun _ => 0)) :: (a1_12_3, pm_ia g 160 (fun _ => 0)) :: (a10_3, pm_ob 7 [.ref a1_12_3, .ref a4_12_3, .ref a7_12_3, .int 0, .int 0]) :: (a7_3, pm_ia g 24 (fun _ => 0)) :: (a4_3, pm_ia g 160 (fun _ => 0)) :: (a1_3, pm_ra g 41 (va_up (fun _ => none) (0 : Int32).toInt.toNat (some a10_3))) :: (a1, pm_ob 9 [.ref a1_3, .ref a4_3, .ref a7_3, .ref a10_3, .ref a10_3, .int 0, .int 0, .int 0]) :: (a, pm_ob 10 [.ref a1, .null, .null, .null, .null, .null, .null, .null, .null]) :: []))).Nodup := al_nd nd4 h5
  rw [show pm_up (al A ((a7_12_3, pm_ia g 160 (fun _ => 0)) :: (a4_12_3, pm_ia g 160 (fun _ => 0)) :: (a1_12_3, pm_ia g 160 (fun _ => 0)) :: (a10_3, pm_ob 7 [.ref a1_12_3, .ref a4_12_3, .ref a7_12_3, .int 0, .int 0]) :: (a7_3, pm_ia g 24 (fun _ => 0)) :: (a4_3, pm_ia g 160 (fun _ => 0)) :: (a1_3, pm_ra g 41 (va_up (fun _ => none) (0 : Int32).toInt.toNat (some a10_3))) :: (a1, pm_ob 9 [.ref a1_3, .ref a4_3, .ref a7_3, .ref a10_3, .ref a10_3, .int 0, .int 0, .int 0]) :: (a, pm_ob 10 [.ref a1, .null, .null, .null, .null, .null, .null, .null, .null]) :: [])) a5 (pm_ob 2 (pm_df 2)) = al A ((a5, pm_ob 2 (pm_df 2)) :: ((a7_12_3, pm_ia g 160 (fun _ => 0)) :: (a4_12_3, pm_ia g 160 (fun _ => 0)) :: (a1_12_3, pm_ia g 160 (fun _ => 0)) :: (a10_3, pm_ob 7 [.ref a1_12_3, .ref a4_12_3, .ref a7_12_3, .int 0, .int 0]) :: (a7_3, pm_ia g 24 (fun _ => 0)) :: (a4_3, pm_ia g 160 (fun _ => 0)) :: (a1_3, pm_ra g 41 (va_up (fun _ => none) (0 : Int32).toInt.toNat (some a10_3))) :: (a1, pm_ob 9 [.ref a1_3, .ref a4_3, .ref a7_3, .ref a10_3, .ref a10_3, .int 0, .int 0, .int 0]) :: (a, pm_ob 10 [.ref a1, .null, .null, .null, .null, .null, .null, .null, .null]) :: [])) from rfl]
  refine Exists.intro _ (Exists.intro _ (Exists.intro _ (Exists.intro _ (And.intro (ci_X2_init nd6) (And.intro rfl (fun r9 A9 h9 => ?_))))))
  obtain ⟨rfl, a1_7, a4_7, rfl, nd7, f7_0, f7_1⟩ := h9
  refine Exists.intro _ (And.intro (al_get (k := 11) nd7 rfl) (And.intro rfl ?_))
  rw [show pm_up (al A ((a4_7, pm_ia g 24 (fun j => if j < 24 then (1 : Int32) else 0)) :: (a1_7, pm_ia g 24 (fun _ => 0)) :: (a5, pm_ob 2 [.ref a1_7, .ref a4_7, .int 0, .int 0, .int 0, .int 0]) :: (a7_12_3, pm_ia g 160 (fun _ => 0)) :: (a4_12_3, pm_ia g 160 (fun _ => 0)) :: (a1_12_3, pm_ia g 160 (fun _ => 0)) :: (a10_3, pm_ob 7 [.ref a1_12_3, .ref a4_12_3, .ref a7_12_3, .int 0, .int 0]) :: (a7_3, pm_ia g 24 (fun _ => 0)) :: (a4_3, pm_ia g 160 (fun _ => 0)) :: (a1_3, pm_ra g 41 (va_up (fun _ => none) (0 : Int32).toInt.toNat (some a10_3))) :: (a1, pm_ob 9 [.ref a1_3, .ref a4_3, .ref a7_3, .ref a10_3, .ref a10_3, .int 0, .int 0, .int 0]) :: (a, pm_ob 10 [.ref a1, .null, .null, .null, .null, .null, .null, .null, .null]) :: [])) a (pm_ob 10 (([.ref a1, .null, .null, .null, .null, .null, .null, .null, .null] : List Value).set 1 (.ref a5))) = al A ((a4_7, pm_ia g 24 (fun j => if j < 24 then (1 : Int32) else 0)) :: (a1_7, pm_ia g 24 (fun _ => 0)) :: (a5, pm_ob 2 [.ref a1_7, .ref a4_7, .int 0, .int 0, .int 0, .int 0]) :: (a7_12_3, pm_ia g 160 (fun _ => 0)) :: (a4_12_3, pm_ia g 160 (fun _ => 0)) :: (a1_12_3, pm_ia g 160 (fun _ => 0)) :: (a10_3, pm_ob 7 [.ref a1_12_3, .ref a4_12_3, .ref a7_12_3, .int 0, .int 0]) :: (a7_3, pm_ia g 24 (fun _ => 0)) :: (a4_3, pm_ia g 160 (fun _ => 0)) :: (a1_3, pm_ra g 41 (va_up (fun _ => none) (0 : Int32).toInt.toNat (some a10_3))) :: (a1, pm_ob 9 [.ref a1_3, .ref a4_3, .ref a7_3, .ref a10_3, .ref a10_3, .int 0, .int 0, .int 0]) :: (a, pm_ob 10 [.ref a1, .ref a5, .null, .null, .null, .null, .null, .null, .null]) :: []) from al_set (k := 11) nd7 rfl rfl]
  have nd8 : (List.map Prod.fst ((a4_7, pm_ia g 24 (fun j => if j < 24 then (1 : Int32) else 0)) :: (a1_7, pm_ia g 24 (fun _ => 0)) :: (a5, pm_ob 2 [.ref a1_7, .ref a4_7, .int 0, .int 0, .int 0, .int 0]) :: (a7_12_3, pm_ia g 160 (fun _ => 0)) :: (a4_12_3, pm_ia g 160 (fun _ => 0)) :: (a1_12_3, pm_ia g 160 (fun _ => 0)) :: (a10_3, pm_ob 7 [.ref a1_12_3, .ref a4_12_3, .ref a7_12_3, .int 0, .int 0]) :: (a7_3, pm_ia g 24 (fun _ => 0)) :: (a4_3, pm_ia g 160 (fun _ => 0)) :: (a1_3, pm_ra g 41 (va_up (fun _ => none) (0 : Int32).toInt.toNat (some a10_3))) :: (a1, pm_ob 9 [.ref a1_3, .ref a4_3, .ref a7_3, .ref a10_3, .ref a10_3, .int 0, .int 0, .int 0]) :: (a, pm_ob 10 [.ref a1, .ref a5, .null, .null, .null, .null, .null, .null, .null]) :: [])).Nodup := nd7
  refine And.intro rfl (fun a9 h9 => ?_)
  have g10 := al_none h9
  have nd10 : (List.map Prod.fst ((a9, pm_ob 0 (pm_df 0)) :: ((a4_7, pm_ia g 24 (fun j => if j < 24 then (1 : Int32) else 0)) :: (a1_7, pm_ia g 24 (fun _ => 0)) :: (a5, pm_ob 2 [.ref a1_7, .ref a4_7, .int 0, .int 0, .int 0, .int 0]) :: (a7_12_3, pm_ia g 160 (fun _ => 0)) :: (a4_12_3, pm_ia g 160 (fun _ => 0)) :: (a1_12_3, pm_ia g 160 (fun _ => 0)) :: (a10_3, pm_ob 7 [.ref a1_12_3, .ref a4_12_3, .ref a7_12_3, .int 0, .int 0]) :: (a7_3, pm_ia g 24 (fun _ => 0)) :: (a4_3, pm_ia g 160 (fun _ => 0)) :: (a1_3, pm_ra g 41 (va_up (fun _ => none) (0 : Int32).toInt.toNat (some a10_3))) :: (a1, pm_ob 9 [.ref a1_3, .ref a4_3, .ref a7_3, .ref a10_3, .ref a10_3, .int 0, .int 0, .int 0]) :: (a, pm_ob 10 [.ref a1, .ref a5, .null, .null, .null, .null, .null, .null, .null]) :: []))).Nodup := al_nd nd8 h9
  rw [show pm_up (al A ((a4_7, pm_ia g 24 (fun j => if j < 24 then (1 : Int32) else 0)) :: (a1_7, pm_ia g 24 (fun _ => 0)) :: (a5, pm_ob 2 [.ref a1_7, .ref a4_7, .int 0, .int 0, .int 0, .int 0]) :: (a7_12_3, pm_ia g 160 (fun _ => 0)) :: (a4_12_3, pm_ia g 160 (fun _ => 0)) :: (a1_12_3, pm_ia g 160 (fun _ => 0)) :: (a10_3, pm_ob 7 [.ref a1_12_3, .ref a4_12_3, .ref a7_12_3, .int 0, .int 0]) :: (a7_3, pm_ia g 24 (fun _ => 0)) :: (a4_3, pm_ia g 160 (fun _ => 0)) :: (a1_3, pm_ra g 41 (va_up (fun _ => none) (0 : Int32).toInt.toNat (some a10_3))) :: (a1, pm_ob 9 [.ref a1_3, .ref a4_3, .ref a7_3, .ref a10_3, .ref a10_3, .int 0, .int 0, .int 0]) :: (a, pm_ob 10 [.ref a1, .ref a5, .null, .null, .null, .null, .null, .null, .null]) :: [])) a9 (pm_ob 0 (pm_df 0)) = al A ((a9, pm_ob 0 (pm_df 0)) :: ((a4_7, pm_ia g 24 (fun j => if j < 24 then (1 : Int32) else 0)) :: (a1_7, pm_ia g 24 (fun _ => 0)) :: (a5, pm_ob 2 [.ref a1_7, .ref a4_7, .int 0, .int 0, .int 0, .int 0]) :: (a7_12_3, pm_ia g 160 (fun _ => 0)) :: (a4_12_3, pm_ia g 160 (fun _ => 0)) :: (a1_12_3, pm_ia g 160 (fun _ => 0)) :: (a10_3, pm_ob 7 [.ref a1_12_3, .ref a4_12_3, .ref a7_12_3, .int 0, .int 0]) :: (a7_3, pm_ia g 24 (fun _ => 0)) :: (a4_3, pm_ia g 160 (fun _ => 0)) :: (a1_3, pm_ra g 41 (va_up (fun _ => none) (0 : Int32).toInt.toNat (some a10_3))) :: (a1, pm_ob 9 [.ref a1_3, .ref a4_3, .ref a7_3, .ref a10_3, .ref a10_3, .int 0, .int 0, .int 0]) :: (a, pm_ob 10 [.ref a1, .ref a5, .null, .null, .null, .null, .null, .null, .null]) :: [])) from rfl]
  refine Exists.intro _ (Exists.intro _ (Exists.intro _ (Exists.intro _ (And.intro (ci_X0_init nd10) (And.intro rfl (fun r9 A9 h9 => ?_))))))
  obtain ⟨rfl, a1_11, a4_11, rfl, nd11, f11_0, f11_1⟩ := h9
  refine Exists.intro _ (And.intro (al_get (k := 14) nd11 rfl) (And.intro rfl ?_))
  rw [show pm_up (al A ((a4_11, pm_ia g 160 (fun _ => 0)) :: (a1_11, pm_ia g 24 (fun _ => 0)) :: (a9, pm_ob 0 [.ref a1_11, .ref a4_11, .int 0]) :: (a4_7, pm_ia g 24 (fun j => if j < 24 then (1 : Int32) else 0)) :: (a1_7, pm_ia g 24 (fun _ => 0)) :: (a5, pm_ob 2 [.ref a1_7, .ref a4_7, .int 0, .int 0, .int 0, .int 0]) :: (a7_12_3, pm_ia g 160 (fun _ => 0)) :: (a4_12_3, pm_ia g 160 (fun _ => 0)) :: (a1_12_3, pm_ia g 160 (fun _ => 0)) :: (a10_3, pm_ob 7 [.ref a1_12_3, .ref a4_12_3, .ref a7_12_3, .int 0, .int 0]) :: (a7_3, pm_ia g 24 (fun _ => 0)) :: (a4_3, pm_ia g 160 (fun _ => 0)) :: (a1_3, pm_ra g 41 (va_up (fun _ => none) (0 : Int32).toInt.toNat (some a10_3))) :: (a1, pm_ob 9 [.ref a1_3, .ref a4_3, .ref a7_3, .ref a10_3, .ref a10_3, .int 0, .int 0, .int 0]) :: (a, pm_ob 10 [.ref a1, .ref a5, .null, .null, .null, .null, .null, .null, .null]) :: [])) a (pm_ob 10 (([.ref a1, .ref a5, .null, .null, .null, .null, .null, .null, .null] : List Value).set 2 (.ref a9))) = al A ((a4_11, pm_ia g 160 (fun _ => 0)) :: (a1_11, pm_ia g 24 (fun _ => 0)) :: (a9, pm_ob 0 [.ref a1_11, .ref a4_11, .int 0]) :: (a4_7, pm_ia g 24 (fun j => if j < 24 then (1 : Int32) else 0)) :: (a1_7, pm_ia g 24 (fun _ => 0)) :: (a5, pm_ob 2 [.ref a1_7, .ref a4_7, .int 0, .int 0, .int 0, .int 0]) :: (a7_12_3, pm_ia g 160 (fun _ => 0)) :: (a4_12_3, pm_ia g 160 (fun _ => 0)) :: (a1_12_3, pm_ia g 160 (fun _ => 0)) :: (a10_3, pm_ob 7 [.ref a1_12_3, .ref a4_12_3, .ref a7_12_3, .int 0, .int 0]) :: (a7_3, pm_ia g 24 (fun _ => 0)) :: (a4_3, pm_ia g 160 (fun _ => 0)) :: (a1_3, pm_ra g 41 (va_up (fun _ => none) (0 : Int32).toInt.toNat (some a10_3))) :: (a1, pm_ob 9 [.ref a1_3, .ref a4_3, .ref a7_3, .ref a10_3, .ref a10_3, .int 0, .int 0, .int 0]) :: (a, pm_ob 10 [.ref a1, .ref a5, .ref a9, .null, .null, .null, .null, .null, .null]) :: []) from al_set (k := 14) nd11 rfl rfl]
  have nd12 : (List.map Prod.fst ((a4_11, pm_ia g 160 (fun _ => 0)) :: (a1_11, pm_ia g 24 (fun _ => 0)) :: (a9, pm_ob 0 [.ref a1_11, .ref a4_11, .int 0]) :: (a4_7, pm_ia g 24 (fun j => if j < 24 then (1 : Int32) else 0)) :: (a1_7, pm_ia g 24 (fun _ => 0)) :: (a5, pm_ob 2 [.ref a1_7, .ref a4_7, .int 0, .int 0, .int 0, .int 0]) :: (a7_12_3, pm_ia g 160 (fun _ => 0)) :: (a4_12_3, pm_ia g 160 (fun _ => 0)) :: (a1_12_3, pm_ia g 160 (fun _ => 0)) :: (a10_3, pm_ob 7 [.ref a1_12_3, .ref a4_12_3, .ref a7_12_3, .int 0, .int 0]) :: (a7_3, pm_ia g 24 (fun _ => 0)) :: (a4_3, pm_ia g 160 (fun _ => 0)) :: (a1_3, pm_ra g 41 (va_up (fun _ => none) (0 : Int32).toInt.toNat (some a10_3))) :: (a1, pm_ob 9 [.ref a1_3, .ref a4_3, .ref a7_3, .ref a10_3, .ref a10_3, .int 0, .int 0, .int 0]) :: (a, pm_ob 10 [.ref a1, .ref a5, .ref a9, .null, .null, .null, .null, .null, .null]) :: [])).Nodup := nd11
  refine And.intro rfl (fun a13 h13 => ?_)
  have g14 := al_none h13
  have nd14 : (List.map Prod.fst ((a13, pm_ob 1 (pm_df 1)) :: ((a4_11, pm_ia g 160 (fun _ => 0)) :: (a1_11, pm_ia g 24 (fun _ => 0)) :: (a9, pm_ob 0 [.ref a1_11, .ref a4_11, .int 0]) :: (a4_7, pm_ia g 24 (fun j => if j < 24 then (1 : Int32) else 0)) :: (a1_7, pm_ia g 24 (fun _ => 0)) :: (a5, pm_ob 2 [.ref a1_7, .ref a4_7, .int 0, .int 0, .int 0, .int 0]) :: (a7_12_3, pm_ia g 160 (fun _ => 0)) :: (a4_12_3, pm_ia g 160 (fun _ => 0)) :: (a1_12_3, pm_ia g 160 (fun _ => 0)) :: (a10_3, pm_ob 7 [.ref a1_12_3, .ref a4_12_3, .ref a7_12_3, .int 0, .int 0]) :: (a7_3, pm_ia g 24 (fun _ => 0)) :: (a4_3, pm_ia g 160 (fun _ => 0)) :: (a1_3, pm_ra g 41 (va_up (fun _ => none) (0 : Int32).toInt.toNat (some a10_3))) :: (a1, pm_ob 9 [.ref a1_3, .ref a4_3, .ref a7_3, .ref a10_3, .ref a10_3, .int 0, .int 0, .int 0]) :: (a, pm_ob 10 [.ref a1, .ref a5, .ref a9, .null, .null, .null, .null, .null, .null]) :: []))).Nodup := al_nd nd12 h13
  rw [show pm_up (al A ((a4_11, pm_ia g 160 (fun _ => 0)) :: (a1_11, pm_ia g 24 (fun _ => 0)) :: (a9, pm_ob 0 [.ref a1_11, .ref a4_11, .int 0]) :: (a4_7, pm_ia g 24 (fun j => if j < 24 then (1 : Int32) else 0)) :: (a1_7, pm_ia g 24 (fun _ => 0)) :: (a5, pm_ob 2 [.ref a1_7, .ref a4_7, .int 0, .int 0, .int 0, .int 0]) :: (a7_12_3, pm_ia g 160 (fun _ => 0)) :: (a4_12_3, pm_ia g 160 (fun _ => 0)) :: (a1_12_3, pm_ia g 160 (fun _ => 0)) :: (a10_3, pm_ob 7 [.ref a1_12_3, .ref a4_12_3, .ref a7_12_3, .int 0, .int 0]) :: (a7_3, pm_ia g 24 (fun _ => 0)) :: (a4_3, pm_ia g 160 (fun _ => 0)) :: (a1_3, pm_ra g 41 (va_up (fun _ => none) (0 : Int32).toInt.toNat (some a10_3))) :: (a1, pm_ob 9 [.ref a1_3, .ref a4_3, .ref a7_3, .ref a10_3, .ref a10_3, .int 0, .int 0, .int 0]) :: (a, pm_ob 10 [.ref a1, .ref a5, .ref a9, .null, .null, .null, .null, .null, .null]) :: [])) a13 (pm_ob 1 (pm_df 1)) = al A ((a13, pm_ob 1 (pm_df 1)) :: ((a4_11, pm_ia g 160 (fun _ => 0)) :: (a1_11, pm_ia g 24 (fun _ => 0)) :: (a9, pm_ob 0 [.ref a1_11, .ref a4_11, .int 0]) :: (a4_7, pm_ia g 24 (fun j => if j < 24 then (1 : Int32) else 0)) :: (a1_7, pm_ia g 24 (fun _ => 0)) :: (a5, pm_ob 2 [.ref a1_7, .ref a4_7, .int 0, .int 0, .int 0, .int 0]) :: (a7_12_3, pm_ia g 160 (fun _ => 0)) :: (a4_12_3, pm_ia g 160 (fun _ => 0)) :: (a1_12_3, pm_ia g 160 (fun _ => 0)) :: (a10_3, pm_ob 7 [.ref a1_12_3, .ref a4_12_3, .ref a7_12_3, .int 0, .int 0]) :: (a7_3, pm_ia g 24 (fun _ => 0)) :: (a4_3, pm_ia g 160 (fun _ => 0)) :: (a1_3, pm_ra g 41 (va_up (fun _ => none) (0 : Int32).toInt.toNat (some a10_3))) :: (a1, pm_ob 9 [.ref a1_3, .ref a4_3, .ref a7_3, .ref a10_3, .ref a10_3, .int 0, .int 0, .int 0]) :: (a, pm_ob 10 [.ref a1, .ref a5, .ref a9, .null, .null, .null, .null, .null, .null]) :: [])) from rfl]
  refine Exists.intro _ (Exists.intro _ (Exists.intro _ (Exists.intro _ (And.intro (ci_X1_init nd14) (And.intro rfl (fun r9 A9 h9 => ?_))))))
  obtain ⟨rfl, a1_15, a4_15, a7_15, rfl, nd15, f15_0, f15_1, f15_2⟩ := h9
  refine Exists.intro _ (And.intro (al_get (k := 18) nd15 rfl) (And.intro rfl ?_))
  rw [show pm_up (al A ((a7_15, pm_ia g 24 (fun _ => 0)) :: (a4_15, pm_ia g 24 (fun _ => 0)) :: (a1_15, pm_ia g 160 (fun _ => 0)) :: (a13, pm_ob 1 [.ref a1_15, .ref a4_15, .ref a7_15, .int 0, .int 0]) :: (a4_11, pm_ia g 160 (fun _ => 0)) :: (a1_11, pm_ia g 24 (fun _ => 0)) :: (a9, pm_ob 0 [.ref a1_11, .ref a4_11, .int 0]) :: (a4_7, pm_ia g 24 (fun j => if j < 24 then (1 : Int32) else 0)) :: (a1_7, pm_ia g 24 (fun _ => 0)) :: (a5, pm_ob 2 [.ref a1_7, .ref a4_7, .int 0, .int 0, .int 0, .int 0]) :: (a7_12_3, pm_ia g 160 (fun _ => 0)) :: (a4_12_3, pm_ia g 160 (fun _ => 0)) :: (a1_12_3, pm_ia g 160 (fun _ => 0)) :: (a10_3, pm_ob 7 [.ref a1_12_3, .ref a4_12_3, .ref a7_12_3, .int 0, .int 0]) :: (a7_3, pm_ia g 24 (fun _ => 0)) :: (a4_3, pm_ia g 160 (fun _ => 0)) :: (a1_3, pm_ra g 41 (va_up (fun _ => none) (0 : Int32).toInt.toNat (some a10_3))) :: (a1, pm_ob 9 [.ref a1_3, .ref a4_3, .ref a7_3, .ref a10_3, .ref a10_3, .int 0, .int 0, .int 0]) :: (a, pm_ob 10 [.ref a1, .ref a5, .ref a9, .null, .null, .null, .null, .null, .null]) :: [])) a (pm_ob 10 (([.ref a1, .ref a5, .ref a9, .null, .null, .null, .null, .null, .null] : List Value).set 3 (.ref a13))) = al A ((a7_15, pm_ia g 24 (fun _ => 0)) :: (a4_15, pm_ia g 24 (fun _ => 0)) :: (a1_15, pm_ia g 160 (fun _ => 0)) :: (a13, pm_ob 1 [.ref a1_15, .ref a4_15, .ref a7_15, .int 0, .int 0]) :: (a4_11, pm_ia g 160 (fun _ => 0)) :: (a1_11, pm_ia g 24 (fun _ => 0)) :: (a9, pm_ob 0 [.ref a1_11, .ref a4_11, .int 0]) :: (a4_7, pm_ia g 24 (fun j => if j < 24 then (1 : Int32) else 0)) :: (a1_7, pm_ia g 24 (fun _ => 0)) :: (a5, pm_ob 2 [.ref a1_7, .ref a4_7, .int 0, .int 0, .int 0, .int 0]) :: (a7_12_3, pm_ia g 160 (fun _ => 0)) :: (a4_12_3, pm_ia g 160 (fun _ => 0)) :: (a1_12_3, pm_ia g 160 (fun _ => 0)) :: (a10_3, pm_ob 7 [.ref a1_12_3, .ref a4_12_3, .ref a7_12_3, .int 0, .int 0]) :: (a7_3, pm_ia g 24 (fun _ => 0)) :: (a4_3, pm_ia g 160 (fun _ => 0)) :: (a1_3, pm_ra g 41 (va_up (fun _ => none) (0 : Int32).toInt.toNat (some a10_3))) :: (a1, pm_ob 9 [.ref a1_3, .ref a4_3, .ref a7_3, .ref a10_3, .ref a10_3, .int 0, .int 0, .int 0]) :: (a, pm_ob 10 [.ref a1, .ref a5, .ref a9, .ref a13, .null, .null, .null, .null, .null]) :: []) from al_set (k := 18) nd15 rfl rfl]
  have nd16 : (List.map Prod.fst ((a7_15, pm_ia g 24 (fun _ => 0)) :: (a4_15, pm_ia g 24 (fun _ => 0)) :: (a1_15, pm_ia g 160 (fun _ => 0)) :: (a13, pm_ob 1 [.ref a1_15, .ref a4_15, .ref a7_15, .int 0, .int 0]) :: (a4_11, pm_ia g 160 (fun _ => 0)) :: (a1_11, pm_ia g 24 (fun _ => 0)) :: (a9, pm_ob 0 [.ref a1_11, .ref a4_11, .int 0]) :: (a4_7, pm_ia g 24 (fun j => if j < 24 then (1 : Int32) else 0)) :: (a1_7, pm_ia g 24 (fun _ => 0)) :: (a5, pm_ob 2 [.ref a1_7, .ref a4_7, .int 0, .int 0, .int 0, .int 0]) :: (a7_12_3, pm_ia g 160 (fun _ => 0)) :: (a4_12_3, pm_ia g 160 (fun _ => 0)) :: (a1_12_3, pm_ia g 160 (fun _ => 0)) :: (a10_3, pm_ob 7 [.ref a1_12_3, .ref a4_12_3, .ref a7_12_3, .int 0, .int 0]) :: (a7_3, pm_ia g 24 (fun _ => 0)) :: (a4_3, pm_ia g 160 (fun _ => 0)) :: (a1_3, pm_ra g 41 (va_up (fun _ => none) (0 : Int32).toInt.toNat (some a10_3))) :: (a1, pm_ob 9 [.ref a1_3, .ref a4_3, .ref a7_3, .ref a10_3, .ref a10_3, .int 0, .int 0, .int 0]) :: (a, pm_ob 10 [.ref a1, .ref a5, .ref a9, .ref a13, .null, .null, .null, .null, .null]) :: [])).Nodup := nd15
  refine And.intro rfl (fun a17 h17 => ?_)
  have g18 := al_none h17
  have nd18 : (List.map Prod.fst ((a17, pm_ob 6 (pm_df 6)) :: ((a7_15, pm_ia g 24 (fun _ => 0)) :: (a4_15, pm_ia g 24 (fun _ => 0)) :: (a1_15, pm_ia g 160 (fun _ => 0)) :: (a13, pm_ob 1 [.ref a1_15, .ref a4_15, .ref a7_15, .int 0, .int 0]) :: (a4_11, pm_ia g 160 (fun _ => 0)) :: (a1_11, pm_ia g 24 (fun _ => 0)) :: (a9, pm_ob 0 [.ref a1_11, .ref a4_11, .int 0]) :: (a4_7, pm_ia g 24 (fun j => if j < 24 then (1 : Int32) else 0)) :: (a1_7, pm_ia g 24 (fun _ => 0)) :: (a5, pm_ob 2 [.ref a1_7, .ref a4_7, .int 0, .int 0, .int 0, .int 0]) :: (a7_12_3, pm_ia g 160 (fun _ => 0)) :: (a4_12_3, pm_ia g 160 (fun _ => 0)) :: (a1_12_3, pm_ia g 160 (fun _ => 0)) :: (a10_3, pm_ob 7 [.ref a1_12_3, .ref a4_12_3, .ref a7_12_3, .int 0, .int 0]) :: (a7_3, pm_ia g 24 (fun _ => 0)) :: (a4_3, pm_ia g 160 (fun _ => 0)) :: (a1_3, pm_ra g 41 (va_up (fun _ => none) (0 : Int32).toInt.toNat (some a10_3))) :: (a1, pm_ob 9 [.ref a1_3, .ref a4_3, .ref a7_3, .ref a10_3, .ref a10_3, .int 0, .int 0, .int 0]) :: (a, pm_ob 10 [.ref a1, .ref a5, .ref a9, .ref a13, .null, .null, .null, .null, .null]) :: []))).Nodup := al_nd nd16 h17
  rw [show pm_up (al A ((a7_15, pm_ia g 24 (fun _ => 0)) :: (a4_15, pm_ia g 24 (fun _ => 0)) :: (a1_15, pm_ia g 160 (fun _ => 0)) :: (a13, pm_ob 1 [.ref a1_15, .ref a4_15, .ref a7_15, .int 0, .int 0]) :: (a4_11, pm_ia g 160 (fun _ => 0)) :: (a1_11, pm_ia g 24 (fun _ => 0)) :: (a9, pm_ob 0 [.ref a1_11, .ref a4_11, .int 0]) :: (a4_7, pm_ia g 24 (fun j => if j < 24 then (1 : Int32) else 0)) :: (a1_7, pm_ia g 24 (fun _ => 0)) :: (a5, pm_ob 2 [.ref a1_7, .ref a4_7, .int 0, .int 0, .int 0, .int 0]) :: (a7_12_3, pm_ia g 160 (fun _ => 0)) :: (a4_12_3, pm_ia g 160 (fun _ => 0)) :: (a1_12_3, pm_ia g 160 (fun _ => 0)) :: (a10_3, pm_ob 7 [.ref a1_12_3, .ref a4_12_3, .ref a7_12_3, .int 0, .int 0]) :: (a7_3, pm_ia g 24 (fun _ => 0)) :: (a4_3, pm_ia g 160 (fun _ => 0)) :: (a1_3, pm_ra g 41 (va_up (fun _ => none) (0 : Int32).toInt.toNat (some a10_3))) :: (a1, pm_ob 9 [.ref a1_3, .ref a4_3, .ref a7_3, .ref a10_3, .ref a10_3, .int 0, .int 0, .int 0]) :: (a, pm_ob 10 [.ref a1, .ref a5, .ref a9, .ref a13, .null, .null, .null, .null, .null]) :: [])) a17 (pm_ob 6 (pm_df 6)) = al A ((a17, pm_ob 6 (pm_df 6)) :: ((a7_15, pm_ia g 24 (fun _ => 0)) :: (a4_15, pm_ia g 24 (fun _ => 0)) :: (a1_15, pm_ia g 160 (fun _ => 0)) :: (a13, pm_ob 1 [.ref a1_15, .ref a4_15, .ref a7_15, .int 0, .int 0]) :: (a4_11, pm_ia g 160 (fun _ => 0)) :: (a1_11, pm_ia g 24 (fun _ => 0)) :: (a9, pm_ob 0 [.ref a1_11, .ref a4_11, .int 0]) :: (a4_7, pm_ia g 24 (fun j => if j < 24 then (1 : Int32) else 0)) :: (a1_7, pm_ia g 24 (fun _ => 0)) :: (a5, pm_ob 2 [.ref a1_7, .ref a4_7, .int 0, .int 0, .int 0, .int 0]) :: (a7_12_3, pm_ia g 160 (fun _ => 0)) :: (a4_12_3, pm_ia g 160 (fun _ => 0)) :: (a1_12_3, pm_ia g 160 (fun _ => 0)) :: (a10_3, pm_ob 7 [.ref a1_12_3, .ref a4_12_3, .ref a7_12_3, .int 0, .int 0]) :: (a7_3, pm_ia g 24 (fun _ => 0)) :: (a4_3, pm_ia g 160 (fun _ => 0)) :: (a1_3, pm_ra g 41 (va_up (fun _ => none) (0 : Int32).toInt.toNat (some a10_3))) :: (a1, pm_ob 9 [.ref a1_3, .ref a4_3, .ref a7_3, .ref a10_3, .ref a10_3, .int 0, .int 0, .int 0]) :: (a, pm_ob 10 [.ref a1, .ref a5, .ref a9, .ref a13, .null, .null, .null, .null, .null]) :: [])) from rfl]
  refine Exists.intro _ (Exists.intro _ (Exists.intro _ (Exists.intro _ (And.intro (ci_X6_init nd18) (And.intro rfl (fun r9 A9 h9 => ?_))))))
  obtain ⟨rfl, a1_19, rfl, nd19, f19_0⟩ := h9
  refine Exists.intro _ (And.intro (al_get (k := 20) nd19 rfl) (And.intro rfl ?_))
  rw [show pm_up (al A ((a1_19, pm_ia g 24 (fun _ => 0)) :: (a17, pm_ob 6 [.ref a1_19, .int 0, .int 0, .int 0, .int 0]) :: (a7_15, pm_ia g 24 (fun _ => 0)) :: (a4_15, pm_ia g 24 (fun _ => 0)) :: (a1_15, pm_ia g 160 (fun _ => 0)) :: (a13, pm_ob 1 [.ref a1_15, .ref a4_15, .ref a7_15, .int 0, .int 0]) :: (a4_11, pm_ia g 160 (fun _ => 0)) :: (a1_11, pm_ia g 24 (fun _ => 0)) :: (a9, pm_ob 0 [.ref a1_11, .ref a4_11, .int 0]) :: (a4_7, pm_ia g 24 (fun j => if j < 24 then (1 : Int32) else 0)) :: (a1_7, pm_ia g 24 (fun _ => 0)) :: (a5, pm_ob 2 [.ref a1_7, .ref a4_7, .int 0, .int 0, .int 0, .int 0]) :: (a7_12_3, pm_ia g 160 (fun _ => 0)) :: (a4_12_3, pm_ia g 160 (fun _ => 0)) :: (a1_12_3, pm_ia g 160 (fun _ => 0)) :: (a10_3, pm_ob 7 [.ref a1_12_3, .ref a4_12_3, .ref a7_12_3, .int 0, .int 0]) :: (a7_3, pm_ia g 24 (fun _ => 0)) :: (a4_3, pm_ia g 160 (fun _ => 0)) :: (a1_3, pm_ra g 41 (va_up (fun _ => none) (0 : Int32).toInt.toNat (some a10_3))) :: (a1, pm_ob 9 [.ref a1_3, .ref a4_3, .ref a7_3, .ref a10_3, .ref a10_3, .int 0, .int 0, .int 0]) :: (a, pm_ob 10 [.ref a1, .ref a5, .ref a9, .ref a13, .null, .null, .null, .null, .null]) :: [])) a (pm_ob 10 (([.ref a1, .ref a5, .ref a9, .ref a13, .null, .null, .null, .null, .null] : List Value).set 4 (.ref a17))) = al A ((a1_19, pm_ia g 24 (fun _ => 0)) :: (a17, pm_ob 6 [.ref a1_19, .int 0, .int 0, .int 0, .int 0]) :: (a7_15, pm_ia g 24 (fun _ => 0)) :: (a4_15, pm_ia g 24 (fun _ => 0)) :: (a1_15, pm_ia g 160 (fun _ => 0)) :: (a13, pm_ob 1 [.ref a1_15, .ref a4_15, .ref a7_15, .int 0, .int 0]) :: (a4_11, pm_ia g 160 (fun _ => 0)) :: (a1_11, pm_ia g 24 (fun _ => 0)) :: (a9, pm_ob 0 [.ref a1_11, .ref a4_11, .int 0]) :: (a4_7, pm_ia g 24 (fun j => if j < 24 then (1 : Int32) else 0)) :: (a1_7, pm_ia g 24 (fun _ => 0)) :: (a5, pm_ob 2 [.ref a1_7, .ref a4_7, .int 0, .int 0, .int 0, .int 0]) :: (a7_12_3, pm_ia g 160 (fun _ => 0)) :: (a4_12_3, pm_ia g 160 (fun _ => 0)) :: (a1_12_3, pm_ia g 160 (fun _ => 0)) :: (a10_3, pm_ob 7 [.ref a1_12_3, .ref a4_12_3, .ref a7_12_3, .int 0, .int 0]) :: (a7_3, pm_ia g 24 (fun _ => 0)) :: (a4_3, pm_ia g 160 (fun _ => 0)) :: (a1_3, pm_ra g 41 (va_up (fun _ => none) (0 : Int32).toInt.toNat (some a10_3))) :: (a1, pm_ob 9 [.ref a1_3, .ref a4_3, .ref a7_3, .ref a10_3, .ref a10_3, .int 0, .int 0, .int 0]) :: (a, pm_ob 10 [.ref a1, .ref a5, .ref a9, .ref a13, .ref a17, .null, .null, .null, .null]) :: []) from al_set (k := 20) nd19 rfl rfl]
  have nd20 : (List.map Prod.fst ((a1_19, pm_ia g 24 (fun _ => 0)) :: (a17, pm_ob 6 [.ref a1_19, .int 0, .int 0, .int 0, .int 0]) :: (a7_15, pm_ia g 24 (fun _ => 0)) :: (a4_15, pm_ia g 24 (fun _ => 0)) :: (a1_15, pm_ia g 160 (fun _ => 0)) :: (a13, pm_ob 1 [.ref a1_15, .ref a4_15, .ref a7_15, .int 0, .int 0]) :: (a4_11, pm_ia g 160 (fun _ => 0)) :: (a1_11, pm_ia g 24 (fun _ => 0)) :: (a9, pm_ob 0 [.ref a1_11, .ref a4_11, .int 0]) :: (a4_7, pm_ia g 24 (fun j => if j < 24 then (1 : Int32) else 0)) :: (a1_7, pm_ia g 24 (fun _ => 0)) :: (a5, pm_ob 2 [.ref a1_7, .ref a4_7, .int 0, .int 0, .int 0, .int 0]) :: (a7_12_3, pm_ia g 160 (fun _ => 0)) :: (a4_12_3, pm_ia g 160 (fun _ => 0)) :: (a1_12_3, pm_ia g 160 (fun _ => 0)) :: (a10_3, pm_ob 7 [.ref a1_12_3, .ref a4_12_3, .ref a7_12_3, .int 0, .int 0]) :: (a7_3, pm_ia g 24 (fun _ => 0)) :: (a4_3, pm_ia g 160 (fun _ => 0)) :: (a1_3, pm_ra g 41 (va_up (fun _ => none) (0 : Int32).toInt.toNat (some a10_3))) :: (a1, pm_ob 9 [.ref a1_3, .ref a4_3, .ref a7_3, .ref a10_3, .ref a10_3, .int 0, .int 0, .int 0]) :: (a, pm_ob 10 [.ref a1, .ref a5, .ref a9, .ref a13, .ref a17, .null, .null, .null, .null]) :: [])).Nodup := nd19
  refine And.intro rfl (fun a21 h21 => ?_)
  have g22 := al_none h21
  have nd22 : (List.map Prod.fst ((a21, pm_ob 8 (pm_df 8)) :: ((a1_19, pm_ia g 24 (fun _ => 0)) :: (a17, pm_ob 6 [.ref a1_19, .int 0, .int 0, .int 0, .int 0]) :: (a7_15, pm_ia g 24 (fun _ => 0)) :: (a4_15, pm_ia g 24 (fun _ => 0)) :: (a1_15, pm_ia g 160 (fun _ => 0)) :: (a13, pm_ob 1 [.ref a1_15, .ref a4_15, .ref a7_15, .int 0, .int 0]) :: (a4_11, pm_ia g 160 (fun _ => 0)) :: (a1_11, pm_ia g 24 (fun _ => 0)) :: (a9, pm_ob 0 [.ref a1_11, .ref a4_11, .int 0]) :: (a4_7, pm_ia g 24 (fun j => if j < 24 then (1 : Int32) else 0)) :: (a1_7, pm_ia g 24 (fun _ => 0)) :: (a5, pm_ob 2 [.ref a1_7, .ref a4_7, .int 0, .int 0, .int 0, .int 0]) :: (a7_12_3, pm_ia g 160 (fun _ => 0)) :: (a4_12_3, pm_ia g 160 (fun _ => 0)) :: (a1_12_3, pm_ia g 160 (fun _ => 0)) :: (a10_3, pm_ob 7 [.ref a1_12_3, .ref a4_12_3, .ref a7_12_3, .int 0, .int 0]) :: (a7_3, pm_ia g 24 (fun _ => 0)) :: (a4_3, pm_ia g 160 (fun _ => 0)) :: (a1_3, pm_ra g 41 (va_up (fun _ => none) (0 : Int32).toInt.toNat (some a10_3))) :: (a1, pm_ob 9 [.ref a1_3, .ref a4_3, .ref a7_3, .ref a10_3, .ref a10_3, .int 0, .int 0, .int 0]) :: (a, pm_ob 10 [.ref a1, .ref a5, .ref a9, .ref a13, .ref a17, .null, .null, .null, .null]) :: []))).Nodup := al_nd nd20 h21
  rw [show pm_up (al A ((a1_19, pm_ia g 24 (fun _ => 0)) :: (a17, pm_ob 6 [.ref a1_19, .int 0, .int 0, .int 0, .int 0]) :: (a7_15, pm_ia g 24 (fun _ => 0)) :: (a4_15, pm_ia g 24 (fun _ => 0)) :: (a1_15, pm_ia g 160 (fun _ => 0)) :: (a13, pm_ob 1 [.ref a1_15, .ref a4_15, .ref a7_15, .int 0, .int 0]) :: (a4_11, pm_ia g 160 (fun _ => 0)) :: (a1_11, pm_ia g 24 (fun _ => 0)) :: (a9, pm_ob 0 [.ref a1_11, .ref a4_11, .int 0]) :: (a4_7, pm_ia g 24 (fun j => if j < 24 then (1 : Int32) else 0)) :: (a1_7, pm_ia g 24 (fun _ => 0)) :: (a5, pm_ob 2 [.ref a1_7, .ref a4_7, .int 0, .int 0, .int 0, .int 0]) :: (a7_12_3, pm_ia g 160 (fun _ => 0)) :: (a4_12_3, pm_ia g 160 (fun _ => 0)) :: (a1_12_3, pm_ia g 160 (fun _ => 0)) :: (a10_3, pm_ob 7 [.ref a1_12_3, .ref a4_12_3, .ref a7_12_3, .int 0, .int 0]) :: (a7_3, pm_ia g 24 (fun _ => 0)) :: (a4_3, pm_ia g 160 (fun _ => 0)) :: (a1_3, pm_ra g 41 (va_up (fun _ => none) (0 : Int32).toInt.toNat (some a10_3))) :: (a1, pm_ob 9 [.ref a1_3, .ref a4_3, .ref a7_3, .ref a10_3, .ref a10_3, .int 0, .int 0, .int 0]) :: (a, pm_ob 10 [.ref a1, .ref a5, .ref a9, .ref a13, .ref a17, .null, .null, .null, .null]) :: [])) a21 (pm_ob 8 (pm_df 8)) = al A ((a21, pm_ob 8 (pm_df 8)) :: ((a1_19, pm_ia g 24 (fun _ => 0)) :: (a17, pm_ob 6 [.ref a1_19, .int 0, .int 0, .int 0, .int 0]) :: (a7_15, pm_ia g 24 (fun _ => 0)) :: (a4_15, pm_ia g 24 (fun _ => 0)) :: (a1_15, pm_ia g 160 (fun _ => 0)) :: (a13, pm_ob 1 [.ref a1_15, .ref a4_15, .ref a7_15, .int 0, .int 0]) :: (a4_11, pm_ia g 160 (fun _ => 0)) :: (a1_11, pm_ia g 24 (fun _ => 0)) :: (a9, pm_ob 0 [.ref a1_11, .ref a4_11, .int 0]) :: (a4_7, pm_ia g 24 (fun j => if j < 24 then (1 : Int32) else 0)) :: (a1_7, pm_ia g 24 (fun _ => 0)) :: (a5, pm_ob 2 [.ref a1_7, .ref a4_7, .int 0, .int 0, .int 0, .int 0]) :: (a7_12_3, pm_ia g 160 (fun _ => 0)) :: (a4_12_3, pm_ia g 160 (fun _ => 0)) :: (a1_12_3, pm_ia g 160 (fun _ => 0)) :: (a10_3, pm_ob 7 [.ref a1_12_3, .ref a4_12_3, .ref a7_12_3, .int 0, .int 0]) :: (a7_3, pm_ia g 24 (fun _ => 0)) :: (a4_3, pm_ia g 160 (fun _ => 0)) :: (a1_3, pm_ra g 41 (va_up (fun _ => none) (0 : Int32).toInt.toNat (some a10_3))) :: (a1, pm_ob 9 [.ref a1_3, .ref a4_3, .ref a7_3, .ref a10_3, .ref a10_3, .int 0, .int 0, .int 0]) :: (a, pm_ob 10 [.ref a1, .ref a5, .ref a9, .ref a13, .ref a17, .null, .null, .null, .null]) :: [])) from rfl]
  refine Exists.intro _ (Exists.intro _ (Exists.intro _ (Exists.intro _ (And.intro (ci_X8_init nd22) (And.intro rfl (fun r9 A9 h9 => ?_))))))
  obtain ⟨rfl, a1_23, a4_23, a7_23, rfl, nd23, f23_0, f23_1, f23_2⟩ := h9
  refine Exists.intro _ (And.intro (al_get (k := 24) nd23 rfl) (And.intro rfl ?_))
  rw [show pm_up (al A ((a7_23, pm_ia g 24 (fun _ => 0)) :: (a4_23, pm_ia g 24 (fun _ => 0)) :: (a1_23, pm_ia g 160 (fun _ => 0)) :: (a21, pm_ob 8 [.ref a1_23, .ref a4_23, .ref a7_23, .int 0, .int 0]) :: (a1_19, pm_ia g 24 (fun _ => 0)) :: (a17, pm_ob 6 [.ref a1_19, .int 0, .int 0, .int 0, .int 0]) :: (a7_15, pm_ia g 24 (fun _ => 0)) :: (a4_15, pm_ia g 24 (fun _ => 0)) :: (a1_15, pm_ia g 160 (fun _ => 0)) :: (a13, pm_ob 1 [.ref a1_15, .ref a4_15, .ref a7_15, .int 0, .int 0]) :: (a4_11, pm_ia g 160 (fun _ => 0)) :: (a1_11, pm_ia g 24 (fun _ => 0)) :: (a9, pm_ob 0 [.ref a1_11, .ref a4_11, .int 0]) :: (a4_7, pm_ia g 24 (fun j => if j < 24 then (1 : Int32) else 0)) :: (a1_7, pm_ia g 24 (fun _ => 0)) :: (a5, pm_ob 2 [.ref a1_7, .ref a4_7, .int 0, .int 0, .int 0, .int 0]) :: (a7_12_3, pm_ia g 160 (fun _ => 0)) :: (a4_12_3, pm_ia g 160 (fun _ => 0)) :: (a1_12_3, pm_ia g 160 (fun _ => 0)) :: (a10_3, pm_ob 7 [.ref a1_12_3, .ref a4_12_3, .ref a7_12_3, .int 0, .int 0]) :: (a7_3, pm_ia g 24 (fun _ => 0)) :: (a4_3, pm_ia g 160 (fun _ => 0)) :: (a1_3, pm_ra g 41 (va_up (fun _ => none) (0 : Int32).toInt.toNat (some a10_3))) :: (a1, pm_ob 9 [.ref a1_3, .ref a4_3, .ref a7_3, .ref a10_3, .ref a10_3, .int 0, .int 0, .int 0]) :: (a, pm_ob 10 [.ref a1, .ref a5, .ref a9, .ref a13, .ref a17, .null, .null, .null, .null]) :: [])) a (pm_ob 10 (([.ref a1, .ref a5, .ref a9, .ref a13, .ref a17, .null, .null, .null, .null] : List Value).set 5 (.ref a21))) = al A ((a7_23, pm_ia g 24 (fun _ => 0)) :: (a4_23, pm_ia g 24 (fun _ => 0)) :: (a1_23, pm_ia g 160 (fun _ => 0)) :: (a21, pm_ob 8 [.ref a1_23, .ref a4_23, .ref a7_23, .int 0, .int 0]) :: (a1_19, pm_ia g 24 (fun _ => 0)) :: (a17, pm_ob 6 [.ref a1_19, .int 0, .int 0, .int 0, .int 0]) :: (a7_15, pm_ia g 24 (fun _ => 0)) :: (a4_15, pm_ia g 24 (fun _ => 0)) :: (a1_15, pm_ia g 160 (fun _ => 0)) :: (a13, pm_ob 1 [.ref a1_15, .ref a4_15, .ref a7_15, .int 0, .int 0]) :: (a4_11, pm_ia g 160 (fun _ => 0)) :: (a1_11, pm_ia g 24 (fun _ => 0)) :: (a9, pm_ob 0 [.ref a1_11, .ref a4_11, .int 0]) :: (a4_7, pm_ia g 24 (fun j => if j < 24 then (1 : Int32) else 0)) :: (a1_7, pm_ia g 24 (fun _ => 0)) :: (a5, pm_ob 2 [.ref a1_7, .ref a4_7, .int 0, .int 0, .int 0, .int 0]) :: (a7_12_3, pm_ia g 160 (fun _ => 0)) :: (a4_12_3, pm_ia g 160 (fun _ => 0)) :: (a1_12_3, pm_ia g 160 (fun _ => 0)) :: (a10_3, pm_ob 7 [.ref a1_12_3, .ref a4_12_3, .ref a7_12_3, .int 0, .int 0]) :: (a7_3, pm_ia g 24 (fun _ => 0)) :: (a4_3, pm_ia g 160 (fun _ => 0)) :: (a1_3, pm_ra g 41 (va_up (fun _ => none) (0 : Int32).toInt.toNat (some a10_3))) :: (a1, pm_ob 9 [.ref a1_3, .ref a4_3, .ref a7_3, .ref a10_3, .ref a10_3, .int 0, .int 0, .int 0]) :: (a, pm_ob 10 [.ref a1, .ref a5, .ref a9, .ref a13, .ref a17, .ref a21, .null, .null, .null]) :: []) from al_set (k := 24) nd23 rfl rfl]
  have nd24 : (List.map Prod.fst ((a7_23, pm_ia g 24 (fun _ => 0)) :: (a4_23, pm_ia g 24 (fun _ => 0)) :: (a1_23, pm_ia g 160 (fun _ => 0)) :: (a21, pm_ob 8 [.ref a1_23, .ref a4_23, .ref a7_23, .int 0, .int 0]) :: (a1_19, pm_ia g 24 (fun _ => 0)) :: (a17, pm_ob 6 [.ref a1_19, .int 0, .int 0, .int 0, .int 0]) :: (a7_15, pm_ia g 24 (fun _ => 0)) :: (a4_15, pm_ia g 24 (fun _ => 0)) :: (a1_15, pm_ia g 160 (fun _ => 0)) :: (a13, pm_ob 1 [.ref a1_15, .ref a4_15, .ref a7_15, .int 0, .int 0]) :: (a4_11, pm_ia g 160 (fun _ => 0)) :: (a1_11, pm_ia g 24 (fun _ => 0)) :: (a9, pm_ob 0 [.ref a1_11, .ref a4_11, .int 0]) :: (a4_7, pm_ia g 24 (fun j => if j < 24 then (1 : Int32) else 0)) :: (a1_7, pm_ia g 24 (fun _ => 0)) :: (a5, pm_ob 2 [.ref a1_7, .ref a4_7, .int 0, .int 0, .int 0, .int 0]) :: (a7_12_3, pm_ia g 160 (fun _ => 0)) :: (a4_12_3, pm_ia g 160 (fun _ => 0)) :: (a1_12_3, pm_ia g 160 (fun _ => 0)) :: (a10_3, pm_ob 7 [.ref a1_12_3, .ref a4_12_3, .ref a7_12_3, .int 0, .int 0]) :: (a7_3, pm_ia g 24 (fun _ => 0)) :: (a4_3, pm_ia g 160 (fun _ => 0)) :: (a1_3, pm_ra g 41 (va_up (fun _ => none) (0 : Int32).toInt.toNat (some a10_3))) :: (a1, pm_ob 9 [.ref a1_3, .ref a4_3, .ref a7_3, .ref a10_3, .ref a10_3, .int 0, .int 0, .int 0]) :: (a, pm_ob 10 [.ref a1, .ref a5, .ref a9, .ref a13, .ref a17, .ref a21, .null, .null, .null]) :: [])).Nodup := nd23
  refine And.intro rfl (fun a25 h25 => ?_)
  have g26 := al_none h25
  have nd26 : (List.map Prod.fst ((a25, pm_ob 4 (pm_df 4)) :: ((a7_23, pm_ia g 24 (fun _ => 0)) :: (a4_23, pm_ia g 24 (fun _ => 0)) :: (a1_23, pm_ia g 160 (fun _ => 0)) :: (a21, pm_ob 8 [.ref a1_23, .ref a4_23, .ref a7_23, .int 0, .int 0]) :: (a1_19, pm_ia g 24 (fun _ => 0)) :: (a17, pm_ob 6 [.ref a1_19, .int 0, .int 0, .int 0, .int 0]) :: (a7_15, pm_ia g 24 (fun _ => 0)) :: (a4_15, pm_ia g 24 (fun _ => 0)) :: (a1_15, pm_ia g 160 (fun _ => 0)) :: (a13, pm_ob 1 [.ref a1_15, .ref a4_15, .ref a7_15, .int 0, .int 0]) :: (a4_11, pm_ia g 160 (fun _ => 0)) :: (a1_11, pm_ia g 24 (fun _ => 0)) :: (a9, pm_ob 0 [.ref a1_11, .ref a4_11, .int 0]) :: (a4_7, pm_ia g 24 (fun j => if j < 24 then (1 : Int32) else 0)) :: (a1_7, pm_ia g 24 (fun _ => 0)) :: (a5, pm_ob 2 [.ref a1_7, .ref a4_7, .int 0, .int 0, .int 0, .int 0]) :: (a7_12_3, pm_ia g 160 (fun _ => 0)) :: (a4_12_3, pm_ia g 160 (fun _ => 0)) :: (a1_12_3, pm_ia g 160 (fun _ => 0)) :: (a10_3, pm_ob 7 [.ref a1_12_3, .ref a4_12_3, .ref a7_12_3, .int 0, .int 0]) :: (a7_3, pm_ia g 24 (fun _ => 0)) :: (a4_3, pm_ia g 160 (fun _ => 0)) :: (a1_3, pm_ra g 41 (va_up (fun _ => none) (0 : Int32).toInt.toNat (some a10_3))) :: (a1, pm_ob 9 [.ref a1_3, .ref a4_3, .ref a7_3, .ref a10_3, .ref a10_3, .int 0, .int 0, .int 0]) :: (a, pm_ob 10 [.ref a1, .ref a5, .ref a9, .ref a13, .ref a17, .ref a21, .null, .null, .null]) :: []))).Nodup := al_nd nd24 h25
  rw [show pm_up (al A ((a7_23, pm_ia g 24 (fun _ => 0)) :: (a4_23, pm_ia g 24 (fun _ => 0)) :: (a1_23, pm_ia g 160 (fun _ => 0)) :: (a21, pm_ob 8 [.ref a1_23, .ref a4_23, .ref a7_23, .int 0, .int 0]) :: (a1_19, pm_ia g 24 (fun _ => 0)) :: (a17, pm_ob 6 [.ref a1_19, .int 0, .int 0, .int 0, .int 0]) :: (a7_15, pm_ia g 24 (fun _ => 0)) :: (a4_15, pm_ia g 24 (fun _ => 0)) :: (a1_15, pm_ia g 160 (fun _ => 0)) :: (a13, pm_ob 1 [.ref a1_15, .ref a4_15, .ref a7_15, .int 0, .int 0]) :: (a4_11, pm_ia g 160 (fun _ => 0)) :: (a1_11, pm_ia g 24 (fun _ => 0)) :: (a9, pm_ob 0 [.ref a1_11, .ref a4_11, .int 0]) :: (a4_7, pm_ia g 24 (fun j => if j < 24 then (1 : Int32) else 0)) :: (a1_7, pm_ia g 24 (fun _ => 0)) :: (a5, pm_ob 2 [.ref a1_7, .ref a4_7, .int 0, .int 0, .int 0, .int 0]) :: (a7_12_3, pm_ia g 160 (fun _ => 0)) :: (a4_12_3, pm_ia g 160 (fun _ => 0)) :: (a1_12_3, pm_ia g 160 (fun _ => 0)) :: (a10_3, pm_ob 7 [.ref a1_12_3, .ref a4_12_3, .ref a7_12_3, .int 0, .int 0]) :: (a7_3, pm_ia g 24 (fun _ => 0)) :: (a4_3, pm_ia g 160 (fun _ => 0)) :: (a1_3, pm_ra g 41 (va_up (fun _ => none) (0 : Int32).toInt.toNat (some a10_3))) :: (a1, pm_ob 9 [.ref a1_3, .ref a4_3, .ref a7_3, .ref a10_3, .ref a10_3, .int 0, .int 0, .int 0]) :: (a, pm_ob 10 [.ref a1, .ref a5, .ref a9, .ref a13, .ref a17, .ref a21, .null, .null, .null]) :: [])) a25 (pm_ob 4 (pm_df 4)) = al A ((a25, pm_ob 4 (pm_df 4)) :: ((a7_23, pm_ia g 24 (fun _ => 0)) :: (a4_23, pm_ia g 24 (fun _ => 0)) :: (a1_23, pm_ia g 160 (fun _ => 0)) :: (a21, pm_ob 8 [.ref a1_23, .ref a4_23, .ref a7_23, .int 0, .int 0]) :: (a1_19, pm_ia g 24 (fun _ => 0)) :: (a17, pm_ob 6 [.ref a1_19, .int 0, .int 0, .int 0, .int 0]) :: (a7_15, pm_ia g 24 (fun _ => 0)) :: (a4_15, pm_ia g 24 (fun _ => 0)) :: (a1_15, pm_ia g 160 (fun _ => 0)) :: (a13, pm_ob 1 [.ref a1_15, .ref a4_15, .ref a7_15, .int 0, .int 0]) :: (a4_11, pm_ia g 160 (fun _ => 0)) :: (a1_11, pm_ia g 24 (fun _ => 0)) :: (a9, pm_ob 0 [.ref a1_11, .ref a4_11, .int 0]) :: (a4_7, pm_ia g 24 (fun j => if j < 24 then (1 : Int32) else 0)) :: (a1_7, pm_ia g 24 (fun _ => 0)) :: (a5, pm_ob 2 [.ref a1_7, .ref a4_7, .int 0, .int 0, .int 0, .int 0]) :: (a7_12_3, pm_ia g 160 (fun _ => 0)) :: (a4_12_3, pm_ia g 160 (fun _ => 0)) :: (a1_12_3, pm_ia g 160 (fun _ => 0)) :: (a10_3, pm_ob 7 [.ref a1_12_3, .ref a4_12_3, .ref a7_12_3, .int 0, .int 0]) :: (a7_3, pm_ia g 24 (fun _ => 0)) :: (a4_3, pm_ia g 160 (fun _ => 0)) :: (a1_3, pm_ra g 41 (va_up (fun _ => none) (0 : Int32).toInt.toNat (some a10_3))) :: (a1, pm_ob 9 [.ref a1_3, .ref a4_3, .ref a7_3, .ref a10_3, .ref a10_3, .int 0, .int 0, .int 0]) :: (a, pm_ob 10 [.ref a1, .ref a5, .ref a9, .ref a13, .ref a17, .ref a21, .null, .null, .null]) :: [])) from rfl]
  refine Exists.intro _ (Exists.intro _ (Exists.intro _ (Exists.intro _ (And.intro (ci_X4_init nd26) (And.intro rfl (fun r9 A9 h9 => ?_))))))
  obtain ⟨rfl, a1_27, rfl, nd27, f27_0⟩ := h9
  refine Exists.intro _ (And.intro (al_get (k := 26) nd27 rfl) (And.intro rfl ?_))
  rw [show pm_up (al A ((a1_27, pm_ia g 160 (fun _ => 0)) :: (a25, pm_ob 4 [.ref a1_27, .int 0, .int 0]) :: (a7_23, pm_ia g 24 (fun _ => 0)) :: (a4_23, pm_ia g 24 (fun _ => 0)) :: (a1_23, pm_ia g 160 (fun _ => 0)) :: (a21, pm_ob 8 [.ref a1_23, .ref a4_23, .ref a7_23, .int 0, .int 0]) :: (a1_19, pm_ia g 24 (fun _ => 0)) :: (a17, pm_ob 6 [.ref a1_19, .int 0, .int 0, .int 0, .int 0]) :: (a7_15, pm_ia g 24 (fun _ => 0)) :: (a4_15, pm_ia g 24 (fun _ => 0)) :: (a1_15, pm_ia g 160 (fun _ => 0)) :: (a13, pm_ob 1 [.ref a1_15, .ref a4_15, .ref a7_15, .int 0, .int 0]) :: (a4_11, pm_ia g 160 (fun _ => 0)) :: (a1_11, pm_ia g 24 (fun _ => 0)) :: (a9, pm_ob 0 [.ref a1_11, .ref a4_11, .int 0]) :: (a4_7, pm_ia g 24 (fun j => if j < 24 then (1 : Int32) else 0)) :: (a1_7, pm_ia g 24 (fun _ => 0)) :: (a5, pm_ob 2 [.ref a1_7, .ref a4_7, .int 0, .int 0, .int 0, .int 0]) :: (a7_12_3, pm_ia g 160 (fun _ => 0)) :: (a4_12_3, pm_ia g 160 (fun _ => 0)) :: (a1_12_3, pm_ia g 160 (fun _ => 0)) :: (a10_3, pm_ob 7 [.ref a1_12_3, .ref a4_12_3, .ref a7_12_3, .int 0, .int 0]) :: (a7_3, pm_ia g 24 (fun _ => 0)) :: (a4_3, pm_ia g 160 (fun _ => 0)) :: (a1_3, pm_ra g 41 (va_up (fun _ => none) (0 : Int32).toInt.toNat (some a10_3))) :: (a1, pm_ob 9 [.ref a1_3, .ref a4_3, .ref a7_3, .ref a10_3, .ref a10_3, .int 0, .int 0, .int 0]) :: (a, pm_ob 10 [.ref a1, .ref a5, .ref a9, .ref a13, .ref a17, .ref a21, .null, .null, .null]) :: [])) a (pm_ob 10 (([.ref a1, .ref a5, .ref a9, .ref a13, .ref a17, .ref a21, .null, .null, .null] : List Value).set 6 (.ref a25))) = al A ((a1_27, pm_ia g 160 (fun _ => 0)) :: (a25, pm_ob 4 [.ref a1_27, .int 0, .int 0]) :: (a7_23, pm_ia g 24 (fun _ => 0)) :: (a4_23, pm_ia g 24 (fun _ => 0)) :: (a1_23, pm_ia g 160 (fun _ => 0)) :: (a21, pm_ob 8 [.ref a1_23, .ref a4_23, .ref a7_23, .int 0, .int 0]) :: (a1_19, pm_ia g 24 (fun _ => 0)) :: (a17, pm_ob 6 [.ref a1_19, .int 0, .int 0, .int 0, .int 0]) :: (a7_15, pm_ia g 24 (fun _ => 0)) :: (a4_15, pm_ia g 24 (fun _ => 0)) :: (a1_15, pm_ia g 160 (fun _ => 0)) :: (a13, pm_ob 1 [.ref a1_15, .ref a4_15, .ref a7_15, .int 0, .int 0]) :: (a4_11, pm_ia g 160 (fun _ => 0)) :: (a1_11, pm_ia g 24 (fun _ => 0)) :: (a9, pm_ob 0 [.ref a1_11, .ref a4_11, .int 0]) :: (a4_7, pm_ia g 24 (fun j => if j < 24 then (1 : Int32) else 0)) :: (a1_7, pm_ia g 24 (fun _ => 0)) :: (a5, pm_ob 2 [.ref a1_7, .ref a4_7, .int 0, .int 0, .int 0, .int 0]) :: (a7_12_3, pm_ia g 160 (fun _ => 0)) :: (a4_12_3, pm_ia g 160 (fun _ => 0)) :: (a1_12_3, pm_ia g 160 (fun _ => 0)) :: (a10_3, pm_ob 7 [.ref a1_12_3, .ref a4_12_3, .ref a7_12_3, .int 0, .int 0]) :: (a7_3, pm_ia g 24 (fun _ => 0)) :: (a4_3, pm_ia g 160 (fun _ => 0)) :: (a1_3, pm_ra g 41 (va_up (fun _ => none) (0 : Int32).toInt.toNat (some a10_3))) :: (a1, pm_ob 9 [.ref a1_3, .ref a4_3, .ref a7_3, .ref a10_3, .ref a10_3, .int 0, .int 0, .int 0]) :: (a, pm_ob 10 [.ref a1, .ref a5, .ref a9, .ref a13, .ref a17, .ref a21, .ref a25, .null, .null]) :: []) from al_set (k := 26) nd27 rfl rfl]
  have nd28 : (List.map Prod.fst ((a1_27, pm_ia g 160 (fun _ => 0)) :: (a25, pm_ob 4 [.ref a1_27, .int 0, .int 0]) :: (a7_23, pm_ia g 24 (fun _ => 0)) :: (a4_23, pm_ia g 24 (fun _ => 0)) :: (a1_23, pm_ia g 160 (fun _ => 0)) :: (a21, pm_ob 8 [.ref a1_23, .ref a4_23, .ref a7_23, .int 0, .int 0]) :: (a1_19, pm_ia g 24 (fun _ => 0)) :: (a17, pm_ob 6 [.ref a1_19, .int 0, .int 0, .int 0, .int 0]) :: (a7_15, pm_ia g 24 (fun _ => 0)) :: (a4_15, pm_ia g 24 (fun _ => 0)) :: (a1_15, pm_ia g 160 (fun _ => 0)) :: (a13, pm_ob 1 [.ref a1_15, .ref a4_15, .ref a7_15, .int 0, .int 0]) :: (a4_11, pm_ia g 160 (fun _ => 0)) :: (a1_11, pm_ia g 24 (fun _ => 0)) :: (a9, pm_ob 0 [.ref a1_11, .ref a4_11, .int 0]) :: (a4_7, pm_ia g 24 (fun j => if j < 24 then (1 : Int32) else 0)) :: (a1_7, pm_ia g 24 (fun _ => 0)) :: (a5, pm_ob 2 [.ref a1_7, .ref a4_7, .int 0, .int 0, .int 0, .int 0]) :: (a7_12_3, pm_ia g 160 (fun _ => 0)) :: (a4_12_3, pm_ia g 160 (fun _ => 0)) :: (a1_12_3, pm_ia g 160 (fun _ => 0)) :: (a10_3, pm_ob 7 [.ref a1_12_3, .ref a4_12_3, .ref a7_12_3, .int 0, .int 0]) :: (a7_3, pm_ia g 24 (fun _ => 0)) :: (a4_3, pm_ia g 160 (fun _ => 0)) :: (a1_3, pm_ra g 41 (va_up (fun _ => none) (0 : Int32).toInt.toNat (some a10_3))) :: (a1, pm_ob 9 [.ref a1_3, .ref a4_3, .ref a7_3, .ref a10_3, .ref a10_3, .int 0, .int 0, .int 0]) :: (a, pm_ob 10 [.ref a1, .ref a5, .ref a9, .ref a13, .ref a17, .ref a21, .ref a25, .null, .null]) :: [])).Nodup := nd27
  refine And.intro rfl (fun a29 h29 => ?_)
  have g30 := al_none h29
  have nd30 : (List.map Prod.fst ((a29, pm_ob 3 (pm_df 3)) :: ((a1_27, pm_ia g 160 (fun _ => 0)) :: (a25, pm_ob 4 [.ref a1_27, .int 0, .int 0]) :: (a7_23, pm_ia g 24 (fun _ => 0)) :: (a4_23, pm_ia g 24 (fun _ => 0)) :: (a1_23, pm_ia g 160 (fun _ => 0)) :: (a21, pm_ob 8 [.ref a1_23, .ref a4_23, .ref a7_23, .int 0, .int 0]) :: (a1_19, pm_ia g 24 (fun _ => 0)) :: (a17, pm_ob 6 [.ref a1_19, .int 0, .int 0, .int 0, .int 0]) :: (a7_15, pm_ia g 24 (fun _ => 0)) :: (a4_15, pm_ia g 24 (fun _ => 0)) :: (a1_15, pm_ia g 160 (fun _ => 0)) :: (a13, pm_ob 1 [.ref a1_15, .ref a4_15, .ref a7_15, .int 0, .int 0]) :: (a4_11, pm_ia g 160 (fun _ => 0)) :: (a1_11, pm_ia g 24 (fun _ => 0)) :: (a9, pm_ob 0 [.ref a1_11, .ref a4_11, .int 0]) :: (a4_7, pm_ia g 24 (fun j => if j < 24 then (1 : Int32) else 0)) :: (a1_7, pm_ia g 24 (fun _ => 0)) :: (a5, pm_ob 2 [.ref a1_7, .ref a4_7, .int 0, .int 0, .int 0, .int 0]) :: (a7_12_3, pm_ia g 160 (fun _ => 0)) :: (a4_12_3, pm_ia g 160 (fun _ => 0)) :: (a1_12_3, pm_ia g 160 (fun _ => 0)) :: (a10_3, pm_ob 7 [.ref a1_12_3, .ref a4_12_3, .ref a7_12_3, .int 0, .int 0]) :: (a7_3, pm_ia g 24 (fun _ => 0)) :: (a4_3, pm_ia g 160 (fun _ => 0)) :: (a1_3, pm_ra g 41 (va_up (fun _ => none) (0 : Int32).toInt.toNat (some a10_3))) :: (a1, pm_ob 9 [.ref a1_3, .ref a4_3, .ref a7_3, .ref a10_3, .ref a10_3, .int 0, .int 0, .int 0]) :: (a, pm_ob 10 [.ref a1, .ref a5, .ref a9, .ref a13, .ref a17, .ref a21, .ref a25, .null, .null]) :: []))).Nodup := al_nd nd28 h29
  rw [show pm_up (al A ((a1_27, pm_ia g 160 (fun _ => 0)) :: (a25, pm_ob 4 [.ref a1_27, .int 0, .int 0]) :: (a7_23, pm_ia g 24 (fun _ => 0)) :: (a4_23, pm_ia g 24 (fun _ => 0)) :: (a1_23, pm_ia g 160 (fun _ => 0)) :: (a21, pm_ob 8 [.ref a1_23, .ref a4_23, .ref a7_23, .int 0, .int 0]) :: (a1_19, pm_ia g 24 (fun _ => 0)) :: (a17, pm_ob 6 [.ref a1_19, .int 0, .int 0, .int 0, .int 0]) :: (a7_15, pm_ia g 24 (fun _ => 0)) :: (a4_15, pm_ia g 24 (fun _ => 0)) :: (a1_15, pm_ia g 160 (fun _ => 0)) :: (a13, pm_ob 1 [.ref a1_15, .ref a4_15, .ref a7_15, .int 0, .int 0]) :: (a4_11, pm_ia g 160 (fun _ => 0)) :: (a1_11, pm_ia g 24 (fun _ => 0)) :: (a9, pm_ob 0 [.ref a1_11, .ref a4_11, .int 0]) :: (a4_7, pm_ia g 24 (fun j => if j < 24 then (1 : Int32) else 0)) :: (a1_7, pm_ia g 24 (fun _ => 0)) :: (a5, pm_ob 2 [.ref a1_7, .ref a4_7, .int 0, .int 0, .int 0, .int 0]) :: (a7_12_3, pm_ia g 160 (fun _ => 0)) :: (a4_12_3, pm_ia g 160 (fun _ => 0)) :: (a1_12_3, pm_ia g 160 (fun _ => 0)) :: (a10_3, pm_ob 7 [.ref a1_12_3, .ref a4_12_3, .ref a7_12_3, .int 0, .int 0]) :: (a7_3, pm_ia g 24 (fun _ => 0)) :: (a4_3, pm_ia g 160 (fun _ => 0)) :: (a1_3, pm_ra g 41 (va_up (fun _ => none) (0 : Int32).toInt.toNat (some a10_3))) :: (a1, pm_ob 9 [.ref a1_3, .ref a4_3, .ref a7_3, .ref a10_3, .ref a10_3, .int 0, .int 0, .int 0]) :: (a, pm_ob 10 [.ref a1, .ref a5, .ref a9, .ref a13, .ref a17, .ref a21, .ref a25, .null, .null]) :: [])) a29 (pm_ob 3 (pm_df 3)) = al A ((a29, pm_ob 3 (pm_df 3)) :: ((a1_27, pm_ia g 160 (fun _ => 0)) :: (a25, pm_ob 4 [.ref a1_27, .int 0, .int 0]) :: (a7_23, pm_ia g 24 (fun _ => 0)) :: (a4_23, pm_ia g 24 (fun _ => 0)) :: (a1_23, pm_ia g 160 (fun _ => 0)) :: (a21, pm_ob 8 [.ref a1_23, .ref a4_23, .ref a7_23, .int 0, .int 0]) :: (a1_19, pm_ia g 24 (fun _ => 0)) :: (a17, pm_ob 6 [.ref a1_19, .int 0, .int 0, .int 0, .int 0]) :: (a7_15, pm_ia g 24 (fun _ => 0)) :: (a4_15, pm_ia g 24 (fun _ => 0)) :: (a1_15, pm_ia g 160 (fun _ => 0)) :: (a13, pm_ob 1 [.ref a1_15, .ref a4_15, .ref a7_15, .int 0, .int 0]) :: (a4_11, pm_ia g 160 (fun _ => 0)) :: (a1_11, pm_ia g 24 (fun _ => 0)) :: (a9, pm_ob 0 [.ref a1_11, .ref a4_11, .int 0]) :: (a4_7, pm_ia g 24 (fun j => if j < 24 then (1 : Int32) else 0)) :: (a1_7, pm_ia g 24 (fun _ => 0)) :: (a5, pm_ob 2 [.ref a1_7, .ref a4_7, .int 0, .int 0, .int 0, .int 0]) :: (a7_12_3, pm_ia g 160 (fun _ => 0)) :: (a4_12_3, pm_ia g 160 (fun _ => 0)) :: (a1_12_3, pm_ia g 160 (fun _ => 0)) :: (a10_3, pm_ob 7 [.ref a1_12_3, .ref a4_12_3, .ref a7_12_3, .int 0, .int 0]) :: (a7_3, pm_ia g 24 (fun _ => 0)) :: (a4_3, pm_ia g 160 (fun _ => 0)) :: (a1_3, pm_ra g 41 (va_up (fun _ => none) (0 : Int32).toInt.toNat (some a10_3))) :: (a1, pm_ob 9 [.ref a1_3, .ref a4_3, .ref a7_3, .ref a10_3, .ref a10_3, .int 0, .int 0, .int 0]) :: (a, pm_ob 10 [.ref a1, .ref a5, .ref a9, .ref a13, .ref a17, .ref a21, .ref a25, .null, .null]) :: [])) from rfl]
  refine Exists.intro _ (Exists.intro _ (Exists.intro _ (Exists.intro _ (And.intro (ci_X3_init nd30) (And.intro rfl (fun r9 A9 h9 => ?_))))))
  obtain ⟨rfl, a1_31, r1_31, rfl, nd31, f31_0, f31_1, f31_2, f31_3, f31_4, f31_5, f31_6, f31_7, f31_8, f31_9⟩ := h9
  refine Exists.intro _ (And.intro (al_get (k := 37) nd31 rfl) (And.intro rfl ?_))
  rw [show pm_up (al A (((r1_31 8), pm_ia g 161 (fun _ => 0)) :: ((r1_31 7), pm_ia g 161 (fun _ => 0)) :: ((r1_31 6), pm_ia g 161 (fun _ => 0)) :: ((r1_31 5), pm_ia g 161 (fun _ => 0)) :: ((r1_31 4), pm_ia g 161 (fun _ => 0)) :: ((r1_31 3), pm_ia g 161 (fun _ => 0)) :: ((r1_31 2), pm_ia g 161 (fun _ => 0)) :: ((r1_31 1), pm_ia g 161 (fun _ => 0)) :: ((r1_31 0), pm_ia g 161 (fun _ => 0)) :: (a1_31, pm_ma g 9 (fun j => if j < 9 then some (r1_31 j) else none)) :: (a29, pm_ob 3 [.ref a1_31]) :: (a1_27, pm_ia g 160 (fun _ => 0)) :: (a25, pm_ob 4 [.ref a1_27, .int 0, .int 0]) :: (a7_23, pm_ia g 24 (fun _ => 0)) :: (a4_23, pm_ia g 24 (fun _ => 0)) :: (a1_23, pm_ia g 160 (fun _ => 0)) :: (a21, pm_ob 8 [.ref a1_23, .ref a4_23, .ref a7_23, .int 0, .int 0]) :: (a1_19, pm_ia g 24 (fun _ => 0)) :: (a17, pm_ob 6 [.ref a1_19, .int 0, .int 0, .int 0, .int 0]) :: (a7_15, pm_ia g 24 (fun _ => 0)) :: (a4_15, pm_ia g 24 (fun _ => 0)) :: (a1_15, pm_ia g 160 (fun _ => 0)) :: (a13, pm_ob 1 [.ref a1_15, .ref a4_15, .ref a7_15, .int 0, .int 0]) :: (a4_11, pm_ia g 160 (fun _ => 0)) :: (a1_11, pm_ia g 24 (fun _ => 0)) :: (a9, pm_ob 0 [.ref a1_11, .ref a4_11, .int 0]) :: (a4_7, pm_ia g 24 (fun j => if j < 24 then (1 : Int32) else 0)) :: (a1_7, pm_ia g 24 (fun _ => 0)) :: (a5, pm_ob 2 [.ref a1_7, .ref a4_7, .int 0, .int 0, .int 0, .int 0]) :: (a7_12_3, pm_ia g 160 (fun _ => 0)) :: (a4_12_3, pm_ia g 160 (fun _ => 0)) :: (a1_12_3, pm_ia g 160 (fun _ => 0)) :: (a10_3, pm_ob 7 [.ref a1_12_3, .ref a4_12_3, .ref a7_12_3, .int 0, .int 0]) :: (a7_3, pm_ia g 24 (fun _ => 0)) :: (a4_3, pm_ia g 160 (fun _ => 0)) :: (a1_3, pm_ra g 41 (va_up (fun _ => none) (0 : Int32).toInt.toNat (some a10_3))) :: (a1, pm_ob 9 [.ref a1_3, .ref a4_3, .ref a7_3, .ref a10_3, .ref a10_3, .int 0, .int 0, .int 0]) :: (a, pm_ob 10 [.ref a1, .ref a5, .ref a9, .ref a13, .ref a17, .ref a21, .ref a25, .null, .null]) :: [])) a (pm_ob 10 (([.ref a1, .ref a5, .ref a9, .ref a13, .ref a17, .ref a21, .ref a25, .null, .null] : List Value).set 7 (.ref a29))) = al A (((r1_31 8), pm_ia g 161 (fun _ => 0)) :: ((r1_31 7), pm_ia g 161 (fun _ => 0)) :: ((r1_31 6), pm_ia g 161 (fun _ => 0)) :: ((r1_31 5), pm_ia g 161 (fun _ => 0)) :: ((r1_31 4), pm_ia g 161 (fun _ => 0)) :: ((r1_31 3), pm_ia g 161 (fun _ => 0)) :: ((r1_31 2), pm_ia g 161 (fun _ => 0)) :: ((r1_31 1), pm_ia g 161 (fun _ => 0)) :: ((r1_31 0), pm_ia g 161 (fun _ => 0)) :: (a1_31, pm_ma g 9 (fun j => if j < 9 then some (r1_31 j) else none)) :: (a29, pm_ob 3 [.ref a1_31]) :: (a1_27, pm_ia g 160 (fun _ => 0)) :: (a25, pm_ob 4 [.ref a1_27, .int 0, .int 0]) :: (a7_23, pm_ia g 24 (fun _ => 0)) :: (a4_23, pm_ia g 24 (fun _ => 0)) :: (a1_23, pm_ia g 160 (fun _ => 0)) :: (a21, pm_ob 8 [.ref a1_23, .ref a4_23, .ref a7_23, .int 0, .int 0]) :: (a1_19, pm_ia g 24 (fun _ => 0)) :: (a17, pm_ob 6 [.ref a1_19, .int 0, .int 0, .int 0, .int 0]) :: (a7_15, pm_ia g 24 (fun _ => 0)) :: (a4_15, pm_ia g 24 (fun _ => 0)) :: (a1_15, pm_ia g 160 (fun _ => 0)) :: (a13, pm_ob 1 [.ref a1_15, .ref a4_15, .ref a7_15, .int 0, .int 0]) :: (a4_11, pm_ia g 160 (fun _ => 0)) :: (a1_11, pm_ia g 24 (fun _ => 0)) :: (a9, pm_ob 0 [.ref a1_11, .ref a4_11, .int 0]) :: (a4_7, pm_ia g 24 (fun j => if j < 24 then (1 : Int32) else 0)) :: (a1_7, pm_ia g 24 (fun _ => 0)) :: (a5, pm_ob 2 [.ref a1_7, .ref a4_7, .int 0, .int 0, .int 0, .int 0]) :: (a7_12_3, pm_ia g 160 (fun _ => 0)) :: (a4_12_3, pm_ia g 160 (fun _ => 0)) :: (a1_12_3, pm_ia g 160 (fun _ => 0)) :: (a10_3, pm_ob 7 [.ref a1_12_3, .ref a4_12_3, .ref a7_12_3, .int 0, .int 0]) :: (a7_3, pm_ia g 24 (fun _ => 0)) :: (a4_3, pm_ia g 160 (fun _ => 0)) :: (a1_3, pm_ra g 41 (va_up (fun _ => none) (0 : Int32).toInt.toNat (some a10_3))) :: (a1, pm_ob 9 [.ref a1_3, .ref a4_3, .ref a7_3, .ref a10_3, .ref a10_3, .int 0, .int 0, .int 0]) :: (a, pm_ob 10 [.ref a1, .ref a5, .ref a9, .ref a13, .ref a17, .ref a21, .ref a25, .ref a29, .null]) :: []) from al_set (k := 37) nd31 rfl rfl]
  have nd32 : (List.map Prod.fst (((r1_31 8), pm_ia g 161 (fun _ => 0)) :: ((r1_31 7), pm_ia g 161 (fun _ => 0)) :: ((r1_31 6), pm_ia g 161 (fun _ => 0)) :: ((r1_31 5), pm_ia g 161 (fun _ => 0)) :: ((r1_31 4), pm_ia g 161 (fun _ => 0)) :: ((r1_31 3), pm_ia g 161 (fun _ => 0)) :: ((r1_31 2), pm_ia g 161 (fun _ => 0)) :: ((r1_31 1), pm_ia g 161 (fun _ => 0)) :: ((r1_31 0), pm_ia g 161 (fun _ => 0)) :: (a1_31, pm_ma g 9 (fun j => if j < 9 then some (r1_31 j) else none)) :: (a29, pm_ob 3 [.ref a1_31]) :: (a1_27, pm_ia g 160 (fun _ => 0)) :: (a25, pm_ob 4 [.ref a1_27, .int 0, .int 0]) :: (a7_23, pm_ia g 24 (fun _ => 0)) :: (a4_23, pm_ia g 24 (fun _ => 0)) :: (a1_23, pm_ia g 160 (fun _ => 0)) :: (a21, pm_ob 8 [.ref a1_23, .ref a4_23, .ref a7_23, .int 0, .int 0]) :: (a1_19, pm_ia g 24 (fun _ => 0)) :: (a17, pm_ob 6 [.ref a1_19, .int 0, .int 0, .int 0, .int 0]) :: (a7_15, pm_ia g 24 (fun _ => 0)) :: (a4_15, pm_ia g 24 (fun _ => 0)) :: (a1_15, pm_ia g 160 (fun _ => 0)) :: (a13, pm_ob 1 [.ref a1_15, .ref a4_15, .ref a7_15, .int 0, .int 0]) :: (a4_11, pm_ia g 160 (fun _ => 0)) :: (a1_11, pm_ia g 24 (fun _ => 0)) :: (a9, pm_ob 0 [.ref a1_11, .ref a4_11, .int 0]) :: (a4_7, pm_ia g 24 (fun j => if j < 24 then (1 : Int32) else 0)) :: (a1_7, pm_ia g 24 (fun _ => 0)) :: (a5, pm_ob 2 [.ref a1_7, .ref a4_7, .int 0, .int 0, .int 0, .int 0]) :: (a7_12_3, pm_ia g 160 (fun _ => 0)) :: (a4_12_3, pm_ia g 160 (fun _ => 0)) :: (a1_12_3, pm_ia g 160 (fun _ => 0)) :: (a10_3, pm_ob 7 [.ref a1_12_3, .ref a4_12_3, .ref a7_12_3, .int 0, .int 0]) :: (a7_3, pm_ia g 24 (fun _ => 0)) :: (a4_3, pm_ia g 160 (fun _ => 0)) :: (a1_3, pm_ra g 41 (va_up (fun _ => none) (0 : Int32).toInt.toNat (some a10_3))) :: (a1, pm_ob 9 [.ref a1_3, .ref a4_3, .ref a7_3, .ref a10_3, .ref a10_3, .int 0, .int 0, .int 0]) :: (a, pm_ob 10 [.ref a1, .ref a5, .ref a9, .ref a13, .ref a17, .ref a21, .ref a25, .ref a29, .null]) :: [])).Nodup := nd31
  refine And.intro rfl (fun a33 h33 => ?_)
  have g34 := al_none h33
  have nd34 : (List.map Prod.fst ((a33, pm_ob 5 (pm_df 5)) :: (((r1_31 8), pm_ia g 161 (fun _ => 0)) :: ((r1_31 7), pm_ia g 161 (fun _ => 0)) :: ((r1_31 6), pm_ia g 161 (fun _ => 0)) :: ((r1_31 5), pm_ia g 161 (fun _ => 0)) :: ((r1_31 4), pm_ia g 161 (fun _ => 0)) :: ((r1_31 3), pm_ia g 161 (fun _ => 0)) :: ((r1_31 2), pm_ia g 161 (fun _ => 0)) :: ((r1_31 1), pm_ia g 161 (fun _ => 0)) :: ((r1_31 0), pm_ia g 161 (fun _ => 0)) :: (a1_31, pm_ma g 9 (fun j => if j < 9 then some (r1_31 j) else none)) :: (a29, pm_ob 3 [.ref a1_31]) :: (a1_27, pm_ia g 160 (fun _ => 0)) :: (a25, pm_ob 4 [.ref a1_27, .int 0, .int 0]) :: (a7_23, pm_ia g 24 (fun _ => 0)) :: (a4_23, pm_ia g 24 (fun _ => 0)) :: (a1_23, pm_ia g 160 (fun _ => 0)) :: (a21, pm_ob 8 [.ref a1_23, .ref a4_23, .ref a7_23, .int 0, .int 0]) :: (a1_19, pm_ia g 24 (fun _ => 0)) :: (a17, pm_ob 6 [.ref a1_19, .int 0, .int 0, .int 0, .int 0]) :: (a7_15, pm_ia g 24 (fun _ => 0)) :: (a4_15, pm_ia g 24 (fun _ => 0)) :: (a1_15, pm_ia g 160 (fun _ => 0)) :: (a13, pm_ob 1 [.ref a1_15, .ref a4_15, .ref a7_15, .int 0, .int 0]) :: (a4_11, pm_ia g 160 (fun _ => 0)) :: (a1_11, pm_ia g 24 (fun _ => 0)) :: (a9, pm_ob 0 [.ref a1_11, .ref a4_11, .int 0]) :: (a4_7, pm_ia g 24 (fun j => if j < 24 then (1 : Int32) else 0)) :: (a1_7, pm_ia g 24 (fun _ => 0)) :: (a5, pm_ob 2 [.ref a1_7, .ref a4_7, .int 0, .int 0, .int 0, .int 0]) :: (a7_12_3, pm_ia g 160 (fun _ => 0)) :: (a4_12_3, pm_ia g 160 (fun _ => 0)) :: (a1_12_3, pm_ia g 160 (fun _ => 0)) :: (a10_3, pm_ob 7 [.ref a1_12_3, .ref a4_12_3, .ref a7_12_3, .int 0, .int 0]) :: (a7_3, pm_ia g 24 (fun _ => 0)) :: (a4_3, pm_ia g 160 (fun _ => 0)) :: (a1_3, pm_ra g 41 (va_up (fun _ => none) (0 : Int32).toInt.toNat (some a10_3))) :: (a1, pm_ob 9 [.ref a1_3, .ref a4_3, .ref a7_3, .ref a10_3, .ref a10_3, .int 0, .int 0, .int 0]) :: (a, pm_ob 10 [.ref a1, .ref a5, .ref a9, .ref a13, .ref a17, .ref a21, .ref a25, .ref a29, .null]) :: []))).Nodup := al_nd nd32 h33
  rw [show pm_up (al A (((r1_31 8), pm_ia g 161 (fun _ => 0)) :: ((r1_31 7), pm_ia g 161 (fun _ => 0)) :: ((r1_31 6), pm_ia g 161 (fun _ => 0)) :: ((r1_31 5), pm_ia g 161 (fun _ => 0)) :: ((r1_31 4), pm_ia g 161 (fun _ => 0)) :: ((r1_31 3), pm_ia g 161 (fun _ => 0)) :: ((r1_31 2), pm_ia g 161 (fun _ => 0)) :: ((r1_31 1), pm_ia g 161 (fun _ => 0)) :: ((r1_31 0), pm_ia g 161 (fun _ => 0)) :: (a1_31, pm_ma g 9 (fun j => if j < 9 then some (r1_31 j) else none)) :: (a29, pm_ob 3 [.ref a1_31]) :: (a1_27, pm_ia g 160 (fun _ => 0)) :: (a25, pm_ob 4 [.ref a1_27, .int 0, .int 0]) :: (a7_23, pm_ia g 24 (fun _ => 0)) :: (a4_23, pm_ia g 24 (fun _ => 0)) :: (a1_23, pm_ia g 160 (fun _ => 0)) :: (a21, pm_ob 8 [.ref a1_23, .ref a4_23, .ref a7_23, .int 0, .int 0]) :: (a1_19, pm_ia g 24 (fun _ => 0)) :: (a17, pm_ob 6 [.ref a1_19, .int 0, .int 0, .int 0, .int 0]) :: (a7_15, pm_ia g 24 (fun _ => 0)) :: (a4_15, pm_ia g 24 (fun _ => 0)) :: (a1_15, pm_ia g 160 (fun _ => 0)) :: (a13, pm_ob 1 [.ref a1_15, .ref a4_15, .ref a7_15, .int 0, .int 0]) :: (a4_11, pm_ia g 160 (fun _ => 0)) :: (a1_11, pm_ia g 24 (fun _ => 0)) :: (a9, pm_ob 0 [.ref a1_11, .ref a4_11, .int 0]) :: (a4_7, pm_ia g 24 (fun j => if j < 24 then (1 : Int32) else 0)) :: (a1_7, pm_ia g 24 (fun _ => 0)) :: (a5, pm_ob 2 [.ref a1_7, .ref a4_7, .int 0, .int 0, .int 0, .int 0]) :: (a7_12_3, pm_ia g 160 (fun _ => 0)) :: (a4_12_3, pm_ia g 160 (fun _ => 0)) :: (a1_12_3, pm_ia g 160 (fun _ => 0)) :: (a10_3, pm_ob 7 [.ref a1_12_3, .ref a4_12_3, .ref a7_12_3, .int 0, .int 0]) :: (a7_3, pm_ia g 24 (fun _ => 0)) :: (a4_3, pm_ia g 160 (fun _ => 0)) :: (a1_3, pm_ra g 41 (va_up (fun _ => none) (0 : Int32).toInt.toNat (some a10_3))) :: (a1, pm_ob 9 [.ref a1_3, .ref a4_3, .ref a7_3, .ref a10_3, .ref a10_3, .int 0, .int 0, .int 0]) :: (a, pm_ob 10 [.ref a1, .ref a5, .ref a9, .ref a13, .ref a17, .ref a21, .ref a25, .ref a29, .null]) :: [])) a33 (pm_ob 5 (pm_df 5)) = al A ((a33, pm_ob 5 (pm_df 5)) :: (((r1_31 8), pm_ia g 161 (fun _ => 0)) :: ((r1_31 7), pm_ia g 161 (fun _ => 0)) :: ((r1_31 6), pm_ia g 161 (fun _ => 0)) :: ((r1_31 5), pm_ia g 161 (fun _ => 0)) :: ((r1_31 4), pm_ia g 161 (fun _ => 0)) :: ((r1_31 3), pm_ia g 161 (fun _ => 0)) :: ((r1_31 2), pm_ia g 161 (fun _ => 0)) :: ((r1_31 1), pm_ia g 161 (fun _ => 0)) :: ((r1_31 0), pm_ia g 161 (fun _ => 0)) :: (a1_31, pm_ma g 9 (fun j => if j < 9 then some (r1_31 j) else none)) :: (a29, pm_ob 3 [.ref a1_31]) :: (a1_27, pm_ia g 160 (fun _ => 0)) :: (a25, pm_ob 4 [.ref a1_27, .int 0, .int 0]) :: (a7_23, pm_ia g 24 (fun _ => 0)) :: (a4_23, pm_ia g 24 (fun _ => 0)) :: (a1_23, pm_ia g 160 (fun _ => 0)) :: (a21, pm_ob 8 [.ref a1_23, .ref a4_23, .ref a7_23, .int 0, .int 0]) :: (a1_19, pm_ia g 24 (fun _ => 0)) :: (a17, pm_ob 6 [.ref a1_19, .int 0, .int 0, .int 0, .int 0]) :: (a7_15, pm_ia g 24 (fun _ => 0)) :: (a4_15, pm_ia g 24 (fun _ => 0)) :: (a1_15, pm_ia g 160 (fun _ => 0)) :: (a13, pm_ob 1 [.ref a1_15, .ref a4_15, .ref a7_15, .int 0, .int 0]) :: (a4_11, pm_ia g 160 (fun _ => 0)) :: (a1_11, pm_ia g 24 (fun _ => 0)) :: (a9, pm_ob 0 [.ref a1_11, .ref a4_11, .int 0]) :: (a4_7, pm_ia g 24 (fun j => if j < 24 then (1 : Int32) else 0)) :: (a1_7, pm_ia g 24 (fun _ => 0)) :: (a5, pm_ob 2 [.ref a1_7, .ref a4_7, .int 0, .int 0, .int 0, .int 0]) :: (a7_12_3, pm_ia g 160 (fun _ => 0)) :: (a4_12_3, pm_ia g 160 (fun _ => 0)) :: (a1_12_3, pm_ia g 160 (fun _ => 0)) :: (a10_3, pm_ob 7 [.ref a1_12_3, .ref a4_12_3, .ref a7_12_3, .int 0, .int 0]) :: (a7_3, pm_ia g 24 (fun _ => 0)) :: (a4_3, pm_ia g 160 (fun _ => 0)) :: (a1_3, pm_ra g 41 (va_up (fun _ => none) (0 : Int32).toInt.toNat (some a10_3))) :: (a1, pm_ob 9 [.ref a1_3, .ref a4_3, .ref a7_3, .ref a10_3, .ref a10_3, .int 0, .int 0, .int 0]) :: (a, pm_ob 10 [.ref a1, .ref a5, .ref a9, .ref a13, .ref a17, .ref a21, .ref a25, .ref a29, .null]) :: [])) from rfl]
  refine Exists.intro _ (Exists.intro _ (Exists.intro _ (Exists.intro _ (And.intro (ci_X5_init nd34) (And.intro rfl (fun r9 A9 h9 => ?_))))))
  obtain ⟨rfl, a1_35, a4_35, a7_35, a10_35, a13_35, rfl, nd35, f35_0, f35_1, f35_2, f35_3, f35_4⟩ := h9
  refine Exists.intro _ (And.intro (al_get (k := 43) nd35 rfl) (And.intro rfl ?_))
  rw [show pm_up (al A ((a13_35, pm_ia g 30 (fun _ => 0)) :: (a10_35, pm_ia g 30 (fun _ => 0)) :: (a7_35, pm_ia g 30 (fun _ => 0)) :: (a4_35, pm_ia g 30 (fun _ => 0)) :: (a1_35, pm_ia g 30 (fun _ => 0)) :: (a33, pm_ob 5 [.ref a1_35, .ref a4_35, .ref a7_35, .ref a10_35, .ref a13_35, .int 0]) :: ((r1_31 8), pm_ia g 161 (fun _ => 0)) :: ((r1_31 7), pm_ia g 161 (fun _ => 0)) :: ((r1_31 6), pm_ia g 161 (fun _ => 0)) :: ((r1_31 5), pm_ia g 161 (fun _ => 0)) :: ((r1_31 4), pm_ia g 161 (fun _ => 0)) :: ((r1_31 3), pm_ia g 161 (fun _ => 0)) :: ((r1_31 2), pm_ia g 161 (fun _ => 0)) :: ((r1_31 1), pm_ia g 161 (fun _ => 0)) :: ((r1_31 0), pm_ia g 161 (fun _ => 0)) :: (a1_31, pm_ma g 9 (fun j => if j < 9 then some (r1_31 j) else none)) :: (a29, pm_ob 3 [.ref a1_31]) :: (a1_27, pm_ia g 160 (fun _ => 0)) :: (a25, pm_ob 4 [.ref a1_27, .int 0, .int 0]) :: (a7_23, pm_ia g 24 (fun _ => 0)) :: (a4_23, pm_ia g 24 (fun _ => 0)) :: (a1_23, pm_ia g 160 (fun _ => 0)) :: (a21, pm_ob 8 [.ref a1_23, .ref a4_23, .ref a7_23, .int 0, .int 0]) :: (a1_19, pm_ia g 24 (fun _ => 0)) :: (a17, pm_ob 6 [.ref a1_19, .int 0, .int 0, .int 0, .int 0]) :: (a7_15, pm_ia g 24 (fun _ => 0)) :: (a4_15, pm_ia g 24 (fun _ => 0)) :: (a1_15, pm_ia g 160 (fun _ => 0)) :: (a13, pm_ob 1 [.ref a1_15, .ref a4_15, .ref a7_15, .int 0, .int 0]) :: (a4_11, pm_ia g 160 (fun _ => 0)) :: (a1_11, pm_ia g 24 (fun _ => 0)) :: (a9, pm_ob 0 [.ref a1_11, .ref a4_11, .int 0]) :: (a4_7, pm_ia g 24 (fun j => if j < 24 then (1 : Int32) else 0)) :: (a1_7, pm_ia g 24 (fun _ => 0)) :: (a5, pm_ob 2 [.ref a1_7, .ref a4_7, .int 0, .int 0, .int 0, .int 0]) :: (a7_12_3, pm_ia g 160 (fun _ => 0)) :: (a4_12_3, pm_ia g 160 (fun _ => 0)) :: (a1_12_3, pm_ia g 160 (fun _ => 0)) :: (a10_3, pm_ob 7 [.ref a1_12_3, .ref a4_12_3, .ref a7_12_3, .int 0, .int 0]) :: (a7_3, pm_ia g 24 (fun _ => 0)) :: (a4_3, pm_ia g 160 (fun _ => 0)) :: (a1_3, pm_ra g 41 (va_up (fun _ => none) (0 : Int32).toInt.toNat (some a10_3))) :: (a1, pm_ob 9 [.ref a1_3, .ref a4_3, .ref a7_3, .ref a10_3, .ref a10_3, .int 0, .int 0, .int 0]) :: (a, pm_ob 10 [.ref a1, .ref a5, .ref a9, .ref a13, .ref a17, .ref a21, .ref a25, .ref a29, .null]) :: [])) a (pm_ob 10 (([.ref a1, .ref a5, .ref a9, .ref a13, .ref a17, .ref a21, .ref a25, .ref a29, .null] : List Value).set 8 (.ref a33))) = al A ((a13_35, pm_ia g 30 (fun _ => 0)) :: (a10_35, pm_ia g 30 (fun _ => 0)) :: (a7_35, pm_ia g 30 (fun _ => 0)) :: (a4_35, pm_ia g 30 (fun _ => 0)) :: (a1_35, pm_ia g 30 (fun _ => 0)) :: (a33, pm_ob 5 [.ref a1_35, .ref a4_35, .ref a7_35, .ref a10_35, .ref a13_35, .int 0]) :: ((r1_31 8), pm_ia g 161 (fun _ => 0)) :: ((r1_31 7), pm_ia g 161 (fun _ => 0)) :: ((r1_31 6), pm_ia g 161 (fun _ => 0)) :: ((r1_31 5), pm_ia g 161 (fun _ => 0)) :: ((r1_31 4), pm_ia g 161 (fun _ => 0)) :: ((r1_31 3), pm_ia g 161 (fun _ => 0)) :: ((r1_31 2), pm_ia g 161 (fun _ => 0)) :: ((r1_31 1), pm_ia g 161 (fun _ => 0)) :: ((r1_31 0), pm_ia g 161 (fun _ => 0)) :: (a1_31, pm_ma g 9 (fun j => if j < 9 then some (r1_31 j) else none)) :: (a29, pm_ob 3 [.ref a1_31]) :: (a1_27, pm_ia g 160 (fun _ => 0)) :: (a25, pm_ob 4 [.ref a1_27, .int 0, .int 0]) :: (a7_23, pm_ia g 24 (fun _ => 0)) :: (a4_23, pm_ia g 24 (fun _ => 0)) :: (a1_23, pm_ia g 160 (fun _ => 0)) :: (a21, pm_ob 8 [.ref a1_23, .ref a4_23, .ref a7_23, .int 0, .int 0]) :: (a1_19, pm_ia g 24 (fun _ => 0)) :: (a17, pm_ob 6 [.ref a1_19, .int 0, .int 0, .int 0, .int 0]) :: (a7_15, pm_ia g 24 (fun _ => 0)) :: (a4_15, pm_ia g 24 (fun _ => 0)) :: (a1_15, pm_ia g 160 (fun _ => 0)) :: (a13, pm_ob 1 [.ref a1_15, .ref a4_15, .ref a7_15, .int 0, .int 0]) :: (a4_11, pm_ia g 160 (fun _ => 0)) :: (a1_11, pm_ia g 24 (fun _ => 0)) :: (a9, pm_ob 0 [.ref a1_11, .ref a4_11, .int 0]) :: (a4_7, pm_ia g 24 (fun j => if j < 24 then (1 : Int32) else 0)) :: (a1_7, pm_ia g 24 (fun _ => 0)) :: (a5, pm_ob 2 [.ref a1_7, .ref a4_7, .int 0, .int 0, .int 0, .int 0]) :: (a7_12_3, pm_ia g 160 (fun _ => 0)) :: (a4_12_3, pm_ia g 160 (fun _ => 0)) :: (a1_12_3, pm_ia g 160 (fun _ => 0)) :: (a10_3, pm_ob 7 [.ref a1_12_3, .ref a4_12_3, .ref a7_12_3, .int 0, .int 0]) :: (a7_3, pm_ia g 24 (fun _ => 0)) :: (a4_3, pm_ia g 160 (fun _ => 0)) :: (a1_3, pm_ra g 41 (va_up (fun _ => none) (0 : Int32).toInt.toNat (some a10_3))) :: (a1, pm_ob 9 [.ref a1_3, .ref a4_3, .ref a7_3, .ref a10_3, .ref a10_3, .int 0, .int 0, .int 0]) :: (a, pm_ob 10 [.ref a1, .ref a5, .ref a9, .ref a13, .ref a17, .ref a21, .ref a25, .ref a29, .ref a33]) :: []) from al_set (k := 43) nd35 rfl rfl]
  have nd36 : (List.map Prod.fst ((a13_35, pm_ia g 30 (fun _ => 0)) :: (a10_35, pm_ia g 30 (fun _ => 0)) :: (a7_35, pm_ia g 30 (fun _ => 0)) :: (a4_35, pm_ia g 30 (fun _ => 0)) :: (a1_35, pm_ia g 30 (fun _ => 0)) :: (a33, pm_ob 5 [.ref a1_35, .ref a4_35, .ref a7_35, .ref a10_35, .ref a13_35, .int 0]) :: ((r1_31 8), pm_ia g 161 (fun _ => 0)) :: ((r1_31 7), pm_ia g 161 (fun _ => 0)) :: ((r1_31 6), pm_ia g 161 (fun _ => 0)) :: ((r1_31 5), pm_ia g 161 (fun _ => 0)) :: ((r1_31 4), pm_ia g 161 (fun _ => 0)) :: ((r1_31 3), pm_ia g 161 (fun _ => 0)) :: ((r1_31 2), pm_ia g 161 (fun _ => 0)) :: ((r1_31 1), pm_ia g 161 (fun _ => 0)) :: ((r1_31 0), pm_ia g 161 (fun _ => 0)) :: (a1_31, pm_ma g 9 (fun j => if j < 9 then some (r1_31 j) else none)) :: (a29, pm_ob 3 [.ref a1_31]) :: (a1_27, pm_ia g 160 (fun _ => 0)) :: (a25, pm_ob 4 [.ref a1_27, .int 0, .int 0]) :: (a7_23, pm_ia g 24 (fun _ => 0)) :: (a4_23, pm_ia g 24 (fun _ => 0)) :: (a1_23, pm_ia g 160 (fun _ => 0)) :: (a21, pm_ob 8 [.ref a1_23, .ref a4_23, .ref a7_23, .int 0, .int 0]) :: (a1_19, pm_ia g 24 (fun _ => 0)) :: (a17, pm_ob 6 [.ref a1_19, .int 0, .int 0, .int 0, .int 0]) :: (a7_15, pm_ia g 24 (fun _ => 0)) :: (a4_15, pm_ia g 24 (fun _ => 0)) :: (a1_15, pm_ia g 160 (fun _ => 0)) :: (a13, pm_ob 1 [.ref a1_15, .ref a4_15, .ref a7_15, .int 0, .int 0]) :: (a4_11, pm_ia g 160 (fun _ => 0)) :: (a1_11, pm_ia g 24 (fun _ => 0)) :: (a9, pm_ob 0 [.ref a1_11, .ref a4_11, .int 0]) :: (a4_7, pm_ia g 24 (fun j => if j < 24 then (1 : Int32) else 0)) :: (a1_7, pm_ia g 24 (fun _ => 0)) :: (a5, pm_ob 2 [.ref a1_7, .ref a4_7, .int 0, .int 0, .int 0, .int 0]) :: (a7_12_3, pm_ia g 160 (fun _ => 0)) :: (a4_12_3, pm_ia g 160 (fun _ => 0)) :: (a1_12_3, pm_ia g 160 (fun _ => 0)) :: (a10_3, pm_ob 7 [.ref a1_12_3, .ref a4_12_3, .ref a7_12_3, .int 0, .int 0]) :: (a7_3, pm_ia g 24 (fun _ => 0)) :: (a4_3, pm_ia g 160 (fun _ => 0)) :: (a1_3, pm_ra g 41 (va_up (fun _ => none) (0 : Int32).toInt.toNat (some a10_3))) :: (a1, pm_ob 9 [.ref a1_3, .ref a4_3, .ref a7_3, .ref a10_3, .ref a10_3, .int 0, .int 0, .int 0]) :: (a, pm_ob 10 [.ref a1, .ref a5, .ref a9, .ref a13, .ref a17, .ref a21, .ref a25, .ref a29, .ref a33]) :: [])).Nodup := nd35
  obtain ⟨q, hq0, hcw, hD, hfr⟩ := cw_init_of (A := A) (g := g) nd36 g2.2 f3_0 f3_1 f3_2 f3_3 f3_4 f3_5 f3_6 g6.2 f7_0 f7_1 g10.2 f11_0 f11_1 g14.2 f15_0 f15_1 f15_2 g18.2 f19_0 g22.2 f23_0 f23_1 f23_2 g26.2 f27_0 g30.2 f31_0 f31_1 f31_2 f31_3 f31_4 f31_5 f31_6 f31_7 f31_8 f31_9 g34.2 f35_0 f35_1 f35_2 f35_3 f35_4
  exact ⟨rfl, rfl, rfl, q, hq0, hcw, hD, hfr⟩
end
end
section
theorem md_char {A0 H : pm_H} {g : pm_G} {h : Nat} {q : Nat → Nat} {v : Nat → Int32} {f : Nat → Nat → Int32} (h0 : H h = some (pm_ob 11 (md_fs q v))) (h1 : ∀ i, i < 20 → H (q i) = some (pm_ia g (md_ln i) (f i))) (h2 : ∀ x, x ≠ h → (∀ i, i < 20 → x ≠ q i) → H x = A0 x) : H = md A0 g h q v f := by
  funext x
  unfold md
  by_cases hx : x = h
  · rw [if_pos hx, hx, h0]
  · rw [if_neg hx]
    cases hf : (List.range 20).find? (fun j => decide (x = q j)) with
    | none =>
      refine h2 x hx (fun i hi e => ?_)
      have := List.find?_eq_none.mp hf i (List.mem_range.mpr hi)
      simp [e] at this
    | some j =>
      have h3 : x = q j := by simpa using List.find?_some hf
      have h4 := List.mem_range.mp (List.mem_of_find?_eq_some hf)
      rw [h3]
      exact h1 j h4
noncomputable def md_f0 (fw : Nat → Int32) : Nat → Nat → Int32 := fun i => if i = 2 then fw else fun _ => 0
theorem md_V0 : md_V (fun _ => 0) := by unfold md_V; decide
theorem md_F0 (fw : Nat → Int32) : md_F (md_f0 fw) := by
  intro i j
  by_cases h2 : i = 2
  · subst h2
    exact md_rng 2 _ (by decide)
  · have e : md_f0 fw i j = 0 := by unfold md_f0; rw [if_neg h2]
    rw [e]
    by_cases hi : i < 20
    · rcases (show i = 0 ∨ i = 1 ∨ i = 2 ∨ i = 3 ∨ i = 4 ∨ i = 5 ∨ i = 6 ∨ i = 7 ∨ i = 8 ∨ i = 9 ∨ i = 10 ∨ i = 11 ∨ i = 12 ∨ i = 13 ∨ i = 14 ∨ i = 15 ∨ i = 16 ∨ i = 17 ∨ i = 18 ∨ i = 19 by omega) with rfl | rfl | rfl | rfl | rfl | rfl | rfl | rfl | rfl | rfl | rfl | rfl | rfl | rfl | rfl | rfl | rfl | rfl | rfl | rfl <;> decide
    · have e1 : md_lo i = -2147483648 := by unfold md_lo; rw [List.getD_eq_getElem?_getD, List.getElem?_eq_none (by simpa using Nat.not_lt.mp hi)]; rfl
      have e2 : md_hi i = 2147483647 := by unfold md_hi; rw [List.getD_eq_getElem?_getD, List.getElem?_eq_none (by simpa using Nat.not_lt.mp hi)]; rfl
      rw [e1, e2]; decide
set_option maxRecDepth 100000 in
set_option maxHeartbeats 4000000 in
theorem md_init_of {A : pm_H} {g : pm_G} {ws : List (Nat × va_E)} {a : Nat} {a1 : Nat} {a4 : Nat} {a7 : Nat} {a10 : Nat} {a13 : Nat} {a16 : Nat} {a19 : Nat} {a22 : Nat} {a25 : Nat} {a28 : Nat} {a31 : Nat} {a34 : Nat} {a37 : Nat} {a40 : Nat} {a43 : Nat} {a46 : Nat} {a49 : Nat} {a52 : Nat} {a55 : Nat} {a58 : Nat} {fw : Nat → Int32} (nd : (List.map Prod.fst ((a58, pm_ia g 1449 (fun _ => 0)) :: (a55, pm_ia g 1449 (fun _ => 0)) :: (a52, pm_ia g 160 (fun _ => 0)) :: (a49, pm_ia g 24 (fun _ => 0)) :: (a46, pm_ia g 40 (fun _ => 0)) :: (a43, pm_ia g 40 (fun _ => 0)) :: (a40, pm_ia g 6400 (fun _ => 0)) :: (a37, pm_ia g 6400 (fun _ => 0)) :: (a34, pm_ia g 30 (fun _ => 0)) :: (a31, pm_ia g 30 (fun _ => 0)) :: (a28, pm_ia g 30 (fun _ => 0)) :: (a25, pm_ia g 30 (fun _ => 0)) :: (a22, pm_ia g 30 (fun _ => 0)) :: (a19, pm_ia g 160 (fun _ => 0)) :: (a16, pm_ia g 160 (fun _ => 0)) :: (a13, pm_ia g 160 (fun _ => 0)) :: (a10, pm_ia g 160 (fun _ => 0)) :: (a7, pm_ia g 24 fw) :: (a4, pm_ia g 160 (fun _ => 0)) :: (a1, pm_ia g 160 (fun _ => 0)) :: (a, pm_ob 11 [.ref a1, .ref a4, .ref a7, .ref a10, .ref a13, .ref a16, .ref a19, .int 0, .int 0, .int 0, .int 0, .int 0, .int 0, .ref a22, .ref a25, .ref a28, .ref a31, .int 0, .ref a34, .ref a37, .ref a40, .ref a43, .ref a46, .ref a49, .int 0, .ref a52, .ref a55, .ref a58]) :: ws)).Nodup) (f0 : A a1 = none) (f1 : A a4 = none) (f2 : A a7 = none) (f3 : A a10 = none) (f4 : A a13 = none) (f5 : A a16 = none) (f6 : A a19 = none) (f7 : A a22 = none) (f8 : A a25 = none) (f9 : A a28 = none) (f10 : A a31 = none) (f11 : A a34 = none) (f12 : A a37 = none) (f13 : A a40 = none) (f14 : A a43 = none) (f15 : A a46 = none) (f16 : A a49 = none) (f17 : A a52 = none) (f18 : A a55 = none) (f19 : A a58 = none) : ∃ q : Nat → Nat, al A ((a58, pm_ia g 1449 (fun _ => 0)) :: (a55, pm_ia g 1449 (fun _ => 0)) :: (a52, pm_ia g 160 (fun _ => 0)) :: (a49, pm_ia g 24 (fun _ => 0)) :: (a46, pm_ia g 40 (fun _ => 0)) :: (a43, pm_ia g 40 (fun _ => 0)) :: (a40, pm_ia g 6400 (fun _ => 0)) :: (a37, pm_ia g 6400 (fun _ => 0)) :: (a34, pm_ia g 30 (fun _ => 0)) :: (a31, pm_ia g 30 (fun _ => 0)) :: (a28, pm_ia g 30 (fun _ => 0)) :: (a25, pm_ia g 30 (fun _ => 0)) :: (a22, pm_ia g 30 (fun _ => 0)) :: (a19, pm_ia g 160 (fun _ => 0)) :: (a16, pm_ia g 160 (fun _ => 0)) :: (a13, pm_ia g 160 (fun _ => 0)) :: (a10, pm_ia g 160 (fun _ => 0)) :: (a7, pm_ia g 24 fw) :: (a4, pm_ia g 160 (fun _ => 0)) :: (a1, pm_ia g 160 (fun _ => 0)) :: (a, pm_ob 11 [.ref a1, .ref a4, .ref a7, .ref a10, .ref a13, .ref a16, .ref a19, .int 0, .int 0, .int 0, .int 0, .int 0, .int 0, .ref a22, .ref a25, .ref a28, .ref a31, .int 0, .ref a34, .ref a37, .ref a40, .ref a43, .ref a46, .ref a49, .int 0, .ref a52, .ref a55, .ref a58]) :: ws) = md (al A ws) g a q (fun _ => 0) (md_f0 fw) ∧ md_D a q ∧ (∀ i, i < 20 → ∀ p ∈ ws, q i ≠ p.1) ∧ ∀ i, i < 20 → A (q i) = none := by
  obtain ⟨ks, eks⟩ : ∃ ks : List Nat, ks = a58 :: a55 :: a52 :: a49 :: a46 :: a43 :: a40 :: a37 :: a34 :: a31 :: a28 :: a25 :: a22 :: a19 :: a16 :: a13 :: a10 :: a7 :: a4 :: a1 :: a :: ws.map Prod.fst := ⟨_, rfl⟩
  have ndk : ks.Nodup := by rw [eks]; exact nd
  have hl : ks.length = 21 + ws.length := by rw [eks]; simp only [List.length_cons, List.length_map]; omega
  obtain ⟨q, eq⟩ : ∃ q : Nat → Nat, ∀ i, q i = ks.getD (19 - i) 0 := ⟨fun i => ks.getD (19 - i) 0, fun _ => rfl⟩
  have ha : ks.getD 20 0 = a := by rw [eks]; rfl
  have q0 : q 0 = a1 := by rw [eq, eks]; rfl
  have q1 : q 1 = a4 := by rw [eq, eks]; rfl
  have q2 : q 2 = a7 := by rw [eq, eks]; rfl
  have q3 : q 3 = a10 := by rw [eq, eks]; rfl
  have q4 : q 4 = a13 := by rw [eq, eks]; rfl
  have q5 : q 5 = a16 := by rw [eq, eks]; rfl
  have q6 : q 6 = a19 := by rw [eq, eks]; rfl
  have q7 : q 7 = a22 := by rw [eq, eks]; rfl
  have q8 : q 8 = a25 := by rw [eq, eks]; rfl
  have q9 : q 9 = a28 := by rw [eq, eks]; rfl
  have q10 : q 10 = a31 := by rw [eq, eks]; rfl
  have q11 : q 11 = a34 := by rw [eq, eks]; rfl
  have q12 : q 12 = a37 := by rw [eq, eks]; rfl
  have q13 : q 13 = a40 := by rw [eq, eks]; rfl
  have q14 : q 14 = a43 := by rw [eq, eks]; rfl
  have q15 : q 15 = a46 := by rw [eq, eks]; rfl
  have q16 : q 16 = a49 := by rw [eq, eks]; rfl
  have q17 : q 17 = a52 := by rw [eq, eks]; rfl
  have q18 : q 18 = a55 := by rw [eq, eks]; rfl
  have q19 : q 19 = a58 := by rw [eq, eks]; rfl
  refine ⟨q, ?_, ⟨?_, ?_⟩, ?_, ?_⟩
  · refine md_char ?_ (fun i hi => ?_) (fun x hx hq => ?_)
    · refine (al_get (k := 20) nd rfl).trans (congrArg some ?_)
      rw [← q0, ← q1, ← q2, ← q3, ← q4, ← q5, ← q6, ← q7, ← q8, ← q9, ← q10, ← q11, ← q12, ← q13, ← q14, ← q15, ← q16, ← q17, ← q18, ← q19]
      rfl
    · rcases (show i = 0 ∨ i = 1 ∨ i = 2 ∨ i = 3 ∨ i = 4 ∨ i = 5 ∨ i = 6 ∨ i = 7 ∨ i = 8 ∨ i = 9 ∨ i = 10 ∨ i = 11 ∨ i = 12 ∨ i = 13 ∨ i = 14 ∨ i = 15 ∨ i = 16 ∨ i = 17 ∨ i = 18 ∨ i = 19 by omega) with rfl | rfl | rfl | rfl | rfl | rfl | rfl | rfl | rfl | rfl | rfl | rfl | rfl | rfl | rfl | rfl | rfl | rfl | rfl | rfl
      · rw [q0]; exact (al_get (k := 19) nd rfl)
      · rw [q1]; exact (al_get (k := 18) nd rfl)
      · rw [q2]; exact (al_get (k := 17) nd rfl)
      · rw [q3]; exact (al_get (k := 16) nd rfl)
      · rw [q4]; exact (al_get (k := 15) nd rfl)
      · rw [q5]; exact (al_get (k := 14) nd rfl)
      · rw [q6]; exact (al_get (k := 13) nd rfl)
      · rw [q7]; exact (al_get (k := 12) nd rfl)
      · rw [q8]; exact (al_get (k := 11) nd rfl)
      · rw [q9]; exact (al_get (k := 10) nd rfl)
      · rw [q10]; exact (al_get (k := 9) nd rfl)
      · rw [q11]; exact (al_get (k := 8) nd rfl)
      · rw [q12]; exact (al_get (k := 7) nd rfl)
      · rw [q13]; exact (al_get (k := 6) nd rfl)
      · rw [q14]; exact (al_get (k := 5) nd rfl)
      · rw [q15]; exact (al_get (k := 4) nd rfl)
      · rw [q16]; exact (al_get (k := 3) nd rfl)
      · rw [q17]; exact (al_get (k := 2) nd rfl)
      · rw [q18]; exact (al_get (k := 1) nd rfl)
      · rw [q19]; exact (al_get (k := 0) nd rfl)
    · show pm_up _ _ _ x = _
      have h19 := hq 19 (by decide)
      rw [q19] at h19
      have h18 := hq 18 (by decide)
      rw [q18] at h18
      have h17 := hq 17 (by decide)
      rw [q17] at h17
      have h16 := hq 16 (by decide)
      rw [q16] at h16
      have h15 := hq 15 (by decide)
      rw [q15] at h15
      have h14 := hq 14 (by decide)
      rw [q14] at h14
      have h13 := hq 13 (by decide)
      rw [q13] at h13
      have h12 := hq 12 (by decide)
      rw [q12] at h12
      have h11 := hq 11 (by decide)
      rw [q11] at h11
      have h10 := hq 10 (by decide)
      rw [q10] at h10
      have h9 := hq 9 (by decide)
      rw [q9] at h9
      have h8 := hq 8 (by decide)
      rw [q8] at h8
      have h7 := hq 7 (by decide)
      rw [q7] at h7
      have h6 := hq 6 (by decide)
      rw [q6] at h6
      have h5 := hq 5 (by decide)
      rw [q5] at h5
      have h4 := hq 4 (by decide)
      rw [q4] at h4
      have h3 := hq 3 (by decide)
      rw [q3] at h3
      have h2 := hq 2 (by decide)
      rw [q2] at h2
      have h1 := hq 1 (by decide)
      rw [q1] at h1
      have h0 := hq 0 (by decide)
      rw [q0] at h0
      refine (pm_up_n h19).trans ?_
      show pm_up _ _ _ x = _
      refine (pm_up_n h18).trans ?_
      show pm_up _ _ _ x = _
      refine (pm_up_n h17).trans ?_
      show pm_up _ _ _ x = _
      refine (pm_up_n h16).trans ?_
      show pm_up _ _ _ x = _
      refine (pm_up_n h15).trans ?_
      show pm_up _ _ _ x = _
      refine (pm_up_n h14).trans ?_
      show pm_up _ _ _ x = _
      refine (pm_up_n h13).trans ?_
      show pm_up _ _ _ x = _
      refine (pm_up_n h12).trans ?_
      show pm_up _ _ _ x = _
      refine (pm_up_n h11).trans ?_
      show pm_up _ _ _ x = _
      refine (pm_up_n h10).trans ?_
      show pm_up _ _ _ x = _
      refine (pm_up_n h9).trans ?_
      show pm_up _ _ _ x = _
      refine (pm_up_n h8).trans ?_
      show pm_up _ _ _ x = _
      refine (pm_up_n h7).trans ?_
      show pm_up _ _ _ x = _
      refine (pm_up_n h6).trans ?_
      show pm_up _ _ _ x = _
      refine (pm_up_n h5).trans ?_
      show pm_up _ _ _ x = _
      refine (pm_up_n h4).trans ?_
      show pm_up _ _ _ x = _
      refine (pm_up_n h3).trans ?_
      show pm_up _ _ _ x = _
      refine (pm_up_n h2).trans ?_
      show pm_up _ _ _ x = _
      refine (pm_up_n h1).trans ?_
      show pm_up _ _ _ x = _
      refine (pm_up_n h0).trans ?_
      show pm_up _ _ _ x = _
      exact pm_up_n hx
  · intro i j hi hj hij
    rw [eq, eq] at hij
    have h9 := (List.getD_inj (fallback := 0) (i := 19 - i) (j := 19 - j) (by omega) (by omega) ndk).mp hij
    omega
  · intro i hi hia
    rw [eq, ← ha] at hia
    have h9 := (List.getD_inj (fallback := 0) (i := 19 - i) (j := 20) (by omega) (by omega) ndk).mp hia
    omega
  · intro i hi p hp he
    obtain ⟨k, hk, hkp⟩ := List.getElem_of_mem hp
    have hkk : ks.getD (21 + k) 0 = p.1 := by
      rw [eks, show 21 + k = k + 21 by omega]
      show (List.map Prod.fst ws).getD k 0 = p.1
      rw [List.getD_eq_getElem?_getD, List.getElem?_map, List.getElem?_eq_getElem hk, hkp]
      rfl
    rw [eq, ← hkk] at he
    have h9 := (List.getD_inj (fallback := 0) (i := 19 - i) (j := 21 + k) (by omega) (by omega) ndk).mp he
    omega
  · intro i hi
    rcases (show i = 0 ∨ i = 1 ∨ i = 2 ∨ i = 3 ∨ i = 4 ∨ i = 5 ∨ i = 6 ∨ i = 7 ∨ i = 8 ∨ i = 9 ∨ i = 10 ∨ i = 11 ∨ i = 12 ∨ i = 13 ∨ i = 14 ∨ i = 15 ∨ i = 16 ∨ i = 17 ∨ i = 18 ∨ i = 19 by omega) with rfl | rfl | rfl | rfl | rfl | rfl | rfl | rfl | rfl | rfl | rfl | rfl | rfl | rfl | rfl | rfl | rfl | rfl | rfl | rfl
    · rw [q0]; exact f0
    · rw [q1]; exact f1
    · rw [q2]; exact f2
    · rw [q3]; exact f3
    · rw [q4]; exact f4
    · rw [q5]; exact f5
    · rw [q6]; exact f6
    · rw [q7]; exact f7
    · rw [q8]; exact f8
    · rw [q9]; exact f9
    · rw [q10]; exact f10
    · rw [q11]; exact f11
    · rw [q12]; exact f12
    · rw [q13]; exact f13
    · rw [q14]; exact f14
    · rw [q15]; exact f15
    · rw [q16]; exact f16
    · rw [q17]; exact f17
    · rw [q18]; exact f18
    · rw [q19]; exact f19
end
