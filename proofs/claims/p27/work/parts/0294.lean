
def bk_L_law_18 : Nat × List pm_Op × Nat := (886, [(.aload_n 1, 1, 1, 0, 0), (.aload_n 0, 1, 0, 0, 0), (.iload_n 3, 1, 3, 0, 0), (.iconst 1, 1, 0, 0, 1), (.iadd, 1, 0, 0, 0), (.iaload, 1, 0, 0, 0), (.aload_n 0, 1, 0, 0, 0), (.iload_n 3, 1, 3, 0, 0), (.iconst 2, 1, 0, 0, 2), (.iadd, 1, 0, 0, 0), (.iaload, 1, 0, 0, 0), (.invokevirtual 81, 3, 52, 2, 10), (.pop, 1, 0, 0, 0), (.aload_n 2, 1, 2, 0, 0), (.aload_n 0, 1, 0, 0, 0), (.iload_n 3, 1, 3, 0, 0), (.iconst 1, 1, 0, 0, 1), (.iadd, 1, 0, 0, 0), (.iaload, 1, 0, 0, 0), (.aload_n 0, 1, 0, 0, 0), (.iload_n 3, 1, 3, 0, 0), (.iconst 2, 1, 0, 0, 2), (.iadd, 1, 0, 0, 0), (.iaload, 1, 0, 0, 0), (.invokevirtual 84, 3, 204, 2, 11), (.pop, 1, 0, 0, 0), (.goto 1647, 3, 2563, 0, 0)], 919)
set_option maxRecDepth 100000 in
theorem ok_L_law_18 : pm_ok 12 4 false (some .boolean) cL_law bk_L_law_18.2.2 bk_L_law_18.1 bk_L_law_18.2.1 = true := okF_ok _ _ (by decide +kernel)
def bk_L_law_19 : Nat × List pm_Op × Nat := (919, [(.aload_n 1, 1, 1, 0, 0), (.aload_n 0, 1, 0, 0, 0), (.iload_n 3, 1, 3, 0, 0), (.iconst 1, 1, 0, 0, 1), (.iadd, 1, 0, 0, 0), (.iaload, 1, 0, 0, 0), (.invokevirtual 85, 3, 53, 1, 10), (.pop, 1, 0, 0, 0), (.aload_n 2, 1, 2, 0, 0), (.aload_n 0, 1, 0, 0, 0), (.iload_n 3, 1, 3, 0, 0), (.iconst 1, 1, 0, 0, 1), (.iadd, 1, 0, 0, 0), (.iaload, 1, 0, 0, 0), (.invokevirtual 88, 3, 205, 1, 11), (.pop, 1, 0, 0, 0), (.goto 1624, 3, 2563, 0, 0)], 942)
set_option maxRecDepth 100000 in
theorem ok_L_law_19 : pm_ok 12 4 false (some .boolean) cL_law bk_L_law_19.2.2 bk_L_law_19.1 bk_L_law_19.2.1 = true := okF_ok _ _ (by decide +kernel)

