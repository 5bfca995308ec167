
set_option maxRecDepth 100000 in
theorem ok_L_law_48 : pm_ok 12 4 false (some .boolean) cL_law bk_L_law_48.2.2 bk_L_law_48.1 bk_L_law_48.2.1 = true := okF_ok _ _ (by decide +kernel)
def bk_L_law_49 : Nat × List pm_Op × Nat := (2039, [(.aload_n 1, 1, 1, 0, 0), (.aload_n 0, 1, 0, 0, 0), (.iload_n 3, 1, 3, 0, 0), (.iconst 1, 1, 0, 0, 1), (.iadd, 1, 0, 0, 0), (.iaload, 1, 0, 0, 0), (.aload_n 0, 1, 0, 0, 0), (.iload_n 3, 1, 3, 0, 0), (.iconst 2, 1, 0, 0, 2), (.iadd, 1, 0, 0, 0), (.iaload, 1, 0, 0, 0), (.invokevirtual 206, 3, 127, 2, 10), (.pop, 1, 0, 0, 0), (.aload_n 2, 1, 2, 0, 0), (.aload_n 0, 1, 0, 0, 0), (.iload_n 3, 1, 3, 0, 0), (.iconst 1, 1, 0, 0, 1), (.iadd, 1, 0, 0, 0), (.iaload, 1, 0, 0, 0), (.aload_n 0, 1, 0, 0, 0), (.iload_n 3, 1, 3, 0, 0), (.iconst 2, 1, 0, 0, 2), (.iadd, 1, 0, 0, 0), (.iaload, 1, 0, 0, 0), (.invokevirtual 209, 3, 263, 2, 11), (.pop, 1, 0, 0, 0), (.goto 494, 3, 2563, 0, 0)], 2072)
set_option maxRecDepth 100000 in
theorem ok_L_law_49 : pm_ok 12 4 false (some .boolean) cL_law bk_L_law_49.2.2 bk_L_law_49.1 bk_L_law_49.2.1 = true := okF_ok _ _ (by decide +kernel)

