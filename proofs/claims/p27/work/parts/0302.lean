
def bk_L_law_59 : Nat × List pm_Op × Nat := (2349, [(.aload_n 1, 1, 1, 0, 0), (.aload_n 0, 1, 0, 0, 0), (.iload_n 3, 1, 3, 0, 0), (.iconst 1, 1, 0, 0, 1), (.iadd, 1, 0, 0, 0), (.iaload, 1, 0, 0, 0), (.invokevirtual 247, 3, 151, 1, 10), (.pop, 1, 0, 0, 0), (.aload_n 2, 1, 2, 0, 0), (.aload_n 0, 1, 0, 0, 0), (.iload_n 3, 1, 3, 0, 0), (.iconst 1, 1, 0, 0, 1), (.iadd, 1, 0, 0, 0), (.iaload, 1, 0, 0, 0), (.invokevirtual 250, 3, 233, 1, 11), (.pop, 1, 0, 0, 0), (.goto 194, 3, 2563, 0, 0)], 2372)
set_option maxRecDepth 100000 in
theorem ok_L_law_59 : pm_ok 12 4 false (some .boolean) cL_law bk_L_law_59.2.2 bk_L_law_59.1 bk_L_law_59.2.1 = true := okF_ok _ _ (by decide +kernel)

