section
-- ===== PART A: goes FIRST, ahead of the names: the tables' words, and 'selects' of the private methods out of them =====
/-- a private method of a class that the tables say can be made, by its rows of tables_1 -/
noncomputable def lw_okq (q : MethodName × Nat) : Prop := (q.1.cls ≠ "java/lang/invoke/MethodHandle" ∧ q.1.cls ≠ "java/lang/invoke/VarHandle") ∧ Cond.instantiable q.1.cls q.2 ∈ tables_1 ∧ Cond.privateMethod q.1 ∈ tables_1 ∧ Cond.instanceMethod q.1 ∈ tables_1
noncomputable def lw_privs_1 : List (MethodName × Nat) := [(⟨"SpanColours$Timeline", "append", "(III)V"⟩, 8), (⟨"SpanColours", "swapInOrder", "(IIII)I"⟩, 9), (⟨"SpanColours", "colourNumber", "(LSpanColours$Row;II)I"⟩, 9), (⟨"SpanColours", "readSpan", "(II)Z"⟩, 9), (⟨"SpanColours$Listing", "listAsMet", "(LSpanColours$Row;III)V"⟩, 3), (⟨"SpanColours$Listing", "listByMost", "(LSpanColours$Palette;[I)V"⟩, 3), (⟨"SpanColours$Neighbours", "clearPair", "()V"⟩, 5), (⟨"SpanColours$Neighbours", "offerPair", "(II)V"⟩, 5), (⟨"SpanColours$Palette", "largestBeside", "(I)I"⟩, 6), (⟨"SpanColours$Reaches", "clearFound", "()V"⟩, 5), (⟨"SpanColours$Reaches", "earliestLatest", "(II)I"⟩, 5), (⟨"SpanColours$Reaches", "offerLonger", "(II)V"⟩, 5), (⟨"SpanColours$Shelf", "findNextAlike", "(LSpanColours$Row;)V"⟩, 5), (⟨"SpanColours$Shelf", "oneToGo", "(I)I"⟩, 5), (⟨"SpanColours$Shelf", "goesRather", "(III)Z"⟩, 5), (⟨"SpanColours$Patterns", "isAmong", "(II)Z"⟩, 3)]
noncomputable def lw_privs_2 : List (MethodName × Nat) := [(⟨"SpanColours$Patterns", "findTwinApart", "(LSpanColours$Row;I)V"⟩, 3), (⟨"SpanColours$Partings", "shortestBestEnd", "(LSpanColours$Row;LSpanColours$Palette;II)I"⟩, 1), (⟨"SpanColours$Timeline", "isUnlike", "(LSpanColours$Row;III)Z"⟩, 8), (⟨"SpanColoursModel", "isPlace", "(I)Z"⟩, 28), (⟨"SpanColoursModel", "recolours", "(IIIIZ)I"⟩, 28), (⟨"SpanColoursModel", "begins", "()V"⟩, 28), (⟨"SpanColoursModel", "bondOf", "(I)I"⟩, 28), (⟨"SpanColoursModel", "ahead", "(I)I"⟩, 28), (⟨"SpanColoursModel", "lays", "(II)V"⟩, 28), (⟨"SpanColoursModel", "ends", "()I"⟩, 28), (⟨"SpanColoursModel", "isTouched", "(I)Z"⟩, 28), (⟨"SpanColoursModel", "keepsRow", "(I)V"⟩, 28), (⟨"SpanColoursModel", "isSpan", "(II)Z"⟩, 28), (⟨"SpanColoursModel", "hasRoom", "(I)Z"⟩, 28), (⟨"SpanColoursModel", "laysFrom", "(II)V"⟩, 28), (⟨"SpanColoursModel", "laysNew", "(I)V"⟩, 28)]
noncomputable def lw_privs_3 : List (MethodName × Nat) := [(⟨"SpanColoursModel", "behind", "(I)I"⟩, 28), (⟨"SpanColoursModel", "placeOf", "(I)I"⟩, 28), (⟨"SpanColoursModel", "timesIn", "(III)I"⟩, 28), (⟨"SpanColoursModel", "first", "(I)I"⟩, 28), (⟨"SpanColoursModel", "last", "(I)I"⟩, 28), (⟨"SpanColoursModel", "widest", "(I)I"⟩, 28), (⟨"SpanColoursModel", "setOf", "(II)I"⟩, 28), (⟨"SpanColoursModel", "countOf", "(II)I"⟩, 28), (⟨"SpanColoursModel", "weightOf", "(I)I"⟩, 28), (⟨"SpanColoursModel", "reported", "(III)I"⟩, 28), (⟨"SpanColoursModel", "reportKey", "(I)I"⟩, 28), (⟨"SpanColoursModel", "laysOrder", "(III)I"⟩, 28), (⟨"SpanColoursModel", "isAhead", "(IIIII)Z"⟩, 28), (⟨"SpanColoursModel", "isKnown", "(I)Z"⟩, 28), (⟨"SpanColoursModel", "wasColour", "(II)I"⟩, 28), (⟨"SpanColoursModel", "wasName", "(II)I"⟩, 28)]
noncomputable def lw_privs_4 : List (MethodName × Nat) := [(⟨"SpanColoursModel", "wasBond", "(II)I"⟩, 28), (⟨"SpanColoursModel", "wasSet", "(III)I"⟩, 28), (⟨"SpanColoursModel", "hadBond", "(III)Z"⟩, 28), (⟨"SpanColoursModel", "wasPlace", "(II)I"⟩, 28), (⟨"SpanColoursModel", "isNewSide", "(II)Z"⟩, 28), (⟨"SpanColoursModel", "haveAll", "(IIII)Z"⟩, 28), (⟨"SpanColoursModel", "nextBehind", "(II)I"⟩, 28), (⟨"SpanColoursModel", "farthest", "(II)I"⟩, 28), (⟨"SpanColoursModel", "goOver", "(III)I"⟩, 28), (⟨"SpanColoursModel", "goner", "(II)I"⟩, 28), (⟨"SpanColoursModel", "lastAhead", "(II)I"⟩, 28), (⟨"SpanColoursModel", "layGaps", "()V"⟩, 28), (⟨"SpanColoursModel", "matched", "(III)I"⟩, 28), (⟨"SpanColoursModel", "layBest", "(I)V"⟩, 28), (⟨"SpanColoursModel", "layPart", "(III)V"⟩, 28), (⟨"SpanColoursModel", "asks", "(III)I"⟩, 28)]
noncomputable def lw_privs_5 : List (MethodName × Nat) := [(⟨"SpanColoursModel", "placeBy", "(II)I"⟩, 28), (⟨"SpanColoursModel", "setBy", "(III)I"⟩, 28)]
noncomputable def lw_privs : List (MethodName × Nat) := lw_privs_1 ++ (lw_privs_2 ++ (lw_privs_3 ++ (lw_privs_4 ++ (lw_privs_5))))
noncomputable def lw_tbl : List Cond := k2_sels lw_privs ++ tables_1
noncomputable def lw_T0 : List Cond := tables_1
noncomputable def lw_T1 : List Cond := lw_T0.drop 32
noncomputable def lw_T2 : List Cond := lw_T1.drop 32
noncomputable def lw_T3 : List Cond := lw_T2.drop 32
noncomputable def lw_T4 : List Cond := lw_T3.drop 32
noncomputable def lw_T5 : List Cond := lw_T4.drop 32
noncomputable def lw_T6 : List Cond := lw_T5.drop 32
noncomputable def lw_T7 : List Cond := lw_T6.drop 32
noncomputable def lw_T8 : List Cond := lw_T7.drop 32
noncomputable def lw_T9 : List Cond := lw_T8.drop 32
noncomputable def lw_T10 : List Cond := lw_T9.drop 32
noncomputable def lw_T11 : List Cond := lw_T10.drop 32
noncomputable def lw_T12 : List Cond := lw_T11.drop 32
noncomputable def lw_T13 : List Cond := lw_T12.drop 32
noncomputable def lw_T14 : List Cond := lw_T13.drop 32
noncomputable def lw_T15 : List Cond := lw_T14.drop 32
noncomputable def lw_T16 : List Cond := lw_T15.drop 32
noncomputable def lw_T17 : List Cond := lw_T16.drop 32
noncomputable def lw_T18 : List Cond := lw_T17.drop 32
noncomputable def lw_T19 : List Cond := lw_T18.drop 32
noncomputable def lw_T20 : List Cond := lw_T19.drop 32
noncomputable def lw_T21 : List Cond := lw_T20.drop 32
noncomputable def lw_T22 : List Cond := lw_T21.drop 32
noncomputable def lw_T23 : List Cond := lw_T22.drop 32
noncomputable def lw_T24 : List Cond := lw_T23.drop 32
noncomputable def lw_T25 : List Cond := lw_T24.drop 32
noncomputable def lw_T26 : List Cond := lw_T25.drop 32
noncomputable def lw_T27 : List Cond := lw_T26.drop 32
noncomputable def lw_T28 : List Cond := lw_T27.drop 32
noncomputable def lw_T29 : List Cond := lw_T28.drop 32
noncomputable def lw_T30 : List Cond := lw_T29.drop 32
noncomputable def lw_T31 : List Cond := lw_T30.drop 32
noncomputable def lw_T32 : List Cond := lw_T31.drop 32
noncomputable def lw_T33 : List Cond := lw_T32.drop 32
noncomputable def lw_T34 : List Cond := lw_T33.drop 32
noncomputable def lw_T35 : List Cond := lw_T34.drop 32
noncomputable def lw_T36 : List Cond := lw_T35.drop 32
noncomputable def lw_T37 : List Cond := lw_T36.drop 32
noncomputable def lw_T38 : List Cond := lw_T37.drop 32
noncomputable def lw_T39 : List Cond := lw_T38.drop 32
noncomputable def lw_T40 : List Cond := lw_T39.drop 32
noncomputable def lw_T41 : List Cond := lw_T40.drop 32
noncomputable def lw_T42 : List Cond := lw_T41.drop 32
noncomputable def lw_T43 : List Cond := lw_T42.drop 32
noncomputable def lw_T44 : List Cond := lw_T43.drop 32
noncomputable def lw_T45 : List Cond := lw_T44.drop 32
noncomputable def lw_T46 : List Cond := lw_T45.drop 32
noncomputable def lw_T47 : List Cond := lw_T46.drop 32
noncomputable def lw_T48 : List Cond := lw_T47.drop 32
noncomputable def lw_Tl : List (List Cond) := [lw_T0, lw_T1, lw_T2, lw_T3, lw_T4, lw_T5, lw_T6, lw_T7, lw_T8, lw_T9, lw_T10, lw_T11, lw_T12, lw_T13, lw_T14, lw_T15, lw_T16, lw_T17, lw_T18, lw_T19, lw_T20, lw_T21, lw_T22, lw_T23, lw_T24, lw_T25, lw_T26, lw_T27, lw_T28, lw_T29, lw_T30, lw_T31, lw_T32, lw_T33, lw_T34, lw_T35, lw_T36, lw_T37, lw_T38, lw_T39, lw_T40, lw_T41, lw_T42, lw_T43, lw_T44, lw_T45, lw_T46, lw_T47, lw_T48]
theorem lw_Ts0 {w : Cond} (h : w ∈ lw_T0) : w ∈ tables_1 := h
theorem lw_Ts1 {w : Cond} (h : w ∈ lw_T1) : w ∈ tables_1 := lw_Ts0 (List.mem_of_mem_drop h)
theorem lw_Ts2 {w : Cond} (h : w ∈ lw_T2) : w ∈ tables_1 := lw_Ts1 (List.mem_of_mem_drop h)
theorem lw_Ts3 {w : Cond} (h : w ∈ lw_T3) : w ∈ tables_1 := lw_Ts2 (List.mem_of_mem_drop h)
theorem lw_Ts4 {w : Cond} (h : w ∈ lw_T4) : w ∈ tables_1 := lw_Ts3 (List.mem_of_mem_drop h)
theorem lw_Ts5 {w : Cond} (h : w ∈ lw_T5) : w ∈ tables_1 := lw_Ts4 (List.mem_of_mem_drop h)
theorem lw_Ts6 {w : Cond} (h : w ∈ lw_T6) : w ∈ tables_1 := lw_Ts5 (List.mem_of_mem_drop h)
theorem lw_Ts7 {w : Cond} (h : w ∈ lw_T7) : w ∈ tables_1 := lw_Ts6 (List.mem_of_mem_drop h)
theorem lw_Ts8 {w : Cond} (h : w ∈ lw_T8) : w ∈ tables_1 := lw_Ts7 (List.mem_of_mem_drop h)
theorem lw_Ts9 {w : Cond} (h : w ∈ lw_T9) : w ∈ tables_1 := lw_Ts8 (List.mem_of_mem_drop h)
theorem lw_Ts10 {w : Cond} (h : w ∈ lw_T10) : w ∈ tables_1 := lw_Ts9 (List.mem_of_mem_drop h)
theorem lw_Ts11 {w : Cond} (h : w ∈ lw_T11) : w ∈ tables_1 := lw_Ts10 (List.mem_of_mem_drop h)
theorem lw_Ts12 {w : Cond} (h : w ∈ lw_T12) : w ∈ tables_1 := lw_Ts11 (List.mem_of_mem_drop h)
theorem lw_Ts13 {w : Cond} (h : w ∈ lw_T13) : w ∈ tables_1 := lw_Ts12 (List.mem_of_mem_drop h)
theorem lw_Ts14 {w : Cond} (h : w ∈ lw_T14) : w ∈ tables_1 := lw_Ts13 (List.mem_of_mem_drop h)
theorem lw_Ts15 {w : Cond} (h : w ∈ lw_T15) : w ∈ tables_1 := lw_Ts14 (List.mem_of_mem_drop h)
theorem lw_Ts16 {w : Cond} (h : w ∈ lw_T16) : w ∈ tables_1 := lw_Ts15 (List.mem_of_mem_drop h)
theorem lw_Ts17 {w : Cond} (h : w ∈ lw_T17) : w ∈ tables_1 := lw_Ts16 (List.mem_of_mem_drop h)
theorem lw_Ts18 {w : Cond} (h : w ∈ lw_T18) : w ∈ tables_1 := lw_Ts17 (List.mem_of_mem_drop h)
theorem lw_Ts19 {w : Cond} (h : w ∈ lw_T19) : w ∈ tables_1 := lw_Ts18 (List.mem_of_mem_drop h)
theorem lw_Ts20 {w : Cond} (h : w ∈ lw_T20) : w ∈ tables_1 := lw_Ts19 (List.mem_of_mem_drop h)
theorem lw_Ts21 {w : Cond} (h : w ∈ lw_T21) : w ∈ tables_1 := lw_Ts20 (List.mem_of_mem_drop h)
theorem lw_Ts22 {w : Cond} (h : w ∈ lw_T22) : w ∈ tables_1 := lw_Ts21 (List.mem_of_mem_drop h)
theorem lw_Ts23 {w : Cond} (h : w ∈ lw_T23) : w ∈ tables_1 := lw_Ts22 (List.mem_of_mem_drop h)
theorem lw_Ts24 {w : Cond} (h : w ∈ lw_T24) : w ∈ tables_1 := lw_Ts23 (List.mem_of_mem_drop h)
theorem lw_Ts25 {w : Cond} (h : w ∈ lw_T25) : w ∈ tables_1 := lw_Ts24 (List.mem_of_mem_drop h)
theorem lw_Ts26 {w : Cond} (h : w ∈ lw_T26) : w ∈ tables_1 := lw_Ts25 (List.mem_of_mem_drop h)
theorem lw_Ts27 {w : Cond} (h : w ∈ lw_T27) : w ∈ tables_1 := lw_Ts26 (List.mem_of_mem_drop h)
theorem lw_Ts28 {w : Cond} (h : w ∈ lw_T28) : w ∈ tables_1 := lw_Ts27 (List.mem_of_mem_drop h)
theorem lw_Ts29 {w : Cond} (h : w ∈ lw_T29) : w ∈ tables_1 := lw_Ts28 (List.mem_of_mem_drop h)
theorem lw_Ts30 {w : Cond} (h : w ∈ lw_T30) : w ∈ tables_1 := lw_Ts29 (List.mem_of_mem_drop h)
theorem lw_Ts31 {w : Cond} (h : w ∈ lw_T31) : w ∈ tables_1 := lw_Ts30 (List.mem_of_mem_drop h)
theorem lw_Ts32 {w : Cond} (h : w ∈ lw_T32) : w ∈ tables_1 := lw_Ts31 (List.mem_of_mem_drop h)
theorem lw_Ts33 {w : Cond} (h : w ∈ lw_T33) : w ∈ tables_1 := lw_Ts32 (List.mem_of_mem_drop h)
theorem lw_Ts34 {w : Cond} (h : w ∈ lw_T34) : w ∈ tables_1 := lw_Ts33 (List.mem_of_mem_drop h)
theorem lw_Ts35 {w : Cond} (h : w ∈ lw_T35) : w ∈ tables_1 := lw_Ts34 (List.mem_of_mem_drop h)
theorem lw_Ts36 {w : Cond} (h : w ∈ lw_T36) : w ∈ tables_1 := lw_Ts35 (List.mem_of_mem_drop h)
theorem lw_Ts37 {w : Cond} (h : w ∈ lw_T37) : w ∈ tables_1 := lw_Ts36 (List.mem_of_mem_drop h)
theorem lw_Ts38 {w : Cond} (h : w ∈ lw_T38) : w ∈ tables_1 := lw_Ts37 (List.mem_of_mem_drop h)
theorem lw_Ts39 {w : Cond} (h : w ∈ lw_T39) : w ∈ tables_1 := lw_Ts38 (List.mem_of_mem_drop h)
theorem lw_Ts40 {w : Cond} (h : w ∈ lw_T40) : w ∈ tables_1 := lw_Ts39 (List.mem_of_mem_drop h)
theorem lw_Ts41 {w : Cond} (h : w ∈ lw_T41) : w ∈ tables_1 := lw_Ts40 (List.mem_of_mem_drop h)
theorem lw_Ts42 {w : Cond} (h : w ∈ lw_T42) : w ∈ tables_1 := lw_Ts41 (List.mem_of_mem_drop h)
theorem lw_Ts43 {w : Cond} (h : w ∈ lw_T43) : w ∈ tables_1 := lw_Ts42 (List.mem_of_mem_drop h)
theorem lw_Ts44 {w : Cond} (h : w ∈ lw_T44) : w ∈ tables_1 := lw_Ts43 (List.mem_of_mem_drop h)
theorem lw_Ts45 {w : Cond} (h : w ∈ lw_T45) : w ∈ tables_1 := lw_Ts44 (List.mem_of_mem_drop h)
theorem lw_Ts46 {w : Cond} (h : w ∈ lw_T46) : w ∈ tables_1 := lw_Ts45 (List.mem_of_mem_drop h)
theorem lw_Ts47 {w : Cond} (h : w ∈ lw_T47) : w ∈ tables_1 := lw_Ts46 (List.mem_of_mem_drop h)
theorem lw_Ts48 {w : Cond} (h : w ∈ lw_T48) : w ∈ tables_1 := lw_Ts47 (List.mem_of_mem_drop h)
theorem lw_Tm {w : Cond} : ∀ d ∈ lw_Tl, w ∈ d → w ∈ tables_1 := by
  unfold lw_Tl
  simp only [List.forall_mem_cons]
  exact ⟨lw_Ts0, lw_Ts1, lw_Ts2, lw_Ts3, lw_Ts4, lw_Ts5, lw_Ts6, lw_Ts7, lw_Ts8, lw_Ts9, lw_Ts10, lw_Ts11, lw_Ts12, lw_Ts13, lw_Ts14, lw_Ts15, lw_Ts16, lw_Ts17, lw_Ts18, lw_Ts19, lw_Ts20, lw_Ts21, lw_Ts22, lw_Ts23, lw_Ts24, lw_Ts25, lw_Ts26, lw_Ts27, lw_Ts28, lw_Ts29, lw_Ts30, lw_Ts31, lw_Ts32, lw_Ts33, lw_Ts34, lw_Ts35, lw_Ts36, lw_Ts37, lw_Ts38, lw_Ts39, lw_Ts40, lw_Ts41, lw_Ts42, lw_Ts43, lw_Ts44, lw_Ts45, lw_Ts46, lw_Ts47, lw_Ts48, fun _ h => absurd h List.not_mem_nil⟩
theorem lw_Tg {w : Cond} {j i : Nat} (h : (lw_Tl.getD j [])[i]? = some w) : w ∈ tables_1 := by
  have h1 := List.mem_of_getElem? h
  by_cases e : j < lw_Tl.length
  · rw [List.getD_eq_getElem?_getD, List.getElem?_eq_getElem e, Option.getD_some] at h1
    exact lw_Tm _ (List.getElem_mem e) h1
  · rw [List.getD_eq_getElem?_getD, List.getElem?_eq_none (by omega), Option.getD_none] at h1
    exact absurd h1 List.not_mem_nil
noncomputable def lw_at (w : Cond) (i : Nat) : Bool := decide ((lw_Tl.getD (i / 32) [])[i % 32]? = some w)
noncomputable def lw_chk (q : MethodName × Nat) (p : Nat × Nat × Nat) : Bool := (decide (q.1.cls ≠ "java/lang/invoke/MethodHandle" ∧ q.1.cls ≠ "java/lang/invoke/VarHandle") && lw_at (.instantiable q.1.cls q.2) p.1) && (lw_at (.privateMethod q.1) p.2.1 && lw_at (.instanceMethod q.1) p.2.2)
theorem lw_chk_ok {q : MethodName × Nat} {p : Nat × Nat × Nat} (h : lw_chk q p = true) : lw_okq q := by
  simp only [lw_chk, lw_at, Bool.and_eq_true, decide_eq_true_eq] at h
  exact ⟨h.1.1, lw_Tg h.1.2, lw_Tg h.2.1, lw_Tg h.2.2⟩
set_option maxRecDepth 100000 in
theorem lw_chk_all : ((lw_privs.zip [(25, 366, 367), (17, 421, 422), (17, 497, 498), (17, 518, 519), (155, 559, 560), (155, 570, 571), (171, 614, 615), (171, 618, 619), (109, 656, 657), (193, 726, 727), (193, 731, 732), (193, 752, 753), (218, 789, 790), (218, 796, 797), (218, 800, 801), (242, 837, 838), (242, 863, 864), (260, 896, 897), (25, 940, 941), (982, 1077, 1078), (982, 1087, 1088), (982, 1091, 1092), (982, 1095, 1096), (982, 1099, 1100), (982, 1103, 1104), (982, 1107, 1108), (982, 1111, 1112), (982, 1115, 1116), (982, 1123, 1124), (982, 1139, 1140), (982, 1143, 1144), (982, 1147, 1148), (982, 1187, 1188), (982, 1195, 1196), (982, 1203, 1204), (982, 1207, 1208), (982, 1211, 1212), (982, 1215, 1216), (982, 1227, 1228), (982, 1238, 1239), (982, 1246, 1247), (982, 1274, 1275), (982, 1279, 1280), (982, 1287, 1288), (982, 1291, 1292), (982, 1311, 1312), (982, 1315, 1316), (982, 1319, 1320), (982, 1323, 1324), (982, 1331, 1332), (982, 1344, 1345), (982, 1348, 1349), (982, 1360, 1361), (982, 1368, 1369), (982, 1393, 1394), (982, 1418, 1419), (982, 1441, 1442), (982, 1445, 1446), (982, 1449, 1450), (982, 1477, 1478), (982, 1481, 1482), (982, 1497, 1498), (982, 1501, 1502), (982, 1509, 1510), (982, 1521, 1522), (982, 1525, 1526)]).all (fun q => lw_chk q.1 q.2) && decide (lw_privs.length = 66)) = true := by decide +kernel
theorem lw_privs_ok : ∀ q ∈ lw_privs, lw_okq q := by
  have h := lw_chk_all
  simp only [Bool.and_eq_true, List.all_eq_true, decide_eq_true_eq] at h
  intro e he
  obtain ⟨i, hi⟩ := List.getElem?_of_mem he
  have hl : i < lw_privs.length := (List.getElem?_eq_some_iff.mp hi).1
  have hp : i < [(25, 366, 367), (17, 421, 422), (17, 497, 498), (17, 518, 519), (155, 559, 560), (155, 570, 571), (171, 614, 615), (171, 618, 619), (109, 656, 657), (193, 726, 727), (193, 731, 732), (193, 752, 753), (218, 789, 790), (218, 796, 797), (218, 800, 801), (242, 837, 838), (242, 863, 864), (260, 896, 897), (25, 940, 941), (982, 1077, 1078), (982, 1087, 1088), (982, 1091, 1092), (982, 1095, 1096), (982, 1099, 1100), (982, 1103, 1104), (982, 1107, 1108), (982, 1111, 1112), (982, 1115, 1116), (982, 1123, 1124), (982, 1139, 1140), (982, 1143, 1144), (982, 1147, 1148), (982, 1187, 1188), (982, 1195, 1196), (982, 1203, 1204), (982, 1207, 1208), (982, 1211, 1212), (982, 1215, 1216), (982, 1227, 1228), (982, 1238, 1239), (982, 1246, 1247), (982, 1274, 1275), (982, 1279, 1280), (982, 1287, 1288), (982, 1291, 1292), (982, 1311, 1312), (982, 1315, 1316), (982, 1319, 1320), (982, 1323, 1324), (982, 1331, 1332), (982, 1344, 1345), (982, 1348, 1349), (982, 1360, 1361), (982, 1368, 1369), (982, 1393, 1394), (982, 1418, 1419), (982, 1441, 1442), (982, 1445, 1446), (982, 1449, 1450), (982, 1477, 1478), (982, 1481, 1482), (982, 1497, 1498), (982, 1501, 1502), (982, 1509, 1510), (982, 1521, 1522), (982, 1525, 1526)].length := Nat.lt_of_lt_of_eq hl h.2
  refine lw_chk_ok (h.1 (e, [(25, 366, 367), (17, 421, 422), (17, 497, 498), (17, 518, 519), (155, 559, 560), (155, 570, 571), (171, 614, 615), (171, 618, 619), (109, 656, 657), (193, 726, 727), (193, 731, 732), (193, 752, 753), (218, 789, 790), (218, 796, 797), (218, 800, 801), (242, 837, 838), (242, 863, 864), (260, 896, 897), (25, 940, 941), (982, 1077, 1078), (982, 1087, 1088), (982, 1091, 1092), (982, 1095, 1096), (982, 1099, 1100), (982, 1103, 1104), (982, 1107, 1108), (982, 1111, 1112), (982, 1115, 1116), (982, 1123, 1124), (982, 1139, 1140), (982, 1143, 1144), (982, 1147, 1148), (982, 1187, 1188), (982, 1195, 1196), (982, 1203, 1204), (982, 1207, 1208), (982, 1211, 1212), (982, 1215, 1216), (982, 1227, 1228), (982, 1238, 1239), (982, 1246, 1247), (982, 1274, 1275), (982, 1279, 1280), (982, 1287, 1288), (982, 1291, 1292), (982, 1311, 1312), (982, 1315, 1316), (982, 1319, 1320), (982, 1323, 1324), (982, 1331, 1332), (982, 1344, 1345), (982, 1348, 1349), (982, 1360, 1361), (982, 1368, 1369), (982, 1393, 1394), (982, 1418, 1419), (982, 1441, 1442), (982, 1445, 1446), (982, 1449, 1450), (982, 1477, 1478), (982, 1481, 1482), (982, 1497, 1498), (982, 1501, 1502), (982, 1509, 1510), (982, 1521, 1522), (982, 1525, 1526)][i]) ?_)
  refine List.mem_of_getElem? (i := i) ?_
  rw [List.getElem?_zip_eq_some]
  exact ⟨hi, List.getElem?_eq_getElem hp⟩
end
section
noncomputable def RX0 : String := "SpanColours$Listing"
noncomputable def TX0 : u_T := fun k => match k with
  | 0 => ("SpanColours$Listing", "order", "[I", true)
  | 1 => ("SpanColours$Listing", "boundTo", "[I", true)
  | _ => ("SpanColours$Listing", "found", "I", false)
noncomputable def tyX0 : Nat → FieldType := fun k => match k with
  | 0 => .array .int
  | 1 => .array .int
  | _ => .int
theorem nmX0 : ∀ a, a < 3 → ∀ b, b < 3 → a ≠ b → (TX0 a).2.1 ≠ (TX0 b).2.1 := by decide +kernel
theorem tyX0_ok : ∀ k, k < 3 → parseFieldDescriptor (TX0 k).2.2.1 = some (tyX0 k) := by decide +kernel
noncomputable abbrev cX0_init : ByteArray := prog_2_method_1_code
noncomputable def yX0_init : MethodName := ⟨RX0, "<init>", "()V"⟩
noncomputable abbrev cX0_reported : ByteArray := prog_2_method_2_code
noncomputable def yX0_reported : MethodName := ⟨RX0, "reported", "(LSpanColours$Row;III)I"⟩
noncomputable abbrev cX0_colourOf : ByteArray := prog_2_method_3_code
noncomputable def yX0_colourOf : MethodName := ⟨RX0, "colourOf", "(II)I"⟩
noncomputable abbrev cX0_colourInOrder : ByteArray := prog_2_method_4_code
noncomputable def yX0_colourInOrder : MethodName := ⟨RX0, "colourInOrder", "(LSpanColours$Row;LSpanColours$Palette;IIII)I"⟩
noncomputable abbrev cX0_listAsMet : ByteArray := prog_2_method_5_code
noncomputable def yX0_listAsMet : MethodName := ⟨RX0, "listAsMet", "(LSpanColours$Row;III)V"⟩
noncomputable abbrev cX0_listByMost : ByteArray := prog_2_method_6_code
noncomputable def yX0_listByMost : MethodName := ⟨RX0, "listByMost", "(LSpanColours$Palette;[I)V"⟩
noncomputable def RX1 : String := "SpanColours$Neighbours"
noncomputable def TX1 : u_T := fun k => match k with
  | 0 => ("SpanColours$Neighbours", "kindsSoFar", "[I", true)
  | 1 => ("SpanColours$Neighbours", "latest", "[I", true)
  | 2 => ("SpanColours$Neighbours", "beside", "[I", true)
  | 3 => ("SpanColours$Neighbours", "pairDistance", "I", false)
  | _ => ("SpanColours$Neighbours", "pairFirst", "I", false)
noncomputable def tyX1 : Nat → FieldType := fun k => match k with
  | 0 => .array .int
  | 1 => .array .int
  | 2 => .array .int
  | 3 => .int
  | _ => .int
theorem nmX1 : ∀ a, a < 5 → ∀ b, b < 5 → a ≠ b → (TX1 a).2.1 ≠ (TX1 b).2.1 := by decide +kernel
theorem tyX1_ok : ∀ k, k < 5 → parseFieldDescriptor (TX1 k).2.2.1 = some (tyX1 k) := by decide +kernel
noncomputable abbrev cX1_init : ByteArray := prog_3_method_1_code
noncomputable def yX1_init : MethodName := ⟨RX1, "<init>", "()V"⟩
noncomputable abbrev cX1_pairFound : ByteArray := prog_3_method_2_code
noncomputable def yX1_pairFound : MethodName := ⟨RX1, "pairFound", "(I)I"⟩
noncomputable abbrev cX1_clearPair : ByteArray := prog_3_method_3_code
noncomputable def yX1_clearPair : MethodName := ⟨RX1, "clearPair", "()V"⟩
noncomputable abbrev cX1_offerPair : ByteArray := prog_3_method_4_code
noncomputable def yX1_offerPair : MethodName := ⟨RX1, "offerPair", "(II)V"⟩
noncomputable abbrev cX1_findNearestAlike : ByteArray := prog_3_method_5_code
noncomputable def yX1_findNearestAlike : MethodName := ⟨RX1, "findNearestAlike", "(LSpanColours$Row;II)V"⟩
noncomputable abbrev cX1_findNearestOfTwo : ByteArray := prog_3_method_6_code
noncomputable def yX1_findNearestOfTwo : MethodName := ⟨RX1, "findNearestOfTwo", "(LSpanColours$Row;II)V"⟩
noncomputable abbrev cX1_unlikeTwos : ByteArray := prog_3_method_7_code
noncomputable def yX1_unlikeTwos : MethodName := ⟨RX1, "unlikeTwos", "(LSpanColours$Row;II)I"⟩
noncomputable abbrev cX1_coveringLength : ByteArray := prog_3_method_8_code
noncomputable def yX1_coveringLength : MethodName := ⟨RX1, "coveringLength", "(LSpanColours$Row;LSpanColours$Palette;II)I"⟩
noncomputable abbrev cX1_evenestEnd : ByteArray := prog_3_method_9_code
noncomputable def yX1_evenestEnd : MethodName := ⟨RX1, "evenestEnd", "(LSpanColours$Row;LSpanColours$Palette;II)I"⟩
noncomputable def RX2 : String := "SpanColours$Palette"
noncomputable def TX2 : u_T := fun k => match k with
  | 0 => ("SpanColours$Palette", "counts", "[I", true)
  | 1 => ("SpanColours$Palette", "weights", "[I", true)
  | 2 => ("SpanColours$Palette", "length", "I", false)
  | 3 => ("SpanColours$Palette", "kinds", "I", false)
  | 4 => ("SpanColours$Palette", "bits", "I", false)
  | _ => ("SpanColours$Palette", "mass", "I", false)
noncomputable def tyX2 : Nat → FieldType := fun k => match k with
  | 0 => .array .int
  | 1 => .array .int
  | 2 => .int
  | 3 => .int
  | 4 => .int
  | _ => .int
theorem nmX2 : ∀ a, a < 6 → ∀ b, b < 6 → a ≠ b → (TX2 a).2.1 ≠ (TX2 b).2.1 := by decide +kernel
theorem tyX2_ok : ∀ k, k < 6 → parseFieldDescriptor (TX2 k).2.2.1 = some (tyX2 k) := by decide +kernel
noncomputable abbrev cX2_init : ByteArray := prog_4_method_1_code
noncomputable def yX2_init : MethodName := ⟨RX2, "<init>", "()V"⟩
noncomputable abbrev cX2_clear : ByteArray := prog_4_method_2_code
noncomputable def yX2_clear : MethodName := ⟨RX2, "clear", "()V"⟩
noncomputable abbrev cX2_take : ByteArray := prog_4_method_3_code
noncomputable def yX2_take : MethodName := ⟨RX2, "take", "(I)V"⟩
noncomputable abbrev cX2_drop : ByteArray := prog_4_method_4_code
noncomputable def yX2_drop : MethodName := ⟨RX2, "drop", "(I)V"⟩
noncomputable abbrev cX2_read : ByteArray := prog_4_method_5_code
noncomputable def yX2_read : MethodName := ⟨RX2, "read", "(LSpanColours$Row;II)V"⟩
noncomputable abbrev cX2_kindsFrom : ByteArray := prog_4_method_6_code
noncomputable def yX2_kindsFrom : MethodName := ⟨RX2, "kindsFrom", "(I)I"⟩
noncomputable abbrev cX2_kindsOfJust : ByteArray := prog_4_method_7_code
noncomputable def yX2_kindsOfJust : MethodName := ⟨RX2, "kindsOfJust", "(I)I"⟩
noncomputable abbrev cX2_largerThanPart : ByteArray := prog_4_method_8_code
noncomputable def yX2_largerThanPart : MethodName := ⟨RX2, "largerThanPart", "(I)I"⟩
noncomputable abbrev cX2_placesOfLargest : ByteArray := prog_4_method_9_code
noncomputable def yX2_placesOfLargest : MethodName := ⟨RX2, "placesOfLargest", "(I)I"⟩
noncomputable abbrev cX2_largestBeside : ByteArray := prog_4_method_10_code
noncomputable def yX2_largestBeside : MethodName := ⟨RX2, "largestBeside", "(I)I"⟩
noncomputable abbrev cX2_twosAlike : ByteArray := prog_4_method_11_code
noncomputable def yX2_twosAlike : MethodName := ⟨RX2, "twosAlike", "()I"⟩
noncomputable def RX3 : String := "SpanColours$Partings"
noncomputable def TX3 : u_T := fun k => match k with
  | _ => ("SpanColours$Partings", "worths", "[[I", true)
noncomputable def tyX3 : Nat → FieldType := fun k => match k with
  | _ => .array (.array .int)
theorem nmX3 : ∀ a, a < 1 → ∀ b, b < 1 → a ≠ b → (TX3 a).2.1 ≠ (TX3 b).2.1 := by decide +kernel
theorem tyX3_ok : ∀ k, k < 1 → parseFieldDescriptor (TX3 k).2.2.1 = some (tyX3 k) := by decide +kernel
noncomputable abbrev cX3_init : ByteArray := prog_5_method_1_code
noncomputable def yX3_init : MethodName := ⟨RX3, "<init>", "()V"⟩
noncomputable abbrev cX3_greedy : ByteArray := prog_5_method_2_code
noncomputable def yX3_greedy : MethodName := ⟨RX3, "greedy", "(LSpanColours$Row;LSpanColours$Palette;II)I"⟩
noncomputable abbrev cX3_worthOf : ByteArray := prog_5_method_3_code
noncomputable def yX3_worthOf : MethodName := ⟨RX3, "worthOf", "(II)I"⟩
noncomputable abbrev cX3_weighUp : ByteArray := prog_5_method_4_code
noncomputable def yX3_weighUp : MethodName := ⟨RX3, "weighUp", "(LSpanColours$Row;LSpanColours$Palette;I)V"⟩
noncomputable abbrev cX3_lastPlaceOf : ByteArray := prog_5_method_5_code
noncomputable def yX3_lastPlaceOf : MethodName := ⟨RX3, "lastPlaceOf", "(LSpanColours$Row;LSpanColours$Palette;II)I"⟩
noncomputable abbrev cX3_shortestBestEnd : ByteArray := prog_5_method_6_code
noncomputable def yX3_shortestBestEnd : MethodName := ⟨RX3, "shortestBestEnd", "(LSpanColours$Row;LSpanColours$Palette;II)I"⟩
noncomputable def RX4 : String := "SpanColours$Patterns"
noncomputable def TX4 : u_T := fun k => match k with
  | 0 => ("SpanColours$Patterns", "sets", "[I", true)
  | 1 => ("SpanColours$Patterns", "twinFirst", "I", false)
  | _ => ("SpanColours$Patterns", "twinLength", "I", false)
noncomputable def tyX4 : Nat → FieldType := fun k => match k with
  | 0 => .array .int
  | 1 => .int
  | _ => .int
theorem nmX4 : ∀ a, a < 3 → ∀ b, b < 3 → a ≠ b → (TX4 a).2.1 ≠ (TX4 b).2.1 := by decide +kernel
theorem tyX4_ok : ∀ k, k < 3 → parseFieldDescriptor (TX4 k).2.2.1 = some (tyX4 k) := by decide +kernel
noncomputable abbrev cX4_init : ByteArray := prog_6_method_1_code
noncomputable def yX4_init : MethodName := ⟨RX4, "<init>", "()V"⟩
noncomputable abbrev cX4_spansUpTo : ByteArray := prog_6_method_2_code
noncomputable def yX4_spansUpTo : MethodName := ⟨RX4, "spansUpTo", "(LSpanColours$Row;LSpanColours$Palette;I)I"⟩
noncomputable abbrev cX4_unlikeSets : ByteArray := prog_6_method_3_code
noncomputable def yX4_unlikeSets : MethodName := ⟨RX4, "unlikeSets", "(LSpanColours$Row;LSpanColours$Palette;I)I"⟩
noncomputable abbrev cX4_isAmong : ByteArray := prog_6_method_4_code
noncomputable def yX4_isAmong : MethodName := ⟨RX4, "isAmong", "(II)Z"⟩
noncomputable abbrev cX4_stepWithin : ByteArray := prog_6_method_5_code
noncomputable def yX4_stepWithin : MethodName := ⟨RX4, "stepWithin", "(LSpanColours$Row;II)I"⟩
noncomputable abbrev cX4_matching : ByteArray := prog_6_method_6_code
noncomputable def yX4_matching : MethodName := ⟨RX4, "matching", "(LSpanColours$Row;III)I"⟩
noncomputable abbrev cX4_areMatching : ByteArray := prog_6_method_7_code
noncomputable def yX4_areMatching : MethodName := ⟨RX4, "areMatching", "(LSpanColours$Row;III)Z"⟩
noncomputable abbrev cX4_findTwin : ByteArray := prog_6_method_8_code
noncomputable def yX4_findTwin : MethodName := ⟨RX4, "findTwin", "(LSpanColours$Row;)V"⟩
noncomputable abbrev cX4_findTwinApart : ByteArray := prog_6_method_9_code
noncomputable def yX4_findTwinApart : MethodName := ⟨RX4, "findTwinApart", "(LSpanColours$Row;I)V"⟩
noncomputable def RX5 : String := "SpanColours$Questions"
noncomputable def TX5 : u_T := fun k => match k with
  | 0 => ("SpanColours$Questions", "names", "[I", true)
  | 1 => ("SpanColours$Questions", "others", "[I", true)
  | 2 => ("SpanColours$Questions", "kinds", "[I", true)
  | 3 => ("SpanColours$Questions", "masses", "[I", true)
  | 4 => ("SpanColours$Questions", "edits", "[I", true)
  | _ => ("SpanColours$Questions", "number", "I", false)
noncomputable def tyX5 : Nat → FieldType := fun k => match k with
  | 0 => .array .int
  | 1 => .array .int
  | 2 => .array .int
  | 3 => .array .int
  | 4 => .array .int
  | _ => .int
theorem nmX5 : ∀ a, a < 6 → ∀ b, b < 6 → a ≠ b → (TX5 a).2.1 ≠ (TX5 b).2.1 := by decide +kernel
theorem tyX5_ok : ∀ k, k < 6 → parseFieldDescriptor (TX5 k).2.2.1 = some (tyX5 k) := by decide +kernel
noncomputable abbrev cX5_init : ByteArray := prog_7_method_1_code
noncomputable def yX5_init : MethodName := ⟨RX5, "<init>", "()V"⟩
noncomputable abbrev cX5_add : ByteArray := prog_7_method_2_code
noncomputable def yX5_add : MethodName := ⟨RX5, "add", "(III)I"⟩
noncomputable abbrev cX5_answer : ByteArray := prog_7_method_3_code
noncomputable def yX5_answer : MethodName := ⟨RX5, "answer", "(ILSpanColours$Row;LSpanColours$Palette;)Z"⟩
noncomputable abbrev cX5_tell : ByteArray := prog_7_method_4_code
noncomputable def yX5_tell : MethodName := ⟨RX5, "tell", "(II)I"⟩
noncomputable def RX6 : String := "SpanColours$Reaches"
noncomputable def TX6 : u_T := fun k => match k with
  | 0 => ("SpanColours$Reaches", "latest", "[I", true)
  | 1 => ("SpanColours$Reaches", "first", "I", false)
  | 2 => ("SpanColours$Reaches", "last", "I", false)
  | 3 => ("SpanColours$Reaches", "massFound", "I", false)
  | _ => ("SpanColours$Reaches", "spansWithAll", "I", false)
noncomputable def tyX6 : Nat → FieldType := fun k => match k with
  | 0 => .array .int
  | 1 => .int
  | 2 => .int
  | 3 => .int
  | _ => .int
theorem nmX6 : ∀ a, a < 5 → ∀ b, b < 5 → a ≠ b → (TX6 a).2.1 ≠ (TX6 b).2.1 := by decide +kernel
theorem tyX6_ok : ∀ k, k < 5 → parseFieldDescriptor (TX6 k).2.2.1 = some (tyX6 k) := by decide +kernel
noncomputable abbrev cX6_init : ByteArray := prog_8_method_1_code
noncomputable def yX6_init : MethodName := ⟨RX6, "<init>", "()V"⟩
noncomputable abbrev cX6_endFound : ByteArray := prog_8_method_2_code
noncomputable def yX6_endFound : MethodName := ⟨RX6, "endFound", "(I)I"⟩
noncomputable abbrev cX6_clearFound : ByteArray := prog_8_method_3_code
noncomputable def yX6_clearFound : MethodName := ⟨RX6, "clearFound", "()V"⟩
noncomputable abbrev cX6_offerLonger : ByteArray := prog_8_method_4_code
noncomputable def yX6_offerLonger : MethodName := ⟨RX6, "offerLonger", "(II)V"⟩
noncomputable abbrev cX6_forColours : ByteArray := prog_8_method_5_code
noncomputable def yX6_forColours : MethodName := ⟨RX6, "forColours", "(LSpanColours$Row;LSpanColours$Palette;II)I"⟩
noncomputable abbrev cX6_backForColours : ByteArray := prog_8_method_6_code
noncomputable def yX6_backForColours : MethodName := ⟨RX6, "backForColours", "(LSpanColours$Row;LSpanColours$Palette;II)I"⟩
noncomputable abbrev cX6_forMass : ByteArray := prog_8_method_7_code
noncomputable def yX6_forMass : MethodName := ⟨RX6, "forMass", "(LSpanColours$Row;LSpanColours$Palette;II)I"⟩
noncomputable abbrev cX6_findShortestWith : ByteArray := prog_8_method_8_code
noncomputable def yX6_findShortestWith : MethodName := ⟨RX6, "findShortestWith", "(LSpanColours$Row;I)V"⟩
noncomputable abbrev cX6_earliestLatest : ByteArray := prog_8_method_9_code
noncomputable def yX6_earliestLatest : MethodName := ⟨RX6, "earliestLatest", "(II)I"⟩
noncomputable abbrev cX6_findLongestOf : ByteArray := prog_8_method_10_code
noncomputable def yX6_findLongestOf : MethodName := ⟨RX6, "findLongestOf", "(LSpanColours$Row;LSpanColours$Palette;I)V"⟩
noncomputable abbrev cX6_findLongestUnlike : ByteArray := prog_8_method_11_code
noncomputable def yX6_findLongestUnlike : MethodName := ⟨RX6, "findLongestUnlike", "(LSpanColours$Row;)V"⟩
noncomputable abbrev cX6_findHeaviest : ByteArray := prog_8_method_12_code
noncomputable def yX6_findHeaviest : MethodName := ⟨RX6, "findHeaviest", "(LSpanColours$Row;LSpanColours$Palette;I)V"⟩
noncomputable def RX7 : String := "SpanColours$Row"
noncomputable def TX7 : u_T := fun k => match k with
  | 0 => ("SpanColours$Row", "colours", "[I", true)
  | 1 => ("SpanColours$Row", "names", "[I", true)
  | 2 => ("SpanColours$Row", "aheads", "[I", true)
  | 3 => ("SpanColours$Row", "size", "I", false)
  | _ => ("SpanColours$Row", "touches", "I", false)
noncomputable def tyX7 : Nat → FieldType := fun k => match k with
  | 0 => .array .int
  | 1 => .array .int
  | 2 => .array .int
  | 3 => .int
  | _ => .int
theorem nmX7 : ∀ a, a < 5 → ∀ b, b < 5 → a ≠ b → (TX7 a).2.1 ≠ (TX7 b).2.1 := by decide +kernel
theorem tyX7_ok : ∀ k, k < 5 → parseFieldDescriptor (TX7 k).2.2.1 = some (tyX7 k) := by decide +kernel
noncomputable abbrev cX7_init : ByteArray := prog_9_method_1_code
noncomputable def yX7_init : MethodName := ⟨RX7, "<init>", "()V"⟩
noncomputable abbrev cX7_has : ByteArray := prog_9_method_2_code
noncomputable def yX7_has : MethodName := ⟨RX7, "has", "(I)Z"⟩
noncomputable abbrev cX7_isGap : ByteArray := prog_9_method_3_code
noncomputable def yX7_isGap : MethodName := ⟨RX7, "isGap", "(I)Z"⟩
noncomputable abbrev cX7_isSpan : ByteArray := prog_9_method_4_code
noncomputable def yX7_isSpan : MethodName := ⟨RX7, "isSpan", "(II)Z"⟩
noncomputable abbrev cX7_nameAt : ByteArray := prog_9_method_5_code
noncomputable def yX7_nameAt : MethodName := ⟨RX7, "nameAt", "(I)I"⟩
noncomputable abbrev cX7_bondAt : ByteArray := prog_9_method_6_code
noncomputable def yX7_bondAt : MethodName := ⟨RX7, "bondAt", "(I)I"⟩
noncomputable abbrev cX7_tell : ByteArray := prog_9_method_7_code
noncomputable def yX7_tell : MethodName := ⟨RX7, "tell", "(II)I"⟩
noncomputable abbrev cX7_placeOf : ByteArray := prog_9_method_8_code
noncomputable def yX7_placeOf : MethodName := ⟨RX7, "placeOf", "(I)I"⟩
noncomputable abbrev cX7_hasName : ByteArray := prog_9_method_9_code
noncomputable def yX7_hasName : MethodName := ⟨RX7, "hasName", "(I)Z"⟩
noncomputable abbrev cX7_nextAlike : ByteArray := prog_9_method_10_code
noncomputable def yX7_nextAlike : MethodName := ⟨RX7, "nextAlike", "(I)I"⟩
noncomputable abbrev cX7_howMany : ByteArray := prog_9_method_11_code
noncomputable def yX7_howMany : MethodName := ⟨RX7, "howMany", "(I)I"⟩
noncomputable abbrev cX7_placeOfNth : ByteArray := prog_9_method_12_code
noncomputable def yX7_placeOfNth : MethodName := ⟨RX7, "placeOfNth", "(II)I"⟩
noncomputable abbrev cX7_widestGap : ByteArray := prog_9_method_13_code
noncomputable def yX7_widestGap : MethodName := ⟨RX7, "widestGap", "(I)I"⟩
noncomputable def RX8 : String := "SpanColours$Shelf"
noncomputable def TX8 : u_T := fun k => match k with
  | 0 => ("SpanColours$Shelf", "nextAlike", "[I", true)
  | 1 => ("SpanColours$Shelf", "metAt", "[I", true)
  | 2 => ("SpanColours$Shelf", "metAgainAt", "[I", true)
  | 3 => ("SpanColours$Shelf", "missed", "I", false)
  | _ => ("SpanColours$Shelf", "bits", "I", false)
noncomputable def tyX8 : Nat → FieldType := fun k => match k with
  | 0 => .array .int
  | 1 => .array .int
  | 2 => .array .int
  | 3 => .int
  | _ => .int
theorem nmX8 : ∀ a, a < 5 → ∀ b, b < 5 → a ≠ b → (TX8 a).2.1 ≠ (TX8 b).2.1 := by decide +kernel
theorem tyX8_ok : ∀ k, k < 5 → parseFieldDescriptor (TX8 k).2.2.1 = some (tyX8 k) := by decide +kernel
noncomputable abbrev cX8_init : ByteArray := prog_10_method_1_code
noncomputable def yX8_init : MethodName := ⟨RX8, "<init>", "()V"⟩
noncomputable abbrev cX8_canBe : ByteArray := prog_10_method_2_code
noncomputable def yX8_canBe : MethodName := ⟨RX8, "canBe", "(II)Z"⟩
noncomputable abbrev cX8_goThrough : ByteArray := prog_10_method_3_code
noncomputable def yX8_goThrough : MethodName := ⟨RX8, "goThrough", "(LSpanColours$Row;III)V"⟩
noncomputable abbrev cX8_findNextAlike : ByteArray := prog_10_method_4_code
noncomputable def yX8_findNextAlike : MethodName := ⟨RX8, "findNextAlike", "(LSpanColours$Row;)V"⟩
noncomputable abbrev cX8_oneToGo : ByteArray := prog_10_method_5_code
noncomputable def yX8_oneToGo : MethodName := ⟨RX8, "oneToGo", "(I)I"⟩
noncomputable abbrev cX8_goesRather : ByteArray := prog_10_method_6_code
noncomputable def yX8_goesRather : MethodName := ⟨RX8, "goesRather", "(III)Z"⟩
noncomputable def RX9 : String := "SpanColours$Timeline"
noncomputable def TX9 : u_T := fun k => match k with
  | 0 => ("SpanColours$Timeline", "rows", "[LSpanColours$Row;", true)
  | 1 => ("SpanColours$Timeline", "bondsBefore", "[I", true)
  | 2 => ("SpanColours$Timeline", "latest", "[I", true)
  | 3 => ("SpanColours$Timeline", "draft", "LSpanColours$Row;", false)
  | 4 => ("SpanColours$Timeline", "now", "LSpanColours$Row;", false)
  | 5 => ("SpanColours$Timeline", "edits", "I", false)
  | 6 => ("SpanColours$Timeline", "named", "I", false)
  | _ => ("SpanColours$Timeline", "touchedInAll", "I", false)
noncomputable def tyX9 : Nat → FieldType := fun k => match k with
  | 0 => .array (.object "SpanColours$Row")
  | 1 => .array .int
  | 2 => .array .int
  | 3 => .object "SpanColours$Row"
  | 4 => .object "SpanColours$Row"
  | 5 => .int
  | 6 => .int
  | _ => .int
theorem nmX9 : ∀ a, a < 8 → ∀ b, b < 8 → a ≠ b → (TX9 a).2.1 ≠ (TX9 b).2.1 := by decide +kernel
theorem tyX9_ok : ∀ k, k < 8 → parseFieldDescriptor (TX9 k).2.2.1 = some (tyX9 k) := by decide +kernel
noncomputable abbrev cX9_init : ByteArray := prog_11_method_1_code
noncomputable def yX9_init : MethodName := ⟨RX9, "<init>", "()V"⟩
noncomputable abbrev cX9_behind : ByteArray := prog_11_method_2_code
noncomputable def yX9_behind : MethodName := ⟨RX9, "behind", "(I)LSpanColours$Row;"⟩
noncomputable abbrev cX9_hasRoomFor : ByteArray := prog_11_method_3_code
noncomputable def yX9_hasRoomFor : MethodName := ⟨RX9, "hasRoomFor", "(I)Z"⟩
noncomputable abbrev cX9_begin : ByteArray := prog_11_method_4_code
noncomputable def yX9_begin : MethodName := ⟨RX9, "begin", "()V"⟩
noncomputable abbrev cX9_keep : ByteArray := prog_11_method_5_code
noncomputable def yX9_keep : MethodName := ⟨RX9, "keep", "(II)V"⟩
noncomputable abbrev cX9_keepAs : ByteArray := prog_11_method_6_code
noncomputable def yX9_keepAs : MethodName := ⟨RX9, "keepAs", "(II)V"⟩
noncomputable abbrev cX9_keepThoseOf : ByteArray := prog_11_method_7_code
noncomputable def yX9_keepThoseOf : MethodName := ⟨RX9, "keepThoseOf", "(III)V"⟩
noncomputable abbrev cX9_add : ByteArray := prog_11_method_8_code
noncomputable def yX9_add : MethodName := ⟨RX9, "add", "(I)V"⟩
noncomputable abbrev cX9_append : ByteArray := prog_11_method_9_code
noncomputable def yX9_append : MethodName := ⟨RX9, "append", "(III)V"⟩
noncomputable abbrev cX9_finish : ByteArray := prog_11_method_10_code
noncomputable def yX9_finish : MethodName := ⟨RX9, "finish", "()I"⟩
noncomputable abbrev cX9_steadySince : ByteArray := prog_11_method_11_code
noncomputable def yX9_steadySince : MethodName := ⟨RX9, "steadySince", "(I)I"⟩
noncomputable abbrev cX9_unlikeNow : ByteArray := prog_11_method_12_code
noncomputable def yX9_unlikeNow : MethodName := ⟨RX9, "unlikeNow", "(LSpanColours$Row;I)I"⟩
noncomputable abbrev cX9_isUnlike : ByteArray := prog_11_method_13_code
noncomputable def yX9_isUnlike : MethodName := ⟨RX9, "isUnlike", "(LSpanColours$Row;III)Z"⟩
noncomputable def RX10 : String := "SpanColours"
noncomputable def TX10 : u_T := fun k => match k with
  | 0 => ("SpanColours", "timeline", "LSpanColours$Timeline;", true)
  | 1 => ("SpanColours", "palette", "LSpanColours$Palette;", true)
  | 2 => ("SpanColours", "listing", "LSpanColours$Listing;", true)
  | 3 => ("SpanColours", "neighbours", "LSpanColours$Neighbours;", true)
  | 4 => ("SpanColours", "reaches", "LSpanColours$Reaches;", true)
  | 5 => ("SpanColours", "shelfOfColours", "LSpanColours$Shelf;", true)
  | 6 => ("SpanColours", "patterns", "LSpanColours$Patterns;", true)
  | 7 => ("SpanColours", "partings", "LSpanColours$Partings;", true)
  | _ => ("SpanColours", "questions", "LSpanColours$Questions;", true)
noncomputable def tyX10 : Nat → FieldType := fun k => match k with
  | 0 => .object "SpanColours$Timeline"
  | 1 => .object "SpanColours$Palette"
  | 2 => .object "SpanColours$Listing"
  | 3 => .object "SpanColours$Neighbours"
  | 4 => .object "SpanColours$Reaches"
  | 5 => .object "SpanColours$Shelf"
  | 6 => .object "SpanColours$Patterns"
  | 7 => .object "SpanColours$Partings"
  | _ => .object "SpanColours$Questions"
theorem nmX10 : ∀ a, a < 9 → ∀ b, b < 9 → a ≠ b → (TX10 a).2.1 ≠ (TX10 b).2.1 := by decide +kernel
theorem tyX10_ok : ∀ k, k < 9 → parseFieldDescriptor (TX10 k).2.2.1 = some (tyX10 k) := by decide +kernel
noncomputable abbrev cX10_init : ByteArray := prog_1_method_1_code
noncomputable def yX10_init : MethodName := ⟨RX10, "<init>", "()V"⟩
noncomputable abbrev cX10_isColour : ByteArray := prog_1_method_2_code
noncomputable def yX10_isColour : MethodName := ⟨RX10, "isColour", "(I)Z"⟩
noncomputable abbrev cX10_areUnlikeColours : ByteArray := prog_1_method_3_code
noncomputable def yX10_areUnlikeColours : MethodName := ⟨RX10, "areUnlikeColours", "(II)Z"⟩
noncomputable abbrev cX10_put : ByteArray := prog_1_method_4_code
noncomputable def yX10_put : MethodName := ⟨RX10, "put", "(II)I"⟩
noncomputable abbrev cX10_insert : ByteArray := prog_1_method_5_code
noncomputable def yX10_insert : MethodName := ⟨RX10, "insert", "(II)I"⟩
noncomputable abbrev cX10_cut : ByteArray := prog_1_method_6_code
noncomputable def yX10_cut : MethodName := ⟨RX10, "cut", "(II)I"⟩
noncomputable abbrev cX10_paint : ByteArray := prog_1_method_7_code
noncomputable def yX10_paint : MethodName := ⟨RX10, "paint", "(III)I"⟩
noncomputable abbrev cX10_turn : ByteArray := prog_1_method_8_code
noncomputable def yX10_turn : MethodName := ⟨RX10, "turn", "(II)I"⟩
noncomputable abbrev cX10_shift : ByteArray := prog_1_method_9_code
noncomputable def yX10_shift : MethodName := ⟨RX10, "shift", "(III)I"⟩
noncomputable abbrev cX10_sort : ByteArray := prog_1_method_10_code
noncomputable def yX10_sort : MethodName := ⟨RX10, "sort", "(II)I"⟩
noncomputable abbrev cX10_swap : ByteArray := prog_1_method_11_code
noncomputable def yX10_swap : MethodName := ⟨RX10, "swap", "(IIII)I"⟩
noncomputable abbrev cX10_swapInOrder : ByteArray := prog_1_method_12_code
noncomputable def yX10_swapInOrder : MethodName := ⟨RX10, "swapInOrder", "(IIII)I"⟩
noncomputable abbrev cX10_copy : ByteArray := prog_1_method_13_code
noncomputable def yX10_copy : MethodName := ⟨RX10, "copy", "(III)I"⟩
noncomputable abbrev cX10_merge : ByteArray := prog_1_method_14_code
noncomputable def yX10_merge : MethodName := ⟨RX10, "merge", "(II)I"⟩
noncomputable abbrev cX10_exchange : ByteArray := prog_1_method_15_code
noncomputable def yX10_exchange : MethodName := ⟨RX10, "exchange", "(II)I"⟩
noncomputable abbrev cX10_draw : ByteArray := prog_1_method_16_code
noncomputable def yX10_draw : MethodName := ⟨RX10, "draw", "(III)I"⟩
noncomputable abbrev cX10_weigh : ByteArray := prog_1_method_17_code
noncomputable def yX10_weigh : MethodName := ⟨RX10, "weigh", "(II)I"⟩
noncomputable abbrev cX10_at : ByteArray := prog_1_method_18_code
noncomputable def yX10_at : MethodName := ⟨RX10, "at", "(II)I"⟩
noncomputable abbrev cX10_place : ByteArray := prog_1_method_19_code
noncomputable def yX10_place : MethodName := ⟨RX10, "place", "(I)I"⟩
noncomputable abbrev cX10_colour : ByteArray := prog_1_method_20_code
noncomputable def yX10_colour : MethodName := ⟨RX10, "colour", "(II)I"⟩
noncomputable abbrev cX10_nth : ByteArray := prog_1_method_21_code
noncomputable def yX10_nth : MethodName := ⟨RX10, "nth", "(II)I"⟩
noncomputable abbrev cX10_about : ByteArray := prog_1_method_22_code
noncomputable def yX10_about : MethodName := ⟨RX10, "about", "(I)I"⟩
noncomputable abbrev cX10_colourNumber : ByteArray := prog_1_method_23_code
noncomputable def yX10_colourNumber : MethodName := ⟨RX10, "colourNumber", "(LSpanColours$Row;II)I"⟩
noncomputable abbrev cX10_readSpan : ByteArray := prog_1_method_24_code
noncomputable def yX10_readSpan : MethodName := ⟨RX10, "readSpan", "(II)Z"⟩
noncomputable abbrev cX10_count : ByteArray := prog_1_method_25_code
noncomputable def yX10_count : MethodName := ⟨RX10, "count", "(II)I"⟩
noncomputable abbrev cX10_weight : ByteArray := prog_1_method_26_code
noncomputable def yX10_weight : MethodName := ⟨RX10, "weight", "(II)I"⟩
noncomputable abbrev cX10_set : ByteArray := prog_1_method_27_code
noncomputable def yX10_set : MethodName := ⟨RX10, "set", "(II)I"⟩
noncomputable abbrev cX10_times : ByteArray := prog_1_method_28_code
noncomputable def yX10_times : MethodName := ⟨RX10, "times", "(III)I"⟩
noncomputable abbrev cX10_often : ByteArray := prog_1_method_29_code
noncomputable def yX10_often : MethodName := ⟨RX10, "often", "(III)I"⟩
noncomputable abbrev cX10_report : ByteArray := prog_1_method_30_code
noncomputable def yX10_report : MethodName := ⟨RX10, "report", "(IIII)I"⟩
noncomputable abbrev cX10_kth : ByteArray := prog_1_method_31_code
noncomputable def yX10_kth : MethodName := ⟨RX10, "kth", "(IIII)I"⟩
noncomputable abbrev cX10_absent : ByteArray := prog_1_method_32_code
noncomputable def yX10_absent : MethodName := ⟨RX10, "absent", "(III)I"⟩
noncomputable abbrev cX10_both : ByteArray := prog_1_method_33_code
noncomputable def yX10_both : MethodName := ⟨RX10, "both", "(IIIII)I"⟩
noncomputable abbrev cX10_tally : ByteArray := prog_1_method_34_code
noncomputable def yX10_tally : MethodName := ⟨RX10, "tally", "(III)I"⟩
noncomputable abbrev cX10_major : ByteArray := prog_1_method_35_code
noncomputable def yX10_major : MethodName := ⟨RX10, "major", "(II)I"⟩
noncomputable abbrev cX10_close : ByteArray := prog_1_method_36_code
noncomputable def yX10_close : MethodName := ⟨RX10, "close", "(III)I"⟩
noncomputable abbrev cX10_sides : ByteArray := prog_1_method_37_code
noncomputable def yX10_sides : MethodName := ⟨RX10, "sides", "(II)I"⟩
noncomputable abbrev cX10_cover : ByteArray := prog_1_method_38_code
noncomputable def yX10_cover : MethodName := ⟨RX10, "cover", "(II)I"⟩
noncomputable abbrev cX10_least : ByteArray := prog_1_method_39_code
noncomputable def yX10_least : MethodName := ⟨RX10, "least", "(III)I"⟩
noncomputable abbrev cX10_fair : ByteArray := prog_1_method_40_code
noncomputable def yX10_fair : MethodName := ⟨RX10, "fair", "(III)I"⟩
noncomputable abbrev cX10_alike : ByteArray := prog_1_method_41_code
noncomputable def yX10_alike : MethodName := ⟨RX10, "alike", "(II)I"⟩
noncomputable abbrev cX10_even : ByteArray := prog_1_method_42_code
noncomputable def yX10_even : MethodName := ⟨RX10, "even", "(II)I"⟩
noncomputable abbrev cX10_apart : ByteArray := prog_1_method_43_code
noncomputable def yX10_apart : MethodName := ⟨RX10, "apart", "(III)I"⟩
noncomputable abbrev cX10_reach : ByteArray := prog_1_method_44_code
noncomputable def yX10_reach : MethodName := ⟨RX10, "reach", "(II)I"⟩
noncomputable abbrev cX10_reachBack : ByteArray := prog_1_method_45_code
noncomputable def yX10_reachBack : MethodName := ⟨RX10, "reachBack", "(II)I"⟩
noncomputable abbrev cX10_load : ByteArray := prog_1_method_46_code
noncomputable def yX10_load : MethodName := ⟨RX10, "load", "(II)I"⟩
noncomputable abbrev cX10_window : ByteArray := prog_1_method_47_code
noncomputable def yX10_window : MethodName := ⟨RX10, "window", "(II)I"⟩
noncomputable abbrev cX10_longest : ByteArray := prog_1_method_48_code
noncomputable def yX10_longest : MethodName := ⟨RX10, "longest", "(II)I"⟩
noncomputable abbrev cX10_unlike : ByteArray := prog_1_method_49_code
noncomputable def yX10_unlike : MethodName := ⟨RX10, "unlike", "(I)I"⟩
noncomputable abbrev cX10_heaviest : ByteArray := prog_1_method_50_code
noncomputable def yX10_heaviest : MethodName := ⟨RX10, "heaviest", "(II)I"⟩
noncomputable abbrev cX10_distance : ByteArray := prog_1_method_51_code
noncomputable def yX10_distance : MethodName := ⟨RX10, "distance", "(I)I"⟩
noncomputable abbrev cX10_misses : ByteArray := prog_1_method_52_code
noncomputable def yX10_misses : MethodName := ⟨RX10, "misses", "(II)I"⟩
noncomputable abbrev cX10_shelf : ByteArray := prog_1_method_53_code
noncomputable def yX10_shelf : MethodName := ⟨RX10, "shelf", "(III)I"⟩
noncomputable abbrev cX10_suffices : ByteArray := prog_1_method_54_code
noncomputable def yX10_suffices : MethodName := ⟨RX10, "suffices", "(II)I"⟩
noncomputable abbrev cX10_just : ByteArray := prog_1_method_55_code
noncomputable def yX10_just : MethodName := ⟨RX10, "just", "(I)I"⟩
noncomputable abbrev cX10_all : ByteArray := prog_1_method_56_code
noncomputable def yX10_all : MethodName := ⟨RX10, "all", "()J"⟩
noncomputable abbrev cX10_sets : ByteArray := prog_1_method_57_code
noncomputable def yX10_sets : MethodName := ⟨RX10, "sets", "(I)I"⟩
noncomputable abbrev cX10_match : ByteArray := prog_1_method_58_code
noncomputable def yX10_match : MethodName := ⟨RX10, "match", "(III)I"⟩
noncomputable abbrev cX10_twin : ByteArray := prog_1_method_59_code
noncomputable def yX10_twin : MethodName := ⟨RX10, "twin", "(I)I"⟩
noncomputable abbrev cX10_parts : ByteArray := prog_1_method_60_code
noncomputable def yX10_parts : MethodName := ⟨RX10, "parts", "(II)I"⟩
noncomputable abbrev cX10_best : ByteArray := prog_1_method_61_code
noncomputable def yX10_best : MethodName := ⟨RX10, "best", "(II)I"⟩
noncomputable abbrev cX10_was : ByteArray := prog_1_method_62_code
noncomputable def yX10_was : MethodName := ⟨RX10, "was", "(III)I"⟩
noncomputable abbrev cX10_counted : ByteArray := prog_1_method_63_code
noncomputable def yX10_counted : MethodName := ⟨RX10, "counted", "(III)I"⟩
noncomputable abbrev cX10_touched : ByteArray := prog_1_method_64_code
noncomputable def yX10_touched : MethodName := ⟨RX10, "touched", "(I)I"⟩
noncomputable abbrev cX10_since : ByteArray := prog_1_method_65_code
noncomputable def yX10_since : MethodName := ⟨RX10, "since", "(I)I"⟩
noncomputable abbrev cX10_changed : ByteArray := prog_1_method_66_code
noncomputable def yX10_changed : MethodName := ⟨RX10, "changed", "(II)I"⟩
noncomputable abbrev cX10_ask : ByteArray := prog_1_method_67_code
noncomputable def yX10_ask : MethodName := ⟨RX10, "ask", "(II)I"⟩
noncomputable abbrev cX10_askOf : ByteArray := prog_1_method_68_code
noncomputable def yX10_askOf : MethodName := ⟨RX10, "askOf", "(III)I"⟩
noncomputable abbrev cX10_solve : ByteArray := prog_1_method_69_code
noncomputable def yX10_solve : MethodName := ⟨RX10, "solve", "()I"⟩
noncomputable abbrev cX10_asked : ByteArray := prog_1_method_70_code
noncomputable def yX10_asked : MethodName := ⟨RX10, "asked", "(II)I"⟩
noncomputable abbrev cX10_forget : ByteArray := prog_1_method_71_code
noncomputable def yX10_forget : MethodName := ⟨RX10, "forget", "()I"⟩
noncomputable def RX11 : String := "SpanColoursModel"
noncomputable def TX11 : u_T := fun k => match k with
  | 0 => ("SpanColoursModel", "colours", "[I", true)
  | 1 => ("SpanColoursModel", "names", "[I", true)
  | 2 => ("SpanColoursModel", "weights", "[I", true)
  | 3 => ("SpanColoursModel", "oldNames", "[I", true)
  | 4 => ("SpanColoursModel", "oldBonds", "[I", true)
  | 5 => ("SpanColoursModel", "nextColours", "[I", true)
  | 6 => ("SpanColoursModel", "nextNames", "[I", true)
  | 7 => ("SpanColoursModel", "many", "I", false)
  | 8 => ("SpanColoursModel", "oldMany", "I", false)
  | 9 => ("SpanColoursModel", "nextMany", "I", false)
  | 10 => ("SpanColoursModel", "given", "I", false)
  | 11 => ("SpanColoursModel", "edits", "I", false)
  | 12 => ("SpanColoursModel", "touchedAll", "I", false)
  | 13 => ("SpanColoursModel", "askedOne", "[I", true)
  | 14 => ("SpanColoursModel", "askedOther", "[I", true)
  | 15 => ("SpanColoursModel", "answerCount", "[I", true)
  | 16 => ("SpanColoursModel", "answerWeight", "[I", true)
  | 17 => ("SpanColoursModel", "askedMany", "I", false)
  | 18 => ("SpanColoursModel", "askedEdit", "[I", true)
  | 19 => ("SpanColoursModel", "wasColours", "[I", true)
  | 20 => ("SpanColoursModel", "wasNames", "[I", true)
  | 21 => ("SpanColoursModel", "wasMany", "[I", true)
  | 22 => ("SpanColoursModel", "wasTouched", "[I", true)
  | 23 => ("SpanColoursModel", "row", "[I", true)
  | 24 => ("SpanColoursModel", "shelfSet", "I", false)
  | 25 => ("SpanColoursModel", "gaps", "[I", true)
  | 26 => ("SpanColoursModel", "worth", "[I", true)
  | _ => ("SpanColoursModel", "ends0", "[I", true)
noncomputable def tyX11 : Nat → FieldType := fun k => match k with
  | 0 => .array .int
  | 1 => .array .int
  | 2 => .array .int
  | 3 => .array .int
  | 4 => .array .int
  | 5 => .array .int
  | 6 => .array .int
  | 7 => .int
  | 8 => .int
  | 9 => .int
  | 10 => .int
  | 11 => .int
  | 12 => .int
  | 13 => .array .int
  | 14 => .array .int
  | 15 => .array .int
  | 16 => .array .int
  | 17 => .int
  | 18 => .array .int
  | 19 => .array .int
  | 20 => .array .int
  | 21 => .array .int
  | 22 => .array .int
  | 23 => .array .int
  | 24 => .int
  | 25 => .array .int
  | 26 => .array .int
  | _ => .array .int
theorem nmX11 : ∀ a, a < 28 → ∀ b, b < 28 → a ≠ b → (TX11 a).2.1 ≠ (TX11 b).2.1 := by decide +kernel
theorem tyX11_ok : ∀ k, k < 28 → parseFieldDescriptor (TX11 k).2.2.1 = some (tyX11 k) := by decide +kernel
noncomputable abbrev cX11_init : ByteArray := prog_13_method_1_code
noncomputable def yX11_init : MethodName := ⟨RX11, "<init>", "()V"⟩
noncomputable abbrev cX11_isIn : ByteArray := prog_13_method_2_code
noncomputable def yX11_isIn : MethodName := ⟨RX11, "isIn", "(III)Z"⟩
noncomputable abbrev cX11_isPlace : ByteArray := prog_13_method_3_code
noncomputable def yX11_isPlace : MethodName := ⟨RX11, "isPlace", "(I)Z"⟩
noncomputable abbrev cX11_isColour : ByteArray := prog_13_method_4_code
noncomputable def yX11_isColour : MethodName := ⟨RX11, "isColour", "(I)Z"⟩
noncomputable abbrev cX11_isSpan : ByteArray := prog_13_method_5_code
noncomputable def yX11_isSpan : MethodName := ⟨RX11, "isSpan", "(II)Z"⟩
noncomputable abbrev cX11_bits : ByteArray := prog_13_method_6_code
noncomputable def yX11_bits : MethodName := ⟨RX11, "bits", "(I)I"⟩
noncomputable abbrev cX11_ahead : ByteArray := prog_13_method_7_code
noncomputable def yX11_ahead : MethodName := ⟨RX11, "ahead", "(I)I"⟩
noncomputable abbrev cX11_behind : ByteArray := prog_13_method_8_code
noncomputable def yX11_behind : MethodName := ⟨RX11, "behind", "(I)I"⟩
noncomputable abbrev cX11_bondOf : ByteArray := prog_13_method_9_code
noncomputable def yX11_bondOf : MethodName := ⟨RX11, "bondOf", "(I)I"⟩
noncomputable abbrev cX11_placeOf : ByteArray := prog_13_method_10_code
noncomputable def yX11_placeOf : MethodName := ⟨RX11, "placeOf", "(I)I"⟩
noncomputable abbrev cX11_begins : ByteArray := prog_13_method_11_code
noncomputable def yX11_begins : MethodName := ⟨RX11, "begins", "()V"⟩
noncomputable abbrev cX11_lays : ByteArray := prog_13_method_12_code
noncomputable def yX11_lays : MethodName := ⟨RX11, "lays", "(II)V"⟩
noncomputable abbrev cX11_laysFrom : ByteArray := prog_13_method_13_code
noncomputable def yX11_laysFrom : MethodName := ⟨RX11, "laysFrom", "(II)V"⟩
noncomputable abbrev cX11_laysNew : ByteArray := prog_13_method_14_code
noncomputable def yX11_laysNew : MethodName := ⟨RX11, "laysNew", "(I)V"⟩
noncomputable abbrev cX11_ends : ByteArray := prog_13_method_15_code
noncomputable def yX11_ends : MethodName := ⟨RX11, "ends", "()I"⟩
noncomputable abbrev cX11_keepsRow : ByteArray := prog_13_method_16_code
noncomputable def yX11_keepsRow : MethodName := ⟨RX11, "keepsRow", "(I)V"⟩
noncomputable abbrev cX11_isTouched : ByteArray := prog_13_method_17_code
noncomputable def yX11_isTouched : MethodName := ⟨RX11, "isTouched", "(I)Z"⟩
noncomputable abbrev cX11_recolours : ByteArray := prog_13_method_18_code
noncomputable def yX11_recolours : MethodName := ⟨RX11, "recolours", "(IIIIZ)I"⟩
noncomputable abbrev cX11_put : ByteArray := prog_13_method_19_code
noncomputable def yX11_put : MethodName := ⟨RX11, "put", "(II)I"⟩
noncomputable abbrev cX11_paint : ByteArray := prog_13_method_20_code
noncomputable def yX11_paint : MethodName := ⟨RX11, "paint", "(III)I"⟩
noncomputable abbrev cX11_merge : ByteArray := prog_13_method_21_code
noncomputable def yX11_merge : MethodName := ⟨RX11, "merge", "(II)I"⟩
noncomputable abbrev cX11_exchange : ByteArray := prog_13_method_22_code
noncomputable def yX11_exchange : MethodName := ⟨RX11, "exchange", "(II)I"⟩
noncomputable abbrev cX11_hasRoom : ByteArray := prog_13_method_23_code
noncomputable def yX11_hasRoom : MethodName := ⟨RX11, "hasRoom", "(I)Z"⟩
noncomputable abbrev cX11_insert : ByteArray := prog_13_method_24_code
noncomputable def yX11_insert : MethodName := ⟨RX11, "insert", "(II)I"⟩
noncomputable abbrev cX11_cut : ByteArray := prog_13_method_25_code
noncomputable def yX11_cut : MethodName := ⟨RX11, "cut", "(II)I"⟩
noncomputable abbrev cX11_turn : ByteArray := prog_13_method_26_code
noncomputable def yX11_turn : MethodName := ⟨RX11, "turn", "(II)I"⟩
noncomputable abbrev cX11_shift : ByteArray := prog_13_method_27_code
noncomputable def yX11_shift : MethodName := ⟨RX11, "shift", "(III)I"⟩
noncomputable abbrev cX11_sort : ByteArray := prog_13_method_28_code
noncomputable def yX11_sort : MethodName := ⟨RX11, "sort", "(II)I"⟩
noncomputable abbrev cX11_swap : ByteArray := prog_13_method_29_code
noncomputable def yX11_swap : MethodName := ⟨RX11, "swap", "(IIII)I"⟩
noncomputable abbrev cX11_copy : ByteArray := prog_13_method_30_code
noncomputable def yX11_copy : MethodName := ⟨RX11, "copy", "(III)I"⟩
noncomputable abbrev cX11_draw : ByteArray := prog_13_method_31_code
noncomputable def yX11_draw : MethodName := ⟨RX11, "draw", "(III)I"⟩
noncomputable abbrev cX11_weigh : ByteArray := prog_13_method_32_code
noncomputable def yX11_weigh : MethodName := ⟨RX11, "weigh", "(II)I"⟩
noncomputable abbrev cX11_at : ByteArray := prog_13_method_33_code
noncomputable def yX11_at : MethodName := ⟨RX11, "at", "(II)I"⟩
noncomputable abbrev cX11_place : ByteArray := prog_13_method_34_code
noncomputable def yX11_place : MethodName := ⟨RX11, "place", "(I)I"⟩
noncomputable abbrev cX11_first : ByteArray := prog_13_method_35_code
noncomputable def yX11_first : MethodName := ⟨RX11, "first", "(I)I"⟩
noncomputable abbrev cX11_last : ByteArray := prog_13_method_36_code
noncomputable def yX11_last : MethodName := ⟨RX11, "last", "(I)I"⟩
noncomputable abbrev cX11_widest : ByteArray := prog_13_method_37_code
noncomputable def yX11_widest : MethodName := ⟨RX11, "widest", "(I)I"⟩
noncomputable abbrev cX11_colour : ByteArray := prog_13_method_38_code
noncomputable def yX11_colour : MethodName := ⟨RX11, "colour", "(II)I"⟩
noncomputable abbrev cX11_nth : ByteArray := prog_13_method_39_code
noncomputable def yX11_nth : MethodName := ⟨RX11, "nth", "(II)I"⟩
noncomputable abbrev cX11_about : ByteArray := prog_13_method_40_code
noncomputable def yX11_about : MethodName := ⟨RX11, "about", "(I)I"⟩
noncomputable abbrev cX11_setOf : ByteArray := prog_13_method_41_code
noncomputable def yX11_setOf : MethodName := ⟨RX11, "setOf", "(II)I"⟩
noncomputable abbrev cX11_countOf : ByteArray := prog_13_method_42_code
noncomputable def yX11_countOf : MethodName := ⟨RX11, "countOf", "(II)I"⟩
noncomputable abbrev cX11_weightOf : ByteArray := prog_13_method_43_code
noncomputable def yX11_weightOf : MethodName := ⟨RX11, "weightOf", "(I)I"⟩
noncomputable abbrev cX11_timesIn : ByteArray := prog_13_method_44_code
noncomputable def yX11_timesIn : MethodName := ⟨RX11, "timesIn", "(III)I"⟩
noncomputable abbrev cX11_count : ByteArray := prog_13_method_45_code
noncomputable def yX11_count : MethodName := ⟨RX11, "count", "(II)I"⟩
noncomputable abbrev cX11_weight : ByteArray := prog_13_method_46_code
noncomputable def yX11_weight : MethodName := ⟨RX11, "weight", "(II)I"⟩
noncomputable abbrev cX11_set : ByteArray := prog_13_method_47_code
noncomputable def yX11_set : MethodName := ⟨RX11, "set", "(II)I"⟩
noncomputable abbrev cX11_times : ByteArray := prog_13_method_48_code
noncomputable def yX11_times : MethodName := ⟨RX11, "times", "(III)I"⟩
noncomputable abbrev cX11_often : ByteArray := prog_13_method_49_code
noncomputable def yX11_often : MethodName := ⟨RX11, "often", "(III)I"⟩
noncomputable abbrev cX11_tally : ByteArray := prog_13_method_50_code
noncomputable def yX11_tally : MethodName := ⟨RX11, "tally", "(III)I"⟩
noncomputable abbrev cX11_major : ByteArray := prog_13_method_51_code
noncomputable def yX11_major : MethodName := ⟨RX11, "major", "(II)I"⟩
noncomputable abbrev cX11_reportKey : ByteArray := prog_13_method_52_code
noncomputable def yX11_reportKey : MethodName := ⟨RX11, "reportKey", "(I)I"⟩
noncomputable abbrev cX11_reported : ByteArray := prog_13_method_53_code
noncomputable def yX11_reported : MethodName := ⟨RX11, "reported", "(III)I"⟩
noncomputable abbrev cX11_report : ByteArray := prog_13_method_54_code
noncomputable def yX11_report : MethodName := ⟨RX11, "report", "(IIII)I"⟩
noncomputable abbrev cX11_isAhead : ByteArray := prog_13_method_55_code
noncomputable def yX11_isAhead : MethodName := ⟨RX11, "isAhead", "(IIIII)Z"⟩
noncomputable abbrev cX11_laysOrder : ByteArray := prog_13_method_56_code
noncomputable def yX11_laysOrder : MethodName := ⟨RX11, "laysOrder", "(III)I"⟩
noncomputable abbrev cX11_kth : ByteArray := prog_13_method_57_code
noncomputable def yX11_kth : MethodName := ⟨RX11, "kth", "(IIII)I"⟩
noncomputable abbrev cX11_absent : ByteArray := prog_13_method_58_code
noncomputable def yX11_absent : MethodName := ⟨RX11, "absent", "(III)I"⟩
noncomputable abbrev cX11_both : ByteArray := prog_13_method_59_code
noncomputable def yX11_both : MethodName := ⟨RX11, "both", "(IIIII)I"⟩
noncomputable abbrev cX11_close : ByteArray := prog_13_method_60_code
noncomputable def yX11_close : MethodName := ⟨RX11, "close", "(III)I"⟩
noncomputable abbrev cX11_isKnown : ByteArray := prog_13_method_61_code
noncomputable def yX11_isKnown : MethodName := ⟨RX11, "isKnown", "(I)Z"⟩
noncomputable abbrev cX11_wasColour : ByteArray := prog_13_method_62_code
noncomputable def yX11_wasColour : MethodName := ⟨RX11, "wasColour", "(II)I"⟩
noncomputable abbrev cX11_wasName : ByteArray := prog_13_method_63_code
noncomputable def yX11_wasName : MethodName := ⟨RX11, "wasName", "(II)I"⟩
noncomputable abbrev cX11_wasBond : ByteArray := prog_13_method_64_code
noncomputable def yX11_wasBond : MethodName := ⟨RX11, "wasBond", "(II)I"⟩
noncomputable abbrev cX11_wasPlace : ByteArray := prog_13_method_65_code
noncomputable def yX11_wasPlace : MethodName := ⟨RX11, "wasPlace", "(II)I"⟩
noncomputable abbrev cX11_wasSet : ByteArray := prog_13_method_66_code
noncomputable def yX11_wasSet : MethodName := ⟨RX11, "wasSet", "(III)I"⟩
noncomputable abbrev cX11_was : ByteArray := prog_13_method_67_code
noncomputable def yX11_was : MethodName := ⟨RX11, "was", "(III)I"⟩
noncomputable abbrev cX11_counted : ByteArray := prog_13_method_68_code
noncomputable def yX11_counted : MethodName := ⟨RX11, "counted", "(III)I"⟩
noncomputable abbrev cX11_touched : ByteArray := prog_13_method_69_code
noncomputable def yX11_touched : MethodName := ⟨RX11, "touched", "(I)I"⟩
noncomputable abbrev cX11_since : ByteArray := prog_13_method_70_code
noncomputable def yX11_since : MethodName := ⟨RX11, "since", "(I)I"⟩
noncomputable abbrev cX11_hadBond : ByteArray := prog_13_method_71_code
noncomputable def yX11_hadBond : MethodName := ⟨RX11, "hadBond", "(III)Z"⟩
noncomputable abbrev cX11_changed : ByteArray := prog_13_method_72_code
noncomputable def yX11_changed : MethodName := ⟨RX11, "changed", "(II)I"⟩
noncomputable abbrev cX11_sides : ByteArray := prog_13_method_73_code
noncomputable def yX11_sides : MethodName := ⟨RX11, "sides", "(II)I"⟩
noncomputable abbrev cX11_isNewSide : ByteArray := prog_13_method_74_code
noncomputable def yX11_isNewSide : MethodName := ⟨RX11, "isNewSide", "(II)Z"⟩
noncomputable abbrev cX11_cover : ByteArray := prog_13_method_75_code
noncomputable def yX11_cover : MethodName := ⟨RX11, "cover", "(II)I"⟩
noncomputable abbrev cX11_haveAll : ByteArray := prog_13_method_76_code
noncomputable def yX11_haveAll : MethodName := ⟨RX11, "haveAll", "(IIII)Z"⟩
noncomputable abbrev cX11_least : ByteArray := prog_13_method_77_code
noncomputable def yX11_least : MethodName := ⟨RX11, "least", "(III)I"⟩
noncomputable abbrev cX11_fair : ByteArray := prog_13_method_78_code
noncomputable def yX11_fair : MethodName := ⟨RX11, "fair", "(III)I"⟩
noncomputable abbrev cX11_alike : ByteArray := prog_13_method_79_code
noncomputable def yX11_alike : MethodName := ⟨RX11, "alike", "(II)I"⟩
noncomputable abbrev cX11_even : ByteArray := prog_13_method_80_code
noncomputable def yX11_even : MethodName := ⟨RX11, "even", "(II)I"⟩
noncomputable abbrev cX11_apart : ByteArray := prog_13_method_81_code
noncomputable def yX11_apart : MethodName := ⟨RX11, "apart", "(III)I"⟩
noncomputable abbrev cX11_reach : ByteArray := prog_13_method_82_code
noncomputable def yX11_reach : MethodName := ⟨RX11, "reach", "(II)I"⟩
noncomputable abbrev cX11_reachBack : ByteArray := prog_13_method_83_code
noncomputable def yX11_reachBack : MethodName := ⟨RX11, "reachBack", "(II)I"⟩
noncomputable abbrev cX11_load : ByteArray := prog_13_method_84_code
noncomputable def yX11_load : MethodName := ⟨RX11, "load", "(II)I"⟩
noncomputable abbrev cX11_window : ByteArray := prog_13_method_85_code
noncomputable def yX11_window : MethodName := ⟨RX11, "window", "(II)I"⟩
noncomputable abbrev cX11_longest : ByteArray := prog_13_method_86_code
noncomputable def yX11_longest : MethodName := ⟨RX11, "longest", "(II)I"⟩
noncomputable abbrev cX11_farthest : ByteArray := prog_13_method_87_code
noncomputable def yX11_farthest : MethodName := ⟨RX11, "farthest", "(II)I"⟩
noncomputable abbrev cX11_unlike : ByteArray := prog_13_method_88_code
noncomputable def yX11_unlike : MethodName := ⟨RX11, "unlike", "(I)I"⟩
noncomputable abbrev cX11_heaviest : ByteArray := prog_13_method_89_code
noncomputable def yX11_heaviest : MethodName := ⟨RX11, "heaviest", "(II)I"⟩
noncomputable abbrev cX11_distance : ByteArray := prog_13_method_90_code
noncomputable def yX11_distance : MethodName := ⟨RX11, "distance", "(I)I"⟩
noncomputable abbrev cX11_goner : ByteArray := prog_13_method_91_code
noncomputable def yX11_goner : MethodName := ⟨RX11, "goner", "(II)I"⟩
noncomputable abbrev cX11_lastAhead : ByteArray := prog_13_method_92_code
noncomputable def yX11_lastAhead : MethodName := ⟨RX11, "lastAhead", "(II)I"⟩
noncomputable abbrev cX11_nextBehind : ByteArray := prog_13_method_93_code
noncomputable def yX11_nextBehind : MethodName := ⟨RX11, "nextBehind", "(II)I"⟩
noncomputable abbrev cX11_goOver : ByteArray := prog_13_method_94_code
noncomputable def yX11_goOver : MethodName := ⟨RX11, "goOver", "(III)I"⟩
noncomputable abbrev cX11_isShelf : ByteArray := prog_13_method_95_code
noncomputable def yX11_isShelf : MethodName := ⟨RX11, "isShelf", "(II)Z"⟩
noncomputable abbrev cX11_misses : ByteArray := prog_13_method_96_code
noncomputable def yX11_misses : MethodName := ⟨RX11, "misses", "(II)I"⟩
noncomputable abbrev cX11_shelf : ByteArray := prog_13_method_97_code
noncomputable def yX11_shelf : MethodName := ⟨RX11, "shelf", "(III)I"⟩
noncomputable abbrev cX11_suffices : ByteArray := prog_13_method_98_code
noncomputable def yX11_suffices : MethodName := ⟨RX11, "suffices", "(II)I"⟩
noncomputable abbrev cX11_just : ByteArray := prog_13_method_99_code
noncomputable def yX11_just : MethodName := ⟨RX11, "just", "(I)I"⟩
noncomputable abbrev cX11_all : ByteArray := prog_13_method_100_code
noncomputable def yX11_all : MethodName := ⟨RX11, "all", "()J"⟩
noncomputable abbrev cX11_sets : ByteArray := prog_13_method_101_code
noncomputable def yX11_sets : MethodName := ⟨RX11, "sets", "(I)I"⟩
noncomputable abbrev cX11_layGaps : ByteArray := prog_13_method_102_code
noncomputable def yX11_layGaps : MethodName := ⟨RX11, "layGaps", "()V"⟩
noncomputable abbrev cX11_matched : ByteArray := prog_13_method_103_code
noncomputable def yX11_matched : MethodName := ⟨RX11, "matched", "(III)I"⟩
noncomputable abbrev cX11_match : ByteArray := prog_13_method_104_code
noncomputable def yX11_match : MethodName := ⟨RX11, "match", "(III)I"⟩
noncomputable abbrev cX11_twin : ByteArray := prog_13_method_105_code
noncomputable def yX11_twin : MethodName := ⟨RX11, "twin", "(I)I"⟩
noncomputable abbrev cX11_parts : ByteArray := prog_13_method_106_code
noncomputable def yX11_parts : MethodName := ⟨RX11, "parts", "(II)I"⟩
noncomputable abbrev cX11_layBest : ByteArray := prog_13_method_107_code
noncomputable def yX11_layBest : MethodName := ⟨RX11, "layBest", "(I)V"⟩
noncomputable abbrev cX11_layPart : ByteArray := prog_13_method_108_code
noncomputable def yX11_layPart : MethodName := ⟨RX11, "layPart", "(III)V"⟩
noncomputable abbrev cX11_best : ByteArray := prog_13_method_109_code
noncomputable def yX11_best : MethodName := ⟨RX11, "best", "(II)I"⟩
noncomputable abbrev cX11_asks : ByteArray := prog_13_method_110_code
noncomputable def yX11_asks : MethodName := ⟨RX11, "asks", "(III)I"⟩
noncomputable abbrev cX11_ask : ByteArray := prog_13_method_111_code
noncomputable def yX11_ask : MethodName := ⟨RX11, "ask", "(II)I"⟩
noncomputable abbrev cX11_askOf : ByteArray := prog_13_method_112_code
noncomputable def yX11_askOf : MethodName := ⟨RX11, "askOf", "(III)I"⟩
noncomputable abbrev cX11_placeBy : ByteArray := prog_13_method_113_code
noncomputable def yX11_placeBy : MethodName := ⟨RX11, "placeBy", "(II)I"⟩
noncomputable abbrev cX11_setBy : ByteArray := prog_13_method_114_code
noncomputable def yX11_setBy : MethodName := ⟨RX11, "setBy", "(III)I"⟩
noncomputable abbrev cX11_solve : ByteArray := prog_13_method_115_code
noncomputable def yX11_solve : MethodName := ⟨RX11, "solve", "()I"⟩
noncomputable abbrev cX11_asked : ByteArray := prog_13_method_116_code
noncomputable def yX11_asked : MethodName := ⟨RX11, "asked", "(II)I"⟩
noncomputable abbrev cX11_forget : ByteArray := prog_13_method_117_code
noncomputable def yX11_forget : MethodName := ⟨RX11, "forget", "()I"⟩
noncomputable def RJ6 : String := "java/lang/Integer"
noncomputable abbrev cJ6_bitCount_0f7a4 : ByteArray := prog_14_method_49_code
noncomputable def yJ6_bitCount_0f7a4 : MethodName := ⟨RJ6, "bitCount", "(I)I"⟩
noncomputable def RJ9 : String := "java/lang/Math"
noncomputable abbrev cJ9_floorMod_7cf53 : ByteArray := prog_15_method_50_code
noncomputable def yJ9_floorMod_7cf53 : MethodName := ⟨RJ9, "floorMod", "(II)I"⟩
noncomputable abbrev cJ9_abs_0f7a4 : ByteArray := prog_15_method_59_code
noncomputable def yJ9_abs_0f7a4 : MethodName := ⟨RJ9, "abs", "(I)I"⟩
noncomputable abbrev cJ9_max_7cf53 : ByteArray := prog_15_method_65_code
noncomputable def yJ9_max_7cf53 : MethodName := ⟨RJ9, "max", "(II)I"⟩
noncomputable abbrev cJ9_min_7cf53 : ByteArray := prog_15_method_69_code
noncomputable def yJ9_min_7cf53 : MethodName := ⟨RJ9, "min", "(II)I"⟩
noncomputable def RJ7 : String := "java/util/Arrays"
noncomputable abbrev cJ7_fill_53178 : ByteArray := prog_16_method_103_code
noncomputable def yJ7_fill_53178 : MethodName := ⟨RJ7, "fill", "([II)V"⟩
noncomputable def RL : String := "SpanColoursLaw"
noncomputable abbrev cL_law : ByteArray := code
noncomputable abbrev vwCl : List vw_C := [(RX0, TX0, 3), (RX1, TX1, 5), (RX2, TX2, 6), (RX3, TX3, 1), (RX4, TX4, 3), (RX5, TX5, 6), (RX6, TX6, 5), (RX7, TX7, 5), (RX8, TX8, 5), (RX9, TX9, 8), (RX10, TX10, 9), (RX11, TX11, 28)]
end
section
/-! the pure machine: cells by their addresses, places of locals, blocks of instructions; what it says is tied to the machine in part 03 -/
noncomputable abbrev pm_H : Type := Nat → Option va_E
noncomputable abbrev pm_G : Type := va_G × (ClassId × ClassId × ClassId)
noncomputable abbrev pm_Op : Type := Instr × Nat × Nat × Nat × Int32
noncomputable abbrev pm_L : Type := List (Option Value)
noncomputable abbrev pm_J : Type := Nat → pm_L → List Value → pm_H → Nat → Nat → Prop
/-- cells: an array of ints, of rows, of arrays of ints; an object -/
noncomputable abbrev pm_ia (g : pm_G) (n : Nat) (f : Nat → Int32) : va_E := .inl (g.2.1, n, .inl f)
noncomputable abbrev pm_ra (g : pm_G) (n : Nat) (f : Nat → Option Nat) : va_E := .inl (g.2.2.1, n, .inr (.inr (.inr (.inr f))))
noncomputable abbrev pm_ma (g : pm_G) (n : Nat) (f : Nat → Option Nat) : va_E := .inl (g.2.2.2, n, .inr (.inr (.inr (.inr f))))
noncomputable abbrev pm_ob (ci : Nat) (fs : List Value) : va_E := .inr (ci, fs)
noncomputable def pm_up (A : pm_H) (a : Nat) (e : va_E) : pm_H := fun q => if q = a then some e else A q
theorem pm_up_s {A : pm_H} {a : Nat} {e : va_E} : pm_up A a e a = some e := if_pos rfl
theorem pm_up_n {A : pm_H} {a b : Nat} {e : va_E} (h : b ≠ a) : pm_up A a e b = A b := if_neg h
/-- locals by place -/
noncomputable def pm_nl : Option Value → Option Value
  | some (.long _) => none
  | some (.double _) => none
  | a => a
noncomputable def pm_st : pm_L → Nat → Value → pm_L
  | [], _, _ => []
  | _ :: r, 0, v => some v :: r
  | a :: r, 1, v => pm_nl a :: pm_st r 0 v
  | a :: r, i + 2, v => a :: pm_st r (i + 1) v
noncomputable def pm_gt : pm_L → Nat → Option Value
  | [], _ => none
  | a :: _, 0 => a
  | _ :: r, i + 1 => pm_gt r i
noncomputable def pm_un : pm_L → Nat → pm_L
  | [], _ => []
  | _ :: r, 0 => none :: r
  | a :: r, i + 1 => a :: pm_un r i
theorem pm_nl_some {a : Option Value} {w : Value} (h : pm_nl a = some w) : a = some w ∧ ¬ w.category = 2 := by
  cases a with
  | none => cases h
  | some v => cases v <;> first | (cases h; done) | (cases h; exact ⟨rfl, by simp [Value.category]⟩)
theorem pm_st_gt : ∀ (L : pm_L) (i j : Nat) (v w : Value), pm_gt (pm_st L i v) j = some w → (j = i ∧ w = v) ∨ (j ≠ i ∧ pm_gt L j = some w ∧ ¬ (j + 1 = i ∧ w.category = 2))
  | [], _, _, _, _, h => by simp [pm_st, pm_gt] at h
  | _ :: r, 0, 0, v, w, h => by simp [pm_st, pm_gt] at h; exact Or.inl ⟨rfl, h.symm⟩
  | _ :: r, 0, j + 1, v, w, h => by
    simp only [pm_st, pm_gt] at h
    exact Or.inr ⟨by omega, h, by omega⟩
  | a :: r, 1, 0, v, w, h => by
    simp only [pm_st, pm_gt] at h
    obtain ⟨h1, h2⟩ := pm_nl_some h
    exact Or.inr ⟨by omega, h1, fun q => h2 q.2⟩
  | a :: r, 1, j + 1, v, w, h => by
    simp only [pm_st, pm_gt] at h
    rcases pm_st_gt r 0 j v w h with ⟨h1, h2⟩ | ⟨h1, h2, h3⟩
    · exact Or.inl ⟨by omega, h2⟩
    · exact Or.inr ⟨by omega, h2, by omega⟩
  | a :: r, i + 2, 0, v, w, h => by
    simp only [pm_st, pm_gt] at h
    exact Or.inr ⟨by omega, h, by omega⟩
  | a :: r, i + 2, j + 1, v, w, h => by
    simp only [pm_st, pm_gt] at h
    rcases pm_st_gt r (i + 1) j v w h with ⟨h1, h2⟩ | ⟨h1, h2, h3⟩
    · exact Or.inl ⟨by omega, h2⟩
    · exact Or.inr ⟨by omega, h2, fun q => h3 ⟨by omega, q.2⟩⟩
theorem pm_un_gt : ∀ (L : pm_L) (i j : Nat) (w : Value), pm_gt (pm_un L i) j = some w → j ≠ i ∧ pm_gt L j = some w
  | [], _, _, _, h => by simp [pm_un, pm_gt] at h
  | _ :: r, 0, 0, w, h => by simp [pm_un, pm_gt] at h
  | _ :: r, 0, j + 1, w, h => by simp only [pm_un, pm_gt] at h; exact ⟨by omega, h⟩
  | a :: r, i + 1, 0, w, h => by simp only [pm_un, pm_gt] at h; exact ⟨by omega, h⟩
  | a :: r, i + 1, j + 1, w, h => by
    simp only [pm_un, pm_gt] at h
    obtain ⟨h1, h2⟩ := pm_un_gt r i j w h
    exact ⟨by omega, h2⟩
/-- the listed places, as the kit's rows want them -/
noncomputable def pm_al : Nat → pm_L → List (Nat × Value)
  | _, [] => []
  | i, none :: r => pm_al (i + 1) r
  | i, some v :: r => (i, v) :: pm_al (i + 1) r
theorem pm_al_mem : ∀ (L : pm_L) (k j : Nat) (w : Value), (j, w) ∈ pm_al k L ↔ k ≤ j ∧ pm_gt L (j - k) = some w
  | [], k, j, w => by simp [pm_al, pm_gt]
  | none :: r, k, j, w => by
    rw [pm_al, pm_al_mem r (k + 1) j w]
    constructor
    · rintro ⟨h1, h2⟩
      refine ⟨by omega, ?_⟩
      rw [show j - k = (j - (k + 1)) + 1 by omega]
      exact h2
    · rintro ⟨h1, h2⟩
      rcases Nat.eq_or_lt_of_le h1 with h3 | h3
      · subst h3
        rw [Nat.sub_self] at h2
        cases h2
      · rw [show j - k = (j - (k + 1)) + 1 by omega] at h2
        exact ⟨h3, h2⟩
  | some v :: r, k, j, w => by
    rw [pm_al, List.mem_cons, pm_al_mem r (k + 1) j w]
    constructor
    · rintro (h | ⟨h1, h2⟩)
      · cases h
        rw [Nat.sub_self]
        exact ⟨Nat.le_refl _, rfl⟩
      · refine ⟨by omega, ?_⟩
        rw [show j - k = (j - (k + 1)) + 1 by omega]
        exact h2
    · rintro ⟨h1, h2⟩
      rcases Nat.eq_or_lt_of_le h1 with h3 | h3
      · subst h3
        rw [Nat.sub_self] at h2
        cases h2
        exact Or.inl rfl
      · rw [show j - k = (j - (k + 1)) + 1 by omega] at h2
        exact Or.inr ⟨h3, h2⟩
noncomputable def pm_lv (ls : Array Slot) (nL : Nat) (L : pm_L) : Prop := lv_has ls nL (pm_al 0 L)
theorem pm_lv_at {ls : Array Slot} {nL : Nat} {L : pm_L} (h : pm_lv ls nL L) {i : Nat} {v : Value} (hi : pm_gt L i = some v) : ls[i]? = some (.val v) := h.2.2 (i, v) ((pm_al_mem L 0 i v).mpr ⟨Nat.zero_le _, hi⟩)
theorem pm_lv_k {L : pm_L} {i : Nat} {v : Value} (hi : pm_gt L i = some v) : ∃ k : Nat, (pm_al 0 L)[k]? = some (i, v) := by
  have h := (pm_al_mem L 0 i v).mpr ⟨Nat.zero_le _, hi⟩
  exact List.getElem?_of_mem h
theorem pm_lv_st {ls : Array Slot} {nL : Nat} {L : pm_L} {i : Nat} {v : Value} (h : lv_has ls nL ((i, v) :: (pm_al 0 L).filter (fun q => !(q.1 == i) && !(q.1 + 1 == i && q.2.category == 2)))) : pm_lv ls nL (pm_st L i v) := by
  refine ⟨h.1, h.2.1, fun q hq => h.2.2 q ?_⟩
  obtain ⟨j, w⟩ := q
  have h1 := ((pm_al_mem _ 0 j w).mp hq).2
  rw [Nat.sub_zero] at h1
  rcases pm_st_gt L i j v w h1 with ⟨e1, e2⟩ | ⟨e1, e2, e3⟩
  · subst e1; subst e2
    exact List.mem_cons_self
  · refine List.mem_cons_of_mem _ (List.mem_filter.mpr ⟨(pm_al_mem L 0 j w).mpr ⟨Nat.zero_le _, e2⟩, ?_⟩)
    have e4 : (j == i) = false := by simpa using e1
    simp only [e4, Bool.not_false, Bool.true_and, Bool.not_eq_true', Bool.and_eq_false_iff, beq_eq_false_iff_ne, ne_eq]
    by_cases q1 : j + 1 = i
    · exact Or.inr fun q2 => e3 ⟨q1, q2⟩
    · exact Or.inl q1
theorem pm_lv_st2 {ls : Array Slot} {nL : Nat} {L : pm_L} {i : Nat} {v : Value} (h : lv_has ls nL ((i, v) :: (pm_al 0 L).filter (fun q => !(q.1 == i) && (!(q.1 == i + 1) && !(q.1 + 1 == i && q.2.category == 2))))) : pm_lv ls nL (pm_un (pm_st L i v) (i + 1)) := by
  refine ⟨h.1, h.2.1, fun q hq => h.2.2 q ?_⟩
  obtain ⟨j, w⟩ := q
  have h1 := ((pm_al_mem _ 0 j w).mp hq).2
  rw [Nat.sub_zero] at h1
  obtain ⟨h0, h1⟩ := pm_un_gt _ _ _ _ h1
  rcases pm_st_gt L i j v w h1 with ⟨e1, e2⟩ | ⟨e1, e2, e3⟩
  · subst e1; subst e2
    exact List.mem_cons_self
  · refine List.mem_cons_of_mem _ (List.mem_filter.mpr ⟨(pm_al_mem L 0 j w).mpr ⟨Nat.zero_le _, e2⟩, ?_⟩)
    have e4 : (j == i) = false := by simpa using e1
    have e5 : (j == i + 1) = false := by simpa using h0
    simp only [e4, e5, Bool.not_false, Bool.true_and, Bool.not_eq_true', Bool.and_eq_false_iff, beq_eq_false_iff_ne, ne_eq]
    by_cases q1 : j + 1 = i
    · exact Or.inr fun q2 => e3 ⟨q1, q2⟩
    · exact Or.inl q1
noncomputable def pm_l0 (nL : Nat) (args : List Value) : pm_L := args.map some ++ List.replicate (nL - args.length) none
theorem pm_gt_nil : ∀ (n j : Nat), pm_gt (List.replicate n none) j = none
  | 0, _ => rfl
  | _ + 1, 0 => rfl
  | n + 1, j + 1 => by rw [List.replicate_succ, pm_gt]; exact pm_gt_nil n j
theorem pm_l0_mem : ∀ (args : List Value) (n k j : Nat) (w : Value), (∀ v ∈ args, v.category = 1) → pm_gt (args.map some ++ List.replicate n none) j = some w → (k + j, w) ∈ lv_args k args
  | [], n, k, j, w, _, h => by
    rw [List.map_nil, List.nil_append, pm_gt_nil] at h
    cases h
  | v :: r, n, k, 0, w, _, h => by
    simp only [List.map_cons, List.cons_append, pm_gt] at h
    cases h
    exact List.mem_cons_self
  | v :: r, n, k, j + 1, w, hc, h => by
    simp only [List.map_cons, List.cons_append, pm_gt] at h
    have h1 := pm_l0_mem r n (k + 1) j w (fun x hx => hc x (List.mem_cons_of_mem _ hx)) h
    have h2 : ¬ v.category = 2 := by rw [hc v List.mem_cons_self]; omega
    rw [lv_args, if_neg h2, show k + (j + 1) = k + 1 + j by omega]
    exact List.mem_cons_of_mem _ h1
theorem pm_lv_l0 {ls : Array Slot} {nL : Nat} {args : List Value} (hc : ∀ v ∈ args, v.category = 1) (h : lv_has ls nL (lv_args 0 args)) : pm_lv ls nL (pm_l0 nL args) := by
  refine ⟨h.1, h.2.1, fun q hq => h.2.2 q ?_⟩
  obtain ⟨j, w⟩ := q
  have h1 := ((pm_al_mem _ 0 j w).mp hq).2
  rw [Nat.sub_zero] at h1
  have h2 := pm_l0_mem args _ 0 j w hc h1
  rwa [Nat.zero_add] at h2
/-- some places are forgotten -/
noncomputable def pm_mask : List Bool → pm_L → pm_L
  | _, [] => []
  | [], L => L
  | true :: b, _ :: r => none :: pm_mask b r
  | false :: b, a :: r => a :: pm_mask b r
theorem pm_mask_gt : ∀ (b : List Bool) (L : pm_L) (j : Nat) (w : Value), pm_gt (pm_mask b L) j = some w → pm_gt L j = some w
  | _, [], _, _, h => by
    simp [pm_mask, pm_gt] at h
  | [], a :: r, j, w, h => h
  | true :: b, a :: r, 0, w, h => by simp [pm_mask, pm_gt] at h
  | true :: b, a :: r, j + 1, w, h => by
    simp only [pm_mask, pm_gt] at h ⊢
    exact pm_mask_gt b r j w h
  | false :: b, a :: r, 0, w, h => by
    simp only [pm_mask, pm_gt] at h ⊢
    exact h
  | false :: b, a :: r, j + 1, w, h => by
    simp only [pm_mask, pm_gt] at h ⊢
    exact pm_mask_gt b r j w h
theorem pm_lv_mask {ls : Array Slot} {nL : Nat} {L : pm_L} (b : List Bool) (h : pm_lv ls nL L) : pm_lv ls nL (pm_mask b L) := by
  refine ⟨h.1, h.2.1, fun q hq => h.2.2 q ?_⟩
  obtain ⟨j, w⟩ := q
  have h1 := ((pm_al_mem _ 0 j w).mp hq).2
  exact (pm_al_mem _ 0 j w).mpr ⟨Nat.zero_le _, pm_mask_gt b L _ w h1⟩
end
