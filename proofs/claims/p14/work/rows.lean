section
-- ===== PART A: goes FIRST, ahead of the names: the tables' words, and 'selects' of the private methods out of them =====
/-- a private method of a class that the tables say can be made, by its rows of tables_1 -/
def lw_okq (q : MethodName × Nat) : Prop := (q.1.cls ≠ "java/lang/invoke/MethodHandle" ∧ q.1.cls ≠ "java/lang/invoke/VarHandle") ∧ Cond.instantiable q.1.cls q.2 ∈ tables_1 ∧ Cond.privateMethod q.1 ∈ tables_1 ∧ Cond.instanceMethod q.1 ∈ tables_1
theorem lw_p0 : lw_okq (⟨"SpanColours$Timeline", "append", "(III)V"⟩, 8) := ⟨⟨by decide +kernel, by decide +kernel⟩, List.mem_of_getElem? (i := 25) (by decide +kernel), List.mem_of_getElem? (i := 366) (by decide +kernel), List.mem_of_getElem? (i := 367) (by decide +kernel)⟩
theorem lw_p1 : lw_okq (⟨"SpanColours", "swapInOrder", "(IIII)I"⟩, 9) := ⟨⟨by decide +kernel, by decide +kernel⟩, List.mem_of_getElem? (i := 17) (by decide +kernel), List.mem_of_getElem? (i := 421) (by decide +kernel), List.mem_of_getElem? (i := 422) (by decide +kernel)⟩
theorem lw_p2 : lw_okq (⟨"SpanColours", "colourNumber", "(LSpanColours$Row;II)I"⟩, 9) := ⟨⟨by decide +kernel, by decide +kernel⟩, List.mem_of_getElem? (i := 17) (by decide +kernel), List.mem_of_getElem? (i := 497) (by decide +kernel), List.mem_of_getElem? (i := 498) (by decide +kernel)⟩
theorem lw_p3 : lw_okq (⟨"SpanColours", "readSpan", "(II)Z"⟩, 9) := ⟨⟨by decide +kernel, by decide +kernel⟩, List.mem_of_getElem? (i := 17) (by decide +kernel), List.mem_of_getElem? (i := 518) (by decide +kernel), List.mem_of_getElem? (i := 519) (by decide +kernel)⟩
theorem lw_p4 : lw_okq (⟨"SpanColours$Listing", "listAsMet", "(LSpanColours$Row;III)V"⟩, 3) := ⟨⟨by decide +kernel, by decide +kernel⟩, List.mem_of_getElem? (i := 155) (by decide +kernel), List.mem_of_getElem? (i := 559) (by decide +kernel), List.mem_of_getElem? (i := 560) (by decide +kernel)⟩
theorem lw_p5 : lw_okq (⟨"SpanColours$Listing", "listByMost", "(LSpanColours$Palette;[I)V"⟩, 3) := ⟨⟨by decide +kernel, by decide +kernel⟩, List.mem_of_getElem? (i := 155) (by decide +kernel), List.mem_of_getElem? (i := 570) (by decide +kernel), List.mem_of_getElem? (i := 571) (by decide +kernel)⟩
theorem lw_p6 : lw_okq (⟨"SpanColours$Neighbours", "clearPair", "()V"⟩, 5) := ⟨⟨by decide +kernel, by decide +kernel⟩, List.mem_of_getElem? (i := 171) (by decide +kernel), List.mem_of_getElem? (i := 614) (by decide +kernel), List.mem_of_getElem? (i := 615) (by decide +kernel)⟩
theorem lw_p7 : lw_okq (⟨"SpanColours$Neighbours", "offerPair", "(II)V"⟩, 5) := ⟨⟨by decide +kernel, by decide +kernel⟩, List.mem_of_getElem? (i := 171) (by decide +kernel), List.mem_of_getElem? (i := 618) (by decide +kernel), List.mem_of_getElem? (i := 619) (by decide +kernel)⟩
theorem lw_p8 : lw_okq (⟨"SpanColours$Palette", "largestBeside", "(I)I"⟩, 6) := ⟨⟨by decide +kernel, by decide +kernel⟩, List.mem_of_getElem? (i := 109) (by decide +kernel), List.mem_of_getElem? (i := 656) (by decide +kernel), List.mem_of_getElem? (i := 657) (by decide +kernel)⟩
theorem lw_p9 : lw_okq (⟨"SpanColours$Reaches", "clearFound", "()V"⟩, 5) := ⟨⟨by decide +kernel, by decide +kernel⟩, List.mem_of_getElem? (i := 193) (by decide +kernel), List.mem_of_getElem? (i := 726) (by decide +kernel), List.mem_of_getElem? (i := 727) (by decide +kernel)⟩
theorem lw_p10 : lw_okq (⟨"SpanColours$Reaches", "earliestLatest", "(II)I"⟩, 5) := ⟨⟨by decide +kernel, by decide +kernel⟩, List.mem_of_getElem? (i := 193) (by decide +kernel), List.mem_of_getElem? (i := 731) (by decide +kernel), List.mem_of_getElem? (i := 732) (by decide +kernel)⟩
theorem lw_p11 : lw_okq (⟨"SpanColours$Reaches", "offerLonger", "(II)V"⟩, 5) := ⟨⟨by decide +kernel, by decide +kernel⟩, List.mem_of_getElem? (i := 193) (by decide +kernel), List.mem_of_getElem? (i := 752) (by decide +kernel), List.mem_of_getElem? (i := 753) (by decide +kernel)⟩
theorem lw_p12 : lw_okq (⟨"SpanColours$Shelf", "findNextAlike", "(LSpanColours$Row;)V"⟩, 5) := ⟨⟨by decide +kernel, by decide +kernel⟩, List.mem_of_getElem? (i := 218) (by decide +kernel), List.mem_of_getElem? (i := 789) (by decide +kernel), List.mem_of_getElem? (i := 790) (by decide +kernel)⟩
theorem lw_p13 : lw_okq (⟨"SpanColours$Shelf", "oneToGo", "(I)I"⟩, 5) := ⟨⟨by decide +kernel, by decide +kernel⟩, List.mem_of_getElem? (i := 218) (by decide +kernel), List.mem_of_getElem? (i := 796) (by decide +kernel), List.mem_of_getElem? (i := 797) (by decide +kernel)⟩
theorem lw_p14 : lw_okq (⟨"SpanColours$Shelf", "goesRather", "(III)Z"⟩, 5) := ⟨⟨by decide +kernel, by decide +kernel⟩, List.mem_of_getElem? (i := 218) (by decide +kernel), List.mem_of_getElem? (i := 800) (by decide +kernel), List.mem_of_getElem? (i := 801) (by decide +kernel)⟩
theorem lw_p15 : lw_okq (⟨"SpanColours$Patterns", "isAmong", "(II)Z"⟩, 3) := ⟨⟨by decide +kernel, by decide +kernel⟩, List.mem_of_getElem? (i := 242) (by decide +kernel), List.mem_of_getElem? (i := 837) (by decide +kernel), List.mem_of_getElem? (i := 838) (by decide +kernel)⟩
def lw_privs_1 : List (MethodName × Nat) := [(⟨"SpanColours$Timeline", "append", "(III)V"⟩, 8), (⟨"SpanColours", "swapInOrder", "(IIII)I"⟩, 9), (⟨"SpanColours", "colourNumber", "(LSpanColours$Row;II)I"⟩, 9), (⟨"SpanColours", "readSpan", "(II)Z"⟩, 9), (⟨"SpanColours$Listing", "listAsMet", "(LSpanColours$Row;III)V"⟩, 3), (⟨"SpanColours$Listing", "listByMost", "(LSpanColours$Palette;[I)V"⟩, 3), (⟨"SpanColours$Neighbours", "clearPair", "()V"⟩, 5), (⟨"SpanColours$Neighbours", "offerPair", "(II)V"⟩, 5), (⟨"SpanColours$Palette", "largestBeside", "(I)I"⟩, 6), (⟨"SpanColours$Reaches", "clearFound", "()V"⟩, 5), (⟨"SpanColours$Reaches", "earliestLatest", "(II)I"⟩, 5), (⟨"SpanColours$Reaches", "offerLonger", "(II)V"⟩, 5), (⟨"SpanColours$Shelf", "findNextAlike", "(LSpanColours$Row;)V"⟩, 5), (⟨"SpanColours$Shelf", "oneToGo", "(I)I"⟩, 5), (⟨"SpanColours$Shelf", "goesRather", "(III)Z"⟩, 5), (⟨"SpanColours$Patterns", "isAmong", "(II)Z"⟩, 3)]
theorem lw_r1 : ∀ q ∈ lw_privs_1, lw_okq q := List.forall_mem_cons.mpr ⟨lw_p0, List.forall_mem_cons.mpr ⟨lw_p1, List.forall_mem_cons.mpr ⟨lw_p2, List.forall_mem_cons.mpr ⟨lw_p3, List.forall_mem_cons.mpr ⟨lw_p4, List.forall_mem_cons.mpr ⟨lw_p5, List.forall_mem_cons.mpr ⟨lw_p6, List.forall_mem_cons.mpr ⟨lw_p7, List.forall_mem_cons.mpr ⟨lw_p8, List.forall_mem_cons.mpr ⟨lw_p9, List.forall_mem_cons.mpr ⟨lw_p10, List.forall_mem_cons.mpr ⟨lw_p11, List.forall_mem_cons.mpr ⟨lw_p12, List.forall_mem_cons.mpr ⟨lw_p13, List.forall_mem_cons.mpr ⟨lw_p14, List.forall_mem_cons.mpr ⟨lw_p15, fun _ h => absurd h List.not_mem_nil⟩⟩⟩⟩⟩⟩⟩⟩⟩⟩⟩⟩⟩⟩⟩⟩
theorem lw_p16 : lw_okq (⟨"SpanColours$Patterns", "findTwinApart", "(LSpanColours$Row;I)V"⟩, 3) := ⟨⟨by decide +kernel, by decide +kernel⟩, List.mem_of_getElem? (i := 242) (by decide +kernel), List.mem_of_getElem? (i := 863) (by decide +kernel), List.mem_of_getElem? (i := 864) (by decide +kernel)⟩
theorem lw_p17 : lw_okq (⟨"SpanColours$Partings", "shortestBestEnd", "(LSpanColours$Row;LSpanColours$Palette;II)I"⟩, 1) := ⟨⟨by decide +kernel, by decide +kernel⟩, List.mem_of_getElem? (i := 260) (by decide +kernel), List.mem_of_getElem? (i := 896) (by decide +kernel), List.mem_of_getElem? (i := 897) (by decide +kernel)⟩
theorem lw_p18 : lw_okq (⟨"SpanColours$Timeline", "isUnlike", "(LSpanColours$Row;III)Z"⟩, 8) := ⟨⟨by decide +kernel, by decide +kernel⟩, List.mem_of_getElem? (i := 25) (by decide +kernel), List.mem_of_getElem? (i := 940) (by decide +kernel), List.mem_of_getElem? (i := 941) (by decide +kernel)⟩
theorem lw_p19 : lw_okq (⟨"SpanColoursModel", "isPlace", "(I)Z"⟩, 28) := ⟨⟨by decide +kernel, by decide +kernel⟩, List.mem_of_getElem? (i := 982) (by decide +kernel), List.mem_of_getElem? (i := 1077) (by decide +kernel), List.mem_of_getElem? (i := 1078) (by decide +kernel)⟩
theorem lw_p20 : lw_okq (⟨"SpanColoursModel", "recolours", "(IIIIZ)I"⟩, 28) := ⟨⟨by decide +kernel, by decide +kernel⟩, List.mem_of_getElem? (i := 982) (by decide +kernel), List.mem_of_getElem? (i := 1087) (by decide +kernel), List.mem_of_getElem? (i := 1088) (by decide +kernel)⟩
theorem lw_p21 : lw_okq (⟨"SpanColoursModel", "begins", "()V"⟩, 28) := ⟨⟨by decide +kernel, by decide +kernel⟩, List.mem_of_getElem? (i := 982) (by decide +kernel), List.mem_of_getElem? (i := 1091) (by decide +kernel), List.mem_of_getElem? (i := 1092) (by decide +kernel)⟩
theorem lw_p22 : lw_okq (⟨"SpanColoursModel", "bondOf", "(I)I"⟩, 28) := ⟨⟨by decide +kernel, by decide +kernel⟩, List.mem_of_getElem? (i := 982) (by decide +kernel), List.mem_of_getElem? (i := 1095) (by decide +kernel), List.mem_of_getElem? (i := 1096) (by decide +kernel)⟩
theorem lw_p23 : lw_okq (⟨"SpanColoursModel", "ahead", "(I)I"⟩, 28) := ⟨⟨by decide +kernel, by decide +kernel⟩, List.mem_of_getElem? (i := 982) (by decide +kernel), List.mem_of_getElem? (i := 1099) (by decide +kernel), List.mem_of_getElem? (i := 1100) (by decide +kernel)⟩
theorem lw_p24 : lw_okq (⟨"SpanColoursModel", "lays", "(II)V"⟩, 28) := ⟨⟨by decide +kernel, by decide +kernel⟩, List.mem_of_getElem? (i := 982) (by decide +kernel), List.mem_of_getElem? (i := 1103) (by decide +kernel), List.mem_of_getElem? (i := 1104) (by decide +kernel)⟩
theorem lw_p25 : lw_okq (⟨"SpanColoursModel", "ends", "()I"⟩, 28) := ⟨⟨by decide +kernel, by decide +kernel⟩, List.mem_of_getElem? (i := 982) (by decide +kernel), List.mem_of_getElem? (i := 1107) (by decide +kernel), List.mem_of_getElem? (i := 1108) (by decide +kernel)⟩
theorem lw_p26 : lw_okq (⟨"SpanColoursModel", "isTouched", "(I)Z"⟩, 28) := ⟨⟨by decide +kernel, by decide +kernel⟩, List.mem_of_getElem? (i := 982) (by decide +kernel), List.mem_of_getElem? (i := 1111) (by decide +kernel), List.mem_of_getElem? (i := 1112) (by decide +kernel)⟩
theorem lw_p27 : lw_okq (⟨"SpanColoursModel", "keepsRow", "(I)V"⟩, 28) := ⟨⟨by decide +kernel, by decide +kernel⟩, List.mem_of_getElem? (i := 982) (by decide +kernel), List.mem_of_getElem? (i := 1115) (by decide +kernel), List.mem_of_getElem? (i := 1116) (by decide +kernel)⟩
theorem lw_p28 : lw_okq (⟨"SpanColoursModel", "isSpan", "(II)Z"⟩, 28) := ⟨⟨by decide +kernel, by decide +kernel⟩, List.mem_of_getElem? (i := 982) (by decide +kernel), List.mem_of_getElem? (i := 1123) (by decide +kernel), List.mem_of_getElem? (i := 1124) (by decide +kernel)⟩
theorem lw_p29 : lw_okq (⟨"SpanColoursModel", "hasRoom", "(I)Z"⟩, 28) := ⟨⟨by decide +kernel, by decide +kernel⟩, List.mem_of_getElem? (i := 982) (by decide +kernel), List.mem_of_getElem? (i := 1139) (by decide +kernel), List.mem_of_getElem? (i := 1140) (by decide +kernel)⟩
theorem lw_p30 : lw_okq (⟨"SpanColoursModel", "laysFrom", "(II)V"⟩, 28) := ⟨⟨by decide +kernel, by decide +kernel⟩, List.mem_of_getElem? (i := 982) (by decide +kernel), List.mem_of_getElem? (i := 1143) (by decide +kernel), List.mem_of_getElem? (i := 1144) (by decide +kernel)⟩
theorem lw_p31 : lw_okq (⟨"SpanColoursModel", "laysNew", "(I)V"⟩, 28) := ⟨⟨by decide +kernel, by decide +kernel⟩, List.mem_of_getElem? (i := 982) (by decide +kernel), List.mem_of_getElem? (i := 1147) (by decide +kernel), List.mem_of_getElem? (i := 1148) (by decide +kernel)⟩
def lw_privs_2 : List (MethodName × Nat) := [(⟨"SpanColours$Patterns", "findTwinApart", "(LSpanColours$Row;I)V"⟩, 3), (⟨"SpanColours$Partings", "shortestBestEnd", "(LSpanColours$Row;LSpanColours$Palette;II)I"⟩, 1), (⟨"SpanColours$Timeline", "isUnlike", "(LSpanColours$Row;III)Z"⟩, 8), (⟨"SpanColoursModel", "isPlace", "(I)Z"⟩, 28), (⟨"SpanColoursModel", "recolours", "(IIIIZ)I"⟩, 28), (⟨"SpanColoursModel", "begins", "()V"⟩, 28), (⟨"SpanColoursModel", "bondOf", "(I)I"⟩, 28), (⟨"SpanColoursModel", "ahead", "(I)I"⟩, 28), (⟨"SpanColoursModel", "lays", "(II)V"⟩, 28), (⟨"SpanColoursModel", "ends", "()I"⟩, 28), (⟨"SpanColoursModel", "isTouched", "(I)Z"⟩, 28), (⟨"SpanColoursModel", "keepsRow", "(I)V"⟩, 28), (⟨"SpanColoursModel", "isSpan", "(II)Z"⟩, 28), (⟨"SpanColoursModel", "hasRoom", "(I)Z"⟩, 28), (⟨"SpanColoursModel", "laysFrom", "(II)V"⟩, 28), (⟨"SpanColoursModel", "laysNew", "(I)V"⟩, 28)]
theorem lw_r2 : ∀ q ∈ lw_privs_2, lw_okq q := List.forall_mem_cons.mpr ⟨lw_p16, List.forall_mem_cons.mpr ⟨lw_p17, List.forall_mem_cons.mpr ⟨lw_p18, List.forall_mem_cons.mpr ⟨lw_p19, List.forall_mem_cons.mpr ⟨lw_p20, List.forall_mem_cons.mpr ⟨lw_p21, List.forall_mem_cons.mpr ⟨lw_p22, List.forall_mem_cons.mpr ⟨lw_p23, List.forall_mem_cons.mpr ⟨lw_p24, List.forall_mem_cons.mpr ⟨lw_p25, List.forall_mem_cons.mpr ⟨lw_p26, List.forall_mem_cons.mpr ⟨lw_p27, List.forall_mem_cons.mpr ⟨lw_p28, List.forall_mem_cons.mpr ⟨lw_p29, List.forall_mem_cons.mpr ⟨lw_p30, List.forall_mem_cons.mpr ⟨lw_p31, fun _ h => absurd h List.not_mem_nil⟩⟩⟩⟩⟩⟩⟩⟩⟩⟩⟩⟩⟩⟩⟩⟩
theorem lw_p32 : lw_okq (⟨"SpanColoursModel", "behind", "(I)I"⟩, 28) := ⟨⟨by decide +kernel, by decide +kernel⟩, List.mem_of_getElem? (i := 982) (by decide +kernel), List.mem_of_getElem? (i := 1187) (by decide +kernel), List.mem_of_getElem? (i := 1188) (by decide +kernel)⟩
theorem lw_p33 : lw_okq (⟨"SpanColoursModel", "placeOf", "(I)I"⟩, 28) := ⟨⟨by decide +kernel, by decide +kernel⟩, List.mem_of_getElem? (i := 982) (by decide +kernel), List.mem_of_getElem? (i := 1195) (by decide +kernel), List.mem_of_getElem? (i := 1196) (by decide +kernel)⟩
theorem lw_p34 : lw_okq (⟨"SpanColoursModel", "timesIn", "(III)I"⟩, 28) := ⟨⟨by decide +kernel, by decide +kernel⟩, List.mem_of_getElem? (i := 982) (by decide +kernel), List.mem_of_getElem? (i := 1203) (by decide +kernel), List.mem_of_getElem? (i := 1204) (by decide +kernel)⟩
theorem lw_p35 : lw_okq (⟨"SpanColoursModel", "first", "(I)I"⟩, 28) := ⟨⟨by decide +kernel, by decide +kernel⟩, List.mem_of_getElem? (i := 982) (by decide +kernel), List.mem_of_getElem? (i := 1207) (by decide +kernel), List.mem_of_getElem? (i := 1208) (by decide +kernel)⟩
theorem lw_p36 : lw_okq (⟨"SpanColoursModel", "last", "(I)I"⟩, 28) := ⟨⟨by decide +kernel, by decide +kernel⟩, List.mem_of_getElem? (i := 982) (by decide +kernel), List.mem_of_getElem? (i := 1211) (by decide +kernel), List.mem_of_getElem? (i := 1212) (by decide +kernel)⟩
theorem lw_p37 : lw_okq (⟨"SpanColoursModel", "widest", "(I)I"⟩, 28) := ⟨⟨by decide +kernel, by decide +kernel⟩, List.mem_of_getElem? (i := 982) (by decide +kernel), List.mem_of_getElem? (i := 1215) (by decide +kernel), List.mem_of_getElem? (i := 1216) (by decide +kernel)⟩
theorem lw_p38 : lw_okq (⟨"SpanColoursModel", "setOf", "(II)I"⟩, 28) := ⟨⟨by decide +kernel, by decide +kernel⟩, List.mem_of_getElem? (i := 982) (by decide +kernel), List.mem_of_getElem? (i := 1227) (by decide +kernel), List.mem_of_getElem? (i := 1228) (by decide +kernel)⟩
theorem lw_p39 : lw_okq (⟨"SpanColoursModel", "countOf", "(II)I"⟩, 28) := ⟨⟨by decide +kernel, by decide +kernel⟩, List.mem_of_getElem? (i := 982) (by decide +kernel), List.mem_of_getElem? (i := 1238) (by decide +kernel), List.mem_of_getElem? (i := 1239) (by decide +kernel)⟩
theorem lw_p40 : lw_okq (⟨"SpanColoursModel", "weightOf", "(I)I"⟩, 28) := ⟨⟨by decide +kernel, by decide +kernel⟩, List.mem_of_getElem? (i := 982) (by decide +kernel), List.mem_of_getElem? (i := 1246) (by decide +kernel), List.mem_of_getElem? (i := 1247) (by decide +kernel)⟩
theorem lw_p41 : lw_okq (⟨"SpanColoursModel", "reported", "(III)I"⟩, 28) := ⟨⟨by decide +kernel, by decide +kernel⟩, List.mem_of_getElem? (i := 982) (by decide +kernel), List.mem_of_getElem? (i := 1274) (by decide +kernel), List.mem_of_getElem? (i := 1275) (by decide +kernel)⟩
theorem lw_p42 : lw_okq (⟨"SpanColoursModel", "reportKey", "(I)I"⟩, 28) := ⟨⟨by decide +kernel, by decide +kernel⟩, List.mem_of_getElem? (i := 982) (by decide +kernel), List.mem_of_getElem? (i := 1279) (by decide +kernel), List.mem_of_getElem? (i := 1280) (by decide +kernel)⟩
theorem lw_p43 : lw_okq (⟨"SpanColoursModel", "laysOrder", "(III)I"⟩, 28) := ⟨⟨by decide +kernel, by decide +kernel⟩, List.mem_of_getElem? (i := 982) (by decide +kernel), List.mem_of_getElem? (i := 1287) (by decide +kernel), List.mem_of_getElem? (i := 1288) (by decide +kernel)⟩
theorem lw_p44 : lw_okq (⟨"SpanColoursModel", "isAhead", "(IIIII)Z"⟩, 28) := ⟨⟨by decide +kernel, by decide +kernel⟩, List.mem_of_getElem? (i := 982) (by decide +kernel), List.mem_of_getElem? (i := 1291) (by decide +kernel), List.mem_of_getElem? (i := 1292) (by decide +kernel)⟩
theorem lw_p45 : lw_okq (⟨"SpanColoursModel", "isKnown", "(I)Z"⟩, 28) := ⟨⟨by decide +kernel, by decide +kernel⟩, List.mem_of_getElem? (i := 982) (by decide +kernel), List.mem_of_getElem? (i := 1311) (by decide +kernel), List.mem_of_getElem? (i := 1312) (by decide +kernel)⟩
theorem lw_p46 : lw_okq (⟨"SpanColoursModel", "wasColour", "(II)I"⟩, 28) := ⟨⟨by decide +kernel, by decide +kernel⟩, List.mem_of_getElem? (i := 982) (by decide +kernel), List.mem_of_getElem? (i := 1315) (by decide +kernel), List.mem_of_getElem? (i := 1316) (by decide +kernel)⟩
theorem lw_p47 : lw_okq (⟨"SpanColoursModel", "wasName", "(II)I"⟩, 28) := ⟨⟨by decide +kernel, by decide +kernel⟩, List.mem_of_getElem? (i := 982) (by decide +kernel), List.mem_of_getElem? (i := 1319) (by decide +kernel), List.mem_of_getElem? (i := 1320) (by decide +kernel)⟩
def lw_privs_3 : List (MethodName × Nat) := [(⟨"SpanColoursModel", "behind", "(I)I"⟩, 28), (⟨"SpanColoursModel", "placeOf", "(I)I"⟩, 28), (⟨"SpanColoursModel", "timesIn", "(III)I"⟩, 28), (⟨"SpanColoursModel", "first", "(I)I"⟩, 28), (⟨"SpanColoursModel", "last", "(I)I"⟩, 28), (⟨"SpanColoursModel", "widest", "(I)I"⟩, 28), (⟨"SpanColoursModel", "setOf", "(II)I"⟩, 28), (⟨"SpanColoursModel", "countOf", "(II)I"⟩, 28), (⟨"SpanColoursModel", "weightOf", "(I)I"⟩, 28), (⟨"SpanColoursModel", "reported", "(III)I"⟩, 28), (⟨"SpanColoursModel", "reportKey", "(I)I"⟩, 28), (⟨"SpanColoursModel", "laysOrder", "(III)I"⟩, 28), (⟨"SpanColoursModel", "isAhead", "(IIIII)Z"⟩, 28), (⟨"SpanColoursModel", "isKnown", "(I)Z"⟩, 28), (⟨"SpanColoursModel", "wasColour", "(II)I"⟩, 28), (⟨"SpanColoursModel", "wasName", "(II)I"⟩, 28)]
theorem lw_r3 : ∀ q ∈ lw_privs_3, lw_okq q := List.forall_mem_cons.mpr ⟨lw_p32, List.forall_mem_cons.mpr ⟨lw_p33, List.forall_mem_cons.mpr ⟨lw_p34, List.forall_mem_cons.mpr ⟨lw_p35, List.forall_mem_cons.mpr ⟨lw_p36, List.forall_mem_cons.mpr ⟨lw_p37, List.forall_mem_cons.mpr ⟨lw_p38, List.forall_mem_cons.mpr ⟨lw_p39, List.forall_mem_cons.mpr ⟨lw_p40, List.forall_mem_cons.mpr ⟨lw_p41, List.forall_mem_cons.mpr ⟨lw_p42, List.forall_mem_cons.mpr ⟨lw_p43, List.forall_mem_cons.mpr ⟨lw_p44, List.forall_mem_cons.mpr ⟨lw_p45, List.forall_mem_cons.mpr ⟨lw_p46, List.forall_mem_cons.mpr ⟨lw_p47, fun _ h => absurd h List.not_mem_nil⟩⟩⟩⟩⟩⟩⟩⟩⟩⟩⟩⟩⟩⟩⟩⟩
theorem lw_p48 : lw_okq (⟨"SpanColoursModel", "wasBond", "(II)I"⟩, 28) := ⟨⟨by decide +kernel, by decide +kernel⟩, List.mem_of_getElem? (i := 982) (by decide +kernel), List.mem_of_getElem? (i := 1323) (by decide +kernel), List.mem_of_getElem? (i := 1324) (by decide +kernel)⟩
theorem lw_p49 : lw_okq (⟨"SpanColoursModel", "wasSet", "(III)I"⟩, 28) := ⟨⟨by decide +kernel, by decide +kernel⟩, List.mem_of_getElem? (i := 982) (by decide +kernel), List.mem_of_getElem? (i := 1331) (by decide +kernel), List.mem_of_getElem? (i := 1332) (by decide +kernel)⟩
theorem lw_p50 : lw_okq (⟨"SpanColoursModel", "hadBond", "(III)Z"⟩, 28) := ⟨⟨by decide +kernel, by decide +kernel⟩, List.mem_of_getElem? (i := 982) (by decide +kernel), List.mem_of_getElem? (i := 1344) (by decide +kernel), List.mem_of_getElem? (i := 1345) (by decide +kernel)⟩
theorem lw_p51 : lw_okq (⟨"SpanColoursModel", "wasPlace", "(II)I"⟩, 28) := ⟨⟨by decide +kernel, by decide +kernel⟩, List.mem_of_getElem? (i := 982) (by decide +kernel), List.mem_of_getElem? (i := 1348) (by decide +kernel), List.mem_of_getElem? (i := 1349) (by decide +kernel)⟩
theorem lw_p52 : lw_okq (⟨"SpanColoursModel", "isNewSide", "(II)Z"⟩, 28) := ⟨⟨by decide +kernel, by decide +kernel⟩, List.mem_of_getElem? (i := 982) (by decide +kernel), List.mem_of_getElem? (i := 1360) (by decide +kernel), List.mem_of_getElem? (i := 1361) (by decide +kernel)⟩
theorem lw_p53 : lw_okq (⟨"SpanColoursModel", "haveAll", "(IIII)Z"⟩, 28) := ⟨⟨by decide +kernel, by decide +kernel⟩, List.mem_of_getElem? (i := 982) (by decide +kernel), List.mem_of_getElem? (i := 1368) (by decide +kernel), List.mem_of_getElem? (i := 1369) (by decide +kernel)⟩
theorem lw_p54 : lw_okq (⟨"SpanColoursModel", "nextBehind", "(II)I"⟩, 28) := ⟨⟨by decide +kernel, by decide +kernel⟩, List.mem_of_getElem? (i := 982) (by decide +kernel), List.mem_of_getElem? (i := 1393) (by decide +kernel), List.mem_of_getElem? (i := 1394) (by decide +kernel)⟩
theorem lw_p55 : lw_okq (⟨"SpanColoursModel", "farthest", "(II)I"⟩, 28) := ⟨⟨by decide +kernel, by decide +kernel⟩, List.mem_of_getElem? (i := 982) (by decide +kernel), List.mem_of_getElem? (i := 1418) (by decide +kernel), List.mem_of_getElem? (i := 1419) (by decide +kernel)⟩
theorem lw_p56 : lw_okq (⟨"SpanColoursModel", "goOver", "(III)I"⟩, 28) := ⟨⟨by decide +kernel, by decide +kernel⟩, List.mem_of_getElem? (i := 982) (by decide +kernel), List.mem_of_getElem? (i := 1441) (by decide +kernel), List.mem_of_getElem? (i := 1442) (by decide +kernel)⟩
theorem lw_p57 : lw_okq (⟨"SpanColoursModel", "goner", "(II)I"⟩, 28) := ⟨⟨by decide +kernel, by decide +kernel⟩, List.mem_of_getElem? (i := 982) (by decide +kernel), List.mem_of_getElem? (i := 1445) (by decide +kernel), List.mem_of_getElem? (i := 1446) (by decide +kernel)⟩
theorem lw_p58 : lw_okq (⟨"SpanColoursModel", "lastAhead", "(II)I"⟩, 28) := ⟨⟨by decide +kernel, by decide +kernel⟩, List.mem_of_getElem? (i := 982) (by decide +kernel), List.mem_of_getElem? (i := 1449) (by decide +kernel), List.mem_of_getElem? (i := 1450) (by decide +kernel)⟩
theorem lw_p59 : lw_okq (⟨"SpanColoursModel", "layGaps", "()V"⟩, 28) := ⟨⟨by decide +kernel, by decide +kernel⟩, List.mem_of_getElem? (i := 982) (by decide +kernel), List.mem_of_getElem? (i := 1477) (by decide +kernel), List.mem_of_getElem? (i := 1478) (by decide +kernel)⟩
theorem lw_p60 : lw_okq (⟨"SpanColoursModel", "matched", "(III)I"⟩, 28) := ⟨⟨by decide +kernel, by decide +kernel⟩, List.mem_of_getElem? (i := 982) (by decide +kernel), List.mem_of_getElem? (i := 1481) (by decide +kernel), List.mem_of_getElem? (i := 1482) (by decide +kernel)⟩
theorem lw_p61 : lw_okq (⟨"SpanColoursModel", "layBest", "(I)V"⟩, 28) := ⟨⟨by decide +kernel, by decide +kernel⟩, List.mem_of_getElem? (i := 982) (by decide +kernel), List.mem_of_getElem? (i := 1497) (by decide +kernel), List.mem_of_getElem? (i := 1498) (by decide +kernel)⟩
theorem lw_p62 : lw_okq (⟨"SpanColoursModel", "layPart", "(III)V"⟩, 28) := ⟨⟨by decide +kernel, by decide +kernel⟩, List.mem_of_getElem? (i := 982) (by decide +kernel), List.mem_of_getElem? (i := 1501) (by decide +kernel), List.mem_of_getElem? (i := 1502) (by decide +kernel)⟩
theorem lw_p63 : lw_okq (⟨"SpanColoursModel", "asks", "(III)I"⟩, 28) := ⟨⟨by decide +kernel, by decide +kernel⟩, List.mem_of_getElem? (i := 982) (by decide +kernel), List.mem_of_getElem? (i := 1509) (by decide +kernel), List.mem_of_getElem? (i := 1510) (by decide +kernel)⟩
def lw_privs_4 : List (MethodName × Nat) := [(⟨"SpanColoursModel", "wasBond", "(II)I"⟩, 28), (⟨"SpanColoursModel", "wasSet", "(III)I"⟩, 28), (⟨"SpanColoursModel", "hadBond", "(III)Z"⟩, 28), (⟨"SpanColoursModel", "wasPlace", "(II)I"⟩, 28), (⟨"SpanColoursModel", "isNewSide", "(II)Z"⟩, 28), (⟨"SpanColoursModel", "haveAll", "(IIII)Z"⟩, 28), (⟨"SpanColoursModel", "nextBehind", "(II)I"⟩, 28), (⟨"SpanColoursModel", "farthest", "(II)I"⟩, 28), (⟨"SpanColoursModel", "goOver", "(III)I"⟩, 28), (⟨"SpanColoursModel", "goner", "(II)I"⟩, 28), (⟨"SpanColoursModel", "lastAhead", "(II)I"⟩, 28), (⟨"SpanColoursModel", "layGaps", "()V"⟩, 28), (⟨"SpanColoursModel", "matched", "(III)I"⟩, 28), (⟨"SpanColoursModel", "layBest", "(I)V"⟩, 28), (⟨"SpanColoursModel", "layPart", "(III)V"⟩, 28), (⟨"SpanColoursModel", "asks", "(III)I"⟩, 28)]
theorem lw_r4 : ∀ q ∈ lw_privs_4, lw_okq q := List.forall_mem_cons.mpr ⟨lw_p48, List.forall_mem_cons.mpr ⟨lw_p49, List.forall_mem_cons.mpr ⟨lw_p50, List.forall_mem_cons.mpr ⟨lw_p51, List.forall_mem_cons.mpr ⟨lw_p52, List.forall_mem_cons.mpr ⟨lw_p53, List.forall_mem_cons.mpr ⟨lw_p54, List.forall_mem_cons.mpr ⟨lw_p55, List.forall_mem_cons.mpr ⟨lw_p56, List.forall_mem_cons.mpr ⟨lw_p57, List.forall_mem_cons.mpr ⟨lw_p58, List.forall_mem_cons.mpr ⟨lw_p59, List.forall_mem_cons.mpr ⟨lw_p60, List.forall_mem_cons.mpr ⟨lw_p61, List.forall_mem_cons.mpr ⟨lw_p62, List.forall_mem_cons.mpr ⟨lw_p63, fun _ h => absurd h List.not_mem_nil⟩⟩⟩⟩⟩⟩⟩⟩⟩⟩⟩⟩⟩⟩⟩⟩
theorem lw_p64 : lw_okq (⟨"SpanColoursModel", "placeBy", "(II)I"⟩, 28) := ⟨⟨by decide +kernel, by decide +kernel⟩, List.mem_of_getElem? (i := 982) (by decide +kernel), List.mem_of_getElem? (i := 1521) (by decide +kernel), List.mem_of_getElem? (i := 1522) (by decide +kernel)⟩
theorem lw_p65 : lw_okq (⟨"SpanColoursModel", "setBy", "(III)I"⟩, 28) := ⟨⟨by decide +kernel, by decide +kernel⟩, List.mem_of_getElem? (i := 982) (by decide +kernel), List.mem_of_getElem? (i := 1525) (by decide +kernel), List.mem_of_getElem? (i := 1526) (by decide +kernel)⟩
def lw_privs_5 : List (MethodName × Nat) := [(⟨"SpanColoursModel", "placeBy", "(II)I"⟩, 28), (⟨"SpanColoursModel", "setBy", "(III)I"⟩, 28)]
theorem lw_r5 : ∀ q ∈ lw_privs_5, lw_okq q := List.forall_mem_cons.mpr ⟨lw_p64, List.forall_mem_cons.mpr ⟨lw_p65, fun _ h => absurd h List.not_mem_nil⟩⟩
def lw_privs : List (MethodName × Nat) := lw_privs_1 ++ (lw_privs_2 ++ (lw_privs_3 ++ (lw_privs_4 ++ (lw_privs_5))))
def lw_tbl : List Cond := k2_sels lw_privs ++ tables_1
theorem lw_privs_ok : ∀ q ∈ lw_privs, lw_okq q := by
  show ∀ q ∈ lw_privs_1 ++ (lw_privs_2 ++ (lw_privs_3 ++ (lw_privs_4 ++ (lw_privs_5)))), lw_okq q
  exact List.forall_mem_append.mpr ⟨lw_r1, List.forall_mem_append.mpr ⟨lw_r2, List.forall_mem_append.mpr ⟨lw_r3, List.forall_mem_append.mpr ⟨lw_r4, lw_r5⟩⟩⟩⟩
end
section
def RX0 : String := "SpanColours$Listing"
def TX0 : u_T := fun k => match k with
  | 0 => ("SpanColours$Listing", "order", "[I", true)
  | 1 => ("SpanColours$Listing", "boundTo", "[I", true)
  | _ => ("SpanColours$Listing", "found", "I", false)
def tyX0 : Nat → FieldType := fun k => match k with
  | 0 => .array .int
  | 1 => .array .int
  | _ => .int
abbrev wsX00 : List Cond := u_ws RX0 TX0 3
theorem nmX0 : ∀ a, a < 3 → ∀ b, b < 3 → a ≠ b → (TX0 a).2.1 ≠ (TX0 b).2.1 := by decide +kernel
theorem tyX0_ok : ∀ k, k < 3 → parseFieldDescriptor (TX0 k).2.2.1 = some (tyX0 k) := by decide +kernel
abbrev cX0_init : ByteArray := prog_2_method_1_code
def yX0_init : MethodName := ⟨RX0, "<init>", "()V"⟩
abbrev cX0_reported : ByteArray := prog_2_method_2_code
def yX0_reported : MethodName := ⟨RX0, "reported", "(LSpanColours$Row;III)I"⟩
abbrev cX0_colourOf : ByteArray := prog_2_method_3_code
def yX0_colourOf : MethodName := ⟨RX0, "colourOf", "(II)I"⟩
abbrev cX0_colourInOrder : ByteArray := prog_2_method_4_code
def yX0_colourInOrder : MethodName := ⟨RX0, "colourInOrder", "(LSpanColours$Row;LSpanColours$Palette;IIII)I"⟩
abbrev cX0_listAsMet : ByteArray := prog_2_method_5_code
def yX0_listAsMet : MethodName := ⟨RX0, "listAsMet", "(LSpanColours$Row;III)V"⟩
abbrev cX0_listByMost : ByteArray := prog_2_method_6_code
def yX0_listByMost : MethodName := ⟨RX0, "listByMost", "(LSpanColours$Palette;[I)V"⟩
def RX1 : String := "SpanColours$Neighbours"
def TX1 : u_T := fun k => match k with
  | 0 => ("SpanColours$Neighbours", "kindsSoFar", "[I", true)
  | 1 => ("SpanColours$Neighbours", "latest", "[I", true)
  | 2 => ("SpanColours$Neighbours", "beside", "[I", true)
  | 3 => ("SpanColours$Neighbours", "pairDistance", "I", false)
  | _ => ("SpanColours$Neighbours", "pairFirst", "I", false)
def tyX1 : Nat → FieldType := fun k => match k with
  | 0 => .array .int
  | 1 => .array .int
  | 2 => .array .int
  | 3 => .int
  | _ => .int
abbrev wsX10 : List Cond := u_ws RX1 TX1 5
theorem nmX1 : ∀ a, a < 5 → ∀ b, b < 5 → a ≠ b → (TX1 a).2.1 ≠ (TX1 b).2.1 := by decide +kernel
theorem tyX1_ok : ∀ k, k < 5 → parseFieldDescriptor (TX1 k).2.2.1 = some (tyX1 k) := by decide +kernel
abbrev cX1_init : ByteArray := prog_3_method_1_code
def yX1_init : MethodName := ⟨RX1, "<init>", "()V"⟩
abbrev cX1_pairFound : ByteArray := prog_3_method_2_code
def yX1_pairFound : MethodName := ⟨RX1, "pairFound", "(I)I"⟩
abbrev cX1_clearPair : ByteArray := prog_3_method_3_code
def yX1_clearPair : MethodName := ⟨RX1, "clearPair", "()V"⟩
abbrev cX1_offerPair : ByteArray := prog_3_method_4_code
def yX1_offerPair : MethodName := ⟨RX1, "offerPair", "(II)V"⟩
abbrev cX1_findNearestAlike : ByteArray := prog_3_method_5_code
def yX1_findNearestAlike : MethodName := ⟨RX1, "findNearestAlike", "(LSpanColours$Row;II)V"⟩
abbrev cX1_findNearestOfTwo : ByteArray := prog_3_method_6_code
def yX1_findNearestOfTwo : MethodName := ⟨RX1, "findNearestOfTwo", "(LSpanColours$Row;II)V"⟩
abbrev cX1_unlikeTwos : ByteArray := prog_3_method_7_code
def yX1_unlikeTwos : MethodName := ⟨RX1, "unlikeTwos", "(LSpanColours$Row;II)I"⟩
abbrev cX1_coveringLength : ByteArray := prog_3_method_8_code
def yX1_coveringLength : MethodName := ⟨RX1, "coveringLength", "(LSpanColours$Row;LSpanColours$Palette;II)I"⟩
abbrev cX1_evenestEnd : ByteArray := prog_3_method_9_code
def yX1_evenestEnd : MethodName := ⟨RX1, "evenestEnd", "(LSpanColours$Row;LSpanColours$Palette;II)I"⟩
def RX2 : String := "SpanColours$Palette"
def TX2 : u_T := fun k => match k with
  | 0 => ("SpanColours$Palette", "counts", "[I", true)
  | 1 => ("SpanColours$Palette", "weights", "[I", true)
  | 2 => ("SpanColours$Palette", "length", "I", false)
  | 3 => ("SpanColours$Palette", "kinds", "I", false)
  | 4 => ("SpanColours$Palette", "bits", "I", false)
  | _ => ("SpanColours$Palette", "mass", "I", false)
def tyX2 : Nat → FieldType := fun k => match k with
  | 0 => .array .int
  | 1 => .array .int
  | 2 => .int
  | 3 => .int
  | 4 => .int
  | _ => .int
abbrev wsX20 : List Cond := u_ws RX2 TX2 6
theorem nmX2 : ∀ a, a < 6 → ∀ b, b < 6 → a ≠ b → (TX2 a).2.1 ≠ (TX2 b).2.1 := by decide +kernel
theorem tyX2_ok : ∀ k, k < 6 → parseFieldDescriptor (TX2 k).2.2.1 = some (tyX2 k) := by decide +kernel
abbrev cX2_init : ByteArray := prog_4_method_1_code
def yX2_init : MethodName := ⟨RX2, "<init>", "()V"⟩
abbrev cX2_clear : ByteArray := prog_4_method_2_code
def yX2_clear : MethodName := ⟨RX2, "clear", "()V"⟩
abbrev cX2_take : ByteArray := prog_4_method_3_code
def yX2_take : MethodName := ⟨RX2, "take", "(I)V"⟩
abbrev cX2_drop : ByteArray := prog_4_method_4_code
def yX2_drop : MethodName := ⟨RX2, "drop", "(I)V"⟩
abbrev cX2_read : ByteArray := prog_4_method_5_code
def yX2_read : MethodName := ⟨RX2, "read", "(LSpanColours$Row;II)V"⟩
abbrev cX2_kindsFrom : ByteArray := prog_4_method_6_code
def yX2_kindsFrom : MethodName := ⟨RX2, "kindsFrom", "(I)I"⟩
abbrev cX2_kindsOfJust : ByteArray := prog_4_method_7_code
def yX2_kindsOfJust : MethodName := ⟨RX2, "kindsOfJust", "(I)I"⟩
abbrev cX2_largerThanPart : ByteArray := prog_4_method_8_code
def yX2_largerThanPart : MethodName := ⟨RX2, "largerThanPart", "(I)I"⟩
abbrev cX2_placesOfLargest : ByteArray := prog_4_method_9_code
def yX2_placesOfLargest : MethodName := ⟨RX2, "placesOfLargest", "(I)I"⟩
abbrev cX2_largestBeside : ByteArray := prog_4_method_10_code
def yX2_largestBeside : MethodName := ⟨RX2, "largestBeside", "(I)I"⟩
abbrev cX2_twosAlike : ByteArray := prog_4_method_11_code
def yX2_twosAlike : MethodName := ⟨RX2, "twosAlike", "()I"⟩
def RX3 : String := "SpanColours$Partings"
def TX3 : u_T := fun k => match k with
  | _ => ("SpanColours$Partings", "worths", "[[I", true)
def tyX3 : Nat → FieldType := fun k => match k with
  | _ => .array (.array .int)
abbrev wsX30 : List Cond := u_ws RX3 TX3 1
theorem nmX3 : ∀ a, a < 1 → ∀ b, b < 1 → a ≠ b → (TX3 a).2.1 ≠ (TX3 b).2.1 := by decide +kernel
theorem tyX3_ok : ∀ k, k < 1 → parseFieldDescriptor (TX3 k).2.2.1 = some (tyX3 k) := by decide +kernel
abbrev cX3_init : ByteArray := prog_5_method_1_code
def yX3_init : MethodName := ⟨RX3, "<init>", "()V"⟩
abbrev cX3_greedy : ByteArray := prog_5_method_2_code
def yX3_greedy : MethodName := ⟨RX3, "greedy", "(LSpanColours$Row;LSpanColours$Palette;II)I"⟩
abbrev cX3_worthOf : ByteArray := prog_5_method_3_code
def yX3_worthOf : MethodName := ⟨RX3, "worthOf", "(II)I"⟩
abbrev cX3_weighUp : ByteArray := prog_5_method_4_code
def yX3_weighUp : MethodName := ⟨RX3, "weighUp", "(LSpanColours$Row;LSpanColours$Palette;I)V"⟩
abbrev cX3_lastPlaceOf : ByteArray := prog_5_method_5_code
def yX3_lastPlaceOf : MethodName := ⟨RX3, "lastPlaceOf", "(LSpanColours$Row;LSpanColours$Palette;II)I"⟩
abbrev cX3_shortestBestEnd : ByteArray := prog_5_method_6_code
def yX3_shortestBestEnd : MethodName := ⟨RX3, "shortestBestEnd", "(LSpanColours$Row;LSpanColours$Palette;II)I"⟩
def RX4 : String := "SpanColours$Patterns"
def TX4 : u_T := fun k => match k with
  | 0 => ("SpanColours$Patterns", "sets", "[I", true)
  | 1 => ("SpanColours$Patterns", "twinFirst", "I", false)
  | _ => ("SpanColours$Patterns", "twinLength", "I", false)
def tyX4 : Nat → FieldType := fun k => match k with
  | 0 => .array .int
  | 1 => .int
  | _ => .int
abbrev wsX40 : List Cond := u_ws RX4 TX4 3
theorem nmX4 : ∀ a, a < 3 → ∀ b, b < 3 → a ≠ b → (TX4 a).2.1 ≠ (TX4 b).2.1 := by decide +kernel
theorem tyX4_ok : ∀ k, k < 3 → parseFieldDescriptor (TX4 k).2.2.1 = some (tyX4 k) := by decide +kernel
abbrev cX4_init : ByteArray := prog_6_method_1_code
def yX4_init : MethodName := ⟨RX4, "<init>", "()V"⟩
abbrev cX4_spansUpTo : ByteArray := prog_6_method_2_code
def yX4_spansUpTo : MethodName := ⟨RX4, "spansUpTo", "(LSpanColours$Row;LSpanColours$Palette;I)I"⟩
abbrev cX4_unlikeSets : ByteArray := prog_6_method_3_code
def yX4_unlikeSets : MethodName := ⟨RX4, "unlikeSets", "(LSpanColours$Row;LSpanColours$Palette;I)I"⟩
abbrev cX4_isAmong : ByteArray := prog_6_method_4_code
def yX4_isAmong : MethodName := ⟨RX4, "isAmong", "(II)Z"⟩
abbrev cX4_stepWithin : ByteArray := prog_6_method_5_code
def yX4_stepWithin : MethodName := ⟨RX4, "stepWithin", "(LSpanColours$Row;II)I"⟩
abbrev cX4_matching : ByteArray := prog_6_method_6_code
def yX4_matching : MethodName := ⟨RX4, "matching", "(LSpanColours$Row;III)I"⟩
abbrev cX4_areMatching : ByteArray := prog_6_method_7_code
def yX4_areMatching : MethodName := ⟨RX4, "areMatching", "(LSpanColours$Row;III)Z"⟩
abbrev cX4_findTwin : ByteArray := prog_6_method_8_code
def yX4_findTwin : MethodName := ⟨RX4, "findTwin", "(LSpanColours$Row;)V"⟩
abbrev cX4_findTwinApart : ByteArray := prog_6_method_9_code
def yX4_findTwinApart : MethodName := ⟨RX4, "findTwinApart", "(LSpanColours$Row;I)V"⟩
def RX5 : String := "SpanColours$Questions"
def TX5 : u_T := fun k => match k with
  | 0 => ("SpanColours$Questions", "names", "[I", true)
  | 1 => ("SpanColours$Questions", "others", "[I", true)
  | 2 => ("SpanColours$Questions", "kinds", "[I", true)
  | 3 => ("SpanColours$Questions", "masses", "[I", true)
  | 4 => ("SpanColours$Questions", "edits", "[I", true)
  | _ => ("SpanColours$Questions", "number", "I", false)
def tyX5 : Nat → FieldType := fun k => match k with
  | 0 => .array .int
  | 1 => .array .int
  | 2 => .array .int
  | 3 => .array .int
  | 4 => .array .int
  | _ => .int
abbrev wsX50 : List Cond := u_ws RX5 TX5 6
theorem nmX5 : ∀ a, a < 6 → ∀ b, b < 6 → a ≠ b → (TX5 a).2.1 ≠ (TX5 b).2.1 := by decide +kernel
theorem tyX5_ok : ∀ k, k < 6 → parseFieldDescriptor (TX5 k).2.2.1 = some (tyX5 k) := by decide +kernel
abbrev cX5_init : ByteArray := prog_7_method_1_code
def yX5_init : MethodName := ⟨RX5, "<init>", "()V"⟩
abbrev cX5_add : ByteArray := prog_7_method_2_code
def yX5_add : MethodName := ⟨RX5, "add", "(III)I"⟩
abbrev cX5_answer : ByteArray := prog_7_method_3_code
def yX5_answer : MethodName := ⟨RX5, "answer", "(ILSpanColours$Row;LSpanColours$Palette;)Z"⟩
abbrev cX5_tell : ByteArray := prog_7_method_4_code
def yX5_tell : MethodName := ⟨RX5, "tell", "(II)I"⟩
def RX6 : String := "SpanColours$Reaches"
def TX6 : u_T := fun k => match k with
  | 0 => ("SpanColours$Reaches", "latest", "[I", true)
  | 1 => ("SpanColours$Reaches", "first", "I", false)
  | 2 => ("SpanColours$Reaches", "last", "I", false)
  | 3 => ("SpanColours$Reaches", "massFound", "I", false)
  | _ => ("SpanColours$Reaches", "spansWithAll", "I", false)
def tyX6 : Nat → FieldType := fun k => match k with
  | 0 => .array .int
  | 1 => .int
  | 2 => .int
  | 3 => .int
  | _ => .int
abbrev wsX60 : List Cond := u_ws RX6 TX6 5
theorem nmX6 : ∀ a, a < 5 → ∀ b, b < 5 → a ≠ b → (TX6 a).2.1 ≠ (TX6 b).2.1 := by decide +kernel
theorem tyX6_ok : ∀ k, k < 5 → parseFieldDescriptor (TX6 k).2.2.1 = some (tyX6 k) := by decide +kernel
abbrev cX6_init : ByteArray := prog_8_method_1_code
def yX6_init : MethodName := ⟨RX6, "<init>", "()V"⟩
abbrev cX6_endFound : ByteArray := prog_8_method_2_code
def yX6_endFound : MethodName := ⟨RX6, "endFound", "(I)I"⟩
abbrev cX6_clearFound : ByteArray := prog_8_method_3_code
def yX6_clearFound : MethodName := ⟨RX6, "clearFound", "()V"⟩
abbrev cX6_offerLonger : ByteArray := prog_8_method_4_code
def yX6_offerLonger : MethodName := ⟨RX6, "offerLonger", "(II)V"⟩
abbrev cX6_forColours : ByteArray := prog_8_method_5_code
def yX6_forColours : MethodName := ⟨RX6, "forColours", "(LSpanColours$Row;LSpanColours$Palette;II)I"⟩
abbrev cX6_backForColours : ByteArray := prog_8_method_6_code
def yX6_backForColours : MethodName := ⟨RX6, "backForColours", "(LSpanColours$Row;LSpanColours$Palette;II)I"⟩
abbrev cX6_forMass : ByteArray := prog_8_method_7_code
def yX6_forMass : MethodName := ⟨RX6, "forMass", "(LSpanColours$Row;LSpanColours$Palette;II)I"⟩
abbrev cX6_findShortestWith : ByteArray := prog_8_method_8_code
def yX6_findShortestWith : MethodName := ⟨RX6, "findShortestWith", "(LSpanColours$Row;I)V"⟩
abbrev cX6_earliestLatest : ByteArray := prog_8_method_9_code
def yX6_earliestLatest : MethodName := ⟨RX6, "earliestLatest", "(II)I"⟩
abbrev cX6_findLongestOf : ByteArray := prog_8_method_10_code
def yX6_findLongestOf : MethodName := ⟨RX6, "findLongestOf", "(LSpanColours$Row;LSpanColours$Palette;I)V"⟩
abbrev cX6_findLongestUnlike : ByteArray := prog_8_method_11_code
def yX6_findLongestUnlike : MethodName := ⟨RX6, "findLongestUnlike", "(LSpanColours$Row;)V"⟩
abbrev cX6_findHeaviest : ByteArray := prog_8_method_12_code
def yX6_findHeaviest : MethodName := ⟨RX6, "findHeaviest", "(LSpanColours$Row;LSpanColours$Palette;I)V"⟩
def RX7 : String := "SpanColours$Row"
def TX7 : u_T := fun k => match k with
  | 0 => ("SpanColours$Row", "colours", "[I", true)
  | 1 => ("SpanColours$Row", "names", "[I", true)
  | 2 => ("SpanColours$Row", "aheads", "[I", true)
  | 3 => ("SpanColours$Row", "size", "I", false)
  | _ => ("SpanColours$Row", "touches", "I", false)
def tyX7 : Nat → FieldType := fun k => match k with
  | 0 => .array .int
  | 1 => .array .int
  | 2 => .array .int
  | 3 => .int
  | _ => .int
abbrev wsX70 : List Cond := u_ws RX7 TX7 5
theorem nmX7 : ∀ a, a < 5 → ∀ b, b < 5 → a ≠ b → (TX7 a).2.1 ≠ (TX7 b).2.1 := by decide +kernel
theorem tyX7_ok : ∀ k, k < 5 → parseFieldDescriptor (TX7 k).2.2.1 = some (tyX7 k) := by decide +kernel
abbrev cX7_init : ByteArray := prog_9_method_1_code
def yX7_init : MethodName := ⟨RX7, "<init>", "()V"⟩
abbrev cX7_has : ByteArray := prog_9_method_2_code
def yX7_has : MethodName := ⟨RX7, "has", "(I)Z"⟩
abbrev cX7_isGap : ByteArray := prog_9_method_3_code
def yX7_isGap : MethodName := ⟨RX7, "isGap", "(I)Z"⟩
abbrev cX7_isSpan : ByteArray := prog_9_method_4_code
def yX7_isSpan : MethodName := ⟨RX7, "isSpan", "(II)Z"⟩
abbrev cX7_nameAt : ByteArray := prog_9_method_5_code
def yX7_nameAt : MethodName := ⟨RX7, "nameAt", "(I)I"⟩
abbrev cX7_bondAt : ByteArray := prog_9_method_6_code
def yX7_bondAt : MethodName := ⟨RX7, "bondAt", "(I)I"⟩
abbrev cX7_tell : ByteArray := prog_9_method_7_code
def yX7_tell : MethodName := ⟨RX7, "tell", "(II)I"⟩
abbrev cX7_placeOf : ByteArray := prog_9_method_8_code
def yX7_placeOf : MethodName := ⟨RX7, "placeOf", "(I)I"⟩
abbrev cX7_hasName : ByteArray := prog_9_method_9_code
def yX7_hasName : MethodName := ⟨RX7, "hasName", "(I)Z"⟩
abbrev cX7_nextAlike : ByteArray := prog_9_method_10_code
def yX7_nextAlike : MethodName := ⟨RX7, "nextAlike", "(I)I"⟩
abbrev cX7_howMany : ByteArray := prog_9_method_11_code
def yX7_howMany : MethodName := ⟨RX7, "howMany", "(I)I"⟩
abbrev cX7_placeOfNth : ByteArray := prog_9_method_12_code
def yX7_placeOfNth : MethodName := ⟨RX7, "placeOfNth", "(II)I"⟩
abbrev cX7_widestGap : ByteArray := prog_9_method_13_code
def yX7_widestGap : MethodName := ⟨RX7, "widestGap", "(I)I"⟩
def RX8 : String := "SpanColours$Shelf"
def TX8 : u_T := fun k => match k with
  | 0 => ("SpanColours$Shelf", "nextAlike", "[I", true)
  | 1 => ("SpanColours$Shelf", "metAt", "[I", true)
  | 2 => ("SpanColours$Shelf", "metAgainAt", "[I", true)
  | 3 => ("SpanColours$Shelf", "missed", "I", false)
  | _ => ("SpanColours$Shelf", "bits", "I", false)
def tyX8 : Nat → FieldType := fun k => match k with
  | 0 => .array .int
  | 1 => .array .int
  | 2 => .array .int
  | 3 => .int
  | _ => .int
abbrev wsX80 : List Cond := u_ws RX8 TX8 5
theorem nmX8 : ∀ a, a < 5 → ∀ b, b < 5 → a ≠ b → (TX8 a).2.1 ≠ (TX8 b).2.1 := by decide +kernel
theorem tyX8_ok : ∀ k, k < 5 → parseFieldDescriptor (TX8 k).2.2.1 = some (tyX8 k) := by decide +kernel
abbrev cX8_init : ByteArray := prog_10_method_1_code
def yX8_init : MethodName := ⟨RX8, "<init>", "()V"⟩
abbrev cX8_canBe : ByteArray := prog_10_method_2_code
def yX8_canBe : MethodName := ⟨RX8, "canBe", "(II)Z"⟩
abbrev cX8_goThrough : ByteArray := prog_10_method_3_code
def yX8_goThrough : MethodName := ⟨RX8, "goThrough", "(LSpanColours$Row;III)V"⟩
abbrev cX8_findNextAlike : ByteArray := prog_10_method_4_code
def yX8_findNextAlike : MethodName := ⟨RX8, "findNextAlike", "(LSpanColours$Row;)V"⟩
abbrev cX8_oneToGo : ByteArray := prog_10_method_5_code
def yX8_oneToGo : MethodName := ⟨RX8, "oneToGo", "(I)I"⟩
abbrev cX8_goesRather : ByteArray := prog_10_method_6_code
def yX8_goesRather : MethodName := ⟨RX8, "goesRather", "(III)Z"⟩
def RX9 : String := "SpanColours$Timeline"
def TX9 : u_T := fun k => match k with
  | 0 => ("SpanColours$Timeline", "rows", "[LSpanColours$Row;", true)
  | 1 => ("SpanColours$Timeline", "bondsBefore", "[I", true)
  | 2 => ("SpanColours$Timeline", "latest", "[I", true)
  | 3 => ("SpanColours$Timeline", "draft", "LSpanColours$Row;", false)
  | 4 => ("SpanColours$Timeline", "now", "LSpanColours$Row;", false)
  | 5 => ("SpanColours$Timeline", "edits", "I", false)
  | 6 => ("SpanColours$Timeline", "named", "I", false)
  | _ => ("SpanColours$Timeline", "touchedInAll", "I", false)
def tyX9 : Nat → FieldType := fun k => match k with
  | 0 => .array (.object "SpanColours$Row")
  | 1 => .array .int
  | 2 => .array .int
  | 3 => .object "SpanColours$Row"
  | 4 => .object "SpanColours$Row"
  | 5 => .int
  | 6 => .int
  | _ => .int
abbrev wsX90 : List Cond := u_ws RX9 TX9 8
theorem nmX9 : ∀ a, a < 8 → ∀ b, b < 8 → a ≠ b → (TX9 a).2.1 ≠ (TX9 b).2.1 := by decide +kernel
theorem tyX9_ok : ∀ k, k < 8 → parseFieldDescriptor (TX9 k).2.2.1 = some (tyX9 k) := by decide +kernel
abbrev cX9_init : ByteArray := prog_11_method_1_code
def yX9_init : MethodName := ⟨RX9, "<init>", "()V"⟩
abbrev cX9_behind : ByteArray := prog_11_method_2_code
def yX9_behind : MethodName := ⟨RX9, "behind", "(I)LSpanColours$Row;"⟩
abbrev cX9_hasRoomFor : ByteArray := prog_11_method_3_code
def yX9_hasRoomFor : MethodName := ⟨RX9, "hasRoomFor", "(I)Z"⟩
abbrev cX9_begin : ByteArray := prog_11_method_4_code
def yX9_begin : MethodName := ⟨RX9, "begin", "()V"⟩
abbrev cX9_keep : ByteArray := prog_11_method_5_code
def yX9_keep : MethodName := ⟨RX9, "keep", "(II)V"⟩
abbrev cX9_keepAs : ByteArray := prog_11_method_6_code
def yX9_keepAs : MethodName := ⟨RX9, "keepAs", "(II)V"⟩
abbrev cX9_keepThoseOf : ByteArray := prog_11_method_7_code
def yX9_keepThoseOf : MethodName := ⟨RX9, "keepThoseOf", "(III)V"⟩
abbrev cX9_add : ByteArray := prog_11_method_8_code
def yX9_add : MethodName := ⟨RX9, "add", "(I)V"⟩
abbrev cX9_append : ByteArray := prog_11_method_9_code
def yX9_append : MethodName := ⟨RX9, "append", "(III)V"⟩
abbrev cX9_finish : ByteArray := prog_11_method_10_code
def yX9_finish : MethodName := ⟨RX9, "finish", "()I"⟩
abbrev cX9_steadySince : ByteArray := prog_11_method_11_code
def yX9_steadySince : MethodName := ⟨RX9, "steadySince", "(I)I"⟩
abbrev cX9_unlikeNow : ByteArray := prog_11_method_12_code
def yX9_unlikeNow : MethodName := ⟨RX9, "unlikeNow", "(LSpanColours$Row;I)I"⟩
abbrev cX9_isUnlike : ByteArray := prog_11_method_13_code
def yX9_isUnlike : MethodName := ⟨RX9, "isUnlike", "(LSpanColours$Row;III)Z"⟩
def RX10 : String := "SpanColours"
def TX10 : u_T := fun k => match k with
  | 0 => ("SpanColours", "timeline", "LSpanColours$Timeline;", true)
  | 1 => ("SpanColours", "palette", "LSpanColours$Palette;", true)
  | 2 => ("SpanColours", "listing", "LSpanColours$Listing;", true)
  | 3 => ("SpanColours", "neighbours", "LSpanColours$Neighbours;", true)
  | 4 => ("SpanColours", "reaches", "LSpanColours$Reaches;", true)
  | 5 => ("SpanColours", "shelfOfColours", "LSpanColours$Shelf;", true)
  | 6 => ("SpanColours", "patterns", "LSpanColours$Patterns;", true)
  | 7 => ("SpanColours", "partings", "LSpanColours$Partings;", true)
  | _ => ("SpanColours", "questions", "LSpanColours$Questions;", true)
def tyX10 : Nat → FieldType := fun k => match k with
  | 0 => .object "SpanColours$Timeline"
  | 1 => .object "SpanColours$Palette"
  | 2 => .object "SpanColours$Listing"
  | 3 => .object "SpanColours$Neighbours"
  | 4 => .object "SpanColours$Reaches"
  | 5 => .object "SpanColours$Shelf"
  | 6 => .object "SpanColours$Patterns"
  | 7 => .object "SpanColours$Partings"
  | _ => .object "SpanColours$Questions"
abbrev wsX100 : List Cond := u_ws RX10 TX10 9
theorem nmX10 : ∀ a, a < 9 → ∀ b, b < 9 → a ≠ b → (TX10 a).2.1 ≠ (TX10 b).2.1 := by decide +kernel
theorem tyX10_ok : ∀ k, k < 9 → parseFieldDescriptor (TX10 k).2.2.1 = some (tyX10 k) := by decide +kernel
abbrev cX10_init : ByteArray := prog_1_method_1_code
def yX10_init : MethodName := ⟨RX10, "<init>", "()V"⟩
abbrev cX10_isColour : ByteArray := prog_1_method_2_code
def yX10_isColour : MethodName := ⟨RX10, "isColour", "(I)Z"⟩
abbrev cX10_areUnlikeColours : ByteArray := prog_1_method_3_code
def yX10_areUnlikeColours : MethodName := ⟨RX10, "areUnlikeColours", "(II)Z"⟩
abbrev cX10_put : ByteArray := prog_1_method_4_code
def yX10_put : MethodName := ⟨RX10, "put", "(II)I"⟩
abbrev cX10_insert : ByteArray := prog_1_method_5_code
def yX10_insert : MethodName := ⟨RX10, "insert", "(II)I"⟩
abbrev cX10_cut : ByteArray := prog_1_method_6_code
def yX10_cut : MethodName := ⟨RX10, "cut", "(II)I"⟩
abbrev cX10_paint : ByteArray := prog_1_method_7_code
def yX10_paint : MethodName := ⟨RX10, "paint", "(III)I"⟩
abbrev cX10_turn : ByteArray := prog_1_method_8_code
def yX10_turn : MethodName := ⟨RX10, "turn", "(II)I"⟩
abbrev cX10_shift : ByteArray := prog_1_method_9_code
def yX10_shift : MethodName := ⟨RX10, "shift", "(III)I"⟩
abbrev cX10_sort : ByteArray := prog_1_method_10_code
def yX10_sort : MethodName := ⟨RX10, "sort", "(II)I"⟩
abbrev cX10_swap : ByteArray := prog_1_method_11_code
def yX10_swap : MethodName := ⟨RX10, "swap", "(IIII)I"⟩
abbrev cX10_swapInOrder : ByteArray := prog_1_method_12_code
def yX10_swapInOrder : MethodName := ⟨RX10, "swapInOrder", "(IIII)I"⟩
abbrev cX10_copy : ByteArray := prog_1_method_13_code
def yX10_copy : MethodName := ⟨RX10, "copy", "(III)I"⟩
abbrev cX10_merge : ByteArray := prog_1_method_14_code
def yX10_merge : MethodName := ⟨RX10, "merge", "(II)I"⟩
abbrev cX10_exchange : ByteArray := prog_1_method_15_code
def yX10_exchange : MethodName := ⟨RX10, "exchange", "(II)I"⟩
abbrev cX10_draw : ByteArray := prog_1_method_16_code
def yX10_draw : MethodName := ⟨RX10, "draw", "(III)I"⟩
abbrev cX10_weigh : ByteArray := prog_1_method_17_code
def yX10_weigh : MethodName := ⟨RX10, "weigh", "(II)I"⟩
abbrev cX10_at : ByteArray := prog_1_method_18_code
def yX10_at : MethodName := ⟨RX10, "at", "(II)I"⟩
abbrev cX10_place : ByteArray := prog_1_method_19_code
def yX10_place : MethodName := ⟨RX10, "place", "(I)I"⟩
abbrev cX10_colour : ByteArray := prog_1_method_20_code
def yX10_colour : MethodName := ⟨RX10, "colour", "(II)I"⟩
abbrev cX10_nth : ByteArray := prog_1_method_21_code
def yX10_nth : MethodName := ⟨RX10, "nth", "(II)I"⟩
abbrev cX10_about : ByteArray := prog_1_method_22_code
def yX10_about : MethodName := ⟨RX10, "about", "(I)I"⟩
abbrev cX10_colourNumber : ByteArray := prog_1_method_23_code
def yX10_colourNumber : MethodName := ⟨RX10, "colourNumber", "(LSpanColours$Row;II)I"⟩
abbrev cX10_readSpan : ByteArray := prog_1_method_24_code
def yX10_readSpan : MethodName := ⟨RX10, "readSpan", "(II)Z"⟩
abbrev cX10_count : ByteArray := prog_1_method_25_code
def yX10_count : MethodName := ⟨RX10, "count", "(II)I"⟩
abbrev cX10_weight : ByteArray := prog_1_method_26_code
def yX10_weight : MethodName := ⟨RX10, "weight", "(II)I"⟩
abbrev cX10_set : ByteArray := prog_1_method_27_code
def yX10_set : MethodName := ⟨RX10, "set", "(II)I"⟩
abbrev cX10_times : ByteArray := prog_1_method_28_code
def yX10_times : MethodName := ⟨RX10, "times", "(III)I"⟩
abbrev cX10_often : ByteArray := prog_1_method_29_code
def yX10_often : MethodName := ⟨RX10, "often", "(III)I"⟩
abbrev cX10_report : ByteArray := prog_1_method_30_code
def yX10_report : MethodName := ⟨RX10, "report", "(IIII)I"⟩
abbrev cX10_kth : ByteArray := prog_1_method_31_code
def yX10_kth : MethodName := ⟨RX10, "kth", "(IIII)I"⟩
abbrev cX10_absent : ByteArray := prog_1_method_32_code
def yX10_absent : MethodName := ⟨RX10, "absent", "(III)I"⟩
abbrev cX10_both : ByteArray := prog_1_method_33_code
def yX10_both : MethodName := ⟨RX10, "both", "(IIIII)I"⟩
abbrev cX10_tally : ByteArray := prog_1_method_34_code
def yX10_tally : MethodName := ⟨RX10, "tally", "(III)I"⟩
abbrev cX10_major : ByteArray := prog_1_method_35_code
def yX10_major : MethodName := ⟨RX10, "major", "(II)I"⟩
abbrev cX10_close : ByteArray := prog_1_method_36_code
def yX10_close : MethodName := ⟨RX10, "close", "(III)I"⟩
abbrev cX10_sides : ByteArray := prog_1_method_37_code
def yX10_sides : MethodName := ⟨RX10, "sides", "(II)I"⟩
abbrev cX10_cover : ByteArray := prog_1_method_38_code
def yX10_cover : MethodName := ⟨RX10, "cover", "(II)I"⟩
abbrev cX10_least : ByteArray := prog_1_method_39_code
def yX10_least : MethodName := ⟨RX10, "least", "(III)I"⟩
abbrev cX10_fair : ByteArray := prog_1_method_40_code
def yX10_fair : MethodName := ⟨RX10, "fair", "(III)I"⟩
abbrev cX10_alike : ByteArray := prog_1_method_41_code
def yX10_alike : MethodName := ⟨RX10, "alike", "(II)I"⟩
abbrev cX10_even : ByteArray := prog_1_method_42_code
def yX10_even : MethodName := ⟨RX10, "even", "(II)I"⟩
abbrev cX10_apart : ByteArray := prog_1_method_43_code
def yX10_apart : MethodName := ⟨RX10, "apart", "(III)I"⟩
abbrev cX10_reach : ByteArray := prog_1_method_44_code
def yX10_reach : MethodName := ⟨RX10, "reach", "(II)I"⟩
abbrev cX10_reachBack : ByteArray := prog_1_method_45_code
def yX10_reachBack : MethodName := ⟨RX10, "reachBack", "(II)I"⟩
abbrev cX10_load : ByteArray := prog_1_method_46_code
def yX10_load : MethodName := ⟨RX10, "load", "(II)I"⟩
abbrev cX10_window : ByteArray := prog_1_method_47_code
def yX10_window : MethodName := ⟨RX10, "window", "(II)I"⟩
abbrev cX10_longest : ByteArray := prog_1_method_48_code
def yX10_longest : MethodName := ⟨RX10, "longest", "(II)I"⟩
abbrev cX10_unlike : ByteArray := prog_1_method_49_code
def yX10_unlike : MethodName := ⟨RX10, "unlike", "(I)I"⟩
abbrev cX10_heaviest : ByteArray := prog_1_method_50_code
def yX10_heaviest : MethodName := ⟨RX10, "heaviest", "(II)I"⟩
abbrev cX10_distance : ByteArray := prog_1_method_51_code
def yX10_distance : MethodName := ⟨RX10, "distance", "(I)I"⟩
abbrev cX10_misses : ByteArray := prog_1_method_52_code
def yX10_misses : MethodName := ⟨RX10, "misses", "(II)I"⟩
abbrev cX10_shelf : ByteArray := prog_1_method_53_code
def yX10_shelf : MethodName := ⟨RX10, "shelf", "(III)I"⟩
abbrev cX10_suffices : ByteArray := prog_1_method_54_code
def yX10_suffices : MethodName := ⟨RX10, "suffices", "(II)I"⟩
abbrev cX10_just : ByteArray := prog_1_method_55_code
def yX10_just : MethodName := ⟨RX10, "just", "(I)I"⟩
abbrev cX10_all : ByteArray := prog_1_method_56_code
def yX10_all : MethodName := ⟨RX10, "all", "()J"⟩
abbrev cX10_sets : ByteArray := prog_1_method_57_code
def yX10_sets : MethodName := ⟨RX10, "sets", "(I)I"⟩
abbrev cX10_match : ByteArray := prog_1_method_58_code
def yX10_match : MethodName := ⟨RX10, "match", "(III)I"⟩
abbrev cX10_twin : ByteArray := prog_1_method_59_code
def yX10_twin : MethodName := ⟨RX10, "twin", "(I)I"⟩
abbrev cX10_parts : ByteArray := prog_1_method_60_code
def yX10_parts : MethodName := ⟨RX10, "parts", "(II)I"⟩
abbrev cX10_best : ByteArray := prog_1_method_61_code
def yX10_best : MethodName := ⟨RX10, "best", "(II)I"⟩
abbrev cX10_was : ByteArray := prog_1_method_62_code
def yX10_was : MethodName := ⟨RX10, "was", "(III)I"⟩
abbrev cX10_counted : ByteArray := prog_1_method_63_code
def yX10_counted : MethodName := ⟨RX10, "counted", "(III)I"⟩
abbrev cX10_touched : ByteArray := prog_1_method_64_code
def yX10_touched : MethodName := ⟨RX10, "touched", "(I)I"⟩
abbrev cX10_since : ByteArray := prog_1_method_65_code
def yX10_since : MethodName := ⟨RX10, "since", "(I)I"⟩
abbrev cX10_changed : ByteArray := prog_1_method_66_code
def yX10_changed : MethodName := ⟨RX10, "changed", "(II)I"⟩
abbrev cX10_ask : ByteArray := prog_1_method_67_code
def yX10_ask : MethodName := ⟨RX10, "ask", "(II)I"⟩
abbrev cX10_askOf : ByteArray := prog_1_method_68_code
def yX10_askOf : MethodName := ⟨RX10, "askOf", "(III)I"⟩
abbrev cX10_solve : ByteArray := prog_1_method_69_code
def yX10_solve : MethodName := ⟨RX10, "solve", "()I"⟩
abbrev cX10_asked : ByteArray := prog_1_method_70_code
def yX10_asked : MethodName := ⟨RX10, "asked", "(II)I"⟩
abbrev cX10_forget : ByteArray := prog_1_method_71_code
def yX10_forget : MethodName := ⟨RX10, "forget", "()I"⟩
def RX11 : String := "SpanColoursModel"
def TX11 : u_T := fun k => match k with
  | 0 => ("SpanColoursModel", "colours", "[I", true)
  | 1 => ("SpanColoursModel", "names", "[I", true)
  | 2 => ("SpanColoursModel", "weights", "[I", true)
  | 3 => ("SpanColoursModel", "oldNames", "[I", true)
  | 4 => ("SpanColoursModel", "oldBonds", "[I", true)
  | 5 => ("SpanColoursModel", "nextColours", "[I", true)
  | 6 => ("SpanColoursModel", "nextNames", "[I", true)
  | 7 => ("SpanColoursModel", "many", "I", false)
  | 8 => ("SpanColoursModel", "oldMany", "I", false)
  | 9 => ("SpanColoursModel", "nextMany", "I", false)
  | 10 => ("SpanColoursModel", "given", "I", false)
  | 11 => ("SpanColoursModel", "edits", "I", false)
  | 12 => ("SpanColoursModel", "touchedAll", "I", false)
  | 13 => ("SpanColoursModel", "askedOne", "[I", true)
  | 14 => ("SpanColoursModel", "askedOther", "[I", true)
  | 15 => ("SpanColoursModel", "answerCount", "[I", true)
  | 16 => ("SpanColoursModel", "answerWeight", "[I", true)
  | 17 => ("SpanColoursModel", "askedMany", "I", false)
  | 18 => ("SpanColoursModel", "askedEdit", "[I", true)
  | 19 => ("SpanColoursModel", "wasColours", "[I", true)
  | 20 => ("SpanColoursModel", "wasNames", "[I", true)
  | 21 => ("SpanColoursModel", "wasMany", "[I", true)
  | 22 => ("SpanColoursModel", "wasTouched", "[I", true)
  | 23 => ("SpanColoursModel", "row", "[I", true)
  | 24 => ("SpanColoursModel", "shelfSet", "I", false)
  | 25 => ("SpanColoursModel", "gaps", "[I", true)
  | 26 => ("SpanColoursModel", "worth", "[I", true)
  | _ => ("SpanColoursModel", "ends0", "[I", true)
def tyX11 : Nat → FieldType := fun k => match k with
  | 0 => .array .int
  | 1 => .array .int
  | 2 => .array .int
  | 3 => .array .int
  | 4 => .array .int
  | 5 => .array .int
  | 6 => .array .int
  | 7 => .int
  | 8 => .int
  | 9 => .int
  | 10 => .int
  | 11 => .int
  | 12 => .int
  | 13 => .array .int
  | 14 => .array .int
  | 15 => .array .int
  | 16 => .array .int
  | 17 => .int
  | 18 => .array .int
  | 19 => .array .int
  | 20 => .array .int
  | 21 => .array .int
  | 22 => .array .int
  | 23 => .array .int
  | 24 => .int
  | 25 => .array .int
  | 26 => .array .int
  | _ => .array .int
abbrev wsX110 : List Cond := u_ws RX11 TX11 28
theorem nmX11 : ∀ a, a < 28 → ∀ b, b < 28 → a ≠ b → (TX11 a).2.1 ≠ (TX11 b).2.1 := by decide +kernel
theorem tyX11_ok : ∀ k, k < 28 → parseFieldDescriptor (TX11 k).2.2.1 = some (tyX11 k) := by decide +kernel
abbrev cX11_init : ByteArray := prog_13_method_1_code
def yX11_init : MethodName := ⟨RX11, "<init>", "()V"⟩
abbrev cX11_isIn : ByteArray := prog_13_method_2_code
def yX11_isIn : MethodName := ⟨RX11, "isIn", "(III)Z"⟩
abbrev cX11_isPlace : ByteArray := prog_13_method_3_code
def yX11_isPlace : MethodName := ⟨RX11, "isPlace", "(I)Z"⟩
abbrev cX11_isColour : ByteArray := prog_13_method_4_code
def yX11_isColour : MethodName := ⟨RX11, "isColour", "(I)Z"⟩
abbrev cX11_isSpan : ByteArray := prog_13_method_5_code
def yX11_isSpan : MethodName := ⟨RX11, "isSpan", "(II)Z"⟩
abbrev cX11_bits : ByteArray := prog_13_method_6_code
def yX11_bits : MethodName := ⟨RX11, "bits", "(I)I"⟩
abbrev cX11_ahead : ByteArray := prog_13_method_7_code
def yX11_ahead : MethodName := ⟨RX11, "ahead", "(I)I"⟩
abbrev cX11_behind : ByteArray := prog_13_method_8_code
def yX11_behind : MethodName := ⟨RX11, "behind", "(I)I"⟩
abbrev cX11_bondOf : ByteArray := prog_13_method_9_code
def yX11_bondOf : MethodName := ⟨RX11, "bondOf", "(I)I"⟩
abbrev cX11_placeOf : ByteArray := prog_13_method_10_code
def yX11_placeOf : MethodName := ⟨RX11, "placeOf", "(I)I"⟩
abbrev cX11_begins : ByteArray := prog_13_method_11_code
def yX11_begins : MethodName := ⟨RX11, "begins", "()V"⟩
abbrev cX11_lays : ByteArray := prog_13_method_12_code
def yX11_lays : MethodName := ⟨RX11, "lays", "(II)V"⟩
abbrev cX11_laysFrom : ByteArray := prog_13_method_13_code
def yX11_laysFrom : MethodName := ⟨RX11, "laysFrom", "(II)V"⟩
abbrev cX11_laysNew : ByteArray := prog_13_method_14_code
def yX11_laysNew : MethodName := ⟨RX11, "laysNew", "(I)V"⟩
abbrev cX11_ends : ByteArray := prog_13_method_15_code
def yX11_ends : MethodName := ⟨RX11, "ends", "()I"⟩
abbrev cX11_keepsRow : ByteArray := prog_13_method_16_code
def yX11_keepsRow : MethodName := ⟨RX11, "keepsRow", "(I)V"⟩
abbrev cX11_isTouched : ByteArray := prog_13_method_17_code
def yX11_isTouched : MethodName := ⟨RX11, "isTouched", "(I)Z"⟩
abbrev cX11_recolours : ByteArray := prog_13_method_18_code
def yX11_recolours : MethodName := ⟨RX11, "recolours", "(IIIIZ)I"⟩
abbrev cX11_put : ByteArray := prog_13_method_19_code
def yX11_put : MethodName := ⟨RX11, "put", "(II)I"⟩
abbrev cX11_paint : ByteArray := prog_13_method_20_code
def yX11_paint : MethodName := ⟨RX11, "paint", "(III)I"⟩
abbrev cX11_merge : ByteArray := prog_13_method_21_code
def yX11_merge : MethodName := ⟨RX11, "merge", "(II)I"⟩
abbrev cX11_exchange : ByteArray := prog_13_method_22_code
def yX11_exchange : MethodName := ⟨RX11, "exchange", "(II)I"⟩
abbrev cX11_hasRoom : ByteArray := prog_13_method_23_code
def yX11_hasRoom : MethodName := ⟨RX11, "hasRoom", "(I)Z"⟩
abbrev cX11_insert : ByteArray := prog_13_method_24_code
def yX11_insert : MethodName := ⟨RX11, "insert", "(II)I"⟩
abbrev cX11_cut : ByteArray := prog_13_method_25_code
def yX11_cut : MethodName := ⟨RX11, "cut", "(II)I"⟩
abbrev cX11_turn : ByteArray := prog_13_method_26_code
def yX11_turn : MethodName := ⟨RX11, "turn", "(II)I"⟩
abbrev cX11_shift : ByteArray := prog_13_method_27_code
def yX11_shift : MethodName := ⟨RX11, "shift", "(III)I"⟩
abbrev cX11_sort : ByteArray := prog_13_method_28_code
def yX11_sort : MethodName := ⟨RX11, "sort", "(II)I"⟩
abbrev cX11_swap : ByteArray := prog_13_method_29_code
def yX11_swap : MethodName := ⟨RX11, "swap", "(IIII)I"⟩
abbrev cX11_copy : ByteArray := prog_13_method_30_code
def yX11_copy : MethodName := ⟨RX11, "copy", "(III)I"⟩
abbrev cX11_draw : ByteArray := prog_13_method_31_code
def yX11_draw : MethodName := ⟨RX11, "draw", "(III)I"⟩
abbrev cX11_weigh : ByteArray := prog_13_method_32_code
def yX11_weigh : MethodName := ⟨RX11, "weigh", "(II)I"⟩
abbrev cX11_at : ByteArray := prog_13_method_33_code
def yX11_at : MethodName := ⟨RX11, "at", "(II)I"⟩
abbrev cX11_place : ByteArray := prog_13_method_34_code
def yX11_place : MethodName := ⟨RX11, "place", "(I)I"⟩
abbrev cX11_first : ByteArray := prog_13_method_35_code
def yX11_first : MethodName := ⟨RX11, "first", "(I)I"⟩
abbrev cX11_last : ByteArray := prog_13_method_36_code
def yX11_last : MethodName := ⟨RX11, "last", "(I)I"⟩
abbrev cX11_widest : ByteArray := prog_13_method_37_code
def yX11_widest : MethodName := ⟨RX11, "widest", "(I)I"⟩
abbrev cX11_colour : ByteArray := prog_13_method_38_code
def yX11_colour : MethodName := ⟨RX11, "colour", "(II)I"⟩
abbrev cX11_nth : ByteArray := prog_13_method_39_code
def yX11_nth : MethodName := ⟨RX11, "nth", "(II)I"⟩
abbrev cX11_about : ByteArray := prog_13_method_40_code
def yX11_about : MethodName := ⟨RX11, "about", "(I)I"⟩
abbrev cX11_setOf : ByteArray := prog_13_method_41_code
def yX11_setOf : MethodName := ⟨RX11, "setOf", "(II)I"⟩
abbrev cX11_countOf : ByteArray := prog_13_method_42_code
def yX11_countOf : MethodName := ⟨RX11, "countOf", "(II)I"⟩
abbrev cX11_weightOf : ByteArray := prog_13_method_43_code
def yX11_weightOf : MethodName := ⟨RX11, "weightOf", "(I)I"⟩
abbrev cX11_timesIn : ByteArray := prog_13_method_44_code
def yX11_timesIn : MethodName := ⟨RX11, "timesIn", "(III)I"⟩
abbrev cX11_count : ByteArray := prog_13_method_45_code
def yX11_count : MethodName := ⟨RX11, "count", "(II)I"⟩
abbrev cX11_weight : ByteArray := prog_13_method_46_code
def yX11_weight : MethodName := ⟨RX11, "weight", "(II)I"⟩
abbrev cX11_set : ByteArray := prog_13_method_47_code
def yX11_set : MethodName := ⟨RX11, "set", "(II)I"⟩
abbrev cX11_times : ByteArray := prog_13_method_48_code
def yX11_times : MethodName := ⟨RX11, "times", "(III)I"⟩
abbrev cX11_often : ByteArray := prog_13_method_49_code
def yX11_often : MethodName := ⟨RX11, "often", "(III)I"⟩
abbrev cX11_tally : ByteArray := prog_13_method_50_code
def yX11_tally : MethodName := ⟨RX11, "tally", "(III)I"⟩
abbrev cX11_major : ByteArray := prog_13_method_51_code
def yX11_major : MethodName := ⟨RX11, "major", "(II)I"⟩
abbrev cX11_reportKey : ByteArray := prog_13_method_52_code
def yX11_reportKey : MethodName := ⟨RX11, "reportKey", "(I)I"⟩
abbrev cX11_reported : ByteArray := prog_13_method_53_code
def yX11_reported : MethodName := ⟨RX11, "reported", "(III)I"⟩
abbrev cX11_report : ByteArray := prog_13_method_54_code
def yX11_report : MethodName := ⟨RX11, "report", "(IIII)I"⟩
abbrev cX11_isAhead : ByteArray := prog_13_method_55_code
def yX11_isAhead : MethodName := ⟨RX11, "isAhead", "(IIIII)Z"⟩
abbrev cX11_laysOrder : ByteArray := prog_13_method_56_code
def yX11_laysOrder : MethodName := ⟨RX11, "laysOrder", "(III)I"⟩
abbrev cX11_kth : ByteArray := prog_13_method_57_code
def yX11_kth : MethodName := ⟨RX11, "kth", "(IIII)I"⟩
abbrev cX11_absent : ByteArray := prog_13_method_58_code
def yX11_absent : MethodName := ⟨RX11, "absent", "(III)I"⟩
abbrev cX11_both : ByteArray := prog_13_method_59_code
def yX11_both : MethodName := ⟨RX11, "both", "(IIIII)I"⟩
abbrev cX11_close : ByteArray := prog_13_method_60_code
def yX11_close : MethodName := ⟨RX11, "close", "(III)I"⟩
abbrev cX11_isKnown : ByteArray := prog_13_method_61_code
def yX11_isKnown : MethodName := ⟨RX11, "isKnown", "(I)Z"⟩
abbrev cX11_wasColour : ByteArray := prog_13_method_62_code
def yX11_wasColour : MethodName := ⟨RX11, "wasColour", "(II)I"⟩
abbrev cX11_wasName : ByteArray := prog_13_method_63_code
def yX11_wasName : MethodName := ⟨RX11, "wasName", "(II)I"⟩
abbrev cX11_wasBond : ByteArray := prog_13_method_64_code
def yX11_wasBond : MethodName := ⟨RX11, "wasBond", "(II)I"⟩
abbrev cX11_wasPlace : ByteArray := prog_13_method_65_code
def yX11_wasPlace : MethodName := ⟨RX11, "wasPlace", "(II)I"⟩
abbrev cX11_wasSet : ByteArray := prog_13_method_66_code
def yX11_wasSet : MethodName := ⟨RX11, "wasSet", "(III)I"⟩
abbrev cX11_was : ByteArray := prog_13_method_67_code
def yX11_was : MethodName := ⟨RX11, "was", "(III)I"⟩
abbrev cX11_counted : ByteArray := prog_13_method_68_code
def yX11_counted : MethodName := ⟨RX11, "counted", "(III)I"⟩
abbrev cX11_touched : ByteArray := prog_13_method_69_code
def yX11_touched : MethodName := ⟨RX11, "touched", "(I)I"⟩
abbrev cX11_since : ByteArray := prog_13_method_70_code
def yX11_since : MethodName := ⟨RX11, "since", "(I)I"⟩
abbrev cX11_hadBond : ByteArray := prog_13_method_71_code
def yX11_hadBond : MethodName := ⟨RX11, "hadBond", "(III)Z"⟩
abbrev cX11_changed : ByteArray := prog_13_method_72_code
def yX11_changed : MethodName := ⟨RX11, "changed", "(II)I"⟩
abbrev cX11_sides : ByteArray := prog_13_method_73_code
def yX11_sides : MethodName := ⟨RX11, "sides", "(II)I"⟩
abbrev cX11_isNewSide : ByteArray := prog_13_method_74_code
def yX11_isNewSide : MethodName := ⟨RX11, "isNewSide", "(II)Z"⟩
abbrev cX11_cover : ByteArray := prog_13_method_75_code
def yX11_cover : MethodName := ⟨RX11, "cover", "(II)I"⟩
abbrev cX11_haveAll : ByteArray := prog_13_method_76_code
def yX11_haveAll : MethodName := ⟨RX11, "haveAll", "(IIII)Z"⟩
abbrev cX11_least : ByteArray := prog_13_method_77_code
def yX11_least : MethodName := ⟨RX11, "least", "(III)I"⟩
abbrev cX11_fair : ByteArray := prog_13_method_78_code
def yX11_fair : MethodName := ⟨RX11, "fair", "(III)I"⟩
abbrev cX11_alike : ByteArray := prog_13_method_79_code
def yX11_alike : MethodName := ⟨RX11, "alike", "(II)I"⟩
abbrev cX11_even : ByteArray := prog_13_method_80_code
def yX11_even : MethodName := ⟨RX11, "even", "(II)I"⟩
abbrev cX11_apart : ByteArray := prog_13_method_81_code
def yX11_apart : MethodName := ⟨RX11, "apart", "(III)I"⟩
abbrev cX11_reach : ByteArray := prog_13_method_82_code
def yX11_reach : MethodName := ⟨RX11, "reach", "(II)I"⟩
abbrev cX11_reachBack : ByteArray := prog_13_method_83_code
def yX11_reachBack : MethodName := ⟨RX11, "reachBack", "(II)I"⟩
abbrev cX11_load : ByteArray := prog_13_method_84_code
def yX11_load : MethodName := ⟨RX11, "load", "(II)I"⟩
abbrev cX11_window : ByteArray := prog_13_method_85_code
def yX11_window : MethodName := ⟨RX11, "window", "(II)I"⟩
abbrev cX11_longest : ByteArray := prog_13_method_86_code
def yX11_longest : MethodName := ⟨RX11, "longest", "(II)I"⟩
abbrev cX11_farthest : ByteArray := prog_13_method_87_code
def yX11_farthest : MethodName := ⟨RX11, "farthest", "(II)I"⟩
abbrev cX11_unlike : ByteArray := prog_13_method_88_code
def yX11_unlike : MethodName := ⟨RX11, "unlike", "(I)I"⟩
abbrev cX11_heaviest : ByteArray := prog_13_method_89_code
def yX11_heaviest : MethodName := ⟨RX11, "heaviest", "(II)I"⟩
abbrev cX11_distance : ByteArray := prog_13_method_90_code
def yX11_distance : MethodName := ⟨RX11, "distance", "(I)I"⟩
abbrev cX11_goner : ByteArray := prog_13_method_91_code
def yX11_goner : MethodName := ⟨RX11, "goner", "(II)I"⟩
abbrev cX11_lastAhead : ByteArray := prog_13_method_92_code
def yX11_lastAhead : MethodName := ⟨RX11, "lastAhead", "(II)I"⟩
abbrev cX11_nextBehind : ByteArray := prog_13_method_93_code
def yX11_nextBehind : MethodName := ⟨RX11, "nextBehind", "(II)I"⟩
abbrev cX11_goOver : ByteArray := prog_13_method_94_code
def yX11_goOver : MethodName := ⟨RX11, "goOver", "(III)I"⟩
abbrev cX11_isShelf : ByteArray := prog_13_method_95_code
def yX11_isShelf : MethodName := ⟨RX11, "isShelf", "(II)Z"⟩
abbrev cX11_misses : ByteArray := prog_13_method_96_code
def yX11_misses : MethodName := ⟨RX11, "misses", "(II)I"⟩
abbrev cX11_shelf : ByteArray := prog_13_method_97_code
def yX11_shelf : MethodName := ⟨RX11, "shelf", "(III)I"⟩
abbrev cX11_suffices : ByteArray := prog_13_method_98_code
def yX11_suffices : MethodName := ⟨RX11, "suffices", "(II)I"⟩
abbrev cX11_just : ByteArray := prog_13_method_99_code
def yX11_just : MethodName := ⟨RX11, "just", "(I)I"⟩
abbrev cX11_all : ByteArray := prog_13_method_100_code
def yX11_all : MethodName := ⟨RX11, "all", "()J"⟩
abbrev cX11_sets : ByteArray := prog_13_method_101_code
def yX11_sets : MethodName := ⟨RX11, "sets", "(I)I"⟩
abbrev cX11_layGaps : ByteArray := prog_13_method_102_code
def yX11_layGaps : MethodName := ⟨RX11, "layGaps", "()V"⟩
abbrev cX11_matched : ByteArray := prog_13_method_103_code
def yX11_matched : MethodName := ⟨RX11, "matched", "(III)I"⟩
abbrev cX11_match : ByteArray := prog_13_method_104_code
def yX11_match : MethodName := ⟨RX11, "match", "(III)I"⟩
abbrev cX11_twin : ByteArray := prog_13_method_105_code
def yX11_twin : MethodName := ⟨RX11, "twin", "(I)I"⟩
abbrev cX11_parts : ByteArray := prog_13_method_106_code
def yX11_parts : MethodName := ⟨RX11, "parts", "(II)I"⟩
abbrev cX11_layBest : ByteArray := prog_13_method_107_code
def yX11_layBest : MethodName := ⟨RX11, "layBest", "(I)V"⟩
abbrev cX11_layPart : ByteArray := prog_13_method_108_code
def yX11_layPart : MethodName := ⟨RX11, "layPart", "(III)V"⟩
abbrev cX11_best : ByteArray := prog_13_method_109_code
def yX11_best : MethodName := ⟨RX11, "best", "(II)I"⟩
abbrev cX11_asks : ByteArray := prog_13_method_110_code
def yX11_asks : MethodName := ⟨RX11, "asks", "(III)I"⟩
abbrev cX11_ask : ByteArray := prog_13_method_111_code
def yX11_ask : MethodName := ⟨RX11, "ask", "(II)I"⟩
abbrev cX11_askOf : ByteArray := prog_13_method_112_code
def yX11_askOf : MethodName := ⟨RX11, "askOf", "(III)I"⟩
abbrev cX11_placeBy : ByteArray := prog_13_method_113_code
def yX11_placeBy : MethodName := ⟨RX11, "placeBy", "(II)I"⟩
abbrev cX11_setBy : ByteArray := prog_13_method_114_code
def yX11_setBy : MethodName := ⟨RX11, "setBy", "(III)I"⟩
abbrev cX11_solve : ByteArray := prog_13_method_115_code
def yX11_solve : MethodName := ⟨RX11, "solve", "()I"⟩
abbrev cX11_asked : ByteArray := prog_13_method_116_code
def yX11_asked : MethodName := ⟨RX11, "asked", "(II)I"⟩
abbrev cX11_forget : ByteArray := prog_13_method_117_code
def yX11_forget : MethodName := ⟨RX11, "forget", "()I"⟩
def RJ6 : String := "java/lang/Integer"
def TJ6 : u_T := fun k => match k with
  | _ => ("", "", "", false)
def tyJ6 : Nat → FieldType := fun k => match k with
  | _ => .int
abbrev wsJ60 : List Cond := u_ws RJ6 TJ6 0
theorem nmJ6 : ∀ a, a < 0 → ∀ b, b < 0 → a ≠ b → (TJ6 a).2.1 ≠ (TJ6 b).2.1 := by decide +kernel
theorem tyJ6_ok : ∀ k, k < 0 → parseFieldDescriptor (TJ6 k).2.2.1 = some (tyJ6 k) := by decide +kernel
abbrev cJ6_bitCount_0f7a4 : ByteArray := prog_14_method_49_code
def yJ6_bitCount_0f7a4 : MethodName := ⟨RJ6, "bitCount", "(I)I"⟩
def RJ9 : String := "java/lang/Math"
def TJ9 : u_T := fun k => match k with
  | _ => ("", "", "", false)
def tyJ9 : Nat → FieldType := fun k => match k with
  | _ => .int
abbrev wsJ90 : List Cond := u_ws RJ9 TJ9 0
theorem nmJ9 : ∀ a, a < 0 → ∀ b, b < 0 → a ≠ b → (TJ9 a).2.1 ≠ (TJ9 b).2.1 := by decide +kernel
theorem tyJ9_ok : ∀ k, k < 0 → parseFieldDescriptor (TJ9 k).2.2.1 = some (tyJ9 k) := by decide +kernel
abbrev cJ9_floorMod_7cf53 : ByteArray := prog_15_method_50_code
def yJ9_floorMod_7cf53 : MethodName := ⟨RJ9, "floorMod", "(II)I"⟩
abbrev cJ9_abs_0f7a4 : ByteArray := prog_15_method_59_code
def yJ9_abs_0f7a4 : MethodName := ⟨RJ9, "abs", "(I)I"⟩
abbrev cJ9_max_7cf53 : ByteArray := prog_15_method_65_code
def yJ9_max_7cf53 : MethodName := ⟨RJ9, "max", "(II)I"⟩
abbrev cJ9_min_7cf53 : ByteArray := prog_15_method_69_code
def yJ9_min_7cf53 : MethodName := ⟨RJ9, "min", "(II)I"⟩
def RJ7 : String := "java/util/Arrays"
def TJ7 : u_T := fun k => match k with
  | _ => ("", "", "", false)
def tyJ7 : Nat → FieldType := fun k => match k with
  | _ => .int
abbrev wsJ70 : List Cond := u_ws RJ7 TJ7 0
theorem nmJ7 : ∀ a, a < 0 → ∀ b, b < 0 → a ≠ b → (TJ7 a).2.1 ≠ (TJ7 b).2.1 := by decide +kernel
theorem tyJ7_ok : ∀ k, k < 0 → parseFieldDescriptor (TJ7 k).2.2.1 = some (tyJ7 k) := by decide +kernel
abbrev cJ7_fill_53178 : ByteArray := prog_16_method_103_code
def yJ7_fill_53178 : MethodName := ⟨RJ7, "fill", "([II)V"⟩
def RL : String := "SpanColoursLaw"
abbrev cL_law : ByteArray := code
def yL_law : MethodName := ⟨RL, "law", "([I)Z"⟩
abbrev vwCl : List vw_C := [(RX0, TX0, 3), (RX1, TX1, 5), (RX2, TX2, 6), (RX3, TX3, 1), (RX4, TX4, 3), (RX5, TX5, 6), (RX6, TX6, 5), (RX7, TX7, 5), (RX8, TX8, 5), (RX9, TX9, 8), (RX10, TX10, 9), (RX11, TX11, 28)]
end
section
/-! the pure machine: cells by their addresses, places of locals, blocks of instructions; what it says is tied to the machine in part 03 -/
abbrev pm_H : Type := Nat → Option va_E
abbrev pm_G : Type := va_G × (ClassId × ClassId × ClassId)
abbrev pm_Op : Type := Instr × Nat × Nat × Nat × Int32
abbrev pm_L : Type := List (Option Value)
abbrev pm_J : Type := Nat → pm_L → List Value → pm_H → Nat → Nat → Prop
/-- cells: an array of ints, of rows, of arrays of ints; an object -/
abbrev pm_ia (g : pm_G) (n : Nat) (f : Nat → Int32) : va_E := .inl (g.2.1, n, .inl f)
abbrev pm_ra (g : pm_G) (n : Nat) (f : Nat → Option Nat) : va_E := .inl (g.2.2.1, n, .inr (.inr (.inr (.inr f))))
abbrev pm_ma (g : pm_G) (n : Nat) (f : Nat → Option Nat) : va_E := .inl (g.2.2.2, n, .inr (.inr (.inr (.inr f))))
abbrev pm_ob (ci : Nat) (fs : List Value) : va_E := .inr (ci, fs)
def pm_up (A : pm_H) (a : Nat) (e : va_E) : pm_H := fun q => if q = a then some e else A q
theorem pm_up_s {A : pm_H} {a : Nat} {e : va_E} : pm_up A a e a = some e := if_pos rfl
theorem pm_up_n {A : pm_H} {a b : Nat} {e : va_E} (h : b ≠ a) : pm_up A a e b = A b := if_neg h
/-- locals by place -/
def pm_nl : Option Value → Option Value
  | some (.long _) => none
  | some (.double _) => none
  | a => a
def pm_st : pm_L → Nat → Value → pm_L
  | [], _, _ => []
  | _ :: r, 0, v => some v :: r
  | a :: r, 1, v => pm_nl a :: pm_st r 0 v
  | a :: r, i + 2, v => a :: pm_st r (i + 1) v
def pm_gt : pm_L → Nat → Option Value
  | [], _ => none
  | a :: _, 0 => a
  | _ :: r, i + 1 => pm_gt r i
def pm_un : pm_L → Nat → pm_L
  | [], _ => []
  | _ :: r, 0 => none :: r
  | a :: r, i + 1 => a :: pm_un r i
theorem pm_nl_some {a : Option Value} {w : Value} (h : pm_nl a = some w) : a = some w ∧ ¬ w.category = 2 := by
  cases a with
  | none => cases h
  | some v => cases v <;> first | (cases h; done) | (cases h; exact ⟨rfl, by simp [Value.category]⟩)
theorem pm_st_gt : ∀ (L : pm_L) (i j : Nat) (v w : Value), pm_gt (pm_st L i v) j = some w → (j = i ∧ w = v) ∨ (j ≠ i ∧ pm_gt L j = some w ∧ ¬ (j + 1 = i ∧ w.category = 2))
  | [], _, _, _, _, h => by simp [pm_st, pm_gt] at h
  | _ :: r, 0, 0, v, w, h => by simp [pm_st, pm_gt] at h; exact Or.inl ⟨rfl, h.symm⟩
  | _ :: r, 0, j + 1, v, w, h => by
    simp only [pm_st, pm_gt] at h
    exact Or.inr ⟨by omega, h, by omega⟩
  | a :: r, 1, 0, v, w, h => by
    simp only [pm_st, pm_gt] at h
    obtain ⟨h1, h2⟩ := pm_nl_some h
    exact Or.inr ⟨by omega, h1, fun q => h2 q.2⟩
  | a :: r, 1, j + 1, v, w, h => by
    simp only [pm_st, pm_gt] at h
    rcases pm_st_gt r 0 j v w h with ⟨h1, h2⟩ | ⟨h1, h2, h3⟩
    · exact Or.inl ⟨by omega, h2⟩
    · exact Or.inr ⟨by omega, h2, by omega⟩
  | a :: r, i + 2, 0, v, w, h => by
    simp only [pm_st, pm_gt] at h
    exact Or.inr ⟨by omega, h, by omega⟩
  | a :: r, i + 2, j + 1, v, w, h => by
    simp only [pm_st, pm_gt] at h
    rcases pm_st_gt r (i + 1) j v w h with ⟨h1, h2⟩ | ⟨h1, h2, h3⟩
    · exact Or.inl ⟨by omega, h2⟩
    · exact Or.inr ⟨by omega, h2, fun q => h3 ⟨by omega, q.2⟩⟩
theorem pm_un_gt : ∀ (L : pm_L) (i j : Nat) (w : Value), pm_gt (pm_un L i) j = some w → j ≠ i ∧ pm_gt L j = some w
  | [], _, _, _, h => by simp [pm_un, pm_gt] at h
  | _ :: r, 0, 0, w, h => by simp [pm_un, pm_gt] at h
  | _ :: r, 0, j + 1, w, h => by simp only [pm_un, pm_gt] at h; exact ⟨by omega, h⟩
  | a :: r, i + 1, 0, w, h => by simp only [pm_un, pm_gt] at h; exact ⟨by omega, h⟩
  | a :: r, i + 1, j + 1, w, h => by
    simp only [pm_un, pm_gt] at h
    obtain ⟨h1, h2⟩ := pm_un_gt r i j w h
    exact ⟨by omega, h2⟩
/-- the listed places, as the kit's rows want them -/
def pm_al : Nat → pm_L → List (Nat × Value)
  | _, [] => []
  | i, none :: r => pm_al (i + 1) r
  | i, some v :: r => (i, v) :: pm_al (i + 1) r
theorem pm_al_mem : ∀ (L : pm_L) (k j : Nat) (w : Value), (j, w) ∈ pm_al k L ↔ k ≤ j ∧ pm_gt L (j - k) = some w
  | [], k, j, w => by simp [pm_al, pm_gt]
  | none :: r, k, j, w => by
    rw [pm_al, pm_al_mem r (k + 1) j w]
    constructor
    · rintro ⟨h1, h2⟩
      refine ⟨by omega, ?_⟩
      rw [show j - k = (j - (k + 1)) + 1 by omega]
      exact h2
    · rintro ⟨h1, h2⟩
      rcases Nat.eq_or_lt_of_le h1 with h3 | h3
      · subst h3
        rw [Nat.sub_self] at h2
        cases h2
      · rw [show j - k = (j - (k + 1)) + 1 by omega] at h2
        exact ⟨h3, h2⟩
  | some v :: r, k, j, w => by
    rw [pm_al, List.mem_cons, pm_al_mem r (k + 1) j w]
    constructor
    · rintro (h | ⟨h1, h2⟩)
      · cases h
        rw [Nat.sub_self]
        exact ⟨Nat.le_refl _, rfl⟩
      · refine ⟨by omega, ?_⟩
        rw [show j - k = (j - (k + 1)) + 1 by omega]
        exact h2
    · rintro ⟨h1, h2⟩
      rcases Nat.eq_or_lt_of_le h1 with h3 | h3
      · subst h3
        rw [Nat.sub_self] at h2
        cases h2
        exact Or.inl rfl
      · rw [show j - k = (j - (k + 1)) + 1 by omega] at h2
        exact Or.inr ⟨h3, h2⟩
def pm_lv (ls : Array Slot) (nL : Nat) (L : pm_L) : Prop := lv_has ls nL (pm_al 0 L)
theorem pm_lv_at {ls : Array Slot} {nL : Nat} {L : pm_L} (h : pm_lv ls nL L) {i : Nat} {v : Value} (hi : pm_gt L i = some v) : ls[i]? = some (.val v) := h.2.2 (i, v) ((pm_al_mem L 0 i v).mpr ⟨Nat.zero_le _, hi⟩)
theorem pm_lv_k {L : pm_L} {i : Nat} {v : Value} (hi : pm_gt L i = some v) : ∃ k : Nat, (pm_al 0 L)[k]? = some (i, v) := by
  have h := (pm_al_mem L 0 i v).mpr ⟨Nat.zero_le _, hi⟩
  exact List.getElem?_of_mem h
theorem pm_lv_st {ls : Array Slot} {nL : Nat} {L : pm_L} {i : Nat} {v : Value} (h : lv_has ls nL ((i, v) :: (pm_al 0 L).filter (fun q => !(q.1 == i) && !(q.1 + 1 == i && q.2.category == 2)))) : pm_lv ls nL (pm_st L i v) := by
  refine ⟨h.1, h.2.1, fun q hq => h.2.2 q ?_⟩
  obtain ⟨j, w⟩ := q
  have h1 := ((pm_al_mem _ 0 j w).mp hq).2
  rw [Nat.sub_zero] at h1
  rcases pm_st_gt L i j v w h1 with ⟨e1, e2⟩ | ⟨e1, e2, e3⟩
  · subst e1; subst e2
    exact List.mem_cons_self
  · refine List.mem_cons_of_mem _ (List.mem_filter.mpr ⟨(pm_al_mem L 0 j w).mpr ⟨Nat.zero_le _, e2⟩, ?_⟩)
    have e4 : (j == i) = false := by simpa using e1
    simp only [e4, Bool.not_false, Bool.true_and, Bool.not_eq_true', Bool.and_eq_false_iff, beq_eq_false_iff_ne, ne_eq]
    by_cases q1 : j + 1 = i
    · exact Or.inr fun q2 => e3 ⟨q1, q2⟩
    · exact Or.inl q1
theorem pm_lv_st2 {ls : Array Slot} {nL : Nat} {L : pm_L} {i : Nat} {v : Value} (h : lv_has ls nL ((i, v) :: (pm_al 0 L).filter (fun q => !(q.1 == i) && (!(q.1 == i + 1) && !(q.1 + 1 == i && q.2.category == 2))))) : pm_lv ls nL (pm_un (pm_st L i v) (i + 1)) := by
  refine ⟨h.1, h.2.1, fun q hq => h.2.2 q ?_⟩
  obtain ⟨j, w⟩ := q
  have h1 := ((pm_al_mem _ 0 j w).mp hq).2
  rw [Nat.sub_zero] at h1
  obtain ⟨h0, h1⟩ := pm_un_gt _ _ _ _ h1
  rcases pm_st_gt L i j v w h1 with ⟨e1, e2⟩ | ⟨e1, e2, e3⟩
  · subst e1; subst e2
    exact List.mem_cons_self
  · refine List.mem_cons_of_mem _ (List.mem_filter.mpr ⟨(pm_al_mem L 0 j w).mpr ⟨Nat.zero_le _, e2⟩, ?_⟩)
    have e4 : (j == i) = false := by simpa using e1
    have e5 : (j == i + 1) = false := by simpa using h0
    simp only [e4, e5, Bool.not_false, Bool.true_and, Bool.not_eq_true', Bool.and_eq_false_iff, beq_eq_false_iff_ne, ne_eq]
    by_cases q1 : j + 1 = i
    · exact Or.inr fun q2 => e3 ⟨q1, q2⟩
    · exact Or.inl q1
def pm_l0 (nL : Nat) (args : List Value) : pm_L := args.map some ++ List.replicate (nL - args.length) none
theorem pm_gt_nil : ∀ (n j : Nat), pm_gt (List.replicate n none) j = none
  | 0, _ => rfl
  | _ + 1, 0 => rfl
  | n + 1, j + 1 => by rw [List.replicate_succ, pm_gt]; exact pm_gt_nil n j
theorem pm_l0_mem : ∀ (args : List Value) (n k j : Nat) (w : Value), (∀ v ∈ args, v.category = 1) → pm_gt (args.map some ++ List.replicate n none) j = some w → (k + j, w) ∈ lv_args k args
  | [], n, k, j, w, _, h => by
    rw [List.map_nil, List.nil_append, pm_gt_nil] at h
    cases h
  | v :: r, n, k, 0, w, _, h => by
    simp only [List.map_cons, List.cons_append, pm_gt] at h
    cases h
    exact List.mem_cons_self
  | v :: r, n, k, j + 1, w, hc, h => by
    simp only [List.map_cons, List.cons_append, pm_gt] at h
    have h1 := pm_l0_mem r n (k + 1) j w (fun x hx => hc x (List.mem_cons_of_mem _ hx)) h
    have h2 : ¬ v.category = 2 := by rw [hc v List.mem_cons_self]; omega
    rw [lv_args, if_neg h2, show k + (j + 1) = k + 1 + j by omega]
    exact List.mem_cons_of_mem _ h1
theorem pm_lv_l0 {ls : Array Slot} {nL : Nat} {args : List Value} (hc : ∀ v ∈ args, v.category = 1) (h : lv_has ls nL (lv_args 0 args)) : pm_lv ls nL (pm_l0 nL args) := by
  refine ⟨h.1, h.2.1, fun q hq => h.2.2 q ?_⟩
  obtain ⟨j, w⟩ := q
  have h1 := ((pm_al_mem _ 0 j w).mp hq).2
  rw [Nat.sub_zero] at h1
  have h2 := pm_l0_mem args _ 0 j w hc h1
  rwa [Nat.zero_add] at h2
/-- some places are forgotten -/
def pm_mask : List Bool → pm_L → pm_L
  | _, [] => []
  | [], L => L
  | true :: b, _ :: r => none :: pm_mask b r
  | false :: b, a :: r => a :: pm_mask b r
theorem pm_mask_gt : ∀ (b : List Bool) (L : pm_L) (j : Nat) (w : Value), pm_gt (pm_mask b L) j = some w → pm_gt L j = some w
  | _, [], _, _, h => by
    simp [pm_mask, pm_gt] at h
  | [], a :: r, j, w, h => h
  | true :: b, a :: r, 0, w, h => by simp [pm_mask, pm_gt] at h
  | true :: b, a :: r, j + 1, w, h => by
    simp only [pm_mask, pm_gt] at h ⊢
    exact pm_mask_gt b r j w h
  | false :: b, a :: r, 0, w, h => by
    simp only [pm_mask, pm_gt] at h ⊢
    exact h
  | false :: b, a :: r, j + 1, w, h => by
    simp only [pm_mask, pm_gt] at h ⊢
    exact pm_mask_gt b r j w h
theorem pm_lv_mask {ls : Array Slot} {nL : Nat} {L : pm_L} (b : List Bool) (h : pm_lv ls nL L) : pm_lv ls nL (pm_mask b L) := by
  refine ⟨h.1, h.2.1, fun q hq => h.2.2 q ?_⟩
  obtain ⟨j, w⟩ := q
  have h1 := ((pm_al_mem _ 0 j w).mp hq).2
  exact (pm_al_mem _ 0 j w).mpr ⟨Nat.zero_le _, pm_mask_gt b L _ w h1⟩
end
section
/-! the tables' words by their places: class names, methods, links; written by a program out of tables_1 -/
def pm_cn : List String := [RX0, RX1, RX2, RX3, RX4, RX5, RX6, RX7, RX8, RX9, RX10, RX11, RL, RJ6, RJ9, RJ7]
def pm_nm (i : Nat) : String := pm_cn.getD i ""
def pm_in (w : Cond) (i : Nat) : Bool := decide (lw_tbl[i]? = some w) && goodWord w
def pm_W : List Cond := lw_tbl.filter goodWord
theorem pm_in_ok {w : Cond} {i : Nat} (h : pm_in w i = true) : w ∈ pm_W := by
  simp only [pm_in, Bool.and_eq_true, decide_eq_true_eq] at h
  exact List.mem_filter.mpr ⟨List.mem_of_getElem? h.1, h.2⟩
abbrev pm_M : Type := MethodName × ByteArray × Nat × Option FieldType × Nat × Nat
def pm_mt0 : List pm_M := [(yX10_init, cX10_init, 1, none, 0, 2),
  (yX9_init, cX9_init, 1, none, 0, 2),
  (yX7_init, cX7_init, 1, none, 0, 2),
  (yX2_init, cX2_init, 1, none, 0, 2),
  (yJ7_fill_53178, cJ7_fill_53178, 4, none, 2, 1),
  (yX0_init, cX0_init, 1, none, 0, 2),
  (yX1_init, cX1_init, 1, none, 0, 2),
  (yX6_init, cX6_init, 1, none, 0, 2),
  (yX8_init, cX8_init, 1, none, 0, 2),
  (yX4_init, cX4_init, 1, none, 0, 2),
  (yX3_init, cX3_init, 1, none, 0, 2),
  (yX5_init, cX5_init, 1, none, 0, 2),
  (yX10_put, cX10_put, 3, (some .int), 2, 0),
  (yX10_paint, cX10_paint, 6, (some .int), 3, 0),
  (yX7_isSpan, cX7_isSpan, 3, (some .boolean), 2, 0),
  (yX10_isColour, cX10_isColour, 1, (some .boolean), 1, 1),
  (yX9_begin, cX9_begin, 2, none, 0, 0),
  (yJ9_floorMod_7cf53, cJ9_floorMod_7cf53, 3, (some .int), 2, 1),
  (yX9_keep, cX9_keep, 4, none, 2, 0),
  (yX7_has, cX7_has, 2, (some .boolean), 1, 0),
  (yX7_bondAt, cX7_bondAt, 2, (some .int), 1, 0),
  (yX7_nameAt, cX7_nameAt, 2, (some .int), 1, 0),
  (yX9_append, cX9_append, 5, none, 3, 0),
  (yX9_keepAs, cX9_keepAs, 3, none, 2, 0),
  (yX9_finish, cX9_finish, 4, (some .int), 0, 0),
  (yX10_insert, cX10_insert, 4, (some .int), 2, 0),
  (yX7_isGap, cX7_isGap, 2, (some .boolean), 1, 0),
  (yX9_hasRoomFor, cX9_hasRoomFor, 2, (some .boolean), 1, 0),
  (yX9_add, cX9_add, 2, none, 1, 0),
  (yX10_cut, cX10_cut, 4, (some .int), 2, 0),
  (yX10_turn, cX10_turn, 5, (some .int), 2, 0),
  (yX10_shift, cX10_shift, 5, (some .int), 3, 0),
  (yX10_sort, cX10_sort, 5, (some .int), 2, 0),
  (yX9_keepThoseOf, cX9_keepThoseOf, 5, none, 3, 0),
  (yX10_swap, cX10_swap, 6, (some .int), 4, 0),
  (yX10_swapInOrder, cX10_swapInOrder, 5, (some .int), 4, 0),
  (yX10_copy, cX10_copy, 6, (some .int), 3, 0),
  (yX10_merge, cX10_merge, 5, (some .int), 2, 0),
  (yX10_areUnlikeColours, cX10_areUnlikeColours, 2, (some .boolean), 2, 1),
  (yX10_exchange, cX10_exchange, 6, (some .int), 2, 0),
  (yX10_draw, cX10_draw, 7, (some .int), 3, 0),
  (yX10_weigh, cX10_weigh, 4, (some .int), 2, 0),
  (yX10_at, cX10_at, 4, (some .int), 2, 0),
  (yX7_nextAlike, cX7_nextAlike, 3, (some .int), 1, 0),
  (yX7_tell, cX7_tell, 3, (some .int), 2, 0),
  (yX10_place, cX10_place, 2, (some .int), 1, 0),
  (yX7_placeOf, cX7_placeOf, 3, (some .int), 1, 0),
  (yX10_colour, cX10_colour, 4, (some .int), 2, 0),
  (yX7_howMany, cX7_howMany, 4, (some .int), 1, 0),
  (yX7_placeOfNth, cX7_placeOfNth, 5, (some .int), 2, 0),
  (yX7_widestGap, cX7_widestGap, 4, (some .int), 1, 0),
  (yJ9_max_7cf53, cJ9_max_7cf53, 2, (some .int), 2, 1),
  (yX10_nth, cX10_nth, 3, (some .int), 2, 0),
  (yX10_about, cX10_about, 2, (some .int), 1, 0),
  (yX10_colourNumber, cX10_colourNumber, 4, (some .int), 3, 0),
  (yX2_read, cX2_read, 5, none, 3, 0),
  (yX2_clear, cX2_clear, 1, none, 0, 0),
  (yX2_take, cX2_take, 2, none, 1, 0),
  (yX10_count, cX10_count, 3, (some .int), 2, 0),
  (yX10_readSpan, cX10_readSpan, 3, (some .boolean), 2, 0)]
def pm_mt1 : List pm_M := [(yX10_weight, cX10_weight, 3, (some .int), 2, 0),
  (yX10_set, cX10_set, 3, (some .int), 2, 0),
  (yX10_times, cX10_times, 4, (some .int), 3, 0),
  (yX10_often, cX10_often, 4, (some .int), 3, 0),
  (yX2_kindsFrom, cX2_kindsFrom, 4, (some .int), 1, 0),
  (yX10_report, cX10_report, 7, (some .int), 4, 0),
  (yX0_reported, cX0_reported, 8, (some .int), 4, 0),
  (yX10_kth, cX10_kth, 5, (some .int), 4, 0),
  (yX0_colourInOrder, cX0_colourInOrder, 7, (some .int), 6, 0),
  (yX0_listAsMet, cX0_listAsMet, 9, none, 4, 0),
  (yJ9_abs_0f7a4, cJ9_abs_0f7a4, 1, (some .int), 1, 1),
  (yX0_colourOf, cX0_colourOf, 5, (some .int), 2, 0),
  (yX0_listByMost, cX0_listByMost, 5, none, 2, 0),
  (yX10_absent, cX10_absent, 4, (some .int), 3, 0),
  (yX10_both, cX10_both, 8, (some .int), 5, 0),
  (yJ6_bitCount_0f7a4, cJ6_bitCount_0f7a4, 1, (some .int), 1, 1),
  (yX10_tally, cX10_tally, 4, (some .int), 3, 0),
  (yX2_kindsOfJust, cX2_kindsOfJust, 4, (some .int), 1, 0),
  (yX10_major, cX10_major, 3, (some .int), 2, 0),
  (yX2_largerThanPart, cX2_largerThanPart, 4, (some .int), 1, 0),
  (yX10_close, cX10_close, 5, (some .int), 3, 0),
  (yX1_findNearestAlike, cX1_findNearestAlike, 5, none, 3, 0),
  (yX1_clearPair, cX1_clearPair, 1, none, 0, 0),
  (yX1_offerPair, cX1_offerPair, 3, none, 2, 0),
  (yX1_pairFound, cX1_pairFound, 2, (some .int), 1, 0),
  (yX10_sides, cX10_sides, 4, (some .int), 2, 0),
  (yX1_unlikeTwos, cX1_unlikeTwos, 8, (some .int), 3, 0),
  (yJ9_min_7cf53, cJ9_min_7cf53, 2, (some .int), 2, 1),
  (yX10_cover, cX10_cover, 4, (some .int), 2, 0),
  (yX1_coveringLength, cX1_coveringLength, 8, (some .int), 4, 0),
  (yX10_least, cX10_least, 4, (some .int), 3, 0),
  (yX2_placesOfLargest, cX2_placesOfLargest, 6, (some .int), 1, 0),
  (yX2_largestBeside, cX2_largestBeside, 5, (some .int), 1, 0),
  (yX10_fair, cX10_fair, 4, (some .int), 3, 0),
  (yX10_alike, cX10_alike, 3, (some .int), 2, 0),
  (yX2_twosAlike, cX2_twosAlike, 3, (some .int), 0, 0),
  (yX10_even, cX10_even, 4, (some .int), 2, 0),
  (yX1_evenestEnd, cX1_evenestEnd, 9, (some .int), 4, 0),
  (yX10_apart, cX10_apart, 4, (some .int), 3, 0),
  (yX1_findNearestOfTwo, cX1_findNearestOfTwo, 7, none, 3, 0),
  (yX10_reach, cX10_reach, 4, (some .int), 2, 0),
  (yX6_forColours, cX6_forColours, 6, (some .int), 4, 0),
  (yX10_reachBack, cX10_reachBack, 4, (some .int), 2, 0),
  (yX6_backForColours, cX6_backForColours, 6, (some .int), 4, 0),
  (yX10_load, cX10_load, 4, (some .int), 2, 0),
  (yX6_forMass, cX6_forMass, 6, (some .int), 4, 0),
  (yX10_window, cX10_window, 4, (some .int), 2, 0),
  (yX6_findShortestWith, cX6_findShortestWith, 5, none, 2, 0),
  (yX6_clearFound, cX6_clearFound, 1, none, 0, 0),
  (yX6_earliestLatest, cX6_earliestLatest, 5, (some .int), 2, 0),
  (yX6_endFound, cX6_endFound, 2, (some .int), 1, 0),
  (yX10_longest, cX10_longest, 3, (some .int), 2, 0),
  (yX6_findLongestOf, cX6_findLongestOf, 6, none, 3, 0),
  (yX2_drop, cX2_drop, 2, none, 1, 0),
  (yX6_offerLonger, cX6_offerLonger, 3, none, 2, 0),
  (yX10_unlike, cX10_unlike, 2, (some .int), 1, 0),
  (yX6_findLongestUnlike, cX6_findLongestUnlike, 4, none, 1, 0),
  (yX10_heaviest, cX10_heaviest, 3, (some .int), 2, 0),
  (yX6_findHeaviest, cX6_findHeaviest, 5, none, 3, 0),
  (yX10_distance, cX10_distance, 3, (some .int), 1, 0)]
def pm_mt2 : List pm_M := [(yX10_misses, cX10_misses, 3, (some .int), 2, 0),
  (yX8_canBe, cX8_canBe, 2, (some .boolean), 2, 1),
  (yX8_goThrough, cX8_goThrough, 7, none, 4, 0),
  (yX8_findNextAlike, cX8_findNextAlike, 3, none, 1, 0),
  (yX8_oneToGo, cX8_oneToGo, 4, (some .int), 1, 0),
  (yX8_goesRather, cX8_goesRather, 4, (some .boolean), 3, 0),
  (yX10_shelf, cX10_shelf, 4, (some .int), 3, 0),
  (yX10_suffices, cX10_suffices, 4, (some .int), 2, 0),
  (yX10_just, cX10_just, 3, (some .int), 1, 0),
  (yX4_spansUpTo, cX4_spansUpTo, 7, (some .int), 3, 0),
  (yX10_all, cX10_all, 5, (some .long), 0, 0),
  (yX10_sets, cX10_sets, 2, (some .int), 1, 0),
  (yX4_unlikeSets, cX4_unlikeSets, 6, (some .int), 3, 0),
  (yX4_isAmong, cX4_isAmong, 4, (some .boolean), 2, 0),
  (yX10_match, cX10_match, 4, (some .int), 3, 0),
  (yX4_matching, cX4_matching, 7, (some .int), 4, 0),
  (yX4_areMatching, cX4_areMatching, 5, (some .boolean), 4, 1),
  (yX4_stepWithin, cX4_stepWithin, 3, (some .int), 3, 1),
  (yX10_twin, cX10_twin, 2, (some .int), 1, 0),
  (yX4_findTwin, cX4_findTwin, 3, none, 1, 0),
  (yX4_findTwinApart, cX4_findTwinApart, 6, none, 2, 0),
  (yX10_parts, cX10_parts, 3, (some .int), 2, 0),
  (yX3_greedy, cX3_greedy, 7, (some .int), 4, 0),
  (yX10_best, cX10_best, 3, (some .int), 2, 0),
  (yX3_weighUp, cX3_weighUp, 8, none, 3, 0),
  (yX3_worthOf, cX3_worthOf, 4, (some .int), 2, 0),
  (yX3_lastPlaceOf, cX3_lastPlaceOf, 7, (some .int), 4, 0),
  (yX3_shortestBestEnd, cX3_shortestBestEnd, 7, (some .int), 4, 0),
  (yX10_was, cX10_was, 5, (some .int), 3, 0),
  (yX9_behind, cX9_behind, 3, (some (.object "SpanColours$Row")), 1, 0),
  (yX10_counted, cX10_counted, 5, (some .int), 3, 0),
  (yX10_touched, cX10_touched, 3, (some .int), 1, 0),
  (yX10_since, cX10_since, 2, (some .int), 1, 0),
  (yX9_steadySince, cX9_steadySince, 6, (some .int), 1, 0),
  (yX7_hasName, cX7_hasName, 2, (some .boolean), 1, 0),
  (yX10_changed, cX10_changed, 4, (some .int), 2, 0),
  (yX9_unlikeNow, cX9_unlikeNow, 6, (some .int), 2, 0),
  (yX9_isUnlike, cX9_isUnlike, 5, (some .boolean), 4, 0),
  (yX10_ask, cX10_ask, 4, (some .int), 2, 0),
  (yX5_add, cX5_add, 5, (some .int), 3, 0),
  (yX10_askOf, cX10_askOf, 5, (some .int), 3, 0),
  (yX10_solve, cX10_solve, 5, (some .int), 0, 0),
  (yX5_answer, cX5_answer, 6, (some .boolean), 3, 0),
  (yX10_asked, cX10_asked, 3, (some .int), 2, 0),
  (yX5_tell, cX5_tell, 3, (some .int), 2, 0),
  (yX10_forget, cX10_forget, 2, (some .int), 0, 0),
  (yX11_init, cX11_init, 2, none, 0, 2),
  (yX11_put, cX11_put, 3, (some .int), 2, 0),
  (yX11_isPlace, cX11_isPlace, 2, (some .boolean), 1, 0),
  (yX11_isIn, cX11_isIn, 3, (some .boolean), 3, 1),
  (yX11_isColour, cX11_isColour, 1, (some .boolean), 1, 1),
  (yX11_recolours, cX11_recolours, 10, (some .int), 5, 0),
  (yX11_begins, cX11_begins, 2, none, 0, 0),
  (yX11_bondOf, cX11_bondOf, 2, (some .int), 1, 0),
  (yX11_ahead, cX11_ahead, 3, (some .int), 1, 0),
  (yX11_lays, cX11_lays, 3, none, 2, 0),
  (yX11_ends, cX11_ends, 3, (some .int), 0, 0),
  (yX11_isTouched, cX11_isTouched, 3, (some .boolean), 1, 0),
  (yX11_keepsRow, cX11_keepsRow, 4, none, 1, 0),
  (yX11_paint, cX11_paint, 4, (some .int), 3, 0)]
def pm_mt3 : List pm_M := [(yX11_isSpan, cX11_isSpan, 3, (some .boolean), 2, 0),
  (yX11_merge, cX11_merge, 3, (some .int), 2, 0),
  (yX11_exchange, cX11_exchange, 3, (some .int), 2, 0),
  (yX11_insert, cX11_insert, 3, (some .int), 2, 0),
  (yX11_hasRoom, cX11_hasRoom, 2, (some .boolean), 1, 0),
  (yX11_laysFrom, cX11_laysFrom, 4, none, 2, 0),
  (yX11_laysNew, cX11_laysNew, 2, none, 1, 0),
  (yX11_cut, cX11_cut, 3, (some .int), 2, 0),
  (yX11_turn, cX11_turn, 4, (some .int), 2, 0),
  (yX11_shift, cX11_shift, 4, (some .int), 3, 0),
  (yX11_sort, cX11_sort, 5, (some .int), 2, 0),
  (yX11_swap, cX11_swap, 10, (some .int), 4, 0),
  (yX11_copy, cX11_copy, 5, (some .int), 3, 0),
  (yX11_draw, cX11_draw, 6, (some .int), 3, 0),
  (yX11_weigh, cX11_weigh, 4, (some .int), 2, 0),
  (yX11_at, cX11_at, 3, (some .int), 2, 0),
  (yX11_behind, cX11_behind, 3, (some .int), 1, 0),
  (yX11_place, cX11_place, 2, (some .int), 1, 0),
  (yX11_placeOf, cX11_placeOf, 3, (some .int), 1, 0),
  (yX11_colour, cX11_colour, 3, (some .int), 2, 0),
  (yX11_timesIn, cX11_timesIn, 6, (some .int), 3, 0),
  (yX11_first, cX11_first, 3, (some .int), 1, 0),
  (yX11_last, cX11_last, 3, (some .int), 1, 0),
  (yX11_widest, cX11_widest, 4, (some .int), 1, 0),
  (yX11_nth, cX11_nth, 5, (some .int), 2, 0),
  (yX11_about, cX11_about, 2, (some .int), 1, 0),
  (yX11_setOf, cX11_setOf, 5, (some .int), 2, 0),
  (yX11_bits, cX11_bits, 3, (some .int), 1, 1),
  (yX11_count, cX11_count, 3, (some .int), 2, 0),
  (yX11_countOf, cX11_countOf, 3, (some .int), 2, 0),
  (yX11_weight, cX11_weight, 3, (some .int), 2, 0),
  (yX11_weightOf, cX11_weightOf, 4, (some .int), 1, 0),
  (yX11_set, cX11_set, 3, (some .int), 2, 0),
  (yX11_times, cX11_times, 4, (some .int), 3, 0),
  (yX11_often, cX11_often, 6, (some .int), 3, 0),
  (yX11_tally, cX11_tally, 6, (some .int), 3, 0),
  (yX11_major, cX11_major, 4, (some .int), 2, 0),
  (yX11_report, cX11_report, 6, (some .int), 4, 0),
  (yX11_reported, cX11_reported, 9, (some .int), 3, 0),
  (yX11_reportKey, cX11_reportKey, 2, (some .int), 1, 0),
  (yX11_kth, cX11_kth, 6, (some .int), 4, 0),
  (yX11_laysOrder, cX11_laysOrder, 9, (some .int), 3, 0),
  (yX11_isAhead, cX11_isAhead, 8, (some .boolean), 5, 0),
  (yX11_absent, cX11_absent, 7, (some .int), 3, 0),
  (yX11_both, cX11_both, 8, (some .int), 5, 0),
  (yX11_close, cX11_close, 6, (some .int), 3, 0),
  (yX11_was, cX11_was, 5, (some .int), 3, 0),
  (yX11_isKnown, cX11_isKnown, 2, (some .boolean), 1, 0),
  (yX11_wasColour, cX11_wasColour, 3, (some .int), 2, 0),
  (yX11_wasName, cX11_wasName, 3, (some .int), 2, 0),
  (yX11_wasBond, cX11_wasBond, 4, (some .int), 2, 0),
  (yX11_counted, cX11_counted, 4, (some .int), 3, 0),
  (yX11_wasSet, cX11_wasSet, 6, (some .int), 3, 0),
  (yX11_touched, cX11_touched, 2, (some .int), 1, 0),
  (yX11_since, cX11_since, 5, (some .int), 1, 0),
  (yX11_hadBond, cX11_hadBond, 5, (some .boolean), 3, 0),
  (yX11_wasPlace, cX11_wasPlace, 4, (some .int), 2, 0),
  (yX11_changed, cX11_changed, 7, (some .int), 2, 0),
  (yX11_sides, cX11_sides, 5, (some .int), 2, 0),
  (yX11_isNewSide, cX11_isNewSide, 6, (some .boolean), 2, 0)]
def pm_mt4 : List pm_M := [(yX11_cover, cX11_cover, 5, (some .int), 2, 0),
  (yX11_haveAll, cX11_haveAll, 6, (some .boolean), 4, 0),
  (yX11_least, cX11_least, 7, (some .int), 3, 0),
  (yX11_fair, cX11_fair, 6, (some .int), 3, 0),
  (yX11_alike, cX11_alike, 5, (some .int), 2, 0),
  (yX11_even, cX11_even, 8, (some .int), 2, 0),
  (yX11_apart, cX11_apart, 8, (some .int), 3, 0),
  (yX11_nextBehind, cX11_nextBehind, 4, (some .int), 2, 0),
  (yX11_reach, cX11_reach, 4, (some .int), 2, 0),
  (yX11_reachBack, cX11_reachBack, 4, (some .int), 2, 0),
  (yX11_load, cX11_load, 4, (some .int), 2, 0),
  (yX11_window, cX11_window, 9, (some .int), 2, 0),
  (yX11_longest, cX11_longest, 7, (some .int), 2, 0),
  (yX11_farthest, cX11_farthest, 5, (some .int), 2, 0),
  (yX11_unlike, cX11_unlike, 6, (some .int), 1, 0),
  (yX11_heaviest, cX11_heaviest, 7, (some .int), 2, 0),
  (yX11_distance, cX11_distance, 2, (some .int), 1, 0),
  (yX11_misses, cX11_misses, 3, (some .int), 2, 0),
  (yX11_isShelf, cX11_isShelf, 2, (some .boolean), 2, 1),
  (yX11_goOver, cX11_goOver, 6, (some .int), 3, 0),
  (yX11_goner, cX11_goner, 7, (some .int), 2, 0),
  (yX11_lastAhead, cX11_lastAhead, 4, (some .int), 2, 0),
  (yX11_shelf, cX11_shelf, 5, (some .int), 3, 0),
  (yX11_suffices, cX11_suffices, 4, (some .int), 2, 0),
  (yX11_just, cX11_just, 6, (some .int), 1, 0),
  (yX11_all, cX11_all, 6, (some .long), 0, 0),
  (yX11_sets, cX11_sets, 6, (some .int), 1, 0),
  (yX11_match, cX11_match, 7, (some .int), 3, 0),
  (yX11_layGaps, cX11_layGaps, 2, none, 0, 0),
  (yX11_matched, cX11_matched, 5, (some .int), 3, 0),
  (yX11_twin, cX11_twin, 7, (some .int), 1, 0),
  (yX11_parts, cX11_parts, 6, (some .int), 2, 0),
  (yX11_best, cX11_best, 6, (some .int), 2, 0),
  (yX11_layBest, cX11_layBest, 5, none, 1, 0),
  (yX11_layPart, cX11_layPart, 7, none, 3, 0),
  (yX11_ask, cX11_ask, 3, (some .int), 2, 0),
  (yX11_asks, cX11_asks, 4, (some .int), 3, 0),
  (yX11_askOf, cX11_askOf, 4, (some .int), 3, 0),
  (yX11_solve, cX11_solve, 7, (some .int), 0, 0),
  (yX11_placeBy, cX11_placeBy, 3, (some .int), 2, 0),
  (yX11_setBy, cX11_setBy, 4, (some .int), 3, 0),
  (yX11_asked, cX11_asked, 3, (some .int), 2, 0),
  (yX11_forget, cX11_forget, 2, (some .int), 0, 0)]
def pm_mt : List pm_M := pm_mt0 ++ (pm_mt1 ++ (pm_mt2 ++ (pm_mt3 ++ (pm_mt4))))
def pm_me (n : Nat) : pm_M := pm_mt.getD n (yX0_init, cX0_init, 0, none, 0, 9)
def pm_okm (e : pm_M) (p : Nat × Nat × Nat × Nat) : Bool := (pm_in (.initialized e.1.cls) p.2.1 && (decide (e.1.cls ≠ "java/lang/invoke/MethodHandle" ∧ e.1.cls ≠ "java/lang/invoke/VarHandle" ∧ (parseMethodDescriptor e.1.desc).map (fun d => d.parameters.length) = some e.2.2.2.2.1) && (decide (e.2.2.1 ≤ 21) &&
  (match e.2.2.2.2.2 with
    | 0 => pm_in (.instanceMethod e.1) p.2.2.1 && pm_in (.selects e.1.cls e.1 e.1) p.2.2.2
    | 1 => pm_in (.static e.1) p.2.2.1
    | _ => pm_in (.instanceMethod e.1) p.2.2.1 && (decide (e.1.name = "<init>" ∧ e.2.2.2.1 = none))))))
def pm_cw (e : pm_M) : Prop := Cond.code e.1 e.2.1 e.2.2.1 e.2.2.2.1 ∈ pm_W
set_option maxRecDepth 100000 in
theorem pm_c0 : pm_cw (yX10_init, cX10_init, 1, none, 0, 2) := List.mem_filter.mpr ⟨List.mem_of_getElem? (i := 86) rfl, rfl⟩
set_option maxRecDepth 100000 in
theorem pm_c1 : pm_cw (yX9_init, cX9_init, 1, none, 0, 2) := List.mem_filter.mpr ⟨List.mem_of_getElem? (i := 94) rfl, rfl⟩
set_option maxRecDepth 100000 in
theorem pm_c2 : pm_cw (yX7_init, cX7_init, 1, none, 0, 2) := List.mem_filter.mpr ⟨List.mem_of_getElem? (i := 101) rfl, rfl⟩
set_option maxRecDepth 100000 in
theorem pm_c3 : pm_cw (yX2_init, cX2_init, 1, none, 0, 2) := List.mem_filter.mpr ⟨List.mem_of_getElem? (i := 178) rfl, rfl⟩
set_option maxRecDepth 100000 in
theorem pm_c4 : pm_cw (yJ7_fill_53178, cJ7_fill_53178, 4, none, 2, 1) := List.mem_filter.mpr ⟨List.mem_of_getElem? (i := 182) rfl, rfl⟩
set_option maxRecDepth 100000 in
theorem pm_c5 : pm_cw (yX0_init, cX0_init, 1, none, 0, 2) := List.mem_filter.mpr ⟨List.mem_of_getElem? (i := 224) rfl, rfl⟩
set_option maxRecDepth 100000 in
theorem pm_c6 : pm_cw (yX1_init, cX1_init, 1, none, 0, 2) := List.mem_filter.mpr ⟨List.mem_of_getElem? (i := 240) rfl, rfl⟩
set_option maxRecDepth 100000 in
theorem pm_c7 : pm_cw (yX6_init, cX6_init, 1, none, 0, 2) := List.mem_filter.mpr ⟨List.mem_of_getElem? (i := 262) rfl, rfl⟩
set_option maxRecDepth 100000 in
theorem pm_c8 : pm_cw (yX8_init, cX8_init, 1, none, 0, 2) := List.mem_filter.mpr ⟨List.mem_of_getElem? (i := 287) rfl, rfl⟩
set_option maxRecDepth 100000 in
theorem pm_c9 : pm_cw (yX4_init, cX4_init, 1, none, 0, 2) := List.mem_filter.mpr ⟨List.mem_of_getElem? (i := 311) rfl, rfl⟩
set_option maxRecDepth 100000 in
theorem pm_c10 : pm_cw (yX3_init, cX3_init, 1, none, 0, 2) := List.mem_filter.mpr ⟨List.mem_of_getElem? (i := 329) rfl, rfl⟩
set_option maxRecDepth 100000 in
theorem pm_c11 : pm_cw (yX5_init, cX5_init, 1, none, 0, 2) := List.mem_filter.mpr ⟨List.mem_of_getElem? (i := 341) rfl, rfl⟩
set_option maxRecDepth 100000 in
theorem pm_c12 : pm_cw (yX10_put, cX10_put, 3, (some .int), 2, 0) := List.mem_filter.mpr ⟨List.mem_of_getElem? (i := 395) rfl, rfl⟩
set_option maxRecDepth 100000 in
theorem pm_c13 : pm_cw (yX10_paint, cX10_paint, 6, (some .int), 3, 0) := List.mem_filter.mpr ⟨List.mem_of_getElem? (i := 399) rfl, rfl⟩
set_option maxRecDepth 100000 in
theorem pm_c14 : pm_cw (yX7_isSpan, cX7_isSpan, 3, (some .boolean), 2, 0) := List.mem_filter.mpr ⟨List.mem_of_getElem? (i := 403) rfl, rfl⟩
set_option maxRecDepth 100000 in
theorem pm_c15 : pm_cw (yX10_isColour, cX10_isColour, 1, (some .boolean), 1, 1) := List.mem_filter.mpr ⟨List.mem_of_getElem? (i := 406) rfl, rfl⟩
set_option maxRecDepth 100000 in
theorem pm_c16 : pm_cw (yX9_begin, cX9_begin, 2, none, 0, 0) := List.mem_filter.mpr ⟨List.mem_of_getElem? (i := 410) rfl, rfl⟩
set_option maxRecDepth 100000 in
theorem pm_c17 : pm_cw (yJ9_floorMod_7cf53, cJ9_floorMod_7cf53, 3, (some .int), 2, 1) := List.mem_filter.mpr ⟨List.mem_of_getElem? (i := 413) rfl, rfl⟩
set_option maxRecDepth 100000 in
theorem pm_c18 : pm_cw (yX9_keep, cX9_keep, 4, none, 2, 0) := List.mem_filter.mpr ⟨List.mem_of_getElem? (i := 417) rfl, rfl⟩
set_option maxRecDepth 100000 in
theorem pm_c19 : pm_cw (yX7_has, cX7_has, 2, (some .boolean), 1, 0) := List.mem_filter.mpr ⟨List.mem_of_getElem? (i := 421) rfl, rfl⟩
set_option maxRecDepth 100000 in
theorem pm_c20 : pm_cw (yX7_bondAt, cX7_bondAt, 2, (some .int), 1, 0) := List.mem_filter.mpr ⟨List.mem_of_getElem? (i := 425) rfl, rfl⟩
set_option maxRecDepth 100000 in
theorem pm_c21 : pm_cw (yX7_nameAt, cX7_nameAt, 2, (some .int), 1, 0) := List.mem_filter.mpr ⟨List.mem_of_getElem? (i := 430) rfl, rfl⟩
set_option maxRecDepth 100000 in
theorem pm_c22 : pm_cw (yX9_append, cX9_append, 5, none, 3, 0) := List.mem_filter.mpr ⟨List.mem_of_getElem? (i := 434) rfl, rfl⟩
set_option maxRecDepth 100000 in
theorem pm_c23 : pm_cw (yX9_keepAs, cX9_keepAs, 3, none, 2, 0) := List.mem_filter.mpr ⟨List.mem_of_getElem? (i := 438) rfl, rfl⟩
set_option maxRecDepth 100000 in
theorem pm_c24 : pm_cw (yX9_finish, cX9_finish, 4, (some .int), 0, 0) := List.mem_filter.mpr ⟨List.mem_of_getElem? (i := 442) rfl, rfl⟩
set_option maxRecDepth 100000 in
theorem pm_c25 : pm_cw (yX10_insert, cX10_insert, 4, (some .int), 2, 0) := List.mem_filter.mpr ⟨List.mem_of_getElem? (i := 447) rfl, rfl⟩
set_option maxRecDepth 100000 in
theorem pm_c26 : pm_cw (yX7_isGap, cX7_isGap, 2, (some .boolean), 1, 0) := List.mem_filter.mpr ⟨List.mem_of_getElem? (i := 451) rfl, rfl⟩
set_option maxRecDepth 100000 in
theorem pm_c27 : pm_cw (yX9_hasRoomFor, cX9_hasRoomFor, 2, (some .boolean), 1, 0) := List.mem_filter.mpr ⟨List.mem_of_getElem? (i := 455) rfl, rfl⟩
set_option maxRecDepth 100000 in
theorem pm_c28 : pm_cw (yX9_add, cX9_add, 2, none, 1, 0) := List.mem_filter.mpr ⟨List.mem_of_getElem? (i := 459) rfl, rfl⟩
set_option maxRecDepth 100000 in
theorem pm_c29 : pm_cw (yX10_cut, cX10_cut, 4, (some .int), 2, 0) := List.mem_filter.mpr ⟨List.mem_of_getElem? (i := 463) rfl, rfl⟩
set_option maxRecDepth 100000 in
theorem pm_c30 : pm_cw (yX10_turn, cX10_turn, 5, (some .int), 2, 0) := List.mem_filter.mpr ⟨List.mem_of_getElem? (i := 468) rfl, rfl⟩
set_option maxRecDepth 100000 in
theorem pm_c31 : pm_cw (yX10_shift, cX10_shift, 5, (some .int), 3, 0) := List.mem_filter.mpr ⟨List.mem_of_getElem? (i := 472) rfl, rfl⟩
set_option maxRecDepth 100000 in
theorem pm_c32 : pm_cw (yX10_sort, cX10_sort, 5, (some .int), 2, 0) := List.mem_filter.mpr ⟨List.mem_of_getElem? (i := 476) rfl, rfl⟩
set_option maxRecDepth 100000 in
theorem pm_c33 : pm_cw (yX9_keepThoseOf, cX9_keepThoseOf, 5, none, 3, 0) := List.mem_filter.mpr ⟨List.mem_of_getElem? (i := 480) rfl, rfl⟩
set_option maxRecDepth 100000 in
theorem pm_c34 : pm_cw (yX10_swap, cX10_swap, 6, (some .int), 4, 0) := List.mem_filter.mpr ⟨List.mem_of_getElem? (i := 485) rfl, rfl⟩
set_option maxRecDepth 100000 in
theorem pm_c35 : pm_cw (yX10_swapInOrder, cX10_swapInOrder, 5, (some .int), 4, 0) := List.mem_filter.mpr ⟨List.mem_of_getElem? (i := 489) rfl, rfl⟩
set_option maxRecDepth 100000 in
theorem pm_c36 : pm_cw (yX10_copy, cX10_copy, 6, (some .int), 3, 0) := List.mem_filter.mpr ⟨List.mem_of_getElem? (i := 493) rfl, rfl⟩
set_option maxRecDepth 100000 in
theorem pm_c37 : pm_cw (yX10_merge, cX10_merge, 5, (some .int), 2, 0) := List.mem_filter.mpr ⟨List.mem_of_getElem? (i := 497) rfl, rfl⟩
set_option maxRecDepth 100000 in
theorem pm_c38 : pm_cw (yX10_areUnlikeColours, cX10_areUnlikeColours, 2, (some .boolean), 2, 1) := List.mem_filter.mpr ⟨List.mem_of_getElem? (i := 500) rfl, rfl⟩
set_option maxRecDepth 100000 in
theorem pm_c39 : pm_cw (yX10_exchange, cX10_exchange, 6, (some .int), 2, 0) := List.mem_filter.mpr ⟨List.mem_of_getElem? (i := 504) rfl, rfl⟩
set_option maxRecDepth 100000 in
theorem pm_c40 : pm_cw (yX10_draw, cX10_draw, 7, (some .int), 3, 0) := List.mem_filter.mpr ⟨List.mem_of_getElem? (i := 508) rfl, rfl⟩
set_option maxRecDepth 100000 in
theorem pm_c41 : pm_cw (yX10_weigh, cX10_weigh, 4, (some .int), 2, 0) := List.mem_filter.mpr ⟨List.mem_of_getElem? (i := 512) rfl, rfl⟩
set_option maxRecDepth 100000 in
theorem pm_c42 : pm_cw (yX10_at, cX10_at, 4, (some .int), 2, 0) := List.mem_filter.mpr ⟨List.mem_of_getElem? (i := 516) rfl, rfl⟩
set_option maxRecDepth 100000 in
theorem pm_c43 : pm_cw (yX7_nextAlike, cX7_nextAlike, 3, (some .int), 1, 0) := List.mem_filter.mpr ⟨List.mem_of_getElem? (i := 520) rfl, rfl⟩
set_option maxRecDepth 100000 in
theorem pm_c44 : pm_cw (yX7_tell, cX7_tell, 3, (some .int), 2, 0) := List.mem_filter.mpr ⟨List.mem_of_getElem? (i := 525) rfl, rfl⟩
set_option maxRecDepth 100000 in
theorem pm_c45 : pm_cw (yX10_place, cX10_place, 2, (some .int), 1, 0) := List.mem_filter.mpr ⟨List.mem_of_getElem? (i := 530) rfl, rfl⟩
set_option maxRecDepth 100000 in
theorem pm_c46 : pm_cw (yX7_placeOf, cX7_placeOf, 3, (some .int), 1, 0) := List.mem_filter.mpr ⟨List.mem_of_getElem? (i := 534) rfl, rfl⟩
set_option maxRecDepth 100000 in
theorem pm_c47 : pm_cw (yX10_colour, cX10_colour, 4, (some .int), 2, 0) := List.mem_filter.mpr ⟨List.mem_of_getElem? (i := 538) rfl, rfl⟩
set_option maxRecDepth 100000 in
theorem pm_c48 : pm_cw (yX7_howMany, cX7_howMany, 4, (some .int), 1, 0) := List.mem_filter.mpr ⟨List.mem_of_getElem? (i := 542) rfl, rfl⟩
set_option maxRecDepth 100000 in
theorem pm_c49 : pm_cw (yX7_placeOfNth, cX7_placeOfNth, 5, (some .int), 2, 0) := List.mem_filter.mpr ⟨List.mem_of_getElem? (i := 546) rfl, rfl⟩
set_option maxRecDepth 100000 in
theorem pm_c50 : pm_cw (yX7_widestGap, cX7_widestGap, 4, (some .int), 1, 0) := List.mem_filter.mpr ⟨List.mem_of_getElem? (i := 550) rfl, rfl⟩
set_option maxRecDepth 100000 in
theorem pm_c51 : pm_cw (yJ9_max_7cf53, cJ9_max_7cf53, 2, (some .int), 2, 1) := List.mem_filter.mpr ⟨List.mem_of_getElem? (i := 553) rfl, rfl⟩
set_option maxRecDepth 100000 in
theorem pm_c52 : pm_cw (yX10_nth, cX10_nth, 3, (some .int), 2, 0) := List.mem_filter.mpr ⟨List.mem_of_getElem? (i := 557) rfl, rfl⟩
set_option maxRecDepth 100000 in
theorem pm_c53 : pm_cw (yX10_about, cX10_about, 2, (some .int), 1, 0) := List.mem_filter.mpr ⟨List.mem_of_getElem? (i := 561) rfl, rfl⟩
set_option maxRecDepth 100000 in
theorem pm_c54 : pm_cw (yX10_colourNumber, cX10_colourNumber, 4, (some .int), 3, 0) := List.mem_filter.mpr ⟨List.mem_of_getElem? (i := 565) rfl, rfl⟩
set_option maxRecDepth 100000 in
theorem pm_c55 : pm_cw (yX2_read, cX2_read, 5, none, 3, 0) := List.mem_filter.mpr ⟨List.mem_of_getElem? (i := 569) rfl, rfl⟩
set_option maxRecDepth 100000 in
theorem pm_c56 : pm_cw (yX2_clear, cX2_clear, 1, none, 0, 0) := List.mem_filter.mpr ⟨List.mem_of_getElem? (i := 573) rfl, rfl⟩
set_option maxRecDepth 100000 in
theorem pm_c57 : pm_cw (yX2_take, cX2_take, 2, none, 1, 0) := List.mem_filter.mpr ⟨List.mem_of_getElem? (i := 578) rfl, rfl⟩
set_option maxRecDepth 100000 in
theorem pm_c58 : pm_cw (yX10_count, cX10_count, 3, (some .int), 2, 0) := List.mem_filter.mpr ⟨List.mem_of_getElem? (i := 582) rfl, rfl⟩
set_option maxRecDepth 100000 in
theorem pm_c59 : pm_cw (yX10_readSpan, cX10_readSpan, 3, (some .boolean), 2, 0) := List.mem_filter.mpr ⟨List.mem_of_getElem? (i := 586) rfl, rfl⟩
set_option maxRecDepth 100000 in
theorem pm_c60 : pm_cw (yX10_weight, cX10_weight, 3, (some .int), 2, 0) := List.mem_filter.mpr ⟨List.mem_of_getElem? (i := 590) rfl, rfl⟩
set_option maxRecDepth 100000 in
theorem pm_c61 : pm_cw (yX10_set, cX10_set, 3, (some .int), 2, 0) := List.mem_filter.mpr ⟨List.mem_of_getElem? (i := 594) rfl, rfl⟩
set_option maxRecDepth 100000 in
theorem pm_c62 : pm_cw (yX10_times, cX10_times, 4, (some .int), 3, 0) := List.mem_filter.mpr ⟨List.mem_of_getElem? (i := 598) rfl, rfl⟩
set_option maxRecDepth 100000 in
theorem pm_c63 : pm_cw (yX10_often, cX10_often, 4, (some .int), 3, 0) := List.mem_filter.mpr ⟨List.mem_of_getElem? (i := 602) rfl, rfl⟩
set_option maxRecDepth 100000 in
theorem pm_c64 : pm_cw (yX2_kindsFrom, cX2_kindsFrom, 4, (some .int), 1, 0) := List.mem_filter.mpr ⟨List.mem_of_getElem? (i := 606) rfl, rfl⟩
set_option maxRecDepth 100000 in
theorem pm_c65 : pm_cw (yX10_report, cX10_report, 7, (some .int), 4, 0) := List.mem_filter.mpr ⟨List.mem_of_getElem? (i := 610) rfl, rfl⟩
set_option maxRecDepth 100000 in
theorem pm_c66 : pm_cw (yX0_reported, cX0_reported, 8, (some .int), 4, 0) := List.mem_filter.mpr ⟨List.mem_of_getElem? (i := 614) rfl, rfl⟩
set_option maxRecDepth 100000 in
theorem pm_c67 : pm_cw (yX10_kth, cX10_kth, 5, (some .int), 4, 0) := List.mem_filter.mpr ⟨List.mem_of_getElem? (i := 619) rfl, rfl⟩
set_option maxRecDepth 100000 in
theorem pm_c68 : pm_cw (yX0_colourInOrder, cX0_colourInOrder, 7, (some .int), 6, 0) := List.mem_filter.mpr ⟨List.mem_of_getElem? (i := 623) rfl, rfl⟩
set_option maxRecDepth 100000 in
theorem pm_c69 : pm_cw (yX0_listAsMet, cX0_listAsMet, 9, none, 4, 0) := List.mem_filter.mpr ⟨List.mem_of_getElem? (i := 627) rfl, rfl⟩
set_option maxRecDepth 100000 in
theorem pm_c70 : pm_cw (yJ9_abs_0f7a4, cJ9_abs_0f7a4, 1, (some .int), 1, 1) := List.mem_filter.mpr ⟨List.mem_of_getElem? (i := 630) rfl, rfl⟩
set_option maxRecDepth 100000 in
theorem pm_c71 : pm_cw (yX0_colourOf, cX0_colourOf, 5, (some .int), 2, 0) := List.mem_filter.mpr ⟨List.mem_of_getElem? (i := 634) rfl, rfl⟩
set_option maxRecDepth 100000 in
theorem pm_c72 : pm_cw (yX0_listByMost, cX0_listByMost, 5, none, 2, 0) := List.mem_filter.mpr ⟨List.mem_of_getElem? (i := 638) rfl, rfl⟩
set_option maxRecDepth 100000 in
theorem pm_c73 : pm_cw (yX10_absent, cX10_absent, 4, (some .int), 3, 0) := List.mem_filter.mpr ⟨List.mem_of_getElem? (i := 642) rfl, rfl⟩
set_option maxRecDepth 100000 in
theorem pm_c74 : pm_cw (yX10_both, cX10_both, 8, (some .int), 5, 0) := List.mem_filter.mpr ⟨List.mem_of_getElem? (i := 648) rfl, rfl⟩
set_option maxRecDepth 100000 in
theorem pm_c75 : pm_cw (yJ6_bitCount_0f7a4, cJ6_bitCount_0f7a4, 1, (some .int), 1, 1) := List.mem_filter.mpr ⟨List.mem_of_getElem? (i := 651) rfl, rfl⟩
set_option maxRecDepth 100000 in
theorem pm_c76 : pm_cw (yX10_tally, cX10_tally, 4, (some .int), 3, 0) := List.mem_filter.mpr ⟨List.mem_of_getElem? (i := 658) rfl, rfl⟩
set_option maxRecDepth 100000 in
theorem pm_c77 : pm_cw (yX2_kindsOfJust, cX2_kindsOfJust, 4, (some .int), 1, 0) := List.mem_filter.mpr ⟨List.mem_of_getElem? (i := 662) rfl, rfl⟩
set_option maxRecDepth 100000 in
theorem pm_c78 : pm_cw (yX10_major, cX10_major, 3, (some .int), 2, 0) := List.mem_filter.mpr ⟨List.mem_of_getElem? (i := 666) rfl, rfl⟩
set_option maxRecDepth 100000 in
theorem pm_c79 : pm_cw (yX2_largerThanPart, cX2_largerThanPart, 4, (some .int), 1, 0) := List.mem_filter.mpr ⟨List.mem_of_getElem? (i := 670) rfl, rfl⟩
set_option maxRecDepth 100000 in
theorem pm_c80 : pm_cw (yX10_close, cX10_close, 5, (some .int), 3, 0) := List.mem_filter.mpr ⟨List.mem_of_getElem? (i := 674) rfl, rfl⟩
set_option maxRecDepth 100000 in
theorem pm_c81 : pm_cw (yX1_findNearestAlike, cX1_findNearestAlike, 5, none, 3, 0) := List.mem_filter.mpr ⟨List.mem_of_getElem? (i := 678) rfl, rfl⟩
set_option maxRecDepth 100000 in
theorem pm_c82 : pm_cw (yX1_clearPair, cX1_clearPair, 1, none, 0, 0) := List.mem_filter.mpr ⟨List.mem_of_getElem? (i := 682) rfl, rfl⟩
set_option maxRecDepth 100000 in
theorem pm_c83 : pm_cw (yX1_offerPair, cX1_offerPair, 3, none, 2, 0) := List.mem_filter.mpr ⟨List.mem_of_getElem? (i := 686) rfl, rfl⟩
set_option maxRecDepth 100000 in
theorem pm_c84 : pm_cw (yX1_pairFound, cX1_pairFound, 2, (some .int), 1, 0) := List.mem_filter.mpr ⟨List.mem_of_getElem? (i := 690) rfl, rfl⟩
set_option maxRecDepth 100000 in
theorem pm_c85 : pm_cw (yX10_sides, cX10_sides, 4, (some .int), 2, 0) := List.mem_filter.mpr ⟨List.mem_of_getElem? (i := 694) rfl, rfl⟩
set_option maxRecDepth 100000 in
theorem pm_c86 : pm_cw (yX1_unlikeTwos, cX1_unlikeTwos, 8, (some .int), 3, 0) := List.mem_filter.mpr ⟨List.mem_of_getElem? (i := 698) rfl, rfl⟩
set_option maxRecDepth 100000 in
theorem pm_c87 : pm_cw (yJ9_min_7cf53, cJ9_min_7cf53, 2, (some .int), 2, 1) := List.mem_filter.mpr ⟨List.mem_of_getElem? (i := 702) rfl, rfl⟩
set_option maxRecDepth 100000 in
theorem pm_c88 : pm_cw (yX10_cover, cX10_cover, 4, (some .int), 2, 0) := List.mem_filter.mpr ⟨List.mem_of_getElem? (i := 707) rfl, rfl⟩
set_option maxRecDepth 100000 in
theorem pm_c89 : pm_cw (yX1_coveringLength, cX1_coveringLength, 8, (some .int), 4, 0) := List.mem_filter.mpr ⟨List.mem_of_getElem? (i := 711) rfl, rfl⟩
set_option maxRecDepth 100000 in
theorem pm_c90 : pm_cw (yX10_least, cX10_least, 4, (some .int), 3, 0) := List.mem_filter.mpr ⟨List.mem_of_getElem? (i := 716) rfl, rfl⟩
set_option maxRecDepth 100000 in
theorem pm_c91 : pm_cw (yX2_placesOfLargest, cX2_placesOfLargest, 6, (some .int), 1, 0) := List.mem_filter.mpr ⟨List.mem_of_getElem? (i := 720) rfl, rfl⟩
set_option maxRecDepth 100000 in
theorem pm_c92 : pm_cw (yX2_largestBeside, cX2_largestBeside, 5, (some .int), 1, 0) := List.mem_filter.mpr ⟨List.mem_of_getElem? (i := 724) rfl, rfl⟩
set_option maxRecDepth 100000 in
theorem pm_c93 : pm_cw (yX10_fair, cX10_fair, 4, (some .int), 3, 0) := List.mem_filter.mpr ⟨List.mem_of_getElem? (i := 728) rfl, rfl⟩
set_option maxRecDepth 100000 in
theorem pm_c94 : pm_cw (yX10_alike, cX10_alike, 3, (some .int), 2, 0) := List.mem_filter.mpr ⟨List.mem_of_getElem? (i := 732) rfl, rfl⟩
set_option maxRecDepth 100000 in
theorem pm_c95 : pm_cw (yX2_twosAlike, cX2_twosAlike, 3, (some .int), 0, 0) := List.mem_filter.mpr ⟨List.mem_of_getElem? (i := 736) rfl, rfl⟩
set_option maxRecDepth 100000 in
theorem pm_c96 : pm_cw (yX10_even, cX10_even, 4, (some .int), 2, 0) := List.mem_filter.mpr ⟨List.mem_of_getElem? (i := 740) rfl, rfl⟩
set_option maxRecDepth 100000 in
theorem pm_c97 : pm_cw (yX1_evenestEnd, cX1_evenestEnd, 9, (some .int), 4, 0) := List.mem_filter.mpr ⟨List.mem_of_getElem? (i := 744) rfl, rfl⟩
set_option maxRecDepth 100000 in
theorem pm_c98 : pm_cw (yX10_apart, cX10_apart, 4, (some .int), 3, 0) := List.mem_filter.mpr ⟨List.mem_of_getElem? (i := 751) rfl, rfl⟩
set_option maxRecDepth 100000 in
theorem pm_c99 : pm_cw (yX1_findNearestOfTwo, cX1_findNearestOfTwo, 7, none, 3, 0) := List.mem_filter.mpr ⟨List.mem_of_getElem? (i := 755) rfl, rfl⟩
set_option maxRecDepth 100000 in
theorem pm_c100 : pm_cw (yX10_reach, cX10_reach, 4, (some .int), 2, 0) := List.mem_filter.mpr ⟨List.mem_of_getElem? (i := 759) rfl, rfl⟩
set_option maxRecDepth 100000 in
theorem pm_c101 : pm_cw (yX6_forColours, cX6_forColours, 6, (some .int), 4, 0) := List.mem_filter.mpr ⟨List.mem_of_getElem? (i := 764) rfl, rfl⟩
set_option maxRecDepth 100000 in
theorem pm_c102 : pm_cw (yX10_reachBack, cX10_reachBack, 4, (some .int), 2, 0) := List.mem_filter.mpr ⟨List.mem_of_getElem? (i := 770) rfl, rfl⟩
set_option maxRecDepth 100000 in
theorem pm_c103 : pm_cw (yX6_backForColours, cX6_backForColours, 6, (some .int), 4, 0) := List.mem_filter.mpr ⟨List.mem_of_getElem? (i := 774) rfl, rfl⟩
set_option maxRecDepth 100000 in
theorem pm_c104 : pm_cw (yX10_load, cX10_load, 4, (some .int), 2, 0) := List.mem_filter.mpr ⟨List.mem_of_getElem? (i := 778) rfl, rfl⟩
set_option maxRecDepth 100000 in
theorem pm_c105 : pm_cw (yX6_forMass, cX6_forMass, 6, (some .int), 4, 0) := List.mem_filter.mpr ⟨List.mem_of_getElem? (i := 782) rfl, rfl⟩
set_option maxRecDepth 100000 in
theorem pm_c106 : pm_cw (yX10_window, cX10_window, 4, (some .int), 2, 0) := List.mem_filter.mpr ⟨List.mem_of_getElem? (i := 786) rfl, rfl⟩
set_option maxRecDepth 100000 in
theorem pm_c107 : pm_cw (yX6_findShortestWith, cX6_findShortestWith, 5, none, 2, 0) := List.mem_filter.mpr ⟨List.mem_of_getElem? (i := 790) rfl, rfl⟩
set_option maxRecDepth 100000 in
theorem pm_c108 : pm_cw (yX6_clearFound, cX6_clearFound, 1, none, 0, 0) := List.mem_filter.mpr ⟨List.mem_of_getElem? (i := 794) rfl, rfl⟩
set_option maxRecDepth 100000 in
theorem pm_c109 : pm_cw (yX6_earliestLatest, cX6_earliestLatest, 5, (some .int), 2, 0) := List.mem_filter.mpr ⟨List.mem_of_getElem? (i := 799) rfl, rfl⟩
set_option maxRecDepth 100000 in
theorem pm_c110 : pm_cw (yX6_endFound, cX6_endFound, 2, (some .int), 1, 0) := List.mem_filter.mpr ⟨List.mem_of_getElem? (i := 804) rfl, rfl⟩
set_option maxRecDepth 100000 in
theorem pm_c111 : pm_cw (yX10_longest, cX10_longest, 3, (some .int), 2, 0) := List.mem_filter.mpr ⟨List.mem_of_getElem? (i := 808) rfl, rfl⟩
set_option maxRecDepth 100000 in
theorem pm_c112 : pm_cw (yX6_findLongestOf, cX6_findLongestOf, 6, none, 3, 0) := List.mem_filter.mpr ⟨List.mem_of_getElem? (i := 812) rfl, rfl⟩
set_option maxRecDepth 100000 in
theorem pm_c113 : pm_cw (yX2_drop, cX2_drop, 2, none, 1, 0) := List.mem_filter.mpr ⟨List.mem_of_getElem? (i := 816) rfl, rfl⟩
set_option maxRecDepth 100000 in
theorem pm_c114 : pm_cw (yX6_offerLonger, cX6_offerLonger, 3, none, 2, 0) := List.mem_filter.mpr ⟨List.mem_of_getElem? (i := 820) rfl, rfl⟩
set_option maxRecDepth 100000 in
theorem pm_c115 : pm_cw (yX10_unlike, cX10_unlike, 2, (some .int), 1, 0) := List.mem_filter.mpr ⟨List.mem_of_getElem? (i := 824) rfl, rfl⟩
set_option maxRecDepth 100000 in
theorem pm_c116 : pm_cw (yX6_findLongestUnlike, cX6_findLongestUnlike, 4, none, 1, 0) := List.mem_filter.mpr ⟨List.mem_of_getElem? (i := 828) rfl, rfl⟩
set_option maxRecDepth 100000 in
theorem pm_c117 : pm_cw (yX10_heaviest, cX10_heaviest, 3, (some .int), 2, 0) := List.mem_filter.mpr ⟨List.mem_of_getElem? (i := 833) rfl, rfl⟩
set_option maxRecDepth 100000 in
theorem pm_c118 : pm_cw (yX6_findHeaviest, cX6_findHeaviest, 5, none, 3, 0) := List.mem_filter.mpr ⟨List.mem_of_getElem? (i := 837) rfl, rfl⟩
set_option maxRecDepth 100000 in
theorem pm_c119 : pm_cw (yX10_distance, cX10_distance, 3, (some .int), 1, 0) := List.mem_filter.mpr ⟨List.mem_of_getElem? (i := 842) rfl, rfl⟩
set_option maxRecDepth 100000 in
theorem pm_c120 : pm_cw (yX10_misses, cX10_misses, 3, (some .int), 2, 0) := List.mem_filter.mpr ⟨List.mem_of_getElem? (i := 846) rfl, rfl⟩
set_option maxRecDepth 100000 in
theorem pm_c121 : pm_cw (yX8_canBe, cX8_canBe, 2, (some .boolean), 2, 1) := List.mem_filter.mpr ⟨List.mem_of_getElem? (i := 849) rfl, rfl⟩
set_option maxRecDepth 100000 in
theorem pm_c122 : pm_cw (yX8_goThrough, cX8_goThrough, 7, none, 4, 0) := List.mem_filter.mpr ⟨List.mem_of_getElem? (i := 853) rfl, rfl⟩
set_option maxRecDepth 100000 in
theorem pm_c123 : pm_cw (yX8_findNextAlike, cX8_findNextAlike, 3, none, 1, 0) := List.mem_filter.mpr ⟨List.mem_of_getElem? (i := 857) rfl, rfl⟩
set_option maxRecDepth 100000 in
theorem pm_c124 : pm_cw (yX8_oneToGo, cX8_oneToGo, 4, (some .int), 1, 0) := List.mem_filter.mpr ⟨List.mem_of_getElem? (i := 864) rfl, rfl⟩
set_option maxRecDepth 100000 in
theorem pm_c125 : pm_cw (yX8_goesRather, cX8_goesRather, 4, (some .boolean), 3, 0) := List.mem_filter.mpr ⟨List.mem_of_getElem? (i := 868) rfl, rfl⟩
set_option maxRecDepth 100000 in
theorem pm_c126 : pm_cw (yX10_shelf, cX10_shelf, 4, (some .int), 3, 0) := List.mem_filter.mpr ⟨List.mem_of_getElem? (i := 873) rfl, rfl⟩
set_option maxRecDepth 100000 in
theorem pm_c127 : pm_cw (yX10_suffices, cX10_suffices, 4, (some .int), 2, 0) := List.mem_filter.mpr ⟨List.mem_of_getElem? (i := 877) rfl, rfl⟩
set_option maxRecDepth 100000 in
theorem pm_c128 : pm_cw (yX10_just, cX10_just, 3, (some .int), 1, 0) := List.mem_filter.mpr ⟨List.mem_of_getElem? (i := 881) rfl, rfl⟩
set_option maxRecDepth 100000 in
theorem pm_c129 : pm_cw (yX4_spansUpTo, cX4_spansUpTo, 7, (some .int), 3, 0) := List.mem_filter.mpr ⟨List.mem_of_getElem? (i := 885) rfl, rfl⟩
set_option maxRecDepth 100000 in
theorem pm_c130 : pm_cw (yX10_all, cX10_all, 5, (some .long), 0, 0) := List.mem_filter.mpr ⟨List.mem_of_getElem? (i := 892) rfl, rfl⟩
set_option maxRecDepth 100000 in
theorem pm_c131 : pm_cw (yX10_sets, cX10_sets, 2, (some .int), 1, 0) := List.mem_filter.mpr ⟨List.mem_of_getElem? (i := 896) rfl, rfl⟩
set_option maxRecDepth 100000 in
theorem pm_c132 : pm_cw (yX4_unlikeSets, cX4_unlikeSets, 6, (some .int), 3, 0) := List.mem_filter.mpr ⟨List.mem_of_getElem? (i := 900) rfl, rfl⟩
set_option maxRecDepth 100000 in
theorem pm_c133 : pm_cw (yX4_isAmong, cX4_isAmong, 4, (some .boolean), 2, 0) := List.mem_filter.mpr ⟨List.mem_of_getElem? (i := 905) rfl, rfl⟩
set_option maxRecDepth 100000 in
theorem pm_c134 : pm_cw (yX10_match, cX10_match, 4, (some .int), 3, 0) := List.mem_filter.mpr ⟨List.mem_of_getElem? (i := 909) rfl, rfl⟩
set_option maxRecDepth 100000 in
theorem pm_c135 : pm_cw (yX4_matching, cX4_matching, 7, (some .int), 4, 0) := List.mem_filter.mpr ⟨List.mem_of_getElem? (i := 913) rfl, rfl⟩
set_option maxRecDepth 100000 in
theorem pm_c136 : pm_cw (yX4_areMatching, cX4_areMatching, 5, (some .boolean), 4, 1) := List.mem_filter.mpr ⟨List.mem_of_getElem? (i := 916) rfl, rfl⟩
set_option maxRecDepth 100000 in
theorem pm_c137 : pm_cw (yX4_stepWithin, cX4_stepWithin, 3, (some .int), 3, 1) := List.mem_filter.mpr ⟨List.mem_of_getElem? (i := 919) rfl, rfl⟩
set_option maxRecDepth 100000 in
theorem pm_c138 : pm_cw (yX10_twin, cX10_twin, 2, (some .int), 1, 0) := List.mem_filter.mpr ⟨List.mem_of_getElem? (i := 923) rfl, rfl⟩
set_option maxRecDepth 100000 in
theorem pm_c139 : pm_cw (yX4_findTwin, cX4_findTwin, 3, none, 1, 0) := List.mem_filter.mpr ⟨List.mem_of_getElem? (i := 927) rfl, rfl⟩
set_option maxRecDepth 100000 in
theorem pm_c140 : pm_cw (yX4_findTwinApart, cX4_findTwinApart, 6, none, 2, 0) := List.mem_filter.mpr ⟨List.mem_of_getElem? (i := 931) rfl, rfl⟩
set_option maxRecDepth 100000 in
theorem pm_c141 : pm_cw (yX10_parts, cX10_parts, 3, (some .int), 2, 0) := List.mem_filter.mpr ⟨List.mem_of_getElem? (i := 936) rfl, rfl⟩
set_option maxRecDepth 100000 in
theorem pm_c142 : pm_cw (yX3_greedy, cX3_greedy, 7, (some .int), 4, 0) := List.mem_filter.mpr ⟨List.mem_of_getElem? (i := 940) rfl, rfl⟩
set_option maxRecDepth 100000 in
theorem pm_c143 : pm_cw (yX10_best, cX10_best, 3, (some .int), 2, 0) := List.mem_filter.mpr ⟨List.mem_of_getElem? (i := 946) rfl, rfl⟩
set_option maxRecDepth 100000 in
theorem pm_c144 : pm_cw (yX3_weighUp, cX3_weighUp, 8, none, 3, 0) := List.mem_filter.mpr ⟨List.mem_of_getElem? (i := 950) rfl, rfl⟩
set_option maxRecDepth 100000 in
theorem pm_c145 : pm_cw (yX3_worthOf, cX3_worthOf, 4, (some .int), 2, 0) := List.mem_filter.mpr ⟨List.mem_of_getElem? (i := 956) rfl, rfl⟩
set_option maxRecDepth 100000 in
theorem pm_c146 : pm_cw (yX3_lastPlaceOf, cX3_lastPlaceOf, 7, (some .int), 4, 0) := List.mem_filter.mpr ⟨List.mem_of_getElem? (i := 960) rfl, rfl⟩
set_option maxRecDepth 100000 in
theorem pm_c147 : pm_cw (yX3_shortestBestEnd, cX3_shortestBestEnd, 7, (some .int), 4, 0) := List.mem_filter.mpr ⟨List.mem_of_getElem? (i := 964) rfl, rfl⟩
set_option maxRecDepth 100000 in
theorem pm_c148 : pm_cw (yX10_was, cX10_was, 5, (some .int), 3, 0) := List.mem_filter.mpr ⟨List.mem_of_getElem? (i := 969) rfl, rfl⟩
set_option maxRecDepth 100000 in
theorem pm_c149 : pm_cw (yX9_behind, cX9_behind, 3, (some (.object "SpanColours$Row")), 1, 0) := List.mem_filter.mpr ⟨List.mem_of_getElem? (i := 973) rfl, rfl⟩
set_option maxRecDepth 100000 in
theorem pm_c150 : pm_cw (yX10_counted, cX10_counted, 5, (some .int), 3, 0) := List.mem_filter.mpr ⟨List.mem_of_getElem? (i := 977) rfl, rfl⟩
set_option maxRecDepth 100000 in
theorem pm_c151 : pm_cw (yX10_touched, cX10_touched, 3, (some .int), 1, 0) := List.mem_filter.mpr ⟨List.mem_of_getElem? (i := 981) rfl, rfl⟩
set_option maxRecDepth 100000 in
theorem pm_c152 : pm_cw (yX10_since, cX10_since, 2, (some .int), 1, 0) := List.mem_filter.mpr ⟨List.mem_of_getElem? (i := 985) rfl, rfl⟩
set_option maxRecDepth 100000 in
theorem pm_c153 : pm_cw (yX9_steadySince, cX9_steadySince, 6, (some .int), 1, 0) := List.mem_filter.mpr ⟨List.mem_of_getElem? (i := 989) rfl, rfl⟩
set_option maxRecDepth 100000 in
theorem pm_c154 : pm_cw (yX7_hasName, cX7_hasName, 2, (some .boolean), 1, 0) := List.mem_filter.mpr ⟨List.mem_of_getElem? (i := 995) rfl, rfl⟩
set_option maxRecDepth 100000 in
theorem pm_c155 : pm_cw (yX10_changed, cX10_changed, 4, (some .int), 2, 0) := List.mem_filter.mpr ⟨List.mem_of_getElem? (i := 1000) rfl, rfl⟩
set_option maxRecDepth 100000 in
theorem pm_c156 : pm_cw (yX9_unlikeNow, cX9_unlikeNow, 6, (some .int), 2, 0) := List.mem_filter.mpr ⟨List.mem_of_getElem? (i := 1004) rfl, rfl⟩
set_option maxRecDepth 100000 in
theorem pm_c157 : pm_cw (yX9_isUnlike, cX9_isUnlike, 5, (some .boolean), 4, 0) := List.mem_filter.mpr ⟨List.mem_of_getElem? (i := 1008) rfl, rfl⟩
set_option maxRecDepth 100000 in
theorem pm_c158 : pm_cw (yX10_ask, cX10_ask, 4, (some .int), 2, 0) := List.mem_filter.mpr ⟨List.mem_of_getElem? (i := 1013) rfl, rfl⟩
set_option maxRecDepth 100000 in
theorem pm_c159 : pm_cw (yX5_add, cX5_add, 5, (some .int), 3, 0) := List.mem_filter.mpr ⟨List.mem_of_getElem? (i := 1018) rfl, rfl⟩
set_option maxRecDepth 100000 in
theorem pm_c160 : pm_cw (yX10_askOf, cX10_askOf, 5, (some .int), 3, 0) := List.mem_filter.mpr ⟨List.mem_of_getElem? (i := 1022) rfl, rfl⟩
set_option maxRecDepth 100000 in
theorem pm_c161 : pm_cw (yX10_solve, cX10_solve, 5, (some .int), 0, 0) := List.mem_filter.mpr ⟨List.mem_of_getElem? (i := 1026) rfl, rfl⟩
set_option maxRecDepth 100000 in
theorem pm_c162 : pm_cw (yX5_answer, cX5_answer, 6, (some .boolean), 3, 0) := List.mem_filter.mpr ⟨List.mem_of_getElem? (i := 1030) rfl, rfl⟩
set_option maxRecDepth 100000 in
theorem pm_c163 : pm_cw (yX10_asked, cX10_asked, 3, (some .int), 2, 0) := List.mem_filter.mpr ⟨List.mem_of_getElem? (i := 1038) rfl, rfl⟩
set_option maxRecDepth 100000 in
theorem pm_c164 : pm_cw (yX5_tell, cX5_tell, 3, (some .int), 2, 0) := List.mem_filter.mpr ⟨List.mem_of_getElem? (i := 1042) rfl, rfl⟩
set_option maxRecDepth 100000 in
theorem pm_c165 : pm_cw (yX10_forget, cX10_forget, 2, (some .int), 0, 0) := List.mem_filter.mpr ⟨List.mem_of_getElem? (i := 1046) rfl, rfl⟩
set_option maxRecDepth 100000 in
theorem pm_c166 : pm_cw (yX11_init, cX11_init, 2, none, 0, 2) := List.mem_filter.mpr ⟨List.mem_of_getElem? (i := 1051) rfl, rfl⟩
set_option maxRecDepth 100000 in
theorem pm_c167 : pm_cw (yX11_put, cX11_put, 3, (some .int), 2, 0) := List.mem_filter.mpr ⟨List.mem_of_getElem? (i := 1141) rfl, rfl⟩
set_option maxRecDepth 100000 in
theorem pm_c168 : pm_cw (yX11_isPlace, cX11_isPlace, 2, (some .boolean), 1, 0) := List.mem_filter.mpr ⟨List.mem_of_getElem? (i := 1145) rfl, rfl⟩
set_option maxRecDepth 100000 in
theorem pm_c169 : pm_cw (yX11_isIn, cX11_isIn, 3, (some .boolean), 3, 1) := List.mem_filter.mpr ⟨List.mem_of_getElem? (i := 1148) rfl, rfl⟩
set_option maxRecDepth 100000 in
theorem pm_c170 : pm_cw (yX11_isColour, cX11_isColour, 1, (some .boolean), 1, 1) := List.mem_filter.mpr ⟨List.mem_of_getElem? (i := 1151) rfl, rfl⟩
set_option maxRecDepth 100000 in
theorem pm_c171 : pm_cw (yX11_recolours, cX11_recolours, 10, (some .int), 5, 0) := List.mem_filter.mpr ⟨List.mem_of_getElem? (i := 1155) rfl, rfl⟩
set_option maxRecDepth 100000 in
theorem pm_c172 : pm_cw (yX11_begins, cX11_begins, 2, none, 0, 0) := List.mem_filter.mpr ⟨List.mem_of_getElem? (i := 1159) rfl, rfl⟩
set_option maxRecDepth 100000 in
theorem pm_c173 : pm_cw (yX11_bondOf, cX11_bondOf, 2, (some .int), 1, 0) := List.mem_filter.mpr ⟨List.mem_of_getElem? (i := 1163) rfl, rfl⟩
set_option maxRecDepth 100000 in
theorem pm_c174 : pm_cw (yX11_ahead, cX11_ahead, 3, (some .int), 1, 0) := List.mem_filter.mpr ⟨List.mem_of_getElem? (i := 1167) rfl, rfl⟩
set_option maxRecDepth 100000 in
theorem pm_c175 : pm_cw (yX11_lays, cX11_lays, 3, none, 2, 0) := List.mem_filter.mpr ⟨List.mem_of_getElem? (i := 1171) rfl, rfl⟩
set_option maxRecDepth 100000 in
theorem pm_c176 : pm_cw (yX11_ends, cX11_ends, 3, (some .int), 0, 0) := List.mem_filter.mpr ⟨List.mem_of_getElem? (i := 1175) rfl, rfl⟩
set_option maxRecDepth 100000 in
theorem pm_c177 : pm_cw (yX11_isTouched, cX11_isTouched, 3, (some .boolean), 1, 0) := List.mem_filter.mpr ⟨List.mem_of_getElem? (i := 1179) rfl, rfl⟩
set_option maxRecDepth 100000 in
theorem pm_c178 : pm_cw (yX11_keepsRow, cX11_keepsRow, 4, none, 1, 0) := List.mem_filter.mpr ⟨List.mem_of_getElem? (i := 1183) rfl, rfl⟩
set_option maxRecDepth 100000 in
theorem pm_c179 : pm_cw (yX11_paint, cX11_paint, 4, (some .int), 3, 0) := List.mem_filter.mpr ⟨List.mem_of_getElem? (i := 1187) rfl, rfl⟩
set_option maxRecDepth 100000 in
theorem pm_c180 : pm_cw (yX11_isSpan, cX11_isSpan, 3, (some .boolean), 2, 0) := List.mem_filter.mpr ⟨List.mem_of_getElem? (i := 1191) rfl, rfl⟩
set_option maxRecDepth 100000 in
theorem pm_c181 : pm_cw (yX11_merge, cX11_merge, 3, (some .int), 2, 0) := List.mem_filter.mpr ⟨List.mem_of_getElem? (i := 1195) rfl, rfl⟩
set_option maxRecDepth 100000 in
theorem pm_c182 : pm_cw (yX11_exchange, cX11_exchange, 3, (some .int), 2, 0) := List.mem_filter.mpr ⟨List.mem_of_getElem? (i := 1199) rfl, rfl⟩
set_option maxRecDepth 100000 in
theorem pm_c183 : pm_cw (yX11_insert, cX11_insert, 3, (some .int), 2, 0) := List.mem_filter.mpr ⟨List.mem_of_getElem? (i := 1203) rfl, rfl⟩
set_option maxRecDepth 100000 in
theorem pm_c184 : pm_cw (yX11_hasRoom, cX11_hasRoom, 2, (some .boolean), 1, 0) := List.mem_filter.mpr ⟨List.mem_of_getElem? (i := 1207) rfl, rfl⟩
set_option maxRecDepth 100000 in
theorem pm_c185 : pm_cw (yX11_laysFrom, cX11_laysFrom, 4, none, 2, 0) := List.mem_filter.mpr ⟨List.mem_of_getElem? (i := 1211) rfl, rfl⟩
set_option maxRecDepth 100000 in
theorem pm_c186 : pm_cw (yX11_laysNew, cX11_laysNew, 2, none, 1, 0) := List.mem_filter.mpr ⟨List.mem_of_getElem? (i := 1215) rfl, rfl⟩
set_option maxRecDepth 100000 in
theorem pm_c187 : pm_cw (yX11_cut, cX11_cut, 3, (some .int), 2, 0) := List.mem_filter.mpr ⟨List.mem_of_getElem? (i := 1219) rfl, rfl⟩
set_option maxRecDepth 100000 in
theorem pm_c188 : pm_cw (yX11_turn, cX11_turn, 4, (some .int), 2, 0) := List.mem_filter.mpr ⟨List.mem_of_getElem? (i := 1223) rfl, rfl⟩
set_option maxRecDepth 100000 in
theorem pm_c189 : pm_cw (yX11_shift, cX11_shift, 4, (some .int), 3, 0) := List.mem_filter.mpr ⟨List.mem_of_getElem? (i := 1227) rfl, rfl⟩
set_option maxRecDepth 100000 in
theorem pm_c190 : pm_cw (yX11_sort, cX11_sort, 5, (some .int), 2, 0) := List.mem_filter.mpr ⟨List.mem_of_getElem? (i := 1231) rfl, rfl⟩
set_option maxRecDepth 100000 in
theorem pm_c191 : pm_cw (yX11_swap, cX11_swap, 10, (some .int), 4, 0) := List.mem_filter.mpr ⟨List.mem_of_getElem? (i := 1235) rfl, rfl⟩
set_option maxRecDepth 100000 in
theorem pm_c192 : pm_cw (yX11_copy, cX11_copy, 5, (some .int), 3, 0) := List.mem_filter.mpr ⟨List.mem_of_getElem? (i := 1239) rfl, rfl⟩
set_option maxRecDepth 100000 in
theorem pm_c193 : pm_cw (yX11_draw, cX11_draw, 6, (some .int), 3, 0) := List.mem_filter.mpr ⟨List.mem_of_getElem? (i := 1243) rfl, rfl⟩
set_option maxRecDepth 100000 in
theorem pm_c194 : pm_cw (yX11_weigh, cX11_weigh, 4, (some .int), 2, 0) := List.mem_filter.mpr ⟨List.mem_of_getElem? (i := 1247) rfl, rfl⟩
set_option maxRecDepth 100000 in
theorem pm_c195 : pm_cw (yX11_at, cX11_at, 3, (some .int), 2, 0) := List.mem_filter.mpr ⟨List.mem_of_getElem? (i := 1251) rfl, rfl⟩
set_option maxRecDepth 100000 in
theorem pm_c196 : pm_cw (yX11_behind, cX11_behind, 3, (some .int), 1, 0) := List.mem_filter.mpr ⟨List.mem_of_getElem? (i := 1255) rfl, rfl⟩
set_option maxRecDepth 100000 in
theorem pm_c197 : pm_cw (yX11_place, cX11_place, 2, (some .int), 1, 0) := List.mem_filter.mpr ⟨List.mem_of_getElem? (i := 1259) rfl, rfl⟩
set_option maxRecDepth 100000 in
theorem pm_c198 : pm_cw (yX11_placeOf, cX11_placeOf, 3, (some .int), 1, 0) := List.mem_filter.mpr ⟨List.mem_of_getElem? (i := 1263) rfl, rfl⟩
set_option maxRecDepth 100000 in
theorem pm_c199 : pm_cw (yX11_colour, cX11_colour, 3, (some .int), 2, 0) := List.mem_filter.mpr ⟨List.mem_of_getElem? (i := 1267) rfl, rfl⟩
set_option maxRecDepth 100000 in
theorem pm_c200 : pm_cw (yX11_timesIn, cX11_timesIn, 6, (some .int), 3, 0) := List.mem_filter.mpr ⟨List.mem_of_getElem? (i := 1271) rfl, rfl⟩
set_option maxRecDepth 100000 in
theorem pm_c201 : pm_cw (yX11_first, cX11_first, 3, (some .int), 1, 0) := List.mem_filter.mpr ⟨List.mem_of_getElem? (i := 1275) rfl, rfl⟩
set_option maxRecDepth 100000 in
theorem pm_c202 : pm_cw (yX11_last, cX11_last, 3, (some .int), 1, 0) := List.mem_filter.mpr ⟨List.mem_of_getElem? (i := 1279) rfl, rfl⟩
set_option maxRecDepth 100000 in
theorem pm_c203 : pm_cw (yX11_widest, cX11_widest, 4, (some .int), 1, 0) := List.mem_filter.mpr ⟨List.mem_of_getElem? (i := 1283) rfl, rfl⟩
set_option maxRecDepth 100000 in
theorem pm_c204 : pm_cw (yX11_nth, cX11_nth, 5, (some .int), 2, 0) := List.mem_filter.mpr ⟨List.mem_of_getElem? (i := 1287) rfl, rfl⟩
set_option maxRecDepth 100000 in
theorem pm_c205 : pm_cw (yX11_about, cX11_about, 2, (some .int), 1, 0) := List.mem_filter.mpr ⟨List.mem_of_getElem? (i := 1291) rfl, rfl⟩
set_option maxRecDepth 100000 in
theorem pm_c206 : pm_cw (yX11_setOf, cX11_setOf, 5, (some .int), 2, 0) := List.mem_filter.mpr ⟨List.mem_of_getElem? (i := 1295) rfl, rfl⟩
set_option maxRecDepth 100000 in
theorem pm_c207 : pm_cw (yX11_bits, cX11_bits, 3, (some .int), 1, 1) := List.mem_filter.mpr ⟨List.mem_of_getElem? (i := 1298) rfl, rfl⟩
set_option maxRecDepth 100000 in
theorem pm_c208 : pm_cw (yX11_count, cX11_count, 3, (some .int), 2, 0) := List.mem_filter.mpr ⟨List.mem_of_getElem? (i := 1302) rfl, rfl⟩
set_option maxRecDepth 100000 in
theorem pm_c209 : pm_cw (yX11_countOf, cX11_countOf, 3, (some .int), 2, 0) := List.mem_filter.mpr ⟨List.mem_of_getElem? (i := 1306) rfl, rfl⟩
set_option maxRecDepth 100000 in
theorem pm_c210 : pm_cw (yX11_weight, cX11_weight, 3, (some .int), 2, 0) := List.mem_filter.mpr ⟨List.mem_of_getElem? (i := 1310) rfl, rfl⟩
set_option maxRecDepth 100000 in
theorem pm_c211 : pm_cw (yX11_weightOf, cX11_weightOf, 4, (some .int), 1, 0) := List.mem_filter.mpr ⟨List.mem_of_getElem? (i := 1314) rfl, rfl⟩
set_option maxRecDepth 100000 in
theorem pm_c212 : pm_cw (yX11_set, cX11_set, 3, (some .int), 2, 0) := List.mem_filter.mpr ⟨List.mem_of_getElem? (i := 1318) rfl, rfl⟩
set_option maxRecDepth 100000 in
theorem pm_c213 : pm_cw (yX11_times, cX11_times, 4, (some .int), 3, 0) := List.mem_filter.mpr ⟨List.mem_of_getElem? (i := 1322) rfl, rfl⟩
set_option maxRecDepth 100000 in
theorem pm_c214 : pm_cw (yX11_often, cX11_often, 6, (some .int), 3, 0) := List.mem_filter.mpr ⟨List.mem_of_getElem? (i := 1326) rfl, rfl⟩
set_option maxRecDepth 100000 in
theorem pm_c215 : pm_cw (yX11_tally, cX11_tally, 6, (some .int), 3, 0) := List.mem_filter.mpr ⟨List.mem_of_getElem? (i := 1330) rfl, rfl⟩
set_option maxRecDepth 100000 in
theorem pm_c216 : pm_cw (yX11_major, cX11_major, 4, (some .int), 2, 0) := List.mem_filter.mpr ⟨List.mem_of_getElem? (i := 1334) rfl, rfl⟩
set_option maxRecDepth 100000 in
theorem pm_c217 : pm_cw (yX11_report, cX11_report, 6, (some .int), 4, 0) := List.mem_filter.mpr ⟨List.mem_of_getElem? (i := 1338) rfl, rfl⟩
set_option maxRecDepth 100000 in
theorem pm_c218 : pm_cw (yX11_reported, cX11_reported, 9, (some .int), 3, 0) := List.mem_filter.mpr ⟨List.mem_of_getElem? (i := 1342) rfl, rfl⟩
set_option maxRecDepth 100000 in
theorem pm_c219 : pm_cw (yX11_reportKey, cX11_reportKey, 2, (some .int), 1, 0) := List.mem_filter.mpr ⟨List.mem_of_getElem? (i := 1347) rfl, rfl⟩
set_option maxRecDepth 100000 in
theorem pm_c220 : pm_cw (yX11_kth, cX11_kth, 6, (some .int), 4, 0) := List.mem_filter.mpr ⟨List.mem_of_getElem? (i := 1351) rfl, rfl⟩
set_option maxRecDepth 100000 in
theorem pm_c221 : pm_cw (yX11_laysOrder, cX11_laysOrder, 9, (some .int), 3, 0) := List.mem_filter.mpr ⟨List.mem_of_getElem? (i := 1355) rfl, rfl⟩
set_option maxRecDepth 100000 in
theorem pm_c222 : pm_cw (yX11_isAhead, cX11_isAhead, 8, (some .boolean), 5, 0) := List.mem_filter.mpr ⟨List.mem_of_getElem? (i := 1359) rfl, rfl⟩
set_option maxRecDepth 100000 in
theorem pm_c223 : pm_cw (yX11_absent, cX11_absent, 7, (some .int), 3, 0) := List.mem_filter.mpr ⟨List.mem_of_getElem? (i := 1363) rfl, rfl⟩
set_option maxRecDepth 100000 in
theorem pm_c224 : pm_cw (yX11_both, cX11_both, 8, (some .int), 5, 0) := List.mem_filter.mpr ⟨List.mem_of_getElem? (i := 1367) rfl, rfl⟩
set_option maxRecDepth 100000 in
theorem pm_c225 : pm_cw (yX11_close, cX11_close, 6, (some .int), 3, 0) := List.mem_filter.mpr ⟨List.mem_of_getElem? (i := 1371) rfl, rfl⟩
set_option maxRecDepth 100000 in
theorem pm_c226 : pm_cw (yX11_was, cX11_was, 5, (some .int), 3, 0) := List.mem_filter.mpr ⟨List.mem_of_getElem? (i := 1375) rfl, rfl⟩
set_option maxRecDepth 100000 in
theorem pm_c227 : pm_cw (yX11_isKnown, cX11_isKnown, 2, (some .boolean), 1, 0) := List.mem_filter.mpr ⟨List.mem_of_getElem? (i := 1379) rfl, rfl⟩
set_option maxRecDepth 100000 in
theorem pm_c228 : pm_cw (yX11_wasColour, cX11_wasColour, 3, (some .int), 2, 0) := List.mem_filter.mpr ⟨List.mem_of_getElem? (i := 1383) rfl, rfl⟩
set_option maxRecDepth 100000 in
theorem pm_c229 : pm_cw (yX11_wasName, cX11_wasName, 3, (some .int), 2, 0) := List.mem_filter.mpr ⟨List.mem_of_getElem? (i := 1387) rfl, rfl⟩
set_option maxRecDepth 100000 in
theorem pm_c230 : pm_cw (yX11_wasBond, cX11_wasBond, 4, (some .int), 2, 0) := List.mem_filter.mpr ⟨List.mem_of_getElem? (i := 1391) rfl, rfl⟩
set_option maxRecDepth 100000 in
theorem pm_c231 : pm_cw (yX11_counted, cX11_counted, 4, (some .int), 3, 0) := List.mem_filter.mpr ⟨List.mem_of_getElem? (i := 1395) rfl, rfl⟩
set_option maxRecDepth 100000 in
theorem pm_c232 : pm_cw (yX11_wasSet, cX11_wasSet, 6, (some .int), 3, 0) := List.mem_filter.mpr ⟨List.mem_of_getElem? (i := 1399) rfl, rfl⟩
set_option maxRecDepth 100000 in
theorem pm_c233 : pm_cw (yX11_touched, cX11_touched, 2, (some .int), 1, 0) := List.mem_filter.mpr ⟨List.mem_of_getElem? (i := 1403) rfl, rfl⟩
set_option maxRecDepth 100000 in
theorem pm_c234 : pm_cw (yX11_since, cX11_since, 5, (some .int), 1, 0) := List.mem_filter.mpr ⟨List.mem_of_getElem? (i := 1407) rfl, rfl⟩
set_option maxRecDepth 100000 in
theorem pm_c235 : pm_cw (yX11_hadBond, cX11_hadBond, 5, (some .boolean), 3, 0) := List.mem_filter.mpr ⟨List.mem_of_getElem? (i := 1412) rfl, rfl⟩
set_option maxRecDepth 100000 in
theorem pm_c236 : pm_cw (yX11_wasPlace, cX11_wasPlace, 4, (some .int), 2, 0) := List.mem_filter.mpr ⟨List.mem_of_getElem? (i := 1416) rfl, rfl⟩
set_option maxRecDepth 100000 in
theorem pm_c237 : pm_cw (yX11_changed, cX11_changed, 7, (some .int), 2, 0) := List.mem_filter.mpr ⟨List.mem_of_getElem? (i := 1420) rfl, rfl⟩
set_option maxRecDepth 100000 in
theorem pm_c238 : pm_cw (yX11_sides, cX11_sides, 5, (some .int), 2, 0) := List.mem_filter.mpr ⟨List.mem_of_getElem? (i := 1424) rfl, rfl⟩
set_option maxRecDepth 100000 in
theorem pm_c239 : pm_cw (yX11_isNewSide, cX11_isNewSide, 6, (some .boolean), 2, 0) := List.mem_filter.mpr ⟨List.mem_of_getElem? (i := 1428) rfl, rfl⟩
set_option maxRecDepth 100000 in
theorem pm_c240 : pm_cw (yX11_cover, cX11_cover, 5, (some .int), 2, 0) := List.mem_filter.mpr ⟨List.mem_of_getElem? (i := 1432) rfl, rfl⟩
set_option maxRecDepth 100000 in
theorem pm_c241 : pm_cw (yX11_haveAll, cX11_haveAll, 6, (some .boolean), 4, 0) := List.mem_filter.mpr ⟨List.mem_of_getElem? (i := 1436) rfl, rfl⟩
set_option maxRecDepth 100000 in
theorem pm_c242 : pm_cw (yX11_least, cX11_least, 7, (some .int), 3, 0) := List.mem_filter.mpr ⟨List.mem_of_getElem? (i := 1440) rfl, rfl⟩
set_option maxRecDepth 100000 in
theorem pm_c243 : pm_cw (yX11_fair, cX11_fair, 6, (some .int), 3, 0) := List.mem_filter.mpr ⟨List.mem_of_getElem? (i := 1444) rfl, rfl⟩
set_option maxRecDepth 100000 in
theorem pm_c244 : pm_cw (yX11_alike, cX11_alike, 5, (some .int), 2, 0) := List.mem_filter.mpr ⟨List.mem_of_getElem? (i := 1448) rfl, rfl⟩
set_option maxRecDepth 100000 in
theorem pm_c245 : pm_cw (yX11_even, cX11_even, 8, (some .int), 2, 0) := List.mem_filter.mpr ⟨List.mem_of_getElem? (i := 1452) rfl, rfl⟩
set_option maxRecDepth 100000 in
theorem pm_c246 : pm_cw (yX11_apart, cX11_apart, 8, (some .int), 3, 0) := List.mem_filter.mpr ⟨List.mem_of_getElem? (i := 1457) rfl, rfl⟩
set_option maxRecDepth 100000 in
theorem pm_c247 : pm_cw (yX11_nextBehind, cX11_nextBehind, 4, (some .int), 2, 0) := List.mem_filter.mpr ⟨List.mem_of_getElem? (i := 1461) rfl, rfl⟩
set_option maxRecDepth 100000 in
theorem pm_c248 : pm_cw (yX11_reach, cX11_reach, 4, (some .int), 2, 0) := List.mem_filter.mpr ⟨List.mem_of_getElem? (i := 1465) rfl, rfl⟩
set_option maxRecDepth 100000 in
theorem pm_c249 : pm_cw (yX11_reachBack, cX11_reachBack, 4, (some .int), 2, 0) := List.mem_filter.mpr ⟨List.mem_of_getElem? (i := 1469) rfl, rfl⟩
set_option maxRecDepth 100000 in
theorem pm_c250 : pm_cw (yX11_load, cX11_load, 4, (some .int), 2, 0) := List.mem_filter.mpr ⟨List.mem_of_getElem? (i := 1473) rfl, rfl⟩
set_option maxRecDepth 100000 in
theorem pm_c251 : pm_cw (yX11_window, cX11_window, 9, (some .int), 2, 0) := List.mem_filter.mpr ⟨List.mem_of_getElem? (i := 1477) rfl, rfl⟩
set_option maxRecDepth 100000 in
theorem pm_c252 : pm_cw (yX11_longest, cX11_longest, 7, (some .int), 2, 0) := List.mem_filter.mpr ⟨List.mem_of_getElem? (i := 1482) rfl, rfl⟩
set_option maxRecDepth 100000 in
theorem pm_c253 : pm_cw (yX11_farthest, cX11_farthest, 5, (some .int), 2, 0) := List.mem_filter.mpr ⟨List.mem_of_getElem? (i := 1486) rfl, rfl⟩
set_option maxRecDepth 100000 in
theorem pm_c254 : pm_cw (yX11_unlike, cX11_unlike, 6, (some .int), 1, 0) := List.mem_filter.mpr ⟨List.mem_of_getElem? (i := 1490) rfl, rfl⟩
set_option maxRecDepth 100000 in
theorem pm_c255 : pm_cw (yX11_heaviest, cX11_heaviest, 7, (some .int), 2, 0) := List.mem_filter.mpr ⟨List.mem_of_getElem? (i := 1494) rfl, rfl⟩
set_option maxRecDepth 100000 in
theorem pm_c256 : pm_cw (yX11_distance, cX11_distance, 2, (some .int), 1, 0) := List.mem_filter.mpr ⟨List.mem_of_getElem? (i := 1498) rfl, rfl⟩
set_option maxRecDepth 100000 in
theorem pm_c257 : pm_cw (yX11_misses, cX11_misses, 3, (some .int), 2, 0) := List.mem_filter.mpr ⟨List.mem_of_getElem? (i := 1502) rfl, rfl⟩
set_option maxRecDepth 100000 in
theorem pm_c258 : pm_cw (yX11_isShelf, cX11_isShelf, 2, (some .boolean), 2, 1) := List.mem_filter.mpr ⟨List.mem_of_getElem? (i := 1505) rfl, rfl⟩
set_option maxRecDepth 100000 in
theorem pm_c259 : pm_cw (yX11_goOver, cX11_goOver, 6, (some .int), 3, 0) := List.mem_filter.mpr ⟨List.mem_of_getElem? (i := 1509) rfl, rfl⟩
set_option maxRecDepth 100000 in
theorem pm_c260 : pm_cw (yX11_goner, cX11_goner, 7, (some .int), 2, 0) := List.mem_filter.mpr ⟨List.mem_of_getElem? (i := 1513) rfl, rfl⟩
set_option maxRecDepth 100000 in
theorem pm_c261 : pm_cw (yX11_lastAhead, cX11_lastAhead, 4, (some .int), 2, 0) := List.mem_filter.mpr ⟨List.mem_of_getElem? (i := 1517) rfl, rfl⟩
set_option maxRecDepth 100000 in
theorem pm_c262 : pm_cw (yX11_shelf, cX11_shelf, 5, (some .int), 3, 0) := List.mem_filter.mpr ⟨List.mem_of_getElem? (i := 1521) rfl, rfl⟩
set_option maxRecDepth 100000 in
theorem pm_c263 : pm_cw (yX11_suffices, cX11_suffices, 4, (some .int), 2, 0) := List.mem_filter.mpr ⟨List.mem_of_getElem? (i := 1525) rfl, rfl⟩
set_option maxRecDepth 100000 in
theorem pm_c264 : pm_cw (yX11_just, cX11_just, 6, (some .int), 1, 0) := List.mem_filter.mpr ⟨List.mem_of_getElem? (i := 1529) rfl, rfl⟩
set_option maxRecDepth 100000 in
theorem pm_c265 : pm_cw (yX11_all, cX11_all, 6, (some .long), 0, 0) := List.mem_filter.mpr ⟨List.mem_of_getElem? (i := 1533) rfl, rfl⟩
set_option maxRecDepth 100000 in
theorem pm_c266 : pm_cw (yX11_sets, cX11_sets, 6, (some .int), 1, 0) := List.mem_filter.mpr ⟨List.mem_of_getElem? (i := 1537) rfl, rfl⟩
set_option maxRecDepth 100000 in
theorem pm_c267 : pm_cw (yX11_match, cX11_match, 7, (some .int), 3, 0) := List.mem_filter.mpr ⟨List.mem_of_getElem? (i := 1541) rfl, rfl⟩
set_option maxRecDepth 100000 in
theorem pm_c268 : pm_cw (yX11_layGaps, cX11_layGaps, 2, none, 0, 0) := List.mem_filter.mpr ⟨List.mem_of_getElem? (i := 1545) rfl, rfl⟩
set_option maxRecDepth 100000 in
theorem pm_c269 : pm_cw (yX11_matched, cX11_matched, 5, (some .int), 3, 0) := List.mem_filter.mpr ⟨List.mem_of_getElem? (i := 1549) rfl, rfl⟩
set_option maxRecDepth 100000 in
theorem pm_c270 : pm_cw (yX11_twin, cX11_twin, 7, (some .int), 1, 0) := List.mem_filter.mpr ⟨List.mem_of_getElem? (i := 1553) rfl, rfl⟩
set_option maxRecDepth 100000 in
theorem pm_c271 : pm_cw (yX11_parts, cX11_parts, 6, (some .int), 2, 0) := List.mem_filter.mpr ⟨List.mem_of_getElem? (i := 1557) rfl, rfl⟩
set_option maxRecDepth 100000 in
theorem pm_c272 : pm_cw (yX11_best, cX11_best, 6, (some .int), 2, 0) := List.mem_filter.mpr ⟨List.mem_of_getElem? (i := 1561) rfl, rfl⟩
set_option maxRecDepth 100000 in
theorem pm_c273 : pm_cw (yX11_layBest, cX11_layBest, 5, none, 1, 0) := List.mem_filter.mpr ⟨List.mem_of_getElem? (i := 1565) rfl, rfl⟩
set_option maxRecDepth 100000 in
theorem pm_c274 : pm_cw (yX11_layPart, cX11_layPart, 7, none, 3, 0) := List.mem_filter.mpr ⟨List.mem_of_getElem? (i := 1569) rfl, rfl⟩
set_option maxRecDepth 100000 in
theorem pm_c275 : pm_cw (yX11_ask, cX11_ask, 3, (some .int), 2, 0) := List.mem_filter.mpr ⟨List.mem_of_getElem? (i := 1573) rfl, rfl⟩
set_option maxRecDepth 100000 in
theorem pm_c276 : pm_cw (yX11_asks, cX11_asks, 4, (some .int), 3, 0) := List.mem_filter.mpr ⟨List.mem_of_getElem? (i := 1577) rfl, rfl⟩
set_option maxRecDepth 100000 in
theorem pm_c277 : pm_cw (yX11_askOf, cX11_askOf, 4, (some .int), 3, 0) := List.mem_filter.mpr ⟨List.mem_of_getElem? (i := 1581) rfl, rfl⟩
set_option maxRecDepth 100000 in
theorem pm_c278 : pm_cw (yX11_solve, cX11_solve, 7, (some .int), 0, 0) := List.mem_filter.mpr ⟨List.mem_of_getElem? (i := 1585) rfl, rfl⟩
set_option maxRecDepth 100000 in
theorem pm_c279 : pm_cw (yX11_placeBy, cX11_placeBy, 3, (some .int), 2, 0) := List.mem_filter.mpr ⟨List.mem_of_getElem? (i := 1589) rfl, rfl⟩
set_option maxRecDepth 100000 in
theorem pm_c280 : pm_cw (yX11_setBy, cX11_setBy, 4, (some .int), 3, 0) := List.mem_filter.mpr ⟨List.mem_of_getElem? (i := 1593) rfl, rfl⟩
set_option maxRecDepth 100000 in
theorem pm_c281 : pm_cw (yX11_asked, cX11_asked, 3, (some .int), 2, 0) := List.mem_filter.mpr ⟨List.mem_of_getElem? (i := 1597) rfl, rfl⟩
set_option maxRecDepth 100000 in
theorem pm_c282 : pm_cw (yX11_forget, cX11_forget, 2, (some .int), 0, 0) := List.mem_filter.mpr ⟨List.mem_of_getElem? (i := 1601) rfl, rfl⟩
set_option maxRecDepth 100000 in
theorem pm_cw0 : ∀ e ∈ pm_mt0, pm_cw e := List.forall_mem_cons.mpr ⟨pm_c0, List.forall_mem_cons.mpr ⟨pm_c1, List.forall_mem_cons.mpr ⟨pm_c2, List.forall_mem_cons.mpr ⟨pm_c3, List.forall_mem_cons.mpr ⟨pm_c4, List.forall_mem_cons.mpr ⟨pm_c5, List.forall_mem_cons.mpr ⟨pm_c6, List.forall_mem_cons.mpr ⟨pm_c7, List.forall_mem_cons.mpr ⟨pm_c8, List.forall_mem_cons.mpr ⟨pm_c9, List.forall_mem_cons.mpr ⟨pm_c10, List.forall_mem_cons.mpr ⟨pm_c11, List.forall_mem_cons.mpr ⟨pm_c12, List.forall_mem_cons.mpr ⟨pm_c13, List.forall_mem_cons.mpr ⟨pm_c14, List.forall_mem_cons.mpr ⟨pm_c15, List.forall_mem_cons.mpr ⟨pm_c16, List.forall_mem_cons.mpr ⟨pm_c17, List.forall_mem_cons.mpr ⟨pm_c18, List.forall_mem_cons.mpr ⟨pm_c19, List.forall_mem_cons.mpr ⟨pm_c20, List.forall_mem_cons.mpr ⟨pm_c21, List.forall_mem_cons.mpr ⟨pm_c22, List.forall_mem_cons.mpr ⟨pm_c23, List.forall_mem_cons.mpr ⟨pm_c24, List.forall_mem_cons.mpr ⟨pm_c25, List.forall_mem_cons.mpr ⟨pm_c26, List.forall_mem_cons.mpr ⟨pm_c27, List.forall_mem_cons.mpr ⟨pm_c28, List.forall_mem_cons.mpr ⟨pm_c29, List.forall_mem_cons.mpr ⟨pm_c30, List.forall_mem_cons.mpr ⟨pm_c31, List.forall_mem_cons.mpr ⟨pm_c32, List.forall_mem_cons.mpr ⟨pm_c33, List.forall_mem_cons.mpr ⟨pm_c34, List.forall_mem_cons.mpr ⟨pm_c35, List.forall_mem_cons.mpr ⟨pm_c36, List.forall_mem_cons.mpr ⟨pm_c37, List.forall_mem_cons.mpr ⟨pm_c38, List.forall_mem_cons.mpr ⟨pm_c39, List.forall_mem_cons.mpr ⟨pm_c40, List.forall_mem_cons.mpr ⟨pm_c41, List.forall_mem_cons.mpr ⟨pm_c42, List.forall_mem_cons.mpr ⟨pm_c43, List.forall_mem_cons.mpr ⟨pm_c44, List.forall_mem_cons.mpr ⟨pm_c45, List.forall_mem_cons.mpr ⟨pm_c46, List.forall_mem_cons.mpr ⟨pm_c47, List.forall_mem_cons.mpr ⟨pm_c48, List.forall_mem_cons.mpr ⟨pm_c49, List.forall_mem_cons.mpr ⟨pm_c50, List.forall_mem_cons.mpr ⟨pm_c51, List.forall_mem_cons.mpr ⟨pm_c52, List.forall_mem_cons.mpr ⟨pm_c53, List.forall_mem_cons.mpr ⟨pm_c54, List.forall_mem_cons.mpr ⟨pm_c55, List.forall_mem_cons.mpr ⟨pm_c56, List.forall_mem_cons.mpr ⟨pm_c57, List.forall_mem_cons.mpr ⟨pm_c58, List.forall_mem_cons.mpr ⟨pm_c59, fun _ h => absurd h List.not_mem_nil⟩⟩⟩⟩⟩⟩⟩⟩⟩⟩⟩⟩⟩⟩⟩⟩⟩⟩⟩⟩⟩⟩⟩⟩⟩⟩⟩⟩⟩⟩⟩⟩⟩⟩⟩⟩⟩⟩⟩⟩⟩⟩⟩⟩⟩⟩⟩⟩⟩⟩⟩⟩⟩⟩⟩⟩⟩⟩⟩⟩
set_option maxRecDepth 100000 in
theorem pm_cw1 : ∀ e ∈ pm_mt1, pm_cw e := List.forall_mem_cons.mpr ⟨pm_c60, List.forall_mem_cons.mpr ⟨pm_c61, List.forall_mem_cons.mpr ⟨pm_c62, List.forall_mem_cons.mpr ⟨pm_c63, List.forall_mem_cons.mpr ⟨pm_c64, List.forall_mem_cons.mpr ⟨pm_c65, List.forall_mem_cons.mpr ⟨pm_c66, List.forall_mem_cons.mpr ⟨pm_c67, List.forall_mem_cons.mpr ⟨pm_c68, List.forall_mem_cons.mpr ⟨pm_c69, List.forall_mem_cons.mpr ⟨pm_c70, List.forall_mem_cons.mpr ⟨pm_c71, List.forall_mem_cons.mpr ⟨pm_c72, List.forall_mem_cons.mpr ⟨pm_c73, List.forall_mem_cons.mpr ⟨pm_c74, List.forall_mem_cons.mpr ⟨pm_c75, List.forall_mem_cons.mpr ⟨pm_c76, List.forall_mem_cons.mpr ⟨pm_c77, List.forall_mem_cons.mpr ⟨pm_c78, List.forall_mem_cons.mpr ⟨pm_c79, List.forall_mem_cons.mpr ⟨pm_c80, List.forall_mem_cons.mpr ⟨pm_c81, List.forall_mem_cons.mpr ⟨pm_c82, List.forall_mem_cons.mpr ⟨pm_c83, List.forall_mem_cons.mpr ⟨pm_c84, List.forall_mem_cons.mpr ⟨pm_c85, List.forall_mem_cons.mpr ⟨pm_c86, List.forall_mem_cons.mpr ⟨pm_c87, List.forall_mem_cons.mpr ⟨pm_c88, List.forall_mem_cons.mpr ⟨pm_c89, List.forall_mem_cons.mpr ⟨pm_c90, List.forall_mem_cons.mpr ⟨pm_c91, List.forall_mem_cons.mpr ⟨pm_c92, List.forall_mem_cons.mpr ⟨pm_c93, List.forall_mem_cons.mpr ⟨pm_c94, List.forall_mem_cons.mpr ⟨pm_c95, List.forall_mem_cons.mpr ⟨pm_c96, List.forall_mem_cons.mpr ⟨pm_c97, List.forall_mem_cons.mpr ⟨pm_c98, List.forall_mem_cons.mpr ⟨pm_c99, List.forall_mem_cons.mpr ⟨pm_c100, List.forall_mem_cons.mpr ⟨pm_c101, List.forall_mem_cons.mpr ⟨pm_c102, List.forall_mem_cons.mpr ⟨pm_c103, List.forall_mem_cons.mpr ⟨pm_c104, List.forall_mem_cons.mpr ⟨pm_c105, List.forall_mem_cons.mpr ⟨pm_c106, List.forall_mem_cons.mpr ⟨pm_c107, List.forall_mem_cons.mpr ⟨pm_c108, List.forall_mem_cons.mpr ⟨pm_c109, List.forall_mem_cons.mpr ⟨pm_c110, List.forall_mem_cons.mpr ⟨pm_c111, List.forall_mem_cons.mpr ⟨pm_c112, List.forall_mem_cons.mpr ⟨pm_c113, List.forall_mem_cons.mpr ⟨pm_c114, List.forall_mem_cons.mpr ⟨pm_c115, List.forall_mem_cons.mpr ⟨pm_c116, List.forall_mem_cons.mpr ⟨pm_c117, List.forall_mem_cons.mpr ⟨pm_c118, List.forall_mem_cons.mpr ⟨pm_c119, fun _ h => absurd h List.not_mem_nil⟩⟩⟩⟩⟩⟩⟩⟩⟩⟩⟩⟩⟩⟩⟩⟩⟩⟩⟩⟩⟩⟩⟩⟩⟩⟩⟩⟩⟩⟩⟩⟩⟩⟩⟩⟩⟩⟩⟩⟩⟩⟩⟩⟩⟩⟩⟩⟩⟩⟩⟩⟩⟩⟩⟩⟩⟩⟩⟩⟩
set_option maxRecDepth 100000 in
theorem pm_cw2 : ∀ e ∈ pm_mt2, pm_cw e := List.forall_mem_cons.mpr ⟨pm_c120, List.forall_mem_cons.mpr ⟨pm_c121, List.forall_mem_cons.mpr ⟨pm_c122, List.forall_mem_cons.mpr ⟨pm_c123, List.forall_mem_cons.mpr ⟨pm_c124, List.forall_mem_cons.mpr ⟨pm_c125, List.forall_mem_cons.mpr ⟨pm_c126, List.forall_mem_cons.mpr ⟨pm_c127, List.forall_mem_cons.mpr ⟨pm_c128, List.forall_mem_cons.mpr ⟨pm_c129, List.forall_mem_cons.mpr ⟨pm_c130, List.forall_mem_cons.mpr ⟨pm_c131, List.forall_mem_cons.mpr ⟨pm_c132, List.forall_mem_cons.mpr ⟨pm_c133, List.forall_mem_cons.mpr ⟨pm_c134, List.forall_mem_cons.mpr ⟨pm_c135, List.forall_mem_cons.mpr ⟨pm_c136, List.forall_mem_cons.mpr ⟨pm_c137, List.forall_mem_cons.mpr ⟨pm_c138, List.forall_mem_cons.mpr ⟨pm_c139, List.forall_mem_cons.mpr ⟨pm_c140, List.forall_mem_cons.mpr ⟨pm_c141, List.forall_mem_cons.mpr ⟨pm_c142, List.forall_mem_cons.mpr ⟨pm_c143, List.forall_mem_cons.mpr ⟨pm_c144, List.forall_mem_cons.mpr ⟨pm_c145, List.forall_mem_cons.mpr ⟨pm_c146, List.forall_mem_cons.mpr ⟨pm_c147, List.forall_mem_cons.mpr ⟨pm_c148, List.forall_mem_cons.mpr ⟨pm_c149, List.forall_mem_cons.mpr ⟨pm_c150, List.forall_mem_cons.mpr ⟨pm_c151, List.forall_mem_cons.mpr ⟨pm_c152, List.forall_mem_cons.mpr ⟨pm_c153, List.forall_mem_cons.mpr ⟨pm_c154, List.forall_mem_cons.mpr ⟨pm_c155, List.forall_mem_cons.mpr ⟨pm_c156, List.forall_mem_cons.mpr ⟨pm_c157, List.forall_mem_cons.mpr ⟨pm_c158, List.forall_mem_cons.mpr ⟨pm_c159, List.forall_mem_cons.mpr ⟨pm_c160, List.forall_mem_cons.mpr ⟨pm_c161, List.forall_mem_cons.mpr ⟨pm_c162, List.forall_mem_cons.mpr ⟨pm_c163, List.forall_mem_cons.mpr ⟨pm_c164, List.forall_mem_cons.mpr ⟨pm_c165, List.forall_mem_cons.mpr ⟨pm_c166, List.forall_mem_cons.mpr ⟨pm_c167, List.forall_mem_cons.mpr ⟨pm_c168, List.forall_mem_cons.mpr ⟨pm_c169, List.forall_mem_cons.mpr ⟨pm_c170, List.forall_mem_cons.mpr ⟨pm_c171, List.forall_mem_cons.mpr ⟨pm_c172, List.forall_mem_cons.mpr ⟨pm_c173, List.forall_mem_cons.mpr ⟨pm_c174, List.forall_mem_cons.mpr ⟨pm_c175, List.forall_mem_cons.mpr ⟨pm_c176, List.forall_mem_cons.mpr ⟨pm_c177, List.forall_mem_cons.mpr ⟨pm_c178, List.forall_mem_cons.mpr ⟨pm_c179, fun _ h => absurd h List.not_mem_nil⟩⟩⟩⟩⟩⟩⟩⟩⟩⟩⟩⟩⟩⟩⟩⟩⟩⟩⟩⟩⟩⟩⟩⟩⟩⟩⟩⟩⟩⟩⟩⟩⟩⟩⟩⟩⟩⟩⟩⟩⟩⟩⟩⟩⟩⟩⟩⟩⟩⟩⟩⟩⟩⟩⟩⟩⟩⟩⟩⟩
set_option maxRecDepth 100000 in
theorem pm_cw3 : ∀ e ∈ pm_mt3, pm_cw e := List.forall_mem_cons.mpr ⟨pm_c180, List.forall_mem_cons.mpr ⟨pm_c181, List.forall_mem_cons.mpr ⟨pm_c182, List.forall_mem_cons.mpr ⟨pm_c183, List.forall_mem_cons.mpr ⟨pm_c184, List.forall_mem_cons.mpr ⟨pm_c185, List.forall_mem_cons.mpr ⟨pm_c186, List.forall_mem_cons.mpr ⟨pm_c187, List.forall_mem_cons.mpr ⟨pm_c188, List.forall_mem_cons.mpr ⟨pm_c189, List.forall_mem_cons.mpr ⟨pm_c190, List.forall_mem_cons.mpr ⟨pm_c191, List.forall_mem_cons.mpr ⟨pm_c192, List.forall_mem_cons.mpr ⟨pm_c193, List.forall_mem_cons.mpr ⟨pm_c194, List.forall_mem_cons.mpr ⟨pm_c195, List.forall_mem_cons.mpr ⟨pm_c196, List.forall_mem_cons.mpr ⟨pm_c197, List.forall_mem_cons.mpr ⟨pm_c198, List.forall_mem_cons.mpr ⟨pm_c199, List.forall_mem_cons.mpr ⟨pm_c200, List.forall_mem_cons.mpr ⟨pm_c201, List.forall_mem_cons.mpr ⟨pm_c202, List.forall_mem_cons.mpr ⟨pm_c203, List.forall_mem_cons.mpr ⟨pm_c204, List.forall_mem_cons.mpr ⟨pm_c205, List.forall_mem_cons.mpr ⟨pm_c206, List.forall_mem_cons.mpr ⟨pm_c207, List.forall_mem_cons.mpr ⟨pm_c208, List.forall_mem_cons.mpr ⟨pm_c209, List.forall_mem_cons.mpr ⟨pm_c210, List.forall_mem_cons.mpr ⟨pm_c211, List.forall_mem_cons.mpr ⟨pm_c212, List.forall_mem_cons.mpr ⟨pm_c213, List.forall_mem_cons.mpr ⟨pm_c214, List.forall_mem_cons.mpr ⟨pm_c215, List.forall_mem_cons.mpr ⟨pm_c216, List.forall_mem_cons.mpr ⟨pm_c217, List.forall_mem_cons.mpr ⟨pm_c218, List.forall_mem_cons.mpr ⟨pm_c219, List.forall_mem_cons.mpr ⟨pm_c220, List.forall_mem_cons.mpr ⟨pm_c221, List.forall_mem_cons.mpr ⟨pm_c222, List.forall_mem_cons.mpr ⟨pm_c223, List.forall_mem_cons.mpr ⟨pm_c224, List.forall_mem_cons.mpr ⟨pm_c225, List.forall_mem_cons.mpr ⟨pm_c226, List.forall_mem_cons.mpr ⟨pm_c227, List.forall_mem_cons.mpr ⟨pm_c228, List.forall_mem_cons.mpr ⟨pm_c229, List.forall_mem_cons.mpr ⟨pm_c230, List.forall_mem_cons.mpr ⟨pm_c231, List.forall_mem_cons.mpr ⟨pm_c232, List.forall_mem_cons.mpr ⟨pm_c233, List.forall_mem_cons.mpr ⟨pm_c234, List.forall_mem_cons.mpr ⟨pm_c235, List.forall_mem_cons.mpr ⟨pm_c236, List.forall_mem_cons.mpr ⟨pm_c237, List.forall_mem_cons.mpr ⟨pm_c238, List.forall_mem_cons.mpr ⟨pm_c239, fun _ h => absurd h List.not_mem_nil⟩⟩⟩⟩⟩⟩⟩⟩⟩⟩⟩⟩⟩⟩⟩⟩⟩⟩⟩⟩⟩⟩⟩⟩⟩⟩⟩⟩⟩⟩⟩⟩⟩⟩⟩⟩⟩⟩⟩⟩⟩⟩⟩⟩⟩⟩⟩⟩⟩⟩⟩⟩⟩⟩⟩⟩⟩⟩⟩⟩
set_option maxRecDepth 100000 in
theorem pm_cw4 : ∀ e ∈ pm_mt4, pm_cw e := List.forall_mem_cons.mpr ⟨pm_c240, List.forall_mem_cons.mpr ⟨pm_c241, List.forall_mem_cons.mpr ⟨pm_c242, List.forall_mem_cons.mpr ⟨pm_c243, List.forall_mem_cons.mpr ⟨pm_c244, List.forall_mem_cons.mpr ⟨pm_c245, List.forall_mem_cons.mpr ⟨pm_c246, List.forall_mem_cons.mpr ⟨pm_c247, List.forall_mem_cons.mpr ⟨pm_c248, List.forall_mem_cons.mpr ⟨pm_c249, List.forall_mem_cons.mpr ⟨pm_c250, List.forall_mem_cons.mpr ⟨pm_c251, List.forall_mem_cons.mpr ⟨pm_c252, List.forall_mem_cons.mpr ⟨pm_c253, List.forall_mem_cons.mpr ⟨pm_c254, List.forall_mem_cons.mpr ⟨pm_c255, List.forall_mem_cons.mpr ⟨pm_c256, List.forall_mem_cons.mpr ⟨pm_c257, List.forall_mem_cons.mpr ⟨pm_c258, List.forall_mem_cons.mpr ⟨pm_c259, List.forall_mem_cons.mpr ⟨pm_c260, List.forall_mem_cons.mpr ⟨pm_c261, List.forall_mem_cons.mpr ⟨pm_c262, List.forall_mem_cons.mpr ⟨pm_c263, List.forall_mem_cons.mpr ⟨pm_c264, List.forall_mem_cons.mpr ⟨pm_c265, List.forall_mem_cons.mpr ⟨pm_c266, List.forall_mem_cons.mpr ⟨pm_c267, List.forall_mem_cons.mpr ⟨pm_c268, List.forall_mem_cons.mpr ⟨pm_c269, List.forall_mem_cons.mpr ⟨pm_c270, List.forall_mem_cons.mpr ⟨pm_c271, List.forall_mem_cons.mpr ⟨pm_c272, List.forall_mem_cons.mpr ⟨pm_c273, List.forall_mem_cons.mpr ⟨pm_c274, List.forall_mem_cons.mpr ⟨pm_c275, List.forall_mem_cons.mpr ⟨pm_c276, List.forall_mem_cons.mpr ⟨pm_c277, List.forall_mem_cons.mpr ⟨pm_c278, List.forall_mem_cons.mpr ⟨pm_c279, List.forall_mem_cons.mpr ⟨pm_c280, List.forall_mem_cons.mpr ⟨pm_c281, List.forall_mem_cons.mpr ⟨pm_c282, fun _ h => absurd h List.not_mem_nil⟩⟩⟩⟩⟩⟩⟩⟩⟩⟩⟩⟩⟩⟩⟩⟩⟩⟩⟩⟩⟩⟩⟩⟩⟩⟩⟩⟩⟩⟩⟩⟩⟩⟩⟩⟩⟩⟩⟩⟩⟩⟩⟩
def pm_okml (l : List pm_M) (ps : List (Nat × Nat × Nat × Nat)) : Bool := (l.zip ps).all (fun q => pm_okm q.1 q.2) && decide (l.length = ps.length)
set_option maxRecDepth 100000 in
theorem pm_mt0_ok : pm_okml pm_mt0 [(86, 67, 85, 0), (94, 68, 93, 0), (101, 69, 100, 0), (178, 70, 177, 0), (182, 71, 181, 0), (224, 72, 223, 0), (240, 73, 239, 0), (262, 74, 261, 0), (287, 75, 286, 0), (311, 76, 310, 0), (329, 77, 328, 0), (341, 78, 340, 0), (395, 67, 393, 394), (399, 67, 397, 398), (403, 69, 401, 402), (406, 67, 405, 0), (410, 68, 408, 409), (413, 80, 412, 0), (417, 68, 415, 416), (421, 69, 419, 420), (425, 69, 423, 424), (430, 69, 428, 429), (434, 68, 433, 0), (438, 68, 436, 437), (442, 68, 440, 441), (447, 67, 445, 446), (451, 69, 449, 450), (455, 68, 453, 454), (459, 68, 457, 458), (463, 67, 461, 462), (468, 67, 466, 467), (472, 67, 470, 471), (476, 67, 474, 475), (480, 68, 478, 479), (485, 67, 483, 484), (489, 67, 488, 1), (493, 67, 491, 492), (497, 67, 495, 496), (500, 67, 499, 0), (504, 67, 502, 503), (508, 67, 506, 507), (512, 67, 510, 511), (516, 67, 514, 515), (520, 69, 518, 519), (525, 69, 523, 524), (530, 67, 528, 529), (534, 69, 532, 533), (538, 67, 536, 537), (542, 69, 540, 541), (546, 69, 544, 545), (550, 69, 548, 549), (553, 80, 552, 0), (557, 67, 555, 556), (561, 67, 559, 560), (565, 67, 564, 2), (569, 70, 567, 568), (573, 70, 571, 572), (578, 70, 576, 577), (582, 67, 580, 581), (586, 67, 585, 3)] = true := by decide +kernel
set_option maxRecDepth 100000 in
theorem pm_mt1_ok : pm_okml pm_mt1 [(590, 67, 588, 589), (594, 67, 592, 593), (598, 67, 596, 597), (602, 67, 600, 601), (606, 70, 604, 605), (610, 67, 608, 609), (614, 72, 612, 613), (619, 67, 617, 618), (623, 72, 621, 622), (627, 72, 626, 4), (630, 80, 629, 0), (634, 72, 632, 633), (638, 72, 637, 5), (642, 67, 640, 641), (648, 67, 646, 647), (651, 81, 650, 0), (658, 67, 656, 657), (662, 70, 660, 661), (666, 67, 664, 665), (670, 70, 668, 669), (674, 67, 672, 673), (678, 73, 676, 677), (682, 73, 681, 6), (686, 73, 685, 7), (690, 73, 688, 689), (694, 67, 692, 693), (698, 73, 696, 697), (702, 80, 701, 0), (707, 67, 705, 706), (711, 73, 709, 710), (716, 67, 714, 715), (720, 70, 718, 719), (724, 70, 723, 8), (728, 67, 726, 727), (732, 67, 730, 731), (736, 70, 734, 735), (740, 67, 738, 739), (744, 73, 742, 743), (751, 67, 749, 750), (755, 73, 753, 754), (759, 67, 757, 758), (764, 74, 762, 763), (770, 67, 768, 769), (774, 74, 772, 773), (778, 67, 776, 777), (782, 74, 780, 781), (786, 67, 784, 785), (790, 74, 788, 789), (794, 74, 793, 9), (799, 74, 798, 10), (804, 74, 802, 803), (808, 67, 806, 807), (812, 74, 810, 811), (816, 70, 814, 815), (820, 74, 819, 11), (824, 67, 822, 823), (828, 74, 826, 827), (833, 67, 831, 832), (837, 74, 835, 836), (842, 67, 840, 841)] = true := by decide +kernel
set_option maxRecDepth 100000 in
theorem pm_mt2_ok : pm_okml pm_mt2 [(846, 67, 844, 845), (849, 75, 848, 0), (853, 75, 851, 852), (857, 75, 856, 12), (864, 75, 863, 13), (868, 75, 867, 14), (873, 67, 871, 872), (877, 67, 875, 876), (881, 67, 879, 880), (885, 76, 883, 884), (892, 67, 890, 891), (896, 67, 894, 895), (900, 76, 898, 899), (905, 76, 904, 15), (909, 67, 907, 908), (913, 76, 911, 912), (916, 76, 915, 0), (919, 76, 918, 0), (923, 67, 921, 922), (927, 76, 925, 926), (931, 76, 930, 16), (936, 67, 934, 935), (940, 77, 938, 939), (946, 67, 944, 945), (950, 77, 948, 949), (956, 77, 954, 955), (960, 77, 958, 959), (964, 77, 963, 17), (969, 67, 967, 968), (973, 68, 971, 972), (977, 67, 975, 976), (981, 67, 979, 980), (985, 67, 983, 984), (989, 68, 987, 988), (995, 69, 993, 994), (1000, 67, 998, 999), (1004, 68, 1002, 1003), (1008, 68, 1007, 18), (1013, 67, 1011, 1012), (1018, 78, 1016, 1017), (1022, 67, 1020, 1021), (1026, 67, 1024, 1025), (1030, 78, 1028, 1029), (1038, 67, 1036, 1037), (1042, 78, 1040, 1041), (1046, 67, 1044, 1045), (1051, 79, 1050, 0), (1141, 79, 1139, 1140), (1145, 79, 1144, 19), (1148, 79, 1147, 0), (1151, 79, 1150, 0), (1155, 79, 1154, 20), (1159, 79, 1158, 21), (1163, 79, 1162, 22), (1167, 79, 1166, 23), (1171, 79, 1170, 24), (1175, 79, 1174, 25), (1179, 79, 1178, 26), (1183, 79, 1182, 27), (1187, 79, 1185, 1186)] = true := by decide +kernel
set_option maxRecDepth 100000 in
theorem pm_mt3_ok : pm_okml pm_mt3 [(1191, 79, 1190, 28), (1195, 79, 1193, 1194), (1199, 79, 1197, 1198), (1203, 79, 1201, 1202), (1207, 79, 1206, 29), (1211, 79, 1210, 30), (1215, 79, 1214, 31), (1219, 79, 1217, 1218), (1223, 79, 1221, 1222), (1227, 79, 1225, 1226), (1231, 79, 1229, 1230), (1235, 79, 1233, 1234), (1239, 79, 1237, 1238), (1243, 79, 1241, 1242), (1247, 79, 1245, 1246), (1251, 79, 1249, 1250), (1255, 79, 1254, 32), (1259, 79, 1257, 1258), (1263, 79, 1262, 33), (1267, 79, 1265, 1266), (1271, 79, 1270, 34), (1275, 79, 1274, 35), (1279, 79, 1278, 36), (1283, 79, 1282, 37), (1287, 79, 1285, 1286), (1291, 79, 1289, 1290), (1295, 79, 1294, 38), (1298, 79, 1297, 0), (1302, 79, 1300, 1301), (1306, 79, 1305, 39), (1310, 79, 1308, 1309), (1314, 79, 1313, 40), (1318, 79, 1316, 1317), (1322, 79, 1320, 1321), (1326, 79, 1324, 1325), (1330, 79, 1328, 1329), (1334, 79, 1332, 1333), (1338, 79, 1336, 1337), (1342, 79, 1341, 41), (1347, 79, 1346, 42), (1351, 79, 1349, 1350), (1355, 79, 1354, 43), (1359, 79, 1358, 44), (1363, 79, 1361, 1362), (1367, 79, 1365, 1366), (1371, 79, 1369, 1370), (1375, 79, 1373, 1374), (1379, 79, 1378, 45), (1383, 79, 1382, 46), (1387, 79, 1386, 47), (1391, 79, 1390, 48), (1395, 79, 1393, 1394), (1399, 79, 1398, 49), (1403, 79, 1401, 1402), (1407, 79, 1405, 1406), (1412, 79, 1411, 50), (1416, 79, 1415, 51), (1420, 79, 1418, 1419), (1424, 79, 1422, 1423), (1428, 79, 1427, 52)] = true := by decide +kernel
set_option maxRecDepth 100000 in
theorem pm_mt4_ok : pm_okml pm_mt4 [(1432, 79, 1430, 1431), (1436, 79, 1435, 53), (1440, 79, 1438, 1439), (1444, 79, 1442, 1443), (1448, 79, 1446, 1447), (1452, 79, 1450, 1451), (1457, 79, 1455, 1456), (1461, 79, 1460, 54), (1465, 79, 1463, 1464), (1469, 79, 1467, 1468), (1473, 79, 1471, 1472), (1477, 79, 1475, 1476), (1482, 79, 1480, 1481), (1486, 79, 1485, 55), (1490, 79, 1488, 1489), (1494, 79, 1492, 1493), (1498, 79, 1496, 1497), (1502, 79, 1500, 1501), (1505, 79, 1504, 0), (1509, 79, 1508, 56), (1513, 79, 1512, 57), (1517, 79, 1516, 58), (1521, 79, 1519, 1520), (1525, 79, 1523, 1524), (1529, 79, 1527, 1528), (1533, 79, 1531, 1532), (1537, 79, 1535, 1536), (1541, 79, 1539, 1540), (1545, 79, 1544, 59), (1549, 79, 1548, 60), (1553, 79, 1551, 1552), (1557, 79, 1555, 1556), (1561, 79, 1559, 1560), (1565, 79, 1564, 61), (1569, 79, 1568, 62), (1573, 79, 1571, 1572), (1577, 79, 1576, 63), (1581, 79, 1579, 1580), (1585, 79, 1583, 1584), (1589, 79, 1588, 64), (1593, 79, 1592, 65), (1597, 79, 1595, 1596), (1601, 79, 1599, 1600)] = true := by decide +kernel
theorem pm_okml_mem {l : List pm_M} {ps : List (Nat × Nat × Nat × Nat)} (h : pm_okml l ps = true) : ∀ e ∈ l, ∃ p, pm_okm e p = true := by
  simp only [pm_okml, Bool.and_eq_true, List.all_eq_true, decide_eq_true_eq] at h
  intro e he
  obtain ⟨i, hi⟩ := List.getElem?_of_mem he
  have hl : i < l.length := (List.getElem?_eq_some_iff.mp hi).1
  have hp : i < ps.length := by omega
  refine ⟨ps[i], h.1 (e, ps[i]) ?_⟩
  refine List.mem_of_getElem? (i := i) ?_
  rw [List.getElem?_zip_eq_some]
  exact ⟨hi, List.getElem?_eq_getElem hp⟩
set_option maxRecDepth 100000 in
theorem pm_cw_ok : ∀ e ∈ pm_mt, pm_cw e := by
  intro e he
  simp only [pm_mt, List.mem_append] at he
  rcases he with h | h | h | h | h
  · exact pm_cw0 e h
  · exact pm_cw1 e h
  · exact pm_cw2 e h
  · exact pm_cw3 e h
  · exact pm_cw4 e h
set_option maxRecDepth 100000 in
theorem pm_mt_ok : ∀ e ∈ pm_mt, ∃ p, pm_okm e p = true := by
  intro e he
  simp only [pm_mt, List.mem_append] at he
  rcases he with h | h | h | h | h
  · exact pm_okml_mem pm_mt0_ok e h
  · exact pm_okml_mem pm_mt1_ok e h
  · exact pm_okml_mem pm_mt2_ok e h
  · exact pm_okml_mem pm_mt3_ok e h
  · exact pm_okml_mem pm_mt4_ok e h
def pm_fl : List (Nat × Nat × Nat × Nat) := [(0, 9, 0, 0), (0, 15, 0, 1), (0, 24, 7, 2), (0, 33, 2, 4), (0, 43, 2, 1), (0, 50, 2, 0), (0, 53, 0, 2), (0, 62, 7, 0), (1, 9, 1, 0), (1, 15, 1, 1), (1, 18, 1, 2), (1, 21, 1, 3), (1, 25, 1, 4), (1, 31, 7, 2), (1, 40, 7, 3), (1, 43, 7, 0), (1, 67, 2, 0), (1, 77, 2, 3), (2, 9, 2, 0), (2, 15, 2, 1), (2, 24, 2, 2), (2, 28, 2, 3), (2, 31, 2, 4), (2, 34, 2, 5), (2, 46, 7, 0), (3, 11, 3, 0), (3, 21, 7, 3), (3, 27, 7, 0), (3, 35, 2, 3), (4, 9, 4, 0), (4, 20, 7, 3), (4, 26, 7, 0), (4, 33, 2, 3), (4, 43, 2, 4), (4, 50, 7, 2), (4, 61, 4, 1), (4, 64, 4, 2), (5, 9, 5, 0), (5, 15, 5, 1), (5, 18, 5, 2), (5, 21, 5, 3), (5, 24, 5, 4), (5, 27, 5, 5), (5, 52, 2, 3), (5, 54, 2, 5), (6, 9, 6, 0), (6, 15, 6, 1), (6, 19, 6, 2), (6, 27, 7, 3), (6, 32, 7, 0), (6, 39, 2, 3), (6, 42, 2, 5), (6, 48, 6, 4), (6, 73, 7, 2), (6, 83, 6, 3), (7, 9, 7, 0), (7, 15, 7, 1), (7, 18, 7, 2), (7, 21, 7, 3), (8, 9, 8, 0), (8, 15, 8, 1), (8, 18, 8, 2), (8, 25, 8, 3), (8, 29, 8, 4), (8, 38, 7, 0), (8, 56, 7, 3), (8, 59, 7, 2), (9, 11, 9, 0), (9, 17, 9, 1), (9, 21, 9, 2), (9, 25, 9, 4), (9, 29, 9, 3), (9, 32, 9, 5), (9, 36, 7, 3), (9, 39, 9, 6), (9, 52, 7, 0), (9, 55, 7, 1), (9, 76, 7, 2), (9, 79, 7, 4), (9, 82, 9, 7), (10, 12, 10, 0), (10, 19, 10, 1), (10, 26, 10, 2), (10, 33, 10, 3), (10, 40, 10, 4), (10, 47, 10, 5), (10, 54, 10, 6), (10, 61, 10, 7), (10, 68, 10, 8), (10, 80, 9, 4), (10, 103, 7, 3), (10, 126, 7, 0), (10, 133, 2, 1), (10, 163, 9, 6), (10, 166, 9, 5), (10, 169, 9, 7), (10, 172, 5, 5), (10, 179, 2, 3), (10, 185, 2, 5), (10, 188, 2, 4), (10, 191, 2, 0), (10, 233, 2, 2), (10, 264, 6, 4), (10, 281, 6, 1), (10, 284, 6, 3), (10, 287, 7, 2), (10, 297, 8, 3), (10, 300, 8, 4), (10, 314, 4, 2), (10, 317, 4, 1), (10, 336, 7, 4), (10, 351, 5, 4), (11, 7, 11, 0), (11, 13, 11, 1), (11, 16, 11, 2), (11, 19, 11, 3), (11, 22, 11, 4), (11, 25, 11, 5), (11, 28, 11, 6), (11, 31, 11, 13), (11, 34, 11, 14), (11, 37, 11, 15), (11, 40, 11, 16), (11, 43, 11, 18), (11, 46, 11, 19), (11, 49, 11, 20), (11, 52, 11, 21), (11, 55, 11, 22), (11, 58, 11, 23), (11, 61, 11, 25), (11, 64, 11, 26), (11, 67, 11, 27), (11, 70, 11, 7), (11, 82, 11, 8), (11, 88, 11, 9), (11, 95, 11, 10), (11, 102, 11, 11), (11, 105, 11, 12), (11, 168, 11, 17), (11, 230, 11, 24)]
def pm_cT (ci : Nat) : vw_C := vwCl.getD ci (RX0, TX0, 0)
def pm_flw (q : Nat × Nat × Nat × Nat) : Cond := .fieldLink (pm_nm q.1) q.2.1 ((pm_cT q.2.2.1).2.1 q.2.2.2).1 ((pm_cT q.2.2.1).2.1 q.2.2.2).2.1 ((pm_cT q.2.2.1).2.1 q.2.2.2).2.2.1
theorem pm_zip {α : Type} {f : α → Nat → Bool} {l : List α} {ps : List Nat} (h : ((l.zip ps).all (fun q => f q.1 q.2) && decide (l.length = ps.length)) = true) : ∀ e ∈ l, ∃ p, f e p = true := by
  simp only [Bool.and_eq_true, List.all_eq_true, decide_eq_true_eq] at h
  intro e he
  obtain ⟨i, hi⟩ := List.getElem?_of_mem he
  have hl : i < l.length := (List.getElem?_eq_some_iff.mp hi).1
  have hp : i < ps.length := by omega
  refine ⟨ps[i], h.1 (e, ps[i]) ?_⟩
  refine List.mem_of_getElem? (i := i) ?_
  rw [List.getElem?_zip_eq_some]
  exact ⟨hi, List.getElem?_eq_getElem hp⟩
set_option maxRecDepth 100000 in
theorem pm_fl_k : ((pm_fl.zip [226, 227, 116, 201, 188, 184, 228, 110, 242, 243, 244, 245, 246, 119, 130, 111, 185, 197, 183, 187, 190, 192, 199, 203, 109, 333, 124, 104, 193, 313, 125, 105, 194, 200, 118, 314, 316, 343, 344, 345, 346, 347, 349, 195, 204, 264, 265, 267, 128, 107, 196, 205, 270, 121, 268, 103, 113, 115, 123, 289, 290, 291, 292, 294, 106, 127, 117, 145, 146, 147, 149, 148, 151, 126, 153, 108, 114, 120, 131, 155, 364, 365, 366, 367, 368, 369, 370, 371, 372, 150, 129, 112, 189, 154, 152, 156, 350, 198, 206, 202, 186, 191, 271, 266, 269, 122, 293, 295, 317, 315, 132, 348, 1053, 1054, 1055, 1056, 1057, 1058, 1059, 1066, 1067, 1068, 1069, 1071, 1072, 1073, 1074, 1075, 1076, 1078, 1079, 1080, 1060, 1061, 1062, 1063, 1064, 1065, 1070, 1077]).all (fun q => pm_in (pm_flw q.1) q.2 && decide (q.1.2.2.1 < 12 ∧ q.1.2.2.2 < (pm_cT q.1.2.2.1).2.2)) && decide (pm_fl.length = 140)) = true := by decide +kernel
set_option maxRecDepth 100000 in
theorem pm_fl_ok : ∀ q ∈ pm_fl, pm_flw q ∈ pm_W ∧ q.2.2.1 < 12 ∧ q.2.2.2 < (pm_cT q.2.2.1).2.2 := by
  intro q hq
  obtain ⟨p, hp⟩ := pm_zip (f := fun (q : Nat × Nat × Nat × Nat) (i : Nat) => pm_in (pm_flw q) i && decide (q.2.2.1 < 12 ∧ q.2.2.2 < (pm_cT q.2.2.1).2.2)) pm_fl_k q hq
  simp only [Bool.and_eq_true, decide_eq_true_eq] at hp
  exact ⟨pm_in_ok hp.1, hp.2⟩
def pm_ml : List (Nat × Nat × Nat) := [(0, 18, 4), (0, 29, 69), (0, 39, 71), (0, 46, 72), (0, 56, 70), (1, 28, 82), (1, 36, 83), (1, 46, 4), (1, 52, 87), (1, 58, 51), (1, 61, 55), (1, 70, 56), (1, 73, 57), (1, 80, 70), (2, 18, 4), (2, 37, 56), (2, 40, 19), (2, 49, 57), (2, 53, 92), (3, 16, 56), (3, 31, 57), (3, 38, 4), (3, 44, 51), (3, 50, 147), (3, 54, 145), (4, 15, 56), (4, 29, 57), (4, 36, 113), (4, 39, 55), (4, 46, 133), (4, 53, 136), (4, 57, 137), (4, 67, 140), (4, 71, 51), (5, 31, 46), (5, 37, 87), (5, 43, 51), (5, 46, 55), (6, 22, 56), (6, 35, 57), (6, 45, 108), (6, 51, 4), (6, 57, 109), (6, 61, 87), (6, 66, 113), (6, 69, 114), (6, 76, 51), (6, 79, 55), (7, 25, 19), (7, 29, 21), (7, 33, 20), (7, 36, 46), (7, 39, 51), (8, 21, 123), (8, 32, 19), (8, 41, 75), (8, 47, 124), (8, 50, 4), (8, 62, 125), (8, 66, 51), (9, 42, 17), (9, 48, 19), (9, 58, 20), (9, 62, 22), (9, 66, 23), (9, 70, 4), (9, 85, 46), (9, 88, 149), (9, 92, 154), (9, 95, 157), (9, 99, 44), (10, 11, 1), (10, 18, 3), (10, 72, 15), (10, 76, 13), (10, 84, 26), (10, 89, 27), (10, 92, 16), (10, 95, 18), (10, 99, 28), (10, 107, 24), (10, 111, 14), (10, 115, 23), (10, 118, 33), (10, 122, 35), (10, 130, 38), (10, 136, 43), (10, 140, 21), (10, 143, 44), (10, 147, 46), (10, 150, 48), (10, 153, 49), (10, 156, 50), (10, 159, 54), (10, 175, 55), (10, 182, 59), (10, 194, 64), (10, 197, 66), (10, 201, 68), (10, 206, 71), (10, 209, 75), (10, 214, 77), (10, 217, 79), (10, 220, 81), (10, 223, 84), (10, 226, 86), (10, 229, 89), (10, 236, 91), (10, 239, 95), (10, 242, 97), (10, 245, 99), (10, 248, 19), (10, 251, 101), (10, 254, 103), (10, 257, 105), (10, 260, 107), (10, 267, 110), (10, 270, 112), (10, 274, 116), (10, 278, 118), (10, 290, 121), (10, 293, 122), (10, 301, 129), (10, 305, 132), (10, 308, 135), (10, 311, 139), (10, 320, 142), (10, 323, 144), (10, 326, 145), (10, 329, 146), (10, 332, 149), (10, 339, 153), (10, 342, 156), (10, 346, 154), (10, 349, 159), (10, 353, 162), (10, 357, 164), (11, 74, 169), (11, 78, 174), (11, 85, 173), (11, 91, 175), (11, 98, 177), (11, 108, 178), (11, 112, 172), (11, 115, 176), (11, 119, 168), (11, 122, 170), (11, 125, 171), (11, 129, 180), (11, 133, 184), (11, 136, 185), (11, 139, 186), (11, 142, 196), (11, 145, 198), (11, 148, 200), (11, 152, 201), (11, 155, 202), (11, 158, 203), (11, 161, 206), (11, 165, 207), (11, 171, 209), (11, 174, 211), (11, 178, 219), (11, 181, 218), (11, 184, 222), (11, 188, 221), (11, 191, 228), (11, 194, 229), (11, 197, 227), (11, 200, 230), (11, 203, 232), (11, 206, 197), (11, 209, 235), (11, 212, 236), (11, 215, 239), (11, 218, 241), (11, 223, 247), (11, 227, 253), (11, 233, 261), (11, 236, 260), (11, 239, 258), (11, 242, 259), (11, 245, 268), (11, 248, 269), (11, 251, 274), (11, 255, 273), (11, 258, 276), (11, 261, 279), (11, 264, 280), (12, 9, 0), (12, 12, 166), (12, 13, 12), (12, 17, 167), (12, 18, 25), (12, 21, 183), (12, 22, 29), (12, 25, 187), (12, 26, 13), (12, 30, 179), (12, 31, 30), (12, 34, 188), (12, 35, 31), (12, 38, 189), (12, 39, 32), (12, 42, 190), (12, 43, 34), (12, 47, 191), (12, 48, 36), (12, 51, 192), (12, 52, 37), (12, 55, 181), (12, 56, 39), (12, 59, 182), (12, 60, 40), (12, 63, 193), (12, 64, 41), (12, 67, 194), (12, 68, 42), (12, 71, 195), (12, 72, 45), (12, 76, 197), (12, 77, 47), (12, 80, 199), (12, 81, 52), (12, 84, 204), (12, 85, 53), (12, 88, 205), (12, 89, 58), (12, 92, 208), (12, 93, 60), (12, 96, 210), (12, 97, 61), (12, 100, 212), (12, 101, 62), (12, 104, 213), (12, 105, 63), (12, 108, 214), (12, 109, 65), (12, 112, 217), (12, 113, 67), (12, 116, 220), (12, 117, 73), (12, 120, 223), (12, 121, 74), (12, 125, 224), (12, 126, 76), (12, 129, 215), (12, 130, 78), (12, 133, 216), (12, 134, 80), (12, 137, 225), (12, 138, 85), (12, 141, 238), (12, 142, 88), (12, 145, 240), (12, 146, 90), (12, 149, 242), (12, 150, 93), (12, 153, 243), (12, 154, 94), (12, 157, 244), (12, 158, 96), (12, 161, 245), (12, 162, 98), (12, 165, 246), (12, 166, 100), (12, 169, 248), (12, 170, 102), (12, 173, 249), (12, 174, 104), (12, 177, 250), (12, 178, 106), (12, 181, 251), (12, 182, 111), (12, 185, 252), (12, 186, 115), (12, 189, 254), (12, 190, 117), (12, 193, 255), (12, 194, 119), (12, 197, 256), (12, 198, 120), (12, 201, 257), (12, 202, 126), (12, 205, 262), (12, 206, 127), (12, 209, 263), (12, 210, 128), (12, 213, 264), (12, 214, 130), (12, 218, 265), (12, 219, 131), (12, 222, 266), (12, 223, 134), (12, 226, 267), (12, 227, 138), (12, 230, 270), (12, 231, 141), (12, 234, 271), (12, 235, 143), (12, 238, 272), (12, 239, 148), (12, 242, 226), (12, 243, 150), (12, 246, 231), (12, 247, 151), (12, 250, 233), (12, 251, 152), (12, 254, 234), (12, 255, 155), (12, 258, 237), (12, 259, 158), (12, 262, 275), (12, 263, 160), (12, 266, 277), (12, 267, 161), (12, 271, 278), (12, 272, 163), (12, 275, 281), (12, 276, 165), (12, 279, 282)]
set_option maxRecDepth 100000 in
theorem pm_ml_k : ((pm_ml.zip [615, 624, 631, 635, 628, 679, 683, 699, 700, 703, 712, 745, 746, 747, 180, 570, 574, 575, 721, 941, 942, 951, 952, 961, 965, 886, 887, 888, 901, 902, 914, 917, 928, 932, 1031, 1032, 1033, 1034, 765, 766, 791, 795, 796, 800, 813, 817, 829, 838, 426, 427, 526, 996, 551, 854, 859, 860, 861, 858, 865, 869, 411, 418, 422, 431, 481, 443, 990, 991, 992, 1005, 1009, 92, 176, 404, 396, 448, 452, 407, 414, 456, 439, 400, 435, 477, 486, 498, 517, 521, 522, 531, 539, 543, 547, 562, 566, 583, 603, 611, 620, 644, 649, 659, 667, 675, 687, 695, 708, 717, 733, 741, 752, 760, 761, 771, 779, 787, 801, 809, 825, 834, 847, 850, 882, 897, 910, 924, 937, 947, 953, 957, 970, 986, 1001, 1014, 1015, 1027, 1039, 1146, 1164, 1160, 1168, 1176, 1180, 1156, 1172, 1142, 1149, 1152, 1188, 1204, 1208, 1212, 1252, 1260, 1268, 1272, 1276, 1280, 1292, 1296, 1303, 1311, 1344, 1339, 1356, 1352, 1380, 1384, 1376, 1388, 1396, 1408, 1409, 1413, 1425, 1433, 1458, 1483, 1514, 1510, 1503, 1506, 1542, 1546, 1566, 1562, 1574, 1586, 1590, 84, 1049, 392, 1138, 444, 1200, 460, 1216, 464, 1184, 465, 1220, 469, 1224, 473, 1228, 482, 1232, 490, 1236, 494, 1192, 501, 1196, 505, 1240, 509, 1244, 513, 1248, 527, 1256, 535, 1264, 554, 1284, 558, 1288, 579, 1299, 587, 1307, 591, 1315, 595, 1319, 599, 1323, 607, 1335, 616, 1348, 639, 1360, 645, 1364, 655, 1327, 663, 1331, 671, 1368, 691, 1421, 704, 1429, 713, 1437, 725, 1441, 729, 1445, 737, 1449, 748, 1454, 756, 1462, 767, 1466, 775, 1470, 783, 1474, 805, 1479, 821, 1487, 830, 1491, 839, 1495, 843, 1499, 870, 1518, 874, 1522, 878, 1526, 889, 1530, 893, 1534, 906, 1538, 920, 1550, 933, 1554, 943, 1558, 966, 1372, 974, 1392, 978, 1400, 982, 1404, 997, 1417, 1010, 1570, 1019, 1578, 1023, 1582, 1035, 1594, 1043, 1598]).all (fun q => pm_in (.methodLink (pm_nm q.1.1) q.1.2.1 (pm_me q.1.2.2).1) q.2 && decide (q.1.2.2 < 283)) && decide (pm_ml.length = 321)) = true := by decide +kernel
set_option maxRecDepth 100000 in
theorem pm_ml_ok : ∀ q ∈ pm_ml, Cond.methodLink (pm_nm q.1) q.2.1 (pm_me q.2.2).1 ∈ pm_W ∧ q.2.2 < 283 := by
  intro q hq
  obtain ⟨p, hp⟩ := pm_zip (f := fun (q : Nat × Nat × Nat) (i : Nat) => pm_in (.methodLink (pm_nm q.1) q.2.1 (pm_me q.2.2).1) i && decide (q.2.2 < 283)) pm_ml_k q hq
  simp only [Bool.and_eq_true, decide_eq_true_eq] at hp
  exact ⟨pm_in_ok hp.1, hp.2⟩
set_option maxRecDepth 100000 in
theorem pm_mt_len : pm_mt.length = 283 := by decide +kernel
set_option maxRecDepth 100000 in
theorem pm_me_mem {n : Nat} (h : n < 283) : pm_me n ∈ pm_mt := by
  have h1 : n < pm_mt.length := by rw [pm_mt_len]; exact h
  have h2 : pm_me n = pm_mt[n] := by simp [pm_me, List.getD_eq_getElem?_getD, h1]
  rw [h2]
  exact List.getElem_mem h1
def pm_ol : List (Nat × Nat) := [(0, 3), (1, 3), (2, 3), (3, 3), (4, 3), (5, 3), (6, 3), (7, 3), (8, 3), (9, 3), (10, 3), (11, 1)]
set_option maxRecDepth 100000 in
theorem pm_ol_k : ((pm_ol.zip [225, 241, 179, 330, 312, 342, 263, 102, 288, 95, 87, 1052]).all (fun q => pm_in (.methodLink (pm_nm q.1.1) q.1.2 objectInit) q.2) && decide (pm_ol.length = 12)) = true := by decide +kernel
set_option maxRecDepth 100000 in
theorem pm_ol_ok : ∀ q ∈ pm_ol, Cond.methodLink (pm_nm q.1) q.2 objectInit ∈ pm_W := by
  intro q hq
  obtain ⟨p, hp⟩ := pm_zip (f := fun (q : Nat × Nat) (i : Nat) => pm_in (.methodLink (pm_nm q.1) q.2 objectInit) i) pm_ol_k q hq
  exact pm_in_ok hp
set_option maxRecDepth 100000 in
theorem pm_oi : Cond.instanceMethod objectInit ∈ pm_W := pm_in_ok (i := 88) (by decide +kernel)
set_option maxRecDepth 100000 in
theorem pm_oc : Cond.code objectInit ⟨#[0xb1]⟩ 1 none ∈ pm_W := pm_in_ok (i := 89) (by decide +kernel)
def pm_nl2 : List (Nat × Nat × Nat × Nat) := [(9, 24, 2, 10), (10, 25, 5, 10), (10, 32, 6, 10), (10, 39, 7, 10), (10, 46, 8, 10), (10, 53, 9, 10), (10, 60, 10, 10), (10, 67, 11, 10)]
def pm_nlw (q : Nat × Nat × Nat × Nat) : Cond := .methodLinkNest (pm_nm q.1) q.2.1 (pm_me q.2.2.1).1 (pm_nm q.2.2.2)
set_option maxRecDepth 100000 in
theorem pm_nl2_k : ((pm_nl2.zip [99, 222, 238, 260, 285, 309, 327, 339]).all (fun q => decide (lw_tbl[q.2]? = some (pm_nlw q.1)) && decide (q.1.2.2.1 < 283)) && decide (pm_nl2.length = 8)) = true := by decide +kernel
set_option maxRecDepth 100000 in
theorem pm_nl2_ok : ∀ q ∈ pm_nl2, pm_nlw q ∈ lw_tbl ∧ q.2.2.1 < 283 := by
  intro q hq
  obtain ⟨p, hp⟩ := pm_zip (f := fun (q : Nat × Nat × Nat × Nat) (i : Nat) => decide (lw_tbl[i]? = some (pm_nlw q)) && decide (q.2.2.1 < 283)) pm_nl2_k q hq
  simp only [Bool.and_eq_true, decide_eq_true_eq] at hp
  exact ⟨List.mem_of_getElem? hp.1, hp.2⟩
def pm_cl : List (Nat × Nat × Nat) := [(9, 9, 7), (10, 9, 9), (10, 16, 2), (10, 23, 0), (10, 30, 1), (10, 37, 6), (10, 44, 8), (10, 51, 4), (10, 58, 3), (10, 65, 5), (12, 7, 10), (12, 10, 11)]
set_option maxRecDepth 100000 in
theorem pm_cl_k : ((pm_cl.zip [96, 90, 174, 220, 236, 258, 283, 307, 325, 337, 82, 1047]).all (fun q => pm_in (.classLink (pm_nm q.1.1) q.1.2.1 (pm_nm q.1.2.2)) q.2 && decide (q.1.2.2 < 12)) && decide (pm_cl.length = 12)) = true := by decide +kernel
set_option maxRecDepth 100000 in
theorem pm_cl_ok : ∀ q ∈ pm_cl, Cond.classLink (pm_nm q.1) q.2.1 (pm_nm q.2.2) ∈ pm_W ∧ q.2.2 < 12 := by
  intro q hq
  obtain ⟨p, hp⟩ := pm_zip (f := fun (q : Nat × Nat × Nat) (i : Nat) => pm_in (.classLink (pm_nm q.1) q.2.1 (pm_nm q.2.2)) i && decide (q.2.2 < 12)) pm_cl_k q hq
  simp only [Bool.and_eq_true, decide_eq_true_eq] at hp
  exact ⟨pm_in_ok hp.1, hp.2⟩
set_option maxRecDepth 100000 in
theorem pm_ci_k : (((List.range 12).zip [221, 237, 175, 326, 308, 338, 259, 98, 284, 91, 83, 1048]).all (fun q => pm_in (.instantiable (pm_cT q.1).1 (pm_cT q.1).2.2) q.2 && decide (pm_nm q.1 = (pm_cT q.1).1)) && decide ((List.range 12).length = 12)) = true := by decide +kernel
set_option maxRecDepth 100000 in
theorem pm_ci_ok : ∀ ci, ci < 12 → Cond.instantiable (pm_cT ci).1 (pm_cT ci).2.2 ∈ pm_W ∧ pm_nm ci = (pm_cT ci).1 := by
  intro ci h
  obtain ⟨p, hp⟩ := pm_zip (f := fun (ci : Nat) (i : Nat) => pm_in (.instantiable (pm_cT ci).1 (pm_cT ci).2.2) i && decide (pm_nm ci = (pm_cT ci).1)) pm_ci_k ci (List.mem_range.mpr h)
  simp only [Bool.and_eq_true, decide_eq_true_eq] at hp
  exact ⟨pm_in_ok hp.1, hp.2⟩
set_option maxRecDepth 100000 in
theorem pm_cz_k : (((List.range 12).zip [72, 73, 70, 77, 76, 78, 74, 69, 75, 68, 67, 79]).all (fun q => pm_in (.initialized (pm_cT q.1).1) q.2) && decide ((List.range 12).length = 12)) = true := by decide +kernel
set_option maxRecDepth 100000 in
theorem pm_cz_ok : ∀ ci, ci < 12 → Cond.initialized (pm_cT ci).1 ∈ pm_W := by
  intro ci h
  obtain ⟨p, hp⟩ := pm_zip (f := fun (ci : Nat) (i : Nat) => pm_in (.initialized (pm_cT ci).1) i) pm_cz_k ci (List.mem_range.mpr h)
  exact pm_in_ok hp
set_option maxRecDepth 100000 in
theorem pm_mal : Cond.classLink (pm_nm 3) 9 "[[I" ∈ pm_W := pm_in_ok (i := 331) (by decide +kernel)
set_option maxRecDepth 100000 in
theorem pm_arc : Cond.arrayClass .int ∈ pm_W := pm_in_ok (i := 144) (by decide +kernel)
set_option maxRecDepth 100000 in
theorem pm_ovM : Cond.arrayOver (.array .int) ∈ lw_tbl := List.mem_of_getElem? (i := 332) (by decide +kernel)
set_option maxRecDepth 100000 in
theorem pm_ovR : Cond.arrayOver (.object RX7) ∈ lw_tbl := List.mem_of_getElem? (i := 97) (by decide +kernel)
def pm_kl : List (Nat × Nat × Int32) := [(10, 205, 16777215), (11, 177, -268435456), (11, 222, 268435456), (11, 226, 16777215), (13, 265, 1431655765), (13, 266, 858993459), (13, 267, 252645135)]
set_option maxRecDepth 100000 in
theorem pm_kl_k : ((pm_kl.zip [643, 1343, 1453, 1478, 652, 653, 654]).all (fun q => pm_in (.constant (pm_nm q.1.1) q.1.2.1 q.1.2.2) q.2) && decide (pm_kl.length = 7)) = true := by decide +kernel
set_option maxRecDepth 100000 in
theorem pm_kl_ok : ∀ q ∈ pm_kl, Cond.constant (pm_nm q.1) q.2.1 q.2.2 ∈ pm_W := by
  intro q hq
  obtain ⟨p, hp⟩ := pm_zip (f := fun (q : Nat × Nat × Int32) (i : Nat) => pm_in (.constant (pm_nm q.1) q.2.1 q.2.2) i) pm_kl_k q hq
  exact pm_in_ok hp
def pm_tys (ci : Nat) : Nat → FieldType := match ci with
  | 0 => tyX0
  | 1 => tyX1
  | 2 => tyX2
  | 3 => tyX3
  | 4 => tyX4
  | 5 => tyX5
  | 6 => tyX6
  | 7 => tyX7
  | 8 => tyX8
  | 9 => tyX9
  | 10 => tyX10
  | _ => tyX11
set_option maxRecDepth 100000 in
theorem pm_ty_ok : ∀ ci, ci < 12 → ∀ k, k < (pm_cT ci).2.2 → parseFieldDescriptor ((pm_cT ci).2.1 k).2.2.1 = some (pm_tys ci k) := by
  intro ci h
  rcases (show ci = 0 ∨ ci = 1 ∨ ci = 2 ∨ ci = 3 ∨ ci = 4 ∨ ci = 5 ∨ ci = 6 ∨ ci = 7 ∨ ci = 8 ∨ ci = 9 ∨ ci = 10 ∨ ci = 11 by omega) with rfl | rfl | rfl | rfl | rfl | rfl | rfl | rfl | rfl | rfl | rfl | rfl
  · exact tyX0_ok
  · exact tyX1_ok
  · exact tyX2_ok
  · exact tyX3_ok
  · exact tyX4_ok
  · exact tyX5_ok
  · exact tyX6_ok
  · exact tyX7_ok
  · exact tyX8_ok
  · exact tyX9_ok
  · exact tyX10_ok
  · exact tyX11_ok
set_option maxRecDepth 100000 in
theorem pm_nm_ok : ∀ ci, ci < 12 → ∀ a, a < (pm_cT ci).2.2 → ∀ b, b < (pm_cT ci).2.2 → a ≠ b → ((pm_cT ci).2.1 a).2.1 ≠ ((pm_cT ci).2.1 b).2.1 := by
  intro ci h
  rcases (show ci = 0 ∨ ci = 1 ∨ ci = 2 ∨ ci = 3 ∨ ci = 4 ∨ ci = 5 ∨ ci = 6 ∨ ci = 7 ∨ ci = 8 ∨ ci = 9 ∨ ci = 10 ∨ ci = 11 by omega) with rfl | rfl | rfl | rfl | rfl | rfl | rfl | rfl | rfl | rfl | rfl | rfl
  · exact nmX0
  · exact nmX1
  · exact nmX2
  · exact nmX3
  · exact nmX4
  · exact nmX5
  · exact nmX6
  · exact nmX7
  · exact nmX8
  · exact nmX9
  · exact nmX10
  · exact nmX11
set_option maxRecDepth 100000 in
theorem pm_u0 : (((u_ws RX0 TX0 3).zip [229, 231, 233]).all (fun q => pm_in q.1 q.2) && decide ((u_ws RX0 TX0 3).length = 3)) = true := by decide +kernel
set_option maxRecDepth 100000 in
theorem pm_u1 : (((u_ws RX1 TX1 5).zip [247, 249, 251, 253, 255]).all (fun q => pm_in q.1 q.2) && decide ((u_ws RX1 TX1 5).length = 5)) = true := by decide +kernel
set_option maxRecDepth 100000 in
theorem pm_u2 : (((u_ws RX2 TX2 6).zip [207, 209, 211, 213, 215, 217]).all (fun q => pm_in q.1 q.2) && decide ((u_ws RX2 TX2 6).length = 6)) = true := by decide +kernel
set_option maxRecDepth 100000 in
theorem pm_u3 : (((u_ws RX3 TX3 1).zip [334]).all (fun q => pm_in q.1 q.2) && decide ((u_ws RX3 TX3 1).length = 1)) = true := by decide +kernel
set_option maxRecDepth 100000 in
theorem pm_u4 : (((u_ws RX4 TX4 3).zip [318, 320, 322]).all (fun q => pm_in q.1 q.2) && decide ((u_ws RX4 TX4 3).length = 3)) = true := by decide +kernel
set_option maxRecDepth 100000 in
theorem pm_u5 : (((u_ws RX5 TX5 6).zip [351, 353, 355, 357, 359, 361]).all (fun q => pm_in q.1 q.2) && decide ((u_ws RX5 TX5 6).length = 6)) = true := by decide +kernel
set_option maxRecDepth 100000 in
theorem pm_u6 : (((u_ws RX6 TX6 5).zip [272, 274, 276, 278, 280]).all (fun q => pm_in q.1 q.2) && decide ((u_ws RX6 TX6 5).length = 5)) = true := by decide +kernel
set_option maxRecDepth 100000 in
theorem pm_u7 : (((u_ws RX7 TX7 5).zip [133, 135, 137, 139, 141]).all (fun q => pm_in q.1 q.2) && decide ((u_ws RX7 TX7 5).length = 5)) = true := by decide +kernel
set_option maxRecDepth 100000 in
theorem pm_u8 : (((u_ws RX8 TX8 5).zip [296, 298, 300, 302, 304]).all (fun q => pm_in q.1 q.2) && decide ((u_ws RX8 TX8 5).length = 5)) = true := by decide +kernel
set_option maxRecDepth 100000 in
theorem pm_u9 : (((u_ws RX9 TX9 8).zip [157, 159, 161, 163, 165, 167, 169, 171]).all (fun q => pm_in q.1 q.2) && decide ((u_ws RX9 TX9 8).length = 8)) = true := by decide +kernel
set_option maxRecDepth 100000 in
theorem pm_u10 : (((u_ws RX10 TX10 9).zip [373, 375, 377, 379, 381, 383, 385, 387, 389]).all (fun q => pm_in q.1 q.2) && decide ((u_ws RX10 TX10 9).length = 9)) = true := by decide +kernel
set_option maxRecDepth 100000 in
theorem pm_u11 : (((u_ws RX11 TX11 28).zip [1081, 1083, 1085, 1087, 1089, 1091, 1093, 1095, 1097, 1099, 1101, 1103, 1105, 1107, 1109, 1111, 1113, 1115, 1117, 1119, 1121, 1123, 1125, 1127, 1129, 1131, 1133, 1135]).all (fun q => pm_in q.1 q.2) && decide ((u_ws RX11 TX11 28).length = 28)) = true := by decide +kernel
set_option maxRecDepth 100000 in
theorem pm_u_ok : ∀ ci, ci < 12 → ∀ w ∈ u_ws (pm_cT ci).1 (pm_cT ci).2.1 (pm_cT ci).2.2, w ∈ pm_W := by
  intro ci h
  rcases (show ci = 0 ∨ ci = 1 ∨ ci = 2 ∨ ci = 3 ∨ ci = 4 ∨ ci = 5 ∨ ci = 6 ∨ ci = 7 ∨ ci = 8 ∨ ci = 9 ∨ ci = 10 ∨ ci = 11 by omega) with rfl | rfl | rfl | rfl | rfl | rfl | rfl | rfl | rfl | rfl | rfl | rfl
  · exact fun w hw => (pm_zip (f := fun (w : Cond) (i : Nat) => pm_in w i) pm_u0 w hw).elim (fun _ h => pm_in_ok h)
  · exact fun w hw => (pm_zip (f := fun (w : Cond) (i : Nat) => pm_in w i) pm_u1 w hw).elim (fun _ h => pm_in_ok h)
  · exact fun w hw => (pm_zip (f := fun (w : Cond) (i : Nat) => pm_in w i) pm_u2 w hw).elim (fun _ h => pm_in_ok h)
  · exact fun w hw => (pm_zip (f := fun (w : Cond) (i : Nat) => pm_in w i) pm_u3 w hw).elim (fun _ h => pm_in_ok h)
  · exact fun w hw => (pm_zip (f := fun (w : Cond) (i : Nat) => pm_in w i) pm_u4 w hw).elim (fun _ h => pm_in_ok h)
  · exact fun w hw => (pm_zip (f := fun (w : Cond) (i : Nat) => pm_in w i) pm_u5 w hw).elim (fun _ h => pm_in_ok h)
  · exact fun w hw => (pm_zip (f := fun (w : Cond) (i : Nat) => pm_in w i) pm_u6 w hw).elim (fun _ h => pm_in_ok h)
  · exact fun w hw => (pm_zip (f := fun (w : Cond) (i : Nat) => pm_in w i) pm_u7 w hw).elim (fun _ h => pm_in_ok h)
  · exact fun w hw => (pm_zip (f := fun (w : Cond) (i : Nat) => pm_in w i) pm_u8 w hw).elim (fun _ h => pm_in_ok h)
  · exact fun w hw => (pm_zip (f := fun (w : Cond) (i : Nat) => pm_in w i) pm_u9 w hw).elim (fun _ h => pm_in_ok h)
  · exact fun w hw => (pm_zip (f := fun (w : Cond) (i : Nat) => pm_in w i) pm_u10 w hw).elim (fun _ h => pm_in_ok h)
  · exact fun w hw => (pm_zip (f := fun (w : Cond) (i : Nat) => pm_in w i) pm_u11 w hw).elim (fun _ h => pm_in_ok h)
end
section
/-! a contract over the pure cells, and what a block of instructions wants of the state ahead of it -/
def pm_hold (g : pm_G) (A : pm_H) (H : Heap) : Prop := ∀ (a : Nat) (e : va_E), A a = some e → va_at g.1 vwCl (a, e) H
def pm_ty (g : pm_G) : List (ClassId × FieldType) := [(g.2.1, .int), (g.2.2.1, .object RX7), (g.2.2.2, .array .int)]
def pm_AM (U : State) : Prop := (Cond.arrayOver (.array .int)).before #[] U = true
def pm_K (g : pm_G) (U : State) : Prop := va_K g.1 vwCl (pm_ty g) U ∧ va_AO RX7 U ∧ pm_AM U ∧ ∀ q ∈ pm_nl2, va_Nw (pm_nlw q) U
def pm_fr (A : pm_H) (sz : Nat) : Nat → Prop := fun q => A q ≠ none ∨ sz ≤ q
def pm_ws (n : Nat) : List Cond := .code (pm_me n).1 (pm_me n).2.1 (pm_me n).2.2.1 (pm_me n).2.2.2.1 :: pm_W
def pm_Qc (g : pm_G) (A : pm_H) (sz : Nat) (Q : Option Value → pm_H → Prop) : Array Value → State → Outcome → State → Prop := fun _ st o t =>
  ∃ (r : Option Value) (A' : pm_H), o = .returned r ∧ Q r A' ∧ pm_hold g A' t.heap ∧ (∀ q, A' q ≠ none → pm_fr A sz q) ∧ st.heap.size ≤ t.heap.size ∧ ∀ q, q < st.heap.size → ¬ pm_fr A sz q → t.heap[q]? = st.heap[q]?
/-- method n, called with these arguments over these cells, ends, with Q of its answer and of the cells; at most mc cells of ms slots are new; depth d -/
def pm_Mt (l : Launch) (g : pm_G) (n d mc ms : Nat) (as : List Value) (A : pm_H) (Q : Option Value → pm_H → Prop) : Prop :=
  ∀ sz : Nat, Met l (pm_me n).1 (pm_ws n) ({ frames := d, cells := mc, slots := ms, locals := 40 * d }) (va_Pc as (fun U => U.heap.size = sz ∧ pm_hold g A U.heap ∧ pm_K g U)) (pm_Qc g A sz Q) mc ms (pm_fr A sz)
def pm_pop : Nat → List Value → List Value → Option (List Value × List Value)
  | 0, st, acc => some (acc, st)
  | k + 1, v :: st, acc => pm_pop k st (v :: acc)
  | _ + 1, [], _ => none
def pm_rm (rest : List Value) : Bool := Nat.ble (rest.map fun v => v.category).sum 8
def pm_vk : Nat → Value → Bool
  | 0, .int _ => true
  | 1, .ref _ => true
  | 1, .null => true
  | _, _ => false
def pm_at : List Value → Nat → Option Value
  | [], _ => none
  | v :: _, 0 => some v
  | _ :: r, k + 1 => pm_at r k
def pm_rd (g : pm_G) (ro : Nat → Option (Nat × (Nat → Int32))) (A : pm_H) (a n : Nat) (f : Nat → Int32) : Prop := A a = some (pm_ia g n f) ∨ ro a = some (n, f)
def pm_sw (pc : Nat) (dflt lo hi : Int) (offs : Array Int) (x : Int32) (t : Nat) : Prop := ((x.toInt < lo ∨ hi < x.toInt) ∧ t = ((pc : Int) + dflt).toNat) ∨ (¬ x.toInt < lo ∧ ¬ hi < x.toInt ∧ ∃ off, offs[(x.toInt - lo).toNat]? = some off ∧ t = ((pc : Int) + off).toNat)
def pm_df (ci : Nat) : List Value := (List.range (pm_cT ci).2.2).map (fun k => defaultValue (pm_tys ci k))
def pm_upm (g : pm_G) (A : pm_H) (a : Nat) (r : Nat → Nat) (N K : Nat) : pm_H := fun q => if q = a then some (pm_ma g N (fun j => if j < N then some (r j) else none)) else if ∃ j, j < N ∧ q = r j then some (pm_ia g K (fun _ => 0)) else A q
/-- a call: its arguments, what is left below them -/
def pm_call (l : Launch) (g : pm_G) (d mc ms n : Nat) (as rest : List Value) (A : pm_H) (c s : Nat) (kk : List Value → pm_H → Nat → Nat → Prop) : Prop :=
  ∃ (d' mc' ms' : Nat) (Q' : Option Value → pm_H → Prop), pm_Mt l g n d' mc' ms' as A Q' ∧ (Nat.blt d' d && (Nat.ble (c + mc') mc && (Nat.ble (s + ms') ms && pm_rm rest))) = true ∧ ∀ (r : Option Value) (A' : pm_H), Q' r A' → kk (r.toList ++ rest) A' (c + mc') (s + ms')
/-- what stands on the stack, what a place holds: a shape, or nothing goes on -/
def pm_li (L : pm_L) (i : Nat) (K : Int32 → Prop) : Prop := match pm_gt L i with
  | some (.int x) => K x
  | _ => False
def pm_ll (L : pm_L) (i : Nat) (K : Int64 → Prop) : Prop := match pm_gt L i with
  | some (.long x) => K x
  | _ => False
def pm_lr (L : pm_L) (i : Nat) (K : Nat → Prop) (K0 : Prop) : Prop := match pm_gt L i with
  | some (.ref x) => K x
  | some .null => K0
  | _ => False
def pm_si (K : Int32 → List Value → Prop) : List Value → Prop
  | .int x :: st => K x st
  | _ => False
def pm_sl (K : Int64 → List Value → Prop) : List Value → Prop
  | .long x :: st => K x st
  | _ => False
def pm_sr (K : Nat → List Value → Prop) : List Value → Prop
  | .ref x :: st => K x st
  | _ => False
def pm_srn (K : Nat → List Value → Prop) (K0 : List Value → Prop) : List Value → Prop
  | .ref x :: st => K x st
  | .null :: st => K0 st
  | _ => False
def pm_sd (K : Int32 → List Value → Prop) (K0 : Nat → List Value → Prop) : List Value → Prop
  | .int x :: st => K x st
  | .ref x :: st => K0 x st
  | _ => False
def pm_svr (K : Value → Nat → List Value → Prop) : List Value → Prop
  | v :: .ref a :: st => K v a st
  | _ => False
def pm_sii (K : Int32 → Int32 → List Value → Prop) : List Value → Prop
  | .int y :: .int x :: st => K x y st
  | _ => False
def pm_sll (K : Int64 → Int64 → List Value → Prop) : List Value → Prop
  | .long y :: .long x :: st => K x y st
  | _ => False
def pm_sir (K : Int32 → Nat → List Value → Prop) : List Value → Prop
  | .int x :: .ref a :: st => K x a st
  | _ => False
def pm_siir (K : Int32 → Int32 → Nat → List Value → Prop) : List Value → Prop
  | .int v :: .int x :: .ref a :: st => K v x a st
  | _ => False
def pm_srir (K : Nat → Int32 → Nat → List Value → Prop) : List Value → Prop
  | .ref v :: .int x :: .ref a :: st => K v x a st
  | _ => False
def pm_ga (fs : List Value) (k : Nat) (K : Value → Prop) : Prop := match pm_at fs k with
  | some v => K v
  | none => False
def pm_pv (k : Nat) (st : List Value) (K : List Value → Nat → List Value → Prop) : Prop := match pm_pop k st [] with
  | some (as, .ref b :: rest) => K as b rest
  | _ => False
def pm_ps (k : Nat) (st : List Value) (K : List Value → List Value → Prop) : Prop := match pm_pop k st [] with
  | some (as, rest) => K as rest
  | none => False
def pm_z0 (z : Int32) (P Q : Prop) : Prop := match z.toInt.toNat with
  | 0 => P
  | _ => Q
theorem pm_li_v {L : pm_L} {i : Nat} {K : Int32 → Prop} (h : pm_li L i K) : ∃ x, pm_gt L i = some (.int x) ∧ K x := by
  unfold pm_li at h; split at h
  · rename_i x e; exact ⟨x, e, h⟩
  · exact h.elim
theorem pm_ll_v {L : pm_L} {i : Nat} {K : Int64 → Prop} (h : pm_ll L i K) : ∃ x, pm_gt L i = some (.long x) ∧ K x := by
  unfold pm_ll at h; split at h
  · rename_i x e; exact ⟨x, e, h⟩
  · exact h.elim
theorem pm_lr_v {L : pm_L} {i : Nat} {K : Nat → Prop} {K0 : Prop} (h : pm_lr L i K K0) : (∃ x, pm_gt L i = some (.ref x) ∧ K x) ∨ (pm_gt L i = some .null ∧ K0) := by
  unfold pm_lr at h; split at h
  · rename_i x e; exact Or.inl ⟨x, e, h⟩
  · rename_i e; exact Or.inr ⟨e, h⟩
  · exact h.elim
theorem pm_si_v {K : Int32 → List Value → Prop} {st : List Value} (h : pm_si K st) : ∃ x r, st = .int x :: r ∧ K x r := by
  unfold pm_si at h; split at h
  · exact ⟨_, _, rfl, h⟩
  · exact h.elim
theorem pm_sl_v {K : Int64 → List Value → Prop} {st : List Value} (h : pm_sl K st) : ∃ x r, st = .long x :: r ∧ K x r := by
  unfold pm_sl at h; split at h
  · exact ⟨_, _, rfl, h⟩
  · exact h.elim
theorem pm_sr_v {K : Nat → List Value → Prop} {st : List Value} (h : pm_sr K st) : ∃ x r, st = .ref x :: r ∧ K x r := by
  unfold pm_sr at h; split at h
  · exact ⟨_, _, rfl, h⟩
  · exact h.elim
theorem pm_srn_v {K : Nat → List Value → Prop} {K0 : List Value → Prop} {st : List Value} (h : pm_srn K K0 st) : (∃ x r, st = .ref x :: r ∧ K x r) ∨ ∃ r, st = .null :: r ∧ K0 r := by
  unfold pm_srn at h; split at h
  · exact Or.inl ⟨_, _, rfl, h⟩
  · exact Or.inr ⟨_, rfl, h⟩
  · exact h.elim
theorem pm_sd_v {K : Int32 → List Value → Prop} {K0 : Nat → List Value → Prop} {st : List Value} (h : pm_sd K K0 st) : (∃ x r, st = .int x :: r ∧ K x r) ∨ ∃ x r, st = .ref x :: r ∧ K0 x r := by
  unfold pm_sd at h; split at h
  · exact Or.inl ⟨_, _, rfl, h⟩
  · exact Or.inr ⟨_, _, rfl, h⟩
  · exact h.elim
theorem pm_svr_v {K : Value → Nat → List Value → Prop} {st : List Value} (h : pm_svr K st) : ∃ v a r, st = v :: .ref a :: r ∧ K v a r := by
  unfold pm_svr at h; split at h
  · exact ⟨_, _, _, rfl, h⟩
  · exact h.elim
theorem pm_sii_v {K : Int32 → Int32 → List Value → Prop} {st : List Value} (h : pm_sii K st) : ∃ x y r, st = .int y :: .int x :: r ∧ K x y r := by
  unfold pm_sii at h; split at h
  · exact ⟨_, _, _, rfl, h⟩
  · exact h.elim
theorem pm_sll_v {K : Int64 → Int64 → List Value → Prop} {st : List Value} (h : pm_sll K st) : ∃ x y r, st = .long y :: .long x :: r ∧ K x y r := by
  unfold pm_sll at h; split at h
  · exact ⟨_, _, _, rfl, h⟩
  · exact h.elim
theorem pm_sir_v {K : Int32 → Nat → List Value → Prop} {st : List Value} (h : pm_sir K st) : ∃ x a r, st = .int x :: .ref a :: r ∧ K x a r := by
  unfold pm_sir at h; split at h
  · exact ⟨_, _, _, rfl, h⟩
  · exact h.elim
theorem pm_siir_v {K : Int32 → Int32 → Nat → List Value → Prop} {st : List Value} (h : pm_siir K st) : ∃ v x a r, st = .int v :: .int x :: .ref a :: r ∧ K v x a r := by
  unfold pm_siir at h; split at h
  · exact ⟨_, _, _, _, rfl, h⟩
  · exact h.elim
theorem pm_srir_v {K : Nat → Int32 → Nat → List Value → Prop} {st : List Value} (h : pm_srir K st) : ∃ v x a r, st = .ref v :: .int x :: .ref a :: r ∧ K v x a r := by
  unfold pm_srir at h; split at h
  · exact ⟨_, _, _, _, rfl, h⟩
  · exact h.elim
theorem pm_ga_v {fs : List Value} {k : Nat} {K : Value → Prop} (h : pm_ga fs k K) : ∃ v, pm_at fs k = some v ∧ K v := by
  unfold pm_ga at h; split at h
  · rename_i v e; exact ⟨v, e, h⟩
  · exact h.elim
theorem pm_pop_v : ∀ (k : Nat) (st acc as rest : List Value), pm_pop k st acc = some (as, rest) → ∃ bs, as = bs ++ acc ∧ bs.length = k ∧ st = bs.reverse ++ rest
  | 0, st, acc, as, rest, h => by
    simp only [pm_pop, Option.some.injEq, Prod.mk.injEq] at h
    exact ⟨[], by simp [h.1], rfl, by simp [h.2]⟩
  | k + 1, [], acc, as, rest, h => by simp [pm_pop] at h
  | k + 1, v :: st, acc, as, rest, h => by
    simp only [pm_pop] at h
    obtain ⟨bs, h1, h2, h3⟩ := pm_pop_v k st (v :: acc) as rest h
    exact ⟨bs ++ [v], by simp [h1], by simp [h2], by simp [h3]⟩
theorem pm_pv_v {k : Nat} {st : List Value} {K : List Value → Nat → List Value → Prop} (h : pm_pv k st K) : ∃ as b rest, as.length = k ∧ st = as.reverse ++ .ref b :: rest ∧ K as b rest := by
  unfold pm_pv at h; split at h
  · rename_i as b rest e
    obtain ⟨bs, h1, h2, h3⟩ := pm_pop_v _ _ _ _ _ e
    rw [List.append_nil] at h1
    subst h1
    exact ⟨as, b, rest, h2, h3, h⟩
  · exact h.elim
theorem pm_ps_v {k : Nat} {st : List Value} {K : List Value → List Value → Prop} (h : pm_ps k st K) : ∃ as rest, as.length = k ∧ st = as.reverse ++ rest ∧ K as rest := by
  unfold pm_ps at h; split at h
  · rename_i as rest e
    obtain ⟨bs, h1, h2, h3⟩ := pm_pop_v _ _ _ _ _ e
    rw [List.append_nil] at h1
    subst h1
    exact ⟨as, rest, h2, h3, h⟩
  · exact h.elim
def pm_wp (l : Launch) (g : pm_G) (ro : Nat → Option (Nat × (Nat → Int32))) (d mc ms : Nat) (Ret : Option Value → pm_H → Nat → Nat → Prop) (J : pm_J) (fin : Nat) : List pm_Op → pm_L → List Value → pm_H → Nat → Nat → Prop
  | [], L, st, A, c, s => J fin L st A c s
  | (ins, _, i, k, z) :: r, L, st, A, c, s =>
    match ins with
    | .iconst _ => pm_wp l g ro d mc ms Ret J fin r L (.int z :: st) A c s
    | .bipush _ => pm_wp l g ro d mc ms Ret J fin r L (.int z :: st) A c s
    | .sipush _ => pm_wp l g ro d mc ms Ret J fin r L (.int z :: st) A c s
    | .ldc _ => pm_wp l g ro d mc ms Ret J fin r L (.int z :: st) A c s
    | .ldc_w _ => pm_wp l g ro d mc ms Ret J fin r L (.int z :: st) A c s
    | .aconst_null => pm_wp l g ro d mc ms Ret J fin r L (.null :: st) A c s
    | .lconst n => pm_wp l g ro d mc ms Ret J fin r L (.long (Int64.ofNat n) :: st) A c s
    | .iload _ => pm_li L i (fun x => pm_wp l g ro d mc ms Ret J fin r L (.int x :: st) A c s)
    | .iload_n _ => pm_li L i (fun x => pm_wp l g ro d mc ms Ret J fin r L (.int x :: st) A c s)
    | .lload_n _ => pm_ll L i (fun x => pm_wp l g ro d mc ms Ret J fin r L (.long x :: st) A c s)
    | .aload _ => pm_lr L i (fun x => pm_wp l g ro d mc ms Ret J fin r L (.ref x :: st) A c s) (pm_wp l g ro d mc ms Ret J fin r L (.null :: st) A c s)
    | .aload_n _ => pm_lr L i (fun x => pm_wp l g ro d mc ms Ret J fin r L (.ref x :: st) A c s) (pm_wp l g ro d mc ms Ret J fin r L (.null :: st) A c s)
    | .istore _ => pm_si (fun x st => pm_wp l g ro d mc ms Ret J fin r (pm_st L i (.int x)) st A c s) st
    | .istore_n _ => pm_si (fun x st => pm_wp l g ro d mc ms Ret J fin r (pm_st L i (.int x)) st A c s) st
    | .lstore_n _ => pm_sl (fun x st => pm_wp l g ro d mc ms Ret J fin r (pm_un (pm_st L i (.long x)) (i + 1)) st A c s) st
    | .astore _ => pm_srn (fun x st => pm_wp l g ro d mc ms Ret J fin r (pm_st L i (.ref x)) st A c s) (fun st => pm_wp l g ro d mc ms Ret J fin r (pm_st L i .null) st A c s) st
    | .astore_n _ => pm_srn (fun x st => pm_wp l g ro d mc ms Ret J fin r (pm_st L i (.ref x)) st A c s) (fun st => pm_wp l g ro d mc ms Ret J fin r (pm_st L i .null) st A c s) st
    | .iinc _ _ => pm_li L i (fun x => ∀ m : Int32, m = x + z → pm_wp l g ro d mc ms Ret J fin r (pm_st L i (.int m)) st A c s)
    | .iaload => pm_sir (fun x a st => ∃ (n : Nat) (f : Nat → Int32), pm_rd g ro A a n f ∧ (0 ≤ x.toInt ∧ x.toInt < n) ∧ pm_wp l g ro d mc ms Ret J fin r L (.int (f x.toInt.toNat) :: st) A c s) st
    | .iastore => pm_siir (fun v x a st => ∃ (n : Nat) (f : Nat → Int32), A a = some (pm_ia g n f) ∧ (0 ≤ x.toInt ∧ x.toInt < n) ∧ pm_wp l g ro d mc ms Ret J fin r L st (pm_up A a (pm_ia g n (upd f x.toInt.toNat v))) c s) st
    | .aaload => pm_sir (fun x a st => ∃ (n : Nat) (f : Nat → Option Nat), (A a = some (pm_ra g n f) ∨ A a = some (pm_ma g n f)) ∧ (0 ≤ x.toInt ∧ x.toInt < n) ∧ pm_wp l g ro d mc ms Ret J fin r L (va_rf (f x.toInt.toNat) :: st) A c s) st
    | .aastore => pm_srir (fun v x a st => ∃ (n : Nat) (f : Nat → Option Nat) (fs : List Value), A a = some (pm_ra g n f) ∧ A v = some (pm_ob 7 fs) ∧ (0 ≤ x.toInt ∧ x.toInt < n) ∧ pm_wp l g ro d mc ms Ret J fin r L st (pm_up A a (pm_ra g n (va_up f x.toInt.toNat (some v)))) c s) st
    | .arraylength => pm_sr (fun a st => ∃ (n : Nat) (f : Nat → Int32), pm_rd g ro A a n f ∧ pm_wp l g ro d mc ms Ret J fin r L (.int (nI n) :: st) A c s) st
    | .pop => pm_si (fun _ st => pm_wp l g ro d mc ms Ret J fin r L st A c s) st
    | .pop2 => pm_sl (fun _ st => pm_wp l g ro d mc ms Ret J fin r L st A c s) st
    | .dup => pm_sd (fun x st => pm_wp l g ro d mc ms Ret J fin r L (.int x :: .int x :: st) A c s) (fun x st => pm_wp l g ro d mc ms Ret J fin r L (.ref x :: .ref x :: st) A c s) st
    | .dup2 => pm_sir (fun x a st => pm_wp l g ro d mc ms Ret J fin r L (.int x :: .ref a :: .int x :: .ref a :: st) A c s) st
    | .iadd => pm_sii (fun x y st => ∀ m : Int32, m = x + y → pm_wp l g ro d mc ms Ret J fin r L (.int m :: st) A c s) st
    | .isub => pm_sii (fun x y st => ∀ m : Int32, m = x - y → pm_wp l g ro d mc ms Ret J fin r L (.int m :: st) A c s) st
    | .imul => pm_sii (fun x y st => ∀ m : Int32, m = x * y → pm_wp l g ro d mc ms Ret J fin r L (.int m :: st) A c s) st
    | .idiv => pm_sii (fun x y st => ¬ y = 0 ∧ ∀ m : Int32, m = x / y → pm_wp l g ro d mc ms Ret J fin r L (.int m :: st) A c s) st
    | .irem => pm_sii (fun x y st => ¬ y = 0 ∧ ∀ m : Int32, m = x - x / y * y → pm_wp l g ro d mc ms Ret J fin r L (.int m :: st) A c s) st
    | .ineg => pm_si (fun x st => ∀ m : Int32, m = -x → pm_wp l g ro d mc ms Ret J fin r L (.int m :: st) A c s) st
    | .ishl => pm_sii (fun x y st => pm_wp l g ro d mc ms Ret J fin r L (.int (x <<< (y &&& 31)) :: st) A c s) st
    | .ishr => pm_sii (fun x y st => pm_wp l g ro d mc ms Ret J fin r L (.int (x >>> (y &&& 31)) :: st) A c s) st
    | .iushr => pm_sii (fun x y st => pm_wp l g ro d mc ms Ret J fin r L (.int (x.toUInt32 >>> (y.toUInt32 &&& Int32.toUInt32 31)).toInt32 :: st) A c s) st
    | .iand => pm_sii (fun x y st => pm_wp l g ro d mc ms Ret J fin r L (.int (x &&& y) :: st) A c s) st
    | .ior => pm_sii (fun x y st => pm_wp l g ro d mc ms Ret J fin r L (.int (x ||| y) :: st) A c s) st
    | .ixor => pm_sii (fun x y st => pm_wp l g ro d mc ms Ret J fin r L (.int (x ^^^ y) :: st) A c s) st
    | .i2l => pm_si (fun x st => pm_wp l g ro d mc ms Ret J fin r L (.long x.toInt64 :: st) A c s) st
    | .ladd => pm_sll (fun x y st => pm_wp l g ro d mc ms Ret J fin r L (.long (x + y) :: st) A c s) st
    | .lmul => pm_sll (fun x y st => pm_wp l g ro d mc ms Ret J fin r L (.long (x * y) :: st) A c s) st
    | .lcmp => pm_sll (fun x y st => pm_wp l g ro d mc ms Ret J fin r L (.int (lg_cmp x y) :: st) A c s) st
    | .goto _ => J i L st A c s
    | .if_icmp .eq _ => pm_sii (fun x y st => (x = y → J i L st A c s) ∧ (¬ x = y → pm_wp l g ro d mc ms Ret J fin r L st A c s)) st
    | .if_icmp .ne _ => pm_sii (fun x y st => (¬ x = y → J i L st A c s) ∧ (x = y → pm_wp l g ro d mc ms Ret J fin r L st A c s)) st
    | .if_icmp .lt _ => pm_sii (fun x y st => (x.toInt < y.toInt → J i L st A c s) ∧ (y.toInt ≤ x.toInt → pm_wp l g ro d mc ms Ret J fin r L st A c s)) st
    | .if_icmp .ge _ => pm_sii (fun x y st => (y.toInt ≤ x.toInt → J i L st A c s) ∧ (x.toInt < y.toInt → pm_wp l g ro d mc ms Ret J fin r L st A c s)) st
    | .if_icmp .gt _ => pm_sii (fun x y st => (y.toInt < x.toInt → J i L st A c s) ∧ (x.toInt ≤ y.toInt → pm_wp l g ro d mc ms Ret J fin r L st A c s)) st
    | .if_icmp .le _ => pm_sii (fun x y st => (x.toInt ≤ y.toInt → J i L st A c s) ∧ (y.toInt < x.toInt → pm_wp l g ro d mc ms Ret J fin r L st A c s)) st
    | .ifCond .eq _ => pm_si (fun x st => (x = 0 → J i L st A c s) ∧ (¬ x = 0 → pm_wp l g ro d mc ms Ret J fin r L st A c s)) st
    | .ifCond .ne _ => pm_si (fun x st => (¬ x = 0 → J i L st A c s) ∧ (x = 0 → pm_wp l g ro d mc ms Ret J fin r L st A c s)) st
    | .ifCond .lt _ => pm_si (fun x st => (x.toInt < 0 → J i L st A c s) ∧ (0 ≤ x.toInt → pm_wp l g ro d mc ms Ret J fin r L st A c s)) st
    | .ifCond .ge _ => pm_si (fun x st => (0 ≤ x.toInt → J i L st A c s) ∧ (x.toInt < 0 → pm_wp l g ro d mc ms Ret J fin r L st A c s)) st
    | .ifCond .gt _ => pm_si (fun x st => (0 < x.toInt → J i L st A c s) ∧ (x.toInt ≤ 0 → pm_wp l g ro d mc ms Ret J fin r L st A c s)) st
    | .ifCond .le _ => pm_si (fun x st => (x.toInt ≤ 0 → J i L st A c s) ∧ (0 < x.toInt → pm_wp l g ro d mc ms Ret J fin r L st A c s)) st
    | .ifnull _ => pm_srn (fun _ st => pm_wp l g ro d mc ms Ret J fin r L st A c s) (fun st => J i L st A c s) st
    | .ifnonnull _ => pm_srn (fun _ st => J i L st A c s) (fun st => pm_wp l g ro d mc ms Ret J fin r L st A c s) st
    | .tableswitch dflt lo hi offs => pm_si (fun x st => ∀ t : Nat, pm_sw i dflt lo hi offs x t → J t L st A c s) st
    | .getfield _ => pm_sr (fun a st => ∃ fs : List Value, A a = some (pm_ob i fs) ∧ pm_ga fs k (fun v => pm_wp l g ro d mc ms Ret J fin r L (v :: st) A c s)) st
    | .putfield _ => pm_svr (fun v a st => ∃ fs : List Value, A a = some (pm_ob i fs) ∧ (pm_vk z.toInt.toNat v && (pm_at fs k).isSome) = true ∧ pm_wp l g ro d mc ms Ret J fin r L st (pm_up A a (pm_ob i (fs.set k v))) c s) st
    | .invokevirtual _ => pm_pv k st (fun as b rest => (∃ fs : List Value, A b = some (pm_ob z.toInt.toNat fs)) ∧ pm_call l g d mc ms i (.ref b :: as) rest A c s (fun st A c s => pm_wp l g ro d mc ms Ret J fin r L st A c s))
    | .invokestatic _ => pm_ps k st (fun as rest => pm_call l g d mc ms i as rest A c s (fun st A c s => pm_wp l g ro d mc ms Ret J fin r L st A c s))
    | .invokespecial _ => pm_sr (fun b rest => pm_z0 z ((Nat.ble 1 d && pm_rm rest) = true ∧ pm_wp l g ro d mc ms Ret J fin r L rest A c s) (pm_call l g d mc ms i [.ref b] rest A c s (fun st A c s => pm_wp l g ro d mc ms Ret J fin r L st A c s))) st
    | .new _ => (Nat.ble (c + 1) mc && Nat.ble (s + k) ms) = true ∧ ∀ a : Nat, A a = none → pm_wp l g ro d mc ms Ret J fin r L (.ref a :: st) (pm_up A a (pm_ob i (pm_df i))) (c + 1) (s + k)
    | .newarray .int => pm_si (fun n st => n = nI i ∧ (Nat.ble (c + 1) mc && Nat.ble (s + i) ms) = true ∧ ∀ a : Nat, A a = none → pm_wp l g ro d mc ms Ret J fin r L (.ref a :: st) (pm_up A a (pm_ia g i (fun _ => 0))) (c + 1) (s + i)) st
    | .anewarray _ => pm_si (fun n st => n = nI i ∧ (Nat.ble (c + 1) mc && Nat.ble (s + i) ms) = true ∧ ∀ a : Nat, A a = none → pm_wp l g ro d mc ms Ret J fin r L (.ref a :: st) (pm_up A a (pm_ra g i (fun _ => none))) (c + 1) (s + i)) st
    | .multianewarray _ _ => pm_sii (fun n m st => n = nI i ∧ m = nI k ∧ (Nat.ble (c + (1 + i)) mc && Nat.ble (s + (i + i * k)) ms) = true ∧ ∀ (a : Nat) (rw : Nat → Nat), A a = none → (∀ j, j < i → A (rw j) = none) → (∀ j, j < i → rw j ≠ a) → (∀ x y, x < i → y < i → rw x = rw y → x = y) → pm_wp l g ro d mc ms Ret J fin r L (.ref a :: st) (pm_upm g A a rw i k) (c + 1 + i) (s + i + i * k)) st
    | .ireturn => pm_si (fun v st => st = [] ∧ (i = 1 → v = 0 ∨ v = 1) ∧ Ret (some (.int v)) A c s) st
    | .lreturn => pm_sl (fun v st => st = [] ∧ Ret (some (.long v)) A c s) st
    | .areturn => pm_srn (fun v st => st = [] ∧ Ret (some (.ref v)) A c s) (fun st => st = [] ∧ Ret (some .null) A c s) st
    | .return_ => st = [] ∧ Ret none A c s
    | _ => False
end
section
/-! a block is checked against the code and the tables; what it wants is enough for the machine -/
def pm_ln : Instr → Nat
  | .iconst _ => 1 | .bipush _ => 2 | .sipush _ => 3 | .ldc _ => 2 | .ldc_w _ => 3 | .aconst_null => 1 | .lconst _ => 1
  | .iload _ => 2 | .iload_n _ => 1 | .lload_n _ => 1 | .aload _ => 2 | .aload_n _ => 1 | .istore _ => 2 | .istore_n _ => 1 | .lstore_n _ => 1 | .astore _ => 2 | .astore_n _ => 1 | .iinc _ _ => 3
  | .goto _ => 3 | .if_icmp _ _ => 3 | .ifCond _ _ => 3 | .ifnull _ => 3 | .ifnonnull _ => 3
  | .getfield _ => 3 | .putfield _ => 3 | .invokevirtual _ => 3 | .invokestatic _ => 3 | .invokespecial _ => 3 | .new _ => 3 | .newarray _ => 2 | .anewarray _ => 3 | .multianewarray _ _ => 4
  | _ => 1
def pm_isTab : Instr → Bool
  | .tableswitch _ _ _ _ => true
  | _ => false
def pm_tm : Instr → Bool
  | .goto _ => true
  | .tableswitch _ _ _ _ => true
  | .ireturn => true
  | .lreturn => true
  | .areturn => true
  | .return_ => true
  | _ => false
def pm_rs (own nL : Nat) (isI : Bool) (ret : Option FieldType) (pc : Nat) (ins : Instr) (i k : Nat) (z : Int32) : Bool := match ins with
  | .iconst n => decide (Int32.ofInt n = z)
  | .bipush n => decide ((Int8.ofInt n).toInt32 = z)
  | .sipush n => decide ((Int16.ofInt n).toInt32 = z)
  | .ldc idx => decide ((own, idx, z) ∈ pm_kl)
  | .ldc_w idx => decide ((own, idx, z) ∈ pm_kl)
  | .iload j => decide (j = i)
  | .iload_n j => decide ((j : Nat) = i)
  | .lload_n j => decide ((j : Nat) = i)
  | .aload j => decide (j = i)
  | .aload_n j => decide ((j : Nat) = i)
  | .istore j => decide (j = i ∧ i < nL)
  | .istore_n j => decide ((j : Nat) = i ∧ i < nL)
  | .lstore_n j => decide ((j : Nat) = i ∧ i + 1 < nL)
  | .astore j => decide (j = i ∧ i < nL)
  | .astore_n j => decide ((j : Nat) = i ∧ i < nL)
  | .iinc j n => decide (j = i ∧ i < nL ∧ Int32.ofInt n = z)
  | .goto off => decide ((pc : Int) + off = (i : Int))
  | .if_icmp _ off => decide ((pc : Int) + off = (i : Int))
  | .ifCond _ off => decide ((pc : Int) + off = (i : Int))
  | .ifnull off => decide ((pc : Int) + off = (i : Int))
  | .ifnonnull off => decide ((pc : Int) + off = (i : Int))
  | .tableswitch dflt lo hi offs => decide (pc = i ∧ 0 ≤ (pc : Int) + dflt ∧ hi - lo + 1 = (offs.size : Int)) && offs.toList.all (fun o => decide (0 ≤ (pc : Int) + o))
  | .getfield idx => decide ((own, idx, i, k) ∈ pm_fl)
  | .putfield idx => decide ((own, idx, i, k) ∈ pm_fl) && (decide (((pm_cT i).2.1 k).2.2.2 = false ∨ (isI = true ∧ ((pm_cT i).2.1 k).2.2.2 = true ∧ ((pm_cT i).2.1 k).1 = pm_nm own)) && (match pm_tys i k with
    | .int => decide (z.toInt.toNat = 0)
    | .object _ => decide (z.toInt.toNat = 1)
    | .array _ => decide (z.toInt.toNat = 1)
    | _ => false))
  | .invokevirtual idx => decide ((own, idx, i) ∈ pm_ml ∧ (pm_me i).2.2.2.2.2 = 0 ∧ (pm_me i).2.2.2.2.1 = k ∧ pm_nm z.toInt.toNat = (pm_me i).1.cls ∧ z.toInt.toNat < 12)
  | .invokestatic idx => decide ((own, idx, i) ∈ pm_ml ∧ (pm_me i).2.2.2.2.2 = 1 ∧ (pm_me i).2.2.2.2.1 = k)
  | .invokespecial idx => match z.toInt.toNat with
    | 0 => decide ((own, idx) ∈ pm_ol)
    | 1 => decide ((own, idx, i) ∈ pm_ml ∧ (pm_me i).2.2.2.2.2 = 2 ∧ (pm_me i).2.2.2.2.1 = 0)
    | _ => decide ((own, idx, i, 10) ∈ pm_nl2 ∧ (pm_me i).2.2.2.2.2 = 2 ∧ (pm_me i).2.2.2.2.1 = 0)
  | .new idx => decide ((own, idx, i) ∈ pm_cl ∧ k = (pm_cT i).2.2)
  | .newarray .int => decide (i ≤ 100000)
  | .anewarray idx => decide ((own, idx, 7) ∈ pm_cl ∧ i ≤ 100000)
  | .multianewarray idx dm => decide (own = 3 ∧ idx = 9 ∧ dm = 2 ∧ i ≤ 1000 ∧ k ≤ 1000)
  | .ireturn => decide ((i = 0 ∧ ret = some .int) ∨ (i = 1 ∧ ret = some .boolean))
  | .lreturn => decide (ret = some .long)
  | .areturn => match ret with
    | some (.object _) => true
    | _ => false
  | .return_ => decide (ret = none)
  | _ => true
def pm_ok (own nL : Nat) (isI : Bool) (ret : Option FieldType) (cc : ByteArray) (fin : Nat) : Nat → List pm_Op → Bool
  | pc, [] => decide (pc = fin)
  | pc, (ins, len, i, k, z) :: r => decide (decode cc pc = .ok (ins, len)) && ((pm_isTab ins || decide (len = pm_ln ins)) && (pm_rs own nL isI ret pc ins i k z && (pm_tm ins || pm_ok own nL isI ret cc fin (pc + len) r)))
/-- how a method may end -/
def pm_rk (ret : Option FieldType) (ins : Instr) (v : Option Value) : Prop :=
  (ins = .ireturn ∧ ∃ x : Int32, v = some (.int x) ∧ (ret = some .int ∨ (ret = some .boolean ∧ (x = 0 ∨ x = 1)))) ∨ (ins = .lreturn ∧ ret = some .long ∧ ∃ x : Int64, v = some (.long x)) ∨ (ins = .areturn ∧ (∃ n, ret = some (.object n)) ∧ ∃ w : Value, v = some w ∧ (w = .null ∨ ∃ a, w = .ref a)) ∨ (ins = .return_ ∧ ret = none ∧ v = none)
section PMS
variable {p : Program} {l : Launch} {e : Env} {R : Room} {s : State} {m : MethodId} {args : Array Value} {below : List Frame} {meth : Method} {c : Code} {Q : State → Prop}
def pm_Sem (p : Program) (l : Launch) (e : Env) (R : Room) (s : State) (m : MethodId) (args : Array Value) (below : List Frame) (meth : Method) (c : Code) (Q : State → Prop) (g : pm_G) (nL : Nat) (fr : Nat → Prop) : pm_J := fun pc L st A cells slots =>
  ∀ (H : Heap) (locs : List Loc) (ls : Array Slot), pm_hold g A H → (∀ q, A q ≠ none → fr q) → va_S fr s.heap H locs → pm_lv ls nL L → W p l e R s m args below meth c H locs cells slots Q (F0 m pc ls st)
def pm_Rt (p : Program) (l : Launch) (e : Env) (R : Room) (s : State) (m : MethodId) (args : Array Value) (below : List Frame) (meth : Method) (c : Code) (Q : State → Prop) (g : pm_G) (fr : Nat → Prop) (cc : ByteArray) (ret : Option FieldType) (Ret : Option Value → pm_H → Nat → Nat → Prop) : Prop :=
  ∀ (v : Option Value) (A : pm_H) (cells slots : Nat) (H : Heap) (locs : List Loc) (ls : Array Slot) (pc : Nat) (ins : Instr), Ret v A cells slots → pm_hold g A H → (∀ q, A q ≠ none → fr q) → va_S fr s.heap H locs → decode cc pc = .ok (ins, 1) → pm_rk ret ins v → W p l e R s m args below meth c H locs cells slots Q (F0 m pc ls v.toList)
def pm_Cx (p : Program) (l : Launch) (e : Env) (R : Room) (s : State) (m : MethodId) (args : Array Value) (below : List Frame) (meth : Method) (c : Code) (Q : State → Prop) (g : pm_G) (own nL : Nat) (isI : Bool) (ret : Option FieldType) (cc : ByteArray) (ro : Nat → Option (Nat × (Nat → Int32))) (d mc ms : Nat) (Ret : Option Value → pm_H → Nat → Nat → Prop) (fr : Nat → Prop) : Prop :=
  p.tables.exec = Jvm.exec ∧ c.code = cc ∧ c.maxLocals = nL ∧ s.vm.findClass (pm_nm own) = some m.cls ∧ (∀ w ∈ pm_W, w.before args s = true) ∧ pm_K g s ∧ (∀ q, s.heap.size ≤ q → fr q) ∧ (∀ b n f, ro b = some (n, f) → b < s.heap.size ∧ ¬ fr b ∧ va_X b n f s s.heap) ∧ (isI = true → meth.name = "<init>") ∧ (d ≤ R.frames ∧ 40 * d ≤ R.locals ∧ mc ≤ R.cells ∧ ms ≤ R.slots) ∧ pm_Rt p l e R s m args below meth c Q g fr cc ret Ret
/-- a cell is written -/
theorem pm_hold_up {g : pm_G} {A : pm_H} {H H1 : Heap} {a : Nat} {e : va_E} (h : pm_hold g A H) (he : va_at g.1 vwCl (a, e) H1) (oq : ∀ q : Nat, q ≠ a → H1[q]? = H[q]?) : pm_hold g (pm_up A a e) H1 := by
  intro q x hq
  by_cases hqa : q = a
  · subst hqa
    rw [pm_up_s] at hq
    cases hq
    exact he
  · rw [pm_up_n hqa] at hq
    exact (h q x hq).kept (oq q hqa)
/-- a cell is made -/
theorem pm_hold_new {g : pm_G} {A : pm_H} {H H1 : Heap} {e : va_E} (h : pm_hold g A H) (he : va_at g.1 vwCl (H.size, e) H1) (oq : ∀ q : Nat, q < H.size → H1[q]? = H[q]?) : pm_hold g (pm_up A H.size e) H1 := by
  intro q x hq
  by_cases hqa : q = H.size
  · subst hqa
    rw [pm_up_s] at hq
    cases hq
    exact he
  · rw [pm_up_n hqa] at hq
    exact (h q x hq).kept (oq q (h q x hq).lt)
theorem pm_hold_free {g : pm_G} {A : pm_H} {H : Heap} (h : pm_hold g A H) {a : Nat} (ha : H.size ≤ a) : A a = none := by
  cases hx : A a with
  | none => rfl
  | some e => exact absurd (h a e hx).lt (Nat.not_lt.mpr ha)
theorem pm_dom_up {A : pm_H} {a : Nat} {e : va_E} {fr : Nat → Prop} (hd : ∀ q, A q ≠ none → fr q) (ha : fr a) : ∀ q, pm_up A a e q ≠ none → fr q := by
  intro q hq
  by_cases hqa : q = a
  · rw [hqa]; exact ha
  · rw [pm_up_n hqa] at hq
    exact hd q hq
theorem pm_S_put {fr : Nat → Prop} {H0 H H1 : Heap} {locs : List Loc} {a i : Nat} (h : va_S fr H0 H locs) (z : H1.size = H.size) (oq : ∀ q : Nat, q ≠ a → H1[q]? = H[q]?) (ha : fr a) : va_S fr H0 H1 (locs ++ [⟨a, i⟩]) := h.put z oq ha
theorem pm_S_new {fr : Nat → Prop} {H0 H H1 : Heap} {locs : List Loc} (h : va_S fr H0 H locs) (z : H.size ≤ H1.size) (oq : ∀ q : Nat, q < H.size → H1[q]? = H[q]?) : va_S fr H0 H1 locs :=
  ⟨Nat.le_trans h.1 z, fun q h1 h2 => (oq q (Nat.lt_of_lt_of_le h1 h.1)).trans (h.2.1 q h1 h2), h.2.2⟩
theorem pm_cl_at {ci : Nat} (h : ci < 12) : vwCl[ci]? = some (pm_cT ci) := by
  rcases (show ci = 0 ∨ ci = 1 ∨ ci = 2 ∨ ci = 3 ∨ ci = 4 ∨ ci = 5 ∨ ci = 6 ∨ ci = 7 ∨ ci = 8 ∨ ci = 9 ∨ ci = 10 ∨ ci = 11 by omega) with rfl | rfl | rfl | rfl | rfl | rfl | rfl | rfl | rfl | rfl | rfl | rfl <;> rfl
theorem pm_at_get : ∀ (fs : List Value) (k : Nat), pm_at fs k = fs[k]?
  | [], k => by simp [pm_at]
  | v :: r, 0 => by simp [pm_at]
  | v :: r, k + 1 => by simp [pm_at, pm_at_get r k]
theorem pm_in_of {x : Int32} {n : Nat} (h : 0 ≤ x.toInt ∧ x.toInt < n) : vp_in x n := vp_in_iff.mpr h
theorem pm_clamp (x : Int32) : x.toNatClampNeg = x.toInt.toNat := rfl
theorem pm_lt (x y : Int32) : x < y ↔ x.toInt < y.toInt := Int32.lt_iff_toInt_lt
theorem pm_le (x y : Int32) : x ≤ y ↔ x.toInt ≤ y.toInt := Int32.le_iff_toInt_le
end PMS
end
section
/-! one instruction that reads or writes cells, over the pure cells -/
theorem pm_P1 {g : pm_G} {a : Nat} {e : va_E} {H : Heap} (h : va_at g.1 vwCl (a, e) H) : va_P g.1 vwCl [(a, e)] H := by
  intro k q hk
  have h0 : k < 1 := (List.getElem?_eq_some_iff.mp hk).1
  rw [show k = 0 by omega] at hk
  cases hk
  exact h
theorem pm_outer (c : ClassId) (N h0 : Nat) : ∀ i : Nat, Jvm.Free.Multi.outerC c N h0 i = arrV c N (fun j => va_rf (if j < i then some (h0 + 1 + j) else none))
  | 0 => by
    show ({ cls := c, slots := Array.replicate N .null, vm := .none } : Cell) = _
    rw [arrV_new]
    rfl
  | i + 1 => by
    show (Jvm.Free.Multi.outerC c N h0 i).setSlot i (.ref (h0 + 1 + i)) = _
    rw [pm_outer c N h0 i, arrV_store]
    congr 1
    funext j
    by_cases h : j = i
    · subst h
      simp [updV, va_rf]
    · have h2 : (j < i + 1) = (j < i) := by apply propext; omega
      simp [updV, h, h2]
section PMH
variable {p : Program} {l : Launch} {e : Env} {R : Room} {s : State} {m : MethodId} {args : Array Value} {below : List Frame} {meth : Method} {c : Code} {H : Heap} {locs : List Loc} {cells slots : Nat} {Q : State → Prop}
variable {cc : ByteArray} {pc : Nat} {ls : Array Slot} {rest : List Value} {a : Nat} {g : pm_G} {A : pm_H} {own : Nat} {fr : Nat → Prop}
theorem pm_w_get (hx : p.tables.exec = Jvm.exec) (hb : c.code = cc) (hown : s.vm.findClass (pm_nm own) = some m.cls) (hts : ∀ w ∈ pm_W, w.before args s = true) (hK : pm_K g s) (hH : pm_hold g A H) {idx ci k : Nat} {fs : List Value} {v : Value} (hm : (own, idx, ci, k) ∈ pm_fl) (ha : A a = some (pm_ob ci fs)) (hv : pm_at fs k = some v) (hdg : decode cc pc = .ok (.getfield idx, 3))
    (kk : W p l e R s m args below meth c H locs cells slots Q (F0 m (pc + 3) ls (v :: rest))) : W p l e R s m args below meth c H locs cells slots Q (F0 m pc ls (.ref a :: rest)) := by
  obtain ⟨h1, h2, h3⟩ := pm_fl_ok _ hm
  exact va_get (D := g.1) (cl := vwCl) (C := (pm_cT ci).1) (T := (pm_cT ci).2.1) (N := (pm_cT ci).2.2) hx hb hts (pm_u_ok ci h2) hown hK.1 (pm_P1 (hH a _ ha)) 0 rfl (pm_cl_at h2) k h3 (hts _ h1) (fun _ h => h) (by rw [← pm_at_get]; exact hv) hdg kk
theorem pm_fit {ci k : Nat} {z : Nat} {v : Value} (hz : (match pm_tys ci k with
    | .int => decide (z = 0)
    | .object _ => decide (z = 1)
    | .array _ => decide (z = 1)
    | _ => false) = true) (hv : pm_vk z v = true) : narrow (pm_tys ci k) v = v ∧ fits (pm_tys ci k) v = true := by
  cases ht : pm_tys ci k <;> rw [ht] at hz <;> simp at hz <;> subst hz <;> cases v <;> simp [pm_vk] at hv <;> exact ⟨rfl, rfl⟩
theorem pm_w_put (hx : p.tables.exec = Jvm.exec) (hb : c.code = cc) (hown : s.vm.findClass (pm_nm own) = some m.cls) (hts : ∀ w ∈ pm_W, w.before args s = true) (hK : pm_K g s) (hH : pm_hold g A H) {idx ci k : Nat} {fs : List Value} {v : Value} {isI : Bool} (hin : isI = true → meth.name = "<init>") (hm : (own, idx, ci, k) ∈ pm_fl) (hfin : ((pm_cT ci).2.1 k).2.2.2 = false ∨ (isI = true ∧ ((pm_cT ci).2.1 k).2.2.2 = true ∧ ((pm_cT ci).2.1 k).1 = pm_nm own)) (hn : narrow (pm_tys ci k) v = v) (hf : fits (pm_tys ci k) v = true) (ha : A a = some (pm_ob ci fs)) (hl : (pm_at fs k).isSome = true) (hdg : decode cc pc = .ok (.putfield idx, 3))
    (kk : ∀ (H1 : Heap) (i : Nat), pm_hold g (pm_up A a (pm_ob ci (fs.set k v))) H1 → H1.size = H.size → (∀ q : Nat, q ≠ a → H1[q]? = H[q]?) → W p l e R s m args below meth c H1 (locs ++ [⟨a, i⟩]) cells slots Q (F0 m (pc + 3) ls rest)) : W p l e R s m args below meth c H locs cells slots Q (F0 m pc ls (v :: .ref a :: rest)) := by
  obtain ⟨h1, h2, h3⟩ := pm_fl_ok _ hm
  have hap := va_apart (D := g.1) (cl := vwCl) (own := pm_nm own) (C := (pm_cT ci).1) (T := (pm_cT ci).2.1) (N := (pm_cT ci).2.2) hts (pm_u_ok ci h2) (pm_tys ci) (pm_ty_ok ci h2) (pm_nm_ok ci h2) hK.1 (pm_cl_at h2)
  have hl2 : k < fs.length := by
    rw [pm_at_get, Option.isSome_iff_exists] at hl
    obtain ⟨w, hw⟩ := hl
    exact (List.getElem?_eq_some_iff.mp hw).1
  obtain ⟨r, hr, cell, q1, q2, q3, q4⟩ := hH a _ ha
  have hr2 : r = pm_cT ci := Option.some.inj (hr.symm.trans (pm_cl_at h2))
  subst hr2
  obtain ⟨hSl, hfc, kC, hkC, hkind⟩ := hK.1.1 ci _ (pm_cl_at h2)
  obtain ⟨cf, kf, fi, f, hi, hsl⟩ := hSl k h3
  have hst := (u_facts hfc hkC (u_lays hts (pm_u_ok ci h2) h3) hi).1
  have fin : ∀ H' : Heap, H'[a]? = some (cell.setSlot f.slot v) → (∀ q, q ≠ a → H'[q]? = H[q]?) → pm_hold g (pm_up A a (pm_ob ci (fs.set k v))) H' := by
    intro H' e1 e3
    rw [hsl] at e1
    exact pm_hold_up hH ⟨_, pm_cl_at h2, t_OB.to (V := updV (vp_V fs) k v) ⟨_, e1, q2, q3, t_set q4 hap h3 v⟩ (fun j _ => vp_updV_set hl2 v j)⟩ e3
  have hlay := hts _ (pm_u_ok ci h2 _ (u_in_lay h3))
  unfold u_lay at hlay
  rcases hfin with hfin | ⟨hI, hfin, hdecl⟩
  · rw [if_neg (by rw [hfin]; decide)] at hlay
    have h6 := u_store hfc hkC hkind hlay hi (pm_ty_ok ci h2 k h3) hn hf
    refine W.putK hx hb (f := f) ⟨hown, hts _ h1, ⟨_, _, _, hi⟩, hst⟩ (by rw [q2]; exact h6) q1 q3 (by rw [hsl]; exact k2_hasslot (q4 k h3)) rfl rfl hdg fun H' e1 e2 e3 => ?_
    exact kk H' _ (fin H' e1 e3) e2 e3
  · rw [if_pos hfin] at hlay
    have hcf : m.cls = cf := by
      obtain ⟨_, _, c', _, _, _, -, -, hf', -, -, -, hown2, -⟩ := Cond.laysFinal_spec hlay
      have e1 : c' = cf := by have := hi.symm.trans hf'; simp at this; exact this.1.symm
      rw [hdecl] at hown2
      rw [← e1]; exact Option.some.inj (hown.symm.trans hown2)
    have h6 := u_fits hfc hkC hkind (Or.inr hlay) hi (pm_ty_ok ci h2 k h3) hn hf
    refine W.putFinK hx hb hown (hts _ h1) hi hst hcf (hin hI) (by rw [q2]; exact h6) q1 q3 (by rw [hsl]; exact k2_hasslot (q4 k h3)) rfl rfl hdg fun H' e1 e2 e3 => ?_
    exact kk H' _ (fin H' e1 e3) e2 e3
theorem pm_w_iald (hx : p.tables.exec = Jvm.exec) (hb : c.code = cc) (hK : pm_K g s) (hH : pm_hold g A H) {n : Nat} {f : Nat → Int32} {x : Int32} (ha : A a = some (pm_ia g n f)) (hin : 0 ≤ x.toInt ∧ x.toInt < n) (hdg : decode cc pc = .ok (.iaload, 1))
    (kk : W p l e R s m args below meth c H locs cells slots Q (F0 m (pc + 1) ls (.int (f x.toInt.toNat) :: rest))) : W p l e R s m args below meth c H locs cells slots Q (F0 m pc ls (.int x :: .ref a :: rest)) :=
  va_iald (D := g.1) (cl := vwCl) hx hb hK.1 (pm_P1 (hH a _ ha)) 0 0 rfl rfl (pm_in_of hin) hdg kk
theorem pm_w_iast (hx : p.tables.exec = Jvm.exec) (hb : c.code = cc) (hK : pm_K g s) (hH : pm_hold g A H) {n : Nat} {f : Nat → Int32} {x v : Int32} (ha : A a = some (pm_ia g n f)) (hin : 0 ≤ x.toInt ∧ x.toInt < n) (hdg : decode cc pc = .ok (.iastore, 1))
    (kk : ∀ (H1 : Heap) (i : Nat), pm_hold g (pm_up A a (pm_ia g n (upd f x.toInt.toNat v))) H1 → H1.size = H.size → (∀ q : Nat, q ≠ a → H1[q]? = H[q]?) → W p l e R s m args below meth c H1 (locs ++ [⟨a, i⟩]) cells slots Q (F0 m (pc + 1) ls rest)) : W p l e R s m args below meth c H locs cells slots Q (F0 m pc ls (.int v :: .int x :: .ref a :: rest)) := by
  refine W.iast hx hb (hH a _ ha) ((hK.1.2 0 _ rfl).1 n (fun j => .int (f j))) (fun q => by cases q) (by show ¬ (x < 0 ∨ (arrV _ _ _).slots.size ≤ _); rw [arrV_size]; exact pm_in_of hin) rfl rfl hdg fun H1 e1 z oq => ?_
  refine kk H1 _ (pm_hold_up hH ?_ oq) z oq
  show H1[a]? = some (vp_cell _ _)
  rw [e1]
  simp only [vp_cell_i, vp_cell_q, arrV_store]
  congr 2
  funext q
  by_cases hq : q = x.toNatClampNeg
  · subst hq
    simp [updV, upd]
  · simp [updV, upd, hq]
theorem pm_w_aald (hx : p.tables.exec = Jvm.exec) (hb : c.code = cc) (hK : pm_K g s) (hH : pm_hold g A H) {n : Nat} {f : Nat → Option Nat} {x : Int32} (ha : A a = some (pm_ra g n f) ∨ A a = some (pm_ma g n f)) (hin : 0 ≤ x.toInt ∧ x.toInt < n) (hdg : decode cc pc = .ok (.aaload, 1))
    (kk : W p l e R s m args below meth c H locs cells slots Q (F0 m (pc + 1) ls (va_rf (f x.toInt.toNat) :: rest))) : W p l e R s m args below meth c H locs cells slots Q (F0 m pc ls (.int x :: .ref a :: rest)) := by
  have hlt : x.toNatClampNeg < n := Nat.not_le.mp fun q => (pm_in_of hin) (Or.inr q)
  rcases ha with ha | ha
  · exact va_aldq (D := g.1) (cl := vwCl) hx hb hK.1 (pm_P1 (hH a _ ha)) 0 1 rfl rfl (pm_in_of hin) hdg kk
  · exact W.aald (v := va_rf (f x.toNatClampNeg)) (ty := .array .int) hx hb (hH a _ ha) ((hK.1.2 2 _ rfl).1 n (fun j => va_rf (f j))) rfl (fun q => by cases q) (by show ¬ (x < 0 ∨ (arrV _ _ _).slots.size ≤ _); rw [arrV_size]; exact pm_in_of hin) (by show (arrV _ _ _).slots[_]? = _; rw [arrV_read _ _ hlt]) rfl rfl hdg kk
theorem pm_w_aast (hx : p.tables.exec = Jvm.exec) (hb : c.code = cc) (hK : pm_K g s) (hH : pm_hold g A H) {n v : Nat} {f : Nat → Option Nat} {fs : List Value} {x : Int32} (ha : A a = some (pm_ra g n f)) (hv : A v = some (pm_ob 7 fs)) (hin : 0 ≤ x.toInt ∧ x.toInt < n) (hdg : decode cc pc = .ok (.aastore, 1))
    (kk : ∀ (H1 : Heap) (i : Nat), pm_hold g (pm_up A a (pm_ra g n (va_up f x.toInt.toNat (some v)))) H1 → H1.size = H.size → (∀ q : Nat, q ≠ a → H1[q]? = H[q]?) → W p l e R s m args below meth c H1 (locs ++ [⟨a, i⟩]) cells slots Q (F0 m (pc + 1) ls rest)) : W p l e R s m args below meth c H locs cells slots Q (F0 m pc ls (.ref v :: .int x :: .ref a :: rest)) := by
  have hlt : x.toNatClampNeg < n := Nat.not_le.mp fun q => (pm_in_of hin) (Or.inr q)
  have h0 : ¬ x < 0 := fun q => (pm_in_of hin) (Or.inl q)
  obtain ⟨r', hr', cellV, g1, g2, g3, -⟩ := hH v _ hv
  have hcls := (hK.1.1 7 _ (pm_cl_at (by decide))).2
  obtain ⟨kA, comp, k1, k2, k3, -⟩ := (hK.1.2 1 _ rfl).2
  have hcomp : comp = g.1.1 7 := Option.some.inj (k3.symm.trans hcls.1)
  subst hcomp
  obtain ⟨kC, hkC, -⟩ := hcls.2
  refine W.aast hx hb (hH a _ ha) (fun q h => by cases h) (fun h => by cases h) k1 k2 rfl hkC ⟨h0, by show _ < (arrV _ _ _).slots.size; rw [arrV_size]; exact hlt⟩ g1 (fun q h => by rw [g3] at h; cases h) (by rw [g2]; exact hkC) (by rw [g2]; exact va_assign hcls) rfl rfl hdg fun H1 e1 z oq => ?_
  refine kk H1 _ (pm_hold_up hH ?_ oq) z oq
  show H1[a]? = some (vp_cell _ _)
  rw [e1]
  simp only [vp_cell_i, vp_cell_q, arrV_store]
  congr 2
  funext q
  by_cases hq : q = x.toNatClampNeg
  · subst hq
    simp [updV, va_up, va_rf]
  · simp [updV, va_up, hq]
theorem pm_w_alen (hx : p.tables.exec = Jvm.exec) (hb : c.code = cc) (hK : pm_K g s) (hH : pm_hold g A H) {n : Nat} {f : Nat → Int32} (ha : A a = some (pm_ia g n f)) (hdg : decode cc pc = .ok (.arraylength, 1))
    (kk : W p l e R s m args below meth c H locs cells slots Q (F0 m (pc + 1) ls (.int (nI n) :: rest))) : W p l e R s m args below meth c H locs cells slots Q (F0 m pc ls (.ref a :: rest)) :=
  W.alen (n := nI n) hx hb (hH a _ ha) ((hK.1.2 0 _ rfl).1 n (fun j => .int (f j))) (by show (arrV _ _ _).slots.size.toInt32 = _; rw [arrV_size]; rfl) rfl rfl hdg kk
theorem pm_w_newa (hx : p.tables.exec = Jvm.exec) (hb : c.code = cc) (hts : ∀ w ∈ pm_W, w.before args s = true) (hK : pm_K g s) (hH : pm_hold g A H) {i : Nat} (hi : i ≤ 100000) (hc : cells + 1 ≤ R.cells) (hs : slots + i ≤ R.slots) (hdg : decode cc pc = .ok (.newarray .int, 2))
    (kk : ∀ H1 : Heap, pm_hold g (pm_up A H.size (pm_ia g i (fun _ => 0))) H1 → H1.size = H.size + 1 → (∀ q : Nat, q < H.size → H1[q]? = H[q]?) → W p l e R s m args below meth c H1 locs (cells + 1) (slots + i) Q (F0 m (pc + 2) ls (.ref H.size :: rest))) : W p l e R s m args below meth c H locs cells slots Q (F0 m pc ls (.int (nI i) :: rest)) := by
  refine va_newaK (atype := .int) hx hb (hts _ pm_arc) rfl hdg rfl (nI_pos (by omega)) (nI_clamp (by omega)) (by show i * 4 ≤ _; omega) hc hs rfl fun H1 cA e1 z1 o1 hAr hNm => ?_
  have hcA : cA = g.2.1 := Option.some.inj (hNm.symm.trans (hK.1.2 0 _ rfl).2)
  subst hcA
  refine kk H1 (pm_hold_new hH ?_ o1) z1 o1
  exact e1
theorem pm_w_newq (hx : p.tables.exec = Jvm.exec) (hb : c.code = cc) (hown : s.vm.findClass (pm_nm own) = some m.cls) (hts : ∀ w ∈ pm_W, w.before args s = true) (hK : pm_K g s) (hH : pm_hold g A H) {i idx : Nat} (hm : (own, idx, 7) ∈ pm_cl) (hi : i ≤ 100000) (hc : cells + 1 ≤ R.cells) (hs : slots + i ≤ R.slots) (hdg : decode cc pc = .ok (.anewarray idx, 3))
    (kk : ∀ H1 : Heap, pm_hold g (pm_up A H.size (pm_ra g i (fun _ => none))) H1 → H1.size = H.size + 1 → (∀ q : Nat, q < H.size → H1[q]? = H[q]?) → W p l e R s m args below meth c H1 locs (cells + 1) (slots + i) Q (F0 m (pc + 3) ls (.ref H.size :: rest))) : W p l e R s m args below meth c H locs cells slots Q (F0 m pc ls (.int (nI i) :: rest)) := by
  have hN : (nI i).toNatClampNeg = i := nI_clamp (by omega)
  refine W.anew (C := RX7) hx hb hown (hts _ (pm_cl_ok _ hm).1) (va_AO.use hK.2.1) rfl hdg rfl (nI_pos (by omega)) (by rw [hN]; omega) hc (by rw [hN]; exact hs) fun cA kA comp f1 f2 f3 f4 => ?_
  rw [hN]
  obtain ⟨kA', comp', k1, k2, k3, k4⟩ := (hK.1.2 1 _ rfl).2
  have hcA : cA = g.2.2.1 := Option.some.inj (f1.symm.trans k4)
  subst hcA
  have o1 : ∀ q : Nat, q < H.size → (H.push ({ cls := g.2.2.1, slots := Array.replicate i .null, vm := .none } : Cell))[q]? = H[q]? := fun q hq => by rw [Array.getElem?_push, if_neg (Nat.ne_of_lt hq)]
  refine kk _ (pm_hold_new hH ?_ o1) (by rw [Array.size_push]) o1
  show _ = some (vp_cell _ _)
  rw [Array.getElem?_push_size, arrV_new]
  rfl
theorem pm_w_new (hx : p.tables.exec = Jvm.exec) (hb : c.code = cc) (hown : s.vm.findClass (pm_nm own) = some m.cls) (hts : ∀ w ∈ pm_W, w.before args s = true) (hK : pm_K g s) (hH : pm_hold g A H) {ci idx : Nat} (hm : (own, idx, ci) ∈ pm_cl) (hc : cells + 1 ≤ R.cells) (hs : slots + (pm_cT ci).2.2 ≤ R.slots) (hdg : decode cc pc = .ok (.new idx, 3))
    (kk : ∀ H1 : Heap, pm_hold g (pm_up A H.size (pm_ob ci (pm_df ci))) H1 → H1.size = H.size + 1 → (∀ q : Nat, q < H.size → H1[q]? = H[q]?) → W p l e R s m args below meth c H1 locs (cells + 1) (slots + (pm_cT ci).2.2) Q (F0 m (pc + 3) ls (.ref H.size :: rest))) : W p l e R s m args below meth c H locs cells slots Q (F0 m pc ls rest) := by
  obtain ⟨m1, m2⟩ := pm_cl_ok _ hm
  obtain ⟨n1, n2⟩ := pm_ci_ok ci m2
  have hKn := hK.1.1 ci _ (pm_cl_at m2)
  have m3 : (Cond.classLink (pm_nm own) idx (pm_cT ci).1).before args s = true := by rw [← n2]; exact hts _ m1
  refine W.newcK hx hb hown m3 (hts _ n1) (hts _ (pm_cz_ok ci m2)) rfl hdg hc hs hKn.2.1 rfl fun H1 kC hkC e1 z1 o1 => ?_
  refine kk H1 (pm_hold_new hH ⟨_, pm_cl_at m2, (u_born (pm_tys ci) hts (pm_u_ok ci m2) hKn hkC e1 (pm_ty_ok ci m2)).to (fun k hk => ?_)⟩ o1) z1 o1
  have hk' : k < (pm_cT ci).2.2 := hk
  show _ = (pm_df ci).getD k .null
  simp [pm_df, List.getD_eq_getElem?_getD, hk']
theorem pm_w_mna (hx : p.tables.exec = Jvm.exec) (hb : c.code = cc) (hown : s.vm.findClass (pm_nm 3) = some m.cls) (hts : ∀ w ∈ pm_W, w.before args s = true) (hK : pm_K g s) (hH : pm_hold g A H) {i k : Nat} (hi : i ≤ 1000) (hk : k ≤ 1000) (hc : cells + (1 + i) ≤ R.cells) (hs : slots + (i + i * k) ≤ R.slots) (hdg : decode cc pc = .ok (.multianewarray 9 2, 4))
    (kk : ∀ H1 : Heap, pm_hold g (pm_upm g A H.size (fun j => H.size + 1 + j) i k) H1 → H.size ≤ H1.size → (∀ q : Nat, q < H.size → H1[q]? = H[q]?) → W p l e R s m args below meth c H1 locs (cells + 1 + i) (slots + i + i * k) Q (F0 m (pc + 4) ls (.ref H.size :: rest))) : W p l e R s m args below meth c H locs cells slots Q (F0 m pc ls (.int (nI k) :: .int (nI i) :: rest)) := by
  have hN : (nI i).toNatClampNeg = i := nI_clamp (by omega)
  have hM : (nI k).toNatClampNeg = k := nI_clamp (by omega)
  intro T hT Xs
  have hcl : (Cond.classLink (pm_nm 3) 9 ("[" ++ (FieldType.array .int).toString)).before args s = true := hts _ pm_mal
  obtain ⟨vm₁, cA, comp, -, fA, fC, hO, -, X', step⟩ := Xs.multianewarray2F (ty := .int) hx hown hcl hK.2.2.1 (hts _ pm_arc) (g := F0 m pc ls (.int (nI k) :: .int (nI i) :: rest)) rfl (by rw [hb]; exact hdg) rfl (nI_pos (by omega)) (nI_pos (by omega)) (by rw [hN]; omega) (by rw [hM]; show k * 4 ≤ _; omega) (by rw [hM]; omega) rfl rfl (by rw [hN]; exact hc) (by rw [hN, hM]; exact hs)
  rw [hN, hM] at X' step
  have e1 : comp = g.2.1 := Option.some.inj (fC.symm.trans (hK.1.2 0 _ rfl).2)
  have e2 : cA = g.2.2.2 := Option.some.inj (fA.symm.trans (hK.1.2 2 _ rfl).2)
  subst e1; subst e2
  generalize hF : Jvm.Free.Multi.fill (T.setVm vm₁) g.2.2.2 g.2.1 i k (defaultValue .int) i = F at X' step
  have hTh : (T.setVm vm₁).heap = H := hT
  obtain ⟨f1, f2, -, -⟩ := Jvm.Free.Multi.fill_facts (T.setVm vm₁) g.2.2.2 g.2.1 i k (defaultValue .int) i
  rw [hF, hTh] at f1 f2
  have hold : ∀ x : Nat, x < H.size → F.heap[x]? = H[x]? := fun x hx => by
    have := Jvm.Free.Multi.fill_old (T.setVm vm₁) g.2.2.2 g.2.1 i k (defaultValue .int) (a := x) (by rw [hTh]; exact hx) i
    rw [hF, hTh] at this
    exact this
  have hrow : ∀ j : Nat, j < i → F.heap[H.size + 1 + j]? = some (Jvm.Free.Multi.innerC g.2.1 k (defaultValue .int)) := fun j hj => by
    have := Jvm.Free.Multi.fill_inner (T.setVm vm₁) g.2.2.2 g.2.1 i k (defaultValue .int) i j hj
    rw [hF, hTh] at this
    exact this
  have hI : Jvm.Free.Multi.innerC g.2.1 k (defaultValue .int) = vp_cell g.2.1 (k, .inl (fun _ => 0)) := arrV_new _ _ _
  have hOu : Jvm.Free.Multi.outerC g.2.2.2 i H.size i = vp_cell g.2.2.2 (i, .inr (.inr (.inr (.inr (fun j => if j < i then some (H.size + 1 + j) else none))))) := pm_outer _ _ _ _
  have hF1 : pm_hold g (pm_upm g A H.size (fun j => H.size + 1 + j) i k) F.heap := by
    intro q x hq
    unfold pm_upm at hq
    by_cases h1 : q = H.size
    · rw [if_pos h1] at hq
      cases hq
      subst h1
      show F.heap[H.size]? = some (vp_cell _ _)
      rw [f2, hOu]
    · rw [if_neg h1] at hq
      by_cases h2 : ∃ j, j < i ∧ q = H.size + 1 + j
      · rw [if_pos h2] at hq
        cases hq
        obtain ⟨j, hj, rfl⟩ := h2
        show F.heap[H.size + 1 + j]? = some (vp_cell _ _)
        rw [hrow j hj, hI]
      · rw [if_neg h2] at hq
        exact (hH q x hq).kept (hold q (hH q x hq).lt)
  obtain ⟨t, a1, b1⟩ := kk F.heap hF1 (by rw [f1]; omega) hold F rfl X'
  refine ⟨t, step t ?_, b1⟩
  rw [hT]
  exact a1
end PMH
end
section
/-! a call, by its contract over the pure cells -/
theorem pm_AM.moved {u U : State} (hvm : u.vm.Alike U.vm) (h : pm_AM u) : pm_AM U := by
  obtain ⟨comp, c, k, h1, h2, h3, h4, h5⟩ := arrayOverA_spec h
  obtain ⟨k', hk', he⟩ := hvm.2.2 _ _ h3
  have hi : (U.vm.classes.findIdx? fun (x : Class) => match x.kind with | .array component _ => component == comp | _ => false) = some c := by
    refine (va_idx_bare U.vm comp).symm.trans ?_
    first | rw [hvm.bare_eq] | rw [← hvm.bare_eq]
    exact (va_idx_bare u.vm comp).trans h2
  have hkind : k'.kind = .array comp (.array .int) := by rw [he]; exact h4
  have f1 : U.vm.findClass (FieldType.array .int).toString = some comp := by rw [hvm.findClass]; exact h1
  have f2 : U.vm.findClass ("[" ++ (FieldType.array .int).toString) = some c := by rw [hvm.findClass]; exact h5
  unfold pm_AM Cond.before Cond.holds
  simp only [Cond.value]
  rw [f1, Option.bind_some]
  refine (congrArg (fun o : Option Nat => (o.bind (fun c => (U.vm.classes[c]?).map fun (k : Class) => match k.kind with | .array _ ty => decide (ty = FieldType.array .int) && decide (U.vm.findClass ("[" ++ (FieldType.array .int).toString) = some c) | _ => false) == some true)) hi).trans ?_
  simp [hk', hkind, f2]
theorem pm_K.same {g : pm_G} {u U : State} (h : u.vm = U.vm) (hK : pm_K g u) : pm_K g U := by
  have ha : u.vm.Alike U.vm := by rw [h]; exact Vm.Alike.refl _
  exact ⟨hK.1.moved ha, hK.2.1.moved ha, hK.2.2.1.moved ha, fun q hq => va_Nw.same rfl h (hK.2.2.2 q hq)⟩
theorem pm_K.warm {g : pm_G} {u U : State} (h : u.WarmedH U.vm) (hK : pm_K g u) : pm_K g U := by
  have ha : u.vm.Alike U.vm := h.alike
  exact ⟨hK.1.moved ha, hK.2.1.moved ha, hK.2.2.1.moved ha, fun q hq => va_Nw.warmM h (hK.2.2.2 q hq)⟩
theorem pm_good {n : Nat} (hn : n < 283) : GoodIn pm_W (pm_ws n) := by
  intro w hw
  rcases List.mem_cons.mp hw with h | h
  · rw [h]
    have h1 := pm_cw_ok _ (pm_me_mem hn)
    exact ⟨h1, good_of_word (List.mem_filter.mp h1).2⟩
  · exact ⟨h, good_of_word (List.mem_filter.mp h).2⟩
theorem pm_mok {n : Nat} (hn : n < 283) : Cond.initialized (pm_me n).1.cls ∈ pm_W ∧ ((pm_me n).1.cls ≠ "java/lang/invoke/MethodHandle" ∧ (pm_me n).1.cls ≠ "java/lang/invoke/VarHandle" ∧ (parseMethodDescriptor (pm_me n).1.desc).map (fun d => d.parameters.length) = some (pm_me n).2.2.2.2.1) ∧ (pm_me n).2.2.1 ≤ 21 ∧ ((pm_me n).2.2.2.2.2 = 0 → Cond.instanceMethod (pm_me n).1 ∈ pm_W ∧ Cond.selects (pm_me n).1.cls (pm_me n).1 (pm_me n).1 ∈ pm_W) ∧ ((pm_me n).2.2.2.2.2 = 1 → Cond.static (pm_me n).1 ∈ pm_W) ∧ ((pm_me n).2.2.2.2.2 = 2 → Cond.instanceMethod (pm_me n).1 ∈ pm_W ∧ (pm_me n).1.name = "<init>" ∧ (pm_me n).2.2.2.1 = none) := by
  obtain ⟨p, hp⟩ := pm_mt_ok _ (pm_me_mem hn)
  generalize pm_me n = e at hp ⊢
  obtain ⟨y, cd, mx, rt, na, kd⟩ := e
  simp only [pm_okm, Bool.and_eq_true, decide_eq_true_eq] at hp
  obtain ⟨h1, h2, h3, h4⟩ := hp
  refine ⟨pm_in_ok h1, h2, h3, fun hk => ?_, fun hk => ?_, fun hk => ?_⟩
  · have hk : kd = 0 := hk
    subst hk
    simp only [Bool.and_eq_true] at h4
    exact ⟨pm_in_ok h4.1, pm_in_ok h4.2⟩
  · have hk : kd = 1 := hk
    subst hk
    exact pm_in_ok h4
  · have hk : kd = 2 := hk
    subst hk
    simp only [Bool.and_eq_true, decide_eq_true_eq] at h4
    exact ⟨pm_in_ok h4.1, h4.2⟩
section PMC
variable {p : Program} {l : Launch} {e : Env} {R : Room} {s : State} {m : MethodId} {args : Array Value} {below : List Frame} {meth : Method} {c : Code} {H : Heap} {locs : List Loc} {cells slots : Nat} {Q : State → Prop}
variable {cc : ByteArray} {pc : Nat} {ls : Array Slot} {rest : List Value} {a : Nat} {g : pm_G} {A : pm_H} {own nL : Nat} {fr : Nat → Prop}
theorem pm_w_after {mc ms : Nat} {st0 : List Value} {av : Array Value} {Q' : Option Value → pm_H → Prop} (hr : va_Run p l e R s m args below meth c H locs cells slots mc ms (F0 m pc ls st0) rest (pm_Qc g A H.size Q' av) (pm_fr A H.size)) (hd : ∀ q, A q ≠ none → fr q) (hS : va_S fr s.heap H locs) (hA : ∀ q, s.heap.size ≤ q → fr q)
    (kk : ∀ (r : Option Value) (A' : pm_H) (H1 : Heap) (locs1 : List Loc), Q' r A' → pm_hold g A' H1 → (∀ q, A' q ≠ none → fr q) → va_S fr s.heap H1 locs1 → W p l e R s m args below meth c H1 locs1 (cells + mc) (slots + ms) Q (F0 m (pc + 3) ls (r.toList ++ rest))) : W p l e R s m args below meth c H locs cells slots Q (F0 m pc ls st0) := by
  have hf : ∀ q, pm_fr A H.size q → fr q := fun q h => by
    rcases h with h | h
    · exact hd q h
    · exact hA q (Nat.le_trans hS.1 h)
  intro T hT X
  obtain ⟨v, st₀, t, T', L, h0, X', hL, e1, e2, ⟨r, A', ho, hq, hh, hdm, hz, hk⟩, st⟩ := hr T hT X
  cases ho
  rw [h0] at hz hk
  obtain ⟨t2, a1, b1⟩ := kk v A' T'.heap (locs ++ L) hq (by rw [e1]; exact hh) (fun q h => hf q (hdm q h))
    ⟨Nat.le_trans hS.1 (by rw [e1]; exact hz), fun q h1 h2 => by rw [e1, hk q (Nat.lt_of_lt_of_le h1 hS.1) (fun z => h2 (hf q z))]; exact hS.2.1 q h1 h2, fun q hq => by
      rcases List.mem_append.mp hq with h | h
      · exact hS.2.2 q h
      · exact hf _ (hL q h)⟩ T' rfl X'
  exact ⟨t2, st t2 a1, b1⟩
theorem pm_blind {as : List Value} {sz : Nat} : FrameBlind (va_Pc as (fun U => U.heap.size = sz ∧ pm_hold g A U.heap ∧ pm_K g U)) := by
  intro a U g' mk h
  obtain ⟨h1, h2, h3, h4⟩ := h
  exact ⟨h1, h2, h3, pm_K.same (u := U) (U := U.calling g' mk a) rfl h4⟩
theorem pm_cb (hts : ∀ w ∈ pm_W, w.before args s = true) {n idx d' mc' ms' : Nat} (hm : (own, idx, n) ∈ pm_ml) (hf : d' + 1 ≤ R.frames) (hl : 40 * (d' + 1) ≤ R.locals) : CallB R s args (pm_nm own) idx (pm_me n).1 (pm_me n).2.1 (pm_me n).2.2.1 (pm_me n).2.2.2.1 (pm_ws n) ({ frames := d', cells := mc', slots := ms', locals := 40 * d' }) mc' ms' (pm_me n).2.2.2.2.1 := by
  obtain ⟨h1, h2⟩ := pm_ml_ok _ hm
  obtain ⟨k1, k2, k3, -⟩ := pm_mok h2
  have k3 : (pm_me n).2.2.1 ≤ 21 := k3
  exact callB_of _ hts (pm_good h2) rfl rfl rfl (hts _ k1) (hts _ h1) k2 ⟨hf, by show 8 + (_ + 11) + 40 * d' ≤ _; omega⟩
theorem pm_w_callV (hx : p.tables.exec = Jvm.exec) (hb : c.code = cc) (hml : c.maxLocals = nL) (hown : s.vm.findClass (pm_nm own) = some m.cls) (hts : ∀ w ∈ pm_W, w.before args s = true) (hK : pm_K g s) (hA : ∀ q, s.heap.size ≤ q → fr q) (hH : pm_hold g A H) (hd : ∀ q, A q ≠ none → fr q) (hS : va_S fr s.heap H locs) (hls : ls.size = nL)
    {n idx d' mc' ms' ci b : Nat} {as fs : List Value} {Q' : Option Value → pm_H → Prop} (hM : pm_Mt l g n d' mc' ms' (.ref b :: as) A Q') (hm : (own, idx, n) ∈ pm_ml) (hk0 : (pm_me n).2.2.2.2.2 = 0) (hna : as.length = (pm_me n).2.2.2.2.1) (hci : ci < 12) (hcn : pm_nm ci = (pm_me n).1.cls) (hb0 : A b = some (pm_ob ci fs)) (hf : d' + 1 ≤ R.frames) (hl : 40 * (d' + 1) ≤ R.locals) (hrc : cells + mc' ≤ R.cells) (hrs : slots + ms' ≤ R.slots) (hrm : (rest.map fun v => v.category).sum ≤ 8) (hdg : decode cc pc = .ok (.invokevirtual idx, 3))
    (kk : ∀ (r : Option Value) (A' : pm_H) (H1 : Heap) (locs1 : List Loc), Q' r A' → pm_hold g A' H1 → (∀ q, A' q ≠ none → fr q) → va_S fr s.heap H1 locs1 → W p l e R s m args below meth c H1 locs1 (cells + mc') (slots + ms') Q (F0 m (pc + 3) ls (r.toList ++ rest))) : W p l e R s m args below meth c H locs cells slots Q (F0 m pc ls (as.reverse ++ .ref b :: rest)) := by
  obtain ⟨h1, h2⟩ := pm_ml_ok _ hm
  obtain ⟨-, -, -, k4, -⟩ := pm_mok h2
  obtain ⟨k5, k6⟩ := k4 hk0
  refine pm_w_after (va_runV (C := (pm_me n).1.cls) (b := b) (As := as) (rest := rest) ⟨hx, hb, hml, hown, hts⟩ (hM H.size) ⟨pm_cb hts hm hf hl, hts _ k5, hts _ k6⟩ ⟨pm_blind, ?_, fun U hU hW => ⟨rfl, by rw [hU], by rw [hU]; exact hH, hK.warm hW⟩⟩ rfl hna hls rfl (lv_room hrm) hdg ⟨hrc, hrs⟩) hd hS hA kk
  rw [← hcn, (pm_ci_ok ci hci).2]
  exact va_recv hK.1 (pm_P1 (hH b _ hb0)) (ci := ci) (q0 := 0) (pm_cl_at hci) rfl
theorem pm_w_callS (hx : p.tables.exec = Jvm.exec) (hb : c.code = cc) (hml : c.maxLocals = nL) (hown : s.vm.findClass (pm_nm own) = some m.cls) (hts : ∀ w ∈ pm_W, w.before args s = true) (hK : pm_K g s) (hA : ∀ q, s.heap.size ≤ q → fr q) (hH : pm_hold g A H) (hd : ∀ q, A q ≠ none → fr q) (hS : va_S fr s.heap H locs) (hls : ls.size = nL)
    {n idx d' mc' ms' : Nat} {as : List Value} {Q' : Option Value → pm_H → Prop} (hM : pm_Mt l g n d' mc' ms' as A Q') (hm : (own, idx, n) ∈ pm_ml) (hk0 : (pm_me n).2.2.2.2.2 = 1) (hna : as.length = (pm_me n).2.2.2.2.1) (hf : d' + 1 ≤ R.frames) (hl : 40 * (d' + 1) ≤ R.locals) (hrc : cells + mc' ≤ R.cells) (hrs : slots + ms' ≤ R.slots) (hrm : (rest.map fun v => v.category).sum ≤ 8) (hdg : decode cc pc = .ok (.invokestatic idx, 3))
    (kk : ∀ (r : Option Value) (A' : pm_H) (H1 : Heap) (locs1 : List Loc), Q' r A' → pm_hold g A' H1 → (∀ q, A' q ≠ none → fr q) → va_S fr s.heap H1 locs1 → W p l e R s m args below meth c H1 locs1 (cells + mc') (slots + ms') Q (F0 m (pc + 3) ls (r.toList ++ rest))) : W p l e R s m args below meth c H locs cells slots Q (F0 m pc ls (as.reverse ++ rest)) := by
  obtain ⟨h1, h2⟩ := pm_ml_ok _ hm
  obtain ⟨-, -, -, -, k4, -⟩ := pm_mok h2
  exact pm_w_after (va_runS (As := as) (rest := rest) ⟨hx, hb, hml, hown, hts⟩ (hM H.size) ⟨pm_cb hts hm hf hl, hts _ (k4 hk0)⟩ ⟨pm_blind, fun U hU hW => ⟨rfl, by rw [hU], by rw [hU]; exact hH, hK.warm hW⟩⟩ rfl hna hls rfl (lv_room hrm) hdg ⟨hrc, hrs⟩) hd hS hA kk
theorem pm_w_callI (hx : p.tables.exec = Jvm.exec) (hb : c.code = cc) (hml : c.maxLocals = nL) (hown : s.vm.findClass (pm_nm own) = some m.cls) (hts : ∀ w ∈ pm_W, w.before args s = true) (hK : pm_K g s) (hA : ∀ q, s.heap.size ≤ q → fr q) (hH : pm_hold g A H) (hd : ∀ q, A q ≠ none → fr q) (hS : va_S fr s.heap H locs) (hls : ls.size = nL)
    {n idx d' mc' ms' b : Nat} {Q' : Option Value → pm_H → Prop} (hM : pm_Mt l g n d' mc' ms' [.ref b] A Q') (hm : (own, idx, n) ∈ pm_ml) (hk0 : (pm_me n).2.2.2.2.2 = 2) (hna : 0 = (pm_me n).2.2.2.2.1) (hf : d' + 1 ≤ R.frames) (hl : 40 * (d' + 1) ≤ R.locals) (hrc : cells + mc' ≤ R.cells) (hrs : slots + ms' ≤ R.slots) (hrm : (rest.map fun v => v.category).sum ≤ 8) (hdg : decode cc pc = .ok (.invokespecial idx, 3))
    (kk : ∀ (r : Option Value) (A' : pm_H) (H1 : Heap) (locs1 : List Loc), Q' r A' → pm_hold g A' H1 → (∀ q, A' q ≠ none → fr q) → va_S fr s.heap H1 locs1 → W p l e R s m args below meth c H1 locs1 (cells + mc') (slots + ms') Q (F0 m (pc + 3) ls (r.toList ++ rest))) : W p l e R s m args below meth c H locs cells slots Q (F0 m pc ls (.ref b :: rest)) := by
  obtain ⟨h1, h2⟩ := pm_ml_ok _ hm
  obtain ⟨-, -, -, -, -, k4⟩ := pm_mok h2
  obtain ⟨k5, k6, k7⟩ := k4 hk0
  have cb := pm_cb (R := R) (mc' := mc') (ms' := ms') hts hm hf hl
  rw [k7] at cb
  exact pm_w_after (va_runI (As := []) (rest := rest) ⟨hx, hb, hml, hown, hts⟩ (hM H.size) ⟨cb, k6, hts _ k5⟩ ⟨pm_blind, fun U hU hW => ⟨rfl, by rw [hU], by rw [hU]; exact hH, hK.warm hW⟩⟩ rfl hna hls rfl (lv_room hrm) hdg ⟨hrc, hrs⟩) hd hS hA kk
theorem pm_w_callN (hx : p.tables.exec = Jvm.exec) (hb : c.code = cc) (hml : c.maxLocals = nL) (hown : s.vm.findClass (pm_nm own) = some m.cls) (hts : ∀ w ∈ pm_W, w.before args s = true) (hK : pm_K g s) (hA : ∀ q, s.heap.size ≤ q → fr q) (hH : pm_hold g A H) (hd : ∀ q, A q ≠ none → fr q) (hS : va_S fr s.heap H locs) (hls : ls.size = nL)
    {n idx d' mc' ms' b hs : Nat} {Q' : Option Value → pm_H → Prop} (hM : pm_Mt l g n d' mc' ms' [.ref b] A Q') (hm : (own, idx, n, hs) ∈ pm_nl2) (hk0 : (pm_me n).2.2.2.2.2 = 2) (hna : 0 = (pm_me n).2.2.2.2.1) (hf : d' + 1 ≤ R.frames) (hl : 40 * (d' + 1) ≤ R.locals) (hrc : cells + mc' ≤ R.cells) (hrs : slots + ms' ≤ R.slots) (hrm : (rest.map fun v => v.category).sum ≤ 8) (hdg : decode cc pc = .ok (.invokespecial idx, 3))
    (kk : ∀ (r : Option Value) (A' : pm_H) (H1 : Heap) (locs1 : List Loc), Q' r A' → pm_hold g A' H1 → (∀ q, A' q ≠ none → fr q) → va_S fr s.heap H1 locs1 → W p l e R s m args below meth c H1 locs1 (cells + mc') (slots + ms') Q (F0 m (pc + 3) ls (r.toList ++ rest))) : W p l e R s m args below meth c H locs cells slots Q (F0 m pc ls (.ref b :: rest)) := by
  obtain ⟨-, h2⟩ := pm_nl2_ok _ hm
  obtain ⟨k1, k2, k3, -, -, k4⟩ := pm_mok h2
  have k3 : (pm_me n).2.2.1 ≤ 21 := k3
  obtain ⟨k5, k6, k7⟩ := k4 hk0
  have cb : va_CN R s args (pm_nm own) idx (pm_me n).1 (pm_nm hs) (pm_me n).2.1 (pm_me n).2.2.1 (pm_me n).2.2.2.1 (pm_ws n) ({ frames := d', cells := mc', slots := ms', locals := 40 * d' }) mc' ms' (pm_me n).2.2.2.2.1 := va_cnB _ hts (pm_good h2) rfl rfl rfl (hK.2.2.2 _ hm) (hts _ k1) k2 ⟨hf, by show 8 + (_ + 11) + 40 * d' ≤ _; omega⟩
  rw [k7] at cb
  exact pm_w_after (va_runIN (As := []) (rest := rest) ⟨hx, hb, hml, hown, hts⟩ (hM H.size) ⟨cb, k6, hts _ k5⟩ ⟨pm_blind, fun U hU hW => ⟨rfl, by rw [hU], by rw [hU]; exact hH, hK.warm hW⟩⟩ rfl hna hls rfl (lv_room hrm) hdg ⟨hrc, hrs⟩) hd hS hA kk
end PMC
end
section
/-! a checked block: what it wants is enough for the machine -/
theorem pm_len {ins : Instr} {len n : Nat} (h : pm_isTab ins = true ∨ len = pm_ln ins) (h1 : pm_isTab ins = false) (h2 : pm_ln ins = n) : len = n := by
  rcases h with h | h
  · rw [h1] at h; cases h
  · exact h.trans h2
theorem pm_tlx {ins : Instr} {b : Bool} (h : pm_tm ins = true ∨ b = true) (h1 : pm_tm ins = false) : b = true := by
  rcases h with h | h
  · rw [h1] at h; cases h
  · exact h
theorem pm_lt0 (x : Int32) : x < 0 ↔ x.toInt < 0 := by rw [pm_lt, Int32.toInt_zero]
theorem pm_gt0 (x : Int32) : 0 < x ↔ 0 < x.toInt := by rw [pm_lt, Int32.toInt_zero]
theorem pm_le0 (x : Int32) : x ≤ 0 ↔ x.toInt ≤ 0 := by rw [pm_le, Int32.toInt_zero]
theorem pm_ge0 (x : Int32) : 0 ≤ x ↔ 0 ≤ x.toInt := by rw [pm_le, Int32.toInt_zero]
theorem pm_rme {rest : List Value} (h : pm_rm rest = true) : (rest.map fun v => v.category).sum ≤ 8 := Nat.le_of_ble_eq_true h
set_option maxHeartbeats 4000000 in
set_option maxRecDepth 100000 in
theorem pm_sound {p : Program} {l : Launch} {e : Env} {R : Room} {s : State} {m : MethodId} {args : Array Value} {below : List Frame} {meth : Method} {c : Code} {Q : State → Prop} {g : pm_G} {own nL : Nat} {isI : Bool} {ret : Option FieldType} {cc : ByteArray} {ro : Nat → Option (Nat × (Nat → Int32))} {d mc ms : Nat} {Ret : Option Value → pm_H → Nat → Nat → Prop} {fr : Nat → Prop} (C : pm_Cx p l e R s m args below meth c Q g own nL isI ret cc ro d mc ms Ret fr) (fin : Nat) :
    ∀ (ops : List pm_Op) (pc : Nat) (L : pm_L) (st : List Value) (A : pm_H) (cells slots : Nat), pm_ok own nL isI ret cc fin pc ops = true → pm_wp l g ro d mc ms Ret (pm_Sem p l e R s m args below meth c Q g nL fr) fin ops L st A cells slots → pm_Sem p l e R s m args below meth c Q g nL fr pc L st A cells slots := by
  obtain ⟨hx, hb, hml, hown, hts, hK, hA, hro, hin, ⟨r1, r2, r3, r4⟩, hret⟩ := C
  intro ops
  induction ops with
  | nil =>
    intro pc L st A cells slots hok h
    have h1 : pc = fin := by simpa [pm_ok] using hok
    subst h1
    exact h
  | cons op r ih =>
    obtain ⟨ins, len, i, k, z⟩ := op
    intro pc L st A cells slots hok hw H locs ls hH hd hS hL
    simp only [pm_ok, Bool.and_eq_true, Bool.or_eq_true, decide_eq_true_eq] at hok
    obtain ⟨hdg, hln, hrs, htl⟩ := hok
    cases ins with
    | iconst n =>
      cases pm_len (n := 1) hln rfl rfl
      simp only [pm_rs, decide_eq_true_eq] at hrs
      exact lv_iconst hx hb hdg hrs (ih _ _ _ _ _ _ (pm_tlx htl rfl) hw H locs ls hH hd hS hL)
    | bipush n =>
      cases pm_len (n := 2) hln rfl rfl
      simp only [pm_rs, decide_eq_true_eq] at hrs
      exact lv_bipush hx hb hdg hrs (ih _ _ _ _ _ _ (pm_tlx htl rfl) hw H locs ls hH hd hS hL)
    | sipush n =>
      cases pm_len (n := 3) hln rfl rfl
      simp only [pm_rs, decide_eq_true_eq] at hrs
      exact lv_sipush hx hb hdg hrs (ih _ _ _ _ _ _ (pm_tlx htl rfl) hw H locs ls hH hd hS hL)
    | ldc n =>
      cases pm_len (n := 2) hln rfl rfl
      simp only [pm_rs, decide_eq_true_eq] at hrs
      exact lv_ldc hx hb hown (hts _ (pm_kl_ok _ hrs)) hdg (ih _ _ _ _ _ _ (pm_tlx htl rfl) hw H locs ls hH hd hS hL)
    | ldc_w n =>
      cases pm_len (n := 3) hln rfl rfl
      simp only [pm_rs, decide_eq_true_eq] at hrs
      exact lv_ldcw hx hb hown (hts _ (pm_kl_ok _ hrs)) hdg (ih _ _ _ _ _ _ (pm_tlx htl rfl) hw H locs ls hH hd hS hL)
    | aconst_null =>
      cases pm_len (n := 1) hln rfl rfl
      exact lv_null hx hb hdg (ih _ _ _ _ _ _ (pm_tlx htl rfl) hw H locs ls hH hd hS hL)
    | lconst n =>
      cases pm_len (n := 1) hln rfl rfl
      exact lv_lconst hx hb hdg rfl (ih _ _ _ _ _ _ (pm_tlx htl rfl) hw H locs ls hH hd hS hL)
    | iload n =>
      cases pm_len (n := 2) hln rfl rfl
      simp only [pm_rs, decide_eq_true_eq] at hrs
      obtain ⟨x, hg, h⟩ := pm_li_v hw
      subst hrs
      exact lv_iload hx hb hdg (pm_lv_at hL hg) (ih _ _ _ _ _ _ (pm_tlx htl rfl) h H locs ls hH hd hS hL)
    | iload_n n =>
      cases pm_len (n := 1) hln rfl rfl
      simp only [pm_rs, decide_eq_true_eq] at hrs
      obtain ⟨x, hg, h⟩ := pm_li_v hw
      exact lv_iload_n hx hb hdg hrs (pm_lv_at hL hg) (ih _ _ _ _ _ _ (pm_tlx htl rfl) h H locs ls hH hd hS hL)
    | lload_n n =>
      cases pm_len (n := 1) hln rfl rfl
      simp only [pm_rs, decide_eq_true_eq] at hrs
      obtain ⟨x, hg, h⟩ := pm_ll_v hw
      exact lv_lload_n hx hb hdg hrs (pm_lv_at hL hg) (ih _ _ _ _ _ _ (pm_tlx htl rfl) h H locs ls hH hd hS hL)
    | aload n =>
      cases pm_len (n := 2) hln rfl rfl
      simp only [pm_rs, decide_eq_true_eq] at hrs
      subst hrs
      rcases pm_lr_v hw with ⟨x, hg, h⟩ | ⟨hg, h⟩
      · exact lv_aload hx hb hdg (pm_lv_at hL hg) (ih _ _ _ _ _ _ (pm_tlx htl rfl) h H locs ls hH hd hS hL)
      · exact lv_aloadN hx hb hdg (pm_lv_at hL hg) (ih _ _ _ _ _ _ (pm_tlx htl rfl) h H locs ls hH hd hS hL)
    | aload_n n =>
      cases pm_len (n := 1) hln rfl rfl
      simp only [pm_rs, decide_eq_true_eq] at hrs
      rcases pm_lr_v hw with ⟨x, hg, h⟩ | ⟨hg, h⟩
      · exact lv_aload_n hx hb hdg hrs (pm_lv_at hL hg) (ih _ _ _ _ _ _ (pm_tlx htl rfl) h H locs ls hH hd hS hL)
      · exact lv_aload_nN hx hb hdg hrs (pm_lv_at hL hg) (ih _ _ _ _ _ _ (pm_tlx htl rfl) h H locs ls hH hd hS hL)
    | istore n =>
      cases pm_len (n := 2) hln rfl rfl
      simp only [pm_rs, decide_eq_true_eq] at hrs
      obtain ⟨rfl, h1⟩ := hrs
      obtain ⟨x, st, rfl, h⟩ := pm_si_v hw
      exact lv_istore hx hb hdg hL h1 rfl (fun ls' hl => ih _ _ _ _ _ _ (pm_tlx htl rfl) h H locs ls' hH hd hS (pm_lv_st hl))
    | istore_n n =>
      cases pm_len (n := 1) hln rfl rfl
      simp only [pm_rs, decide_eq_true_eq] at hrs
      obtain ⟨h0, h1⟩ := hrs
      obtain ⟨x, st, rfl, h⟩ := pm_si_v hw
      exact lv_istore_n hx hb hdg h0 hL h1 rfl (fun ls' hl => ih _ _ _ _ _ _ (pm_tlx htl rfl) h H locs ls' hH hd hS (pm_lv_st hl))
    | lstore_n n =>
      cases pm_len (n := 1) hln rfl rfl
      simp only [pm_rs, decide_eq_true_eq] at hrs
      obtain ⟨h0, h1⟩ := hrs
      obtain ⟨x, st, rfl, h⟩ := pm_sl_v hw
      exact lv_lstore_n hx hb hdg h0 hL h1 rfl (fun ls' hl => ih _ _ _ _ _ _ (pm_tlx htl rfl) h H locs ls' hH hd hS (pm_lv_st2 hl))
    | astore n =>
      cases pm_len (n := 2) hln rfl rfl
      simp only [pm_rs, decide_eq_true_eq] at hrs
      obtain ⟨rfl, h1⟩ := hrs
      rcases pm_srn_v hw with ⟨x, st, rfl, h⟩ | ⟨st, rfl, h⟩
      · exact lv_astore hx hb hdg hL h1 rfl (fun ls' hl => ih _ _ _ _ _ _ (pm_tlx htl rfl) h H locs ls' hH hd hS (pm_lv_st hl))
      · exact lv_astoreN hx hb hdg hL h1 rfl (fun ls' hl => ih _ _ _ _ _ _ (pm_tlx htl rfl) h H locs ls' hH hd hS (pm_lv_st hl))
    | astore_n n =>
      cases pm_len (n := 1) hln rfl rfl
      simp only [pm_rs, decide_eq_true_eq] at hrs
      obtain ⟨h0, h1⟩ := hrs
      rcases pm_srn_v hw with ⟨x, st, rfl, h⟩ | ⟨st, rfl, h⟩
      · exact lv_astore_n hx hb hdg h0 hL h1 rfl (fun ls' hl => ih _ _ _ _ _ _ (pm_tlx htl rfl) h H locs ls' hH hd hS (pm_lv_st hl))
      · exact lv_astore_nN hx hb hdg h0 hL h1 rfl (fun ls' hl => ih _ _ _ _ _ _ (pm_tlx htl rfl) h H locs ls' hH hd hS (pm_lv_st hl))
    | iinc j n =>
      cases pm_len (n := 3) hln rfl rfl
      simp only [pm_rs, decide_eq_true_eq] at hrs
      obtain ⟨rfl, h1, h2⟩ := hrs
      obtain ⟨x, hg, h⟩ := pm_li_v hw
      obtain ⟨k9, hk9⟩ := pm_lv_k hg
      exact lv_iinc hx hb hdg hL hk9 (by rw [h2]) h1 rfl (fun ls' hl => ih _ _ _ _ _ _ (pm_tlx htl rfl) (h _ rfl) H locs ls' hH hd hS (pm_lv_st hl))
    | iaload =>
      cases pm_len (n := 1) hln rfl rfl
      obtain ⟨x, a, st, rfl, n, f, hr, hi, h⟩ := pm_sir_v hw
      rcases hr with hr | hr
      · exact pm_w_iald hx hb hK hH hr hi hdg (ih _ _ _ _ _ _ (pm_tlx htl rfl) h H locs ls hH hd hS hL)
      · obtain ⟨h1, h2, h3⟩ := hro _ _ _ hr
        exact va_sld hx hb h3 h1 h2 hS (pm_in_of hi) hdg (ih _ _ _ _ _ _ (pm_tlx htl rfl) h H locs ls hH hd hS hL)
    | iastore =>
      cases pm_len (n := 1) hln rfl rfl
      obtain ⟨v, x, a, st, rfl, n, f, hr, hi, h⟩ := pm_siir_v hw
      have hfa := hd a (by rw [hr]; exact fun q => by cases q)
      exact pm_w_iast hx hb hK hH hr hi hdg (fun H1 j hH1 hz oq => ih _ _ _ _ _ _ (pm_tlx htl rfl) h H1 _ ls hH1 (pm_dom_up hd hfa) (pm_S_put hS hz oq hfa) hL)
    | aaload =>
      cases pm_len (n := 1) hln rfl rfl
      obtain ⟨x, a, st, rfl, n, f, hr, hi, h⟩ := pm_sir_v hw
      exact pm_w_aald hx hb hK hH hr hi hdg (ih _ _ _ _ _ _ (pm_tlx htl rfl) h H locs ls hH hd hS hL)
    | aastore =>
      cases pm_len (n := 1) hln rfl rfl
      obtain ⟨v, x, a, st, rfl, n, f, fs, hr, hv, hi, h⟩ := pm_srir_v hw
      have hfa := hd a (by rw [hr]; exact fun q => by cases q)
      exact pm_w_aast hx hb hK hH hr hv hi hdg (fun H1 j hH1 hz oq => ih _ _ _ _ _ _ (pm_tlx htl rfl) h H1 _ ls hH1 (pm_dom_up hd hfa) (pm_S_put hS hz oq hfa) hL)
    | arraylength =>
      cases pm_len (n := 1) hln rfl rfl
      obtain ⟨a, st, rfl, n, f, hr, h⟩ := pm_sr_v hw
      rcases hr with hr | hr
      · exact pm_w_alen hx hb hK hH hr hdg (ih _ _ _ _ _ _ (pm_tlx htl rfl) h H locs ls hH hd hS hL)
      · obtain ⟨h1, h2, h3⟩ := hro _ _ _ hr
        exact va_slen hx hb h3 h1 h2 hS hdg (ih _ _ _ _ _ _ (pm_tlx htl rfl) h H locs ls hH hd hS hL)
    | pop =>
      cases pm_len (n := 1) hln rfl rfl
      obtain ⟨x, st, rfl, h⟩ := pm_si_v hw
      exact lv_pop hx hb hdg rfl (ih _ _ _ _ _ _ (pm_tlx htl rfl) h H locs ls hH hd hS hL)
    | pop2 =>
      cases pm_len (n := 1) hln rfl rfl
      obtain ⟨x, st, rfl, h⟩ := pm_sl_v hw
      exact lv_pop2_2 hx hb hdg rfl (ih _ _ _ _ _ _ (pm_tlx htl rfl) h H locs ls hH hd hS hL)
    | dup =>
      cases pm_len (n := 1) hln rfl rfl
      rcases pm_sd_v hw with ⟨x, st, rfl, h⟩ | ⟨x, st, rfl, h⟩
      · exact lv_dup hx hb hdg rfl (ih _ _ _ _ _ _ (pm_tlx htl rfl) h H locs ls hH hd hS hL)
      · exact lv_dup hx hb hdg rfl (ih _ _ _ _ _ _ (pm_tlx htl rfl) h H locs ls hH hd hS hL)
    | dup2 =>
      cases pm_len (n := 1) hln rfl rfl
      obtain ⟨x, a, st, rfl, h⟩ := pm_sir_v hw
      exact lv_dup2_11 hx hb hdg rfl rfl (ih _ _ _ _ _ _ (pm_tlx htl rfl) h H locs ls hH hd hS hL)
    | iadd =>
      cases pm_len (n := 1) hln rfl rfl
      obtain ⟨x, y, st, rfl, h⟩ := pm_sii_v hw
      exact lv_iadd hx hb hdg (ih _ _ _ _ _ _ (pm_tlx htl rfl) (h _ rfl) H locs ls hH hd hS hL)
    | isub =>
      cases pm_len (n := 1) hln rfl rfl
      obtain ⟨x, y, st, rfl, h⟩ := pm_sii_v hw
      exact lv_isub hx hb hdg (ih _ _ _ _ _ _ (pm_tlx htl rfl) (h _ rfl) H locs ls hH hd hS hL)
    | imul =>
      cases pm_len (n := 1) hln rfl rfl
      obtain ⟨x, y, st, rfl, h⟩ := pm_sii_v hw
      exact lv_imul hx hb hdg (ih _ _ _ _ _ _ (pm_tlx htl rfl) (h _ rfl) H locs ls hH hd hS hL)
    | ishl =>
      cases pm_len (n := 1) hln rfl rfl
      obtain ⟨x, y, st, rfl, h⟩ := pm_sii_v hw
      exact lv_ishl hx hb hdg (ih _ _ _ _ _ _ (pm_tlx htl rfl) h H locs ls hH hd hS hL)
    | ishr =>
      cases pm_len (n := 1) hln rfl rfl
      obtain ⟨x, y, st, rfl, h⟩ := pm_sii_v hw
      exact lv_ishr hx hb hdg (ih _ _ _ _ _ _ (pm_tlx htl rfl) h H locs ls hH hd hS hL)
    | iand =>
      cases pm_len (n := 1) hln rfl rfl
      obtain ⟨x, y, st, rfl, h⟩ := pm_sii_v hw
      exact lv_iand hx hb hdg (ih _ _ _ _ _ _ (pm_tlx htl rfl) h H locs ls hH hd hS hL)
    | ior =>
      cases pm_len (n := 1) hln rfl rfl
      obtain ⟨x, y, st, rfl, h⟩ := pm_sii_v hw
      exact lv_ior hx hb hdg (ih _ _ _ _ _ _ (pm_tlx htl rfl) h H locs ls hH hd hS hL)
    | ixor =>
      cases pm_len (n := 1) hln rfl rfl
      obtain ⟨x, y, st, rfl, h⟩ := pm_sii_v hw
      exact lv_ixor hx hb hdg (ih _ _ _ _ _ _ (pm_tlx htl rfl) h H locs ls hH hd hS hL)
    | iushr =>
      cases pm_len (n := 1) hln rfl rfl
      obtain ⟨x, y, st, rfl, h⟩ := pm_sii_v hw
      exact lv_iushr hx hb hdg rfl (ih _ _ _ _ _ _ (pm_tlx htl rfl) h H locs ls hH hd hS hL)
    | idiv =>
      cases pm_len (n := 1) hln rfl rfl
      obtain ⟨x, y, st, rfl, h0, h⟩ := pm_sii_v hw
      exact lv_idiv hx hb hdg h0 (ih _ _ _ _ _ _ (pm_tlx htl rfl) (h _ rfl) H locs ls hH hd hS hL)
    | irem =>
      cases pm_len (n := 1) hln rfl rfl
      obtain ⟨x, y, st, rfl, h0, h⟩ := pm_sii_v hw
      exact lv_irem hx hb hdg h0 (ih _ _ _ _ _ _ (pm_tlx htl rfl) (h _ rfl) H locs ls hH hd hS hL)
    | ineg =>
      cases pm_len (n := 1) hln rfl rfl
      obtain ⟨x, st, rfl, h⟩ := pm_si_v hw
      exact lv_ineg hx hb hdg (ih _ _ _ _ _ _ (pm_tlx htl rfl) (h _ rfl) H locs ls hH hd hS hL)
    | i2l =>
      cases pm_len (n := 1) hln rfl rfl
      obtain ⟨x, st, rfl, h⟩ := pm_si_v hw
      exact lv_i2l hx hb hdg rfl (ih _ _ _ _ _ _ (pm_tlx htl rfl) h H locs ls hH hd hS hL)
    | ladd =>
      cases pm_len (n := 1) hln rfl rfl
      obtain ⟨x, y, st, rfl, h⟩ := pm_sll_v hw
      exact lv_ladd hx hb hdg (ih _ _ _ _ _ _ (pm_tlx htl rfl) h H locs ls hH hd hS hL)
    | lmul =>
      cases pm_len (n := 1) hln rfl rfl
      obtain ⟨x, y, st, rfl, h⟩ := pm_sll_v hw
      exact lv_lmul hx hb hdg (ih _ _ _ _ _ _ (pm_tlx htl rfl) h H locs ls hH hd hS hL)
    | lcmp =>
      cases pm_len (n := 1) hln rfl rfl
      obtain ⟨x, y, st, rfl, h⟩ := pm_sll_v hw
      exact W.lcmp hx hb hdg (ih _ _ _ _ _ _ (pm_tlx htl rfl) h H locs ls hH hd hS hL)
    | goto off =>
      cases pm_len (n := 3) hln rfl rfl
      simp only [pm_rs, decide_eq_true_eq] at hrs
      exact lv_goto (tgt := i) hx hb hdg hrs (hw H locs ls hH hd hS hL)
    | if_icmp cd off =>
      cases pm_len (n := 3) hln rfl rfl
      simp only [pm_rs, decide_eq_true_eq] at hrs
      cases cd with
      | eq =>
        obtain ⟨x, y, st, rfl, h⟩ := pm_sii_v hw
        exact lv_icmp_eq (tgt := i) hx hb hdg hrs (fun q => h.1 (q) H locs ls hH hd hS hL) (fun q => ih _ _ _ _ _ _ (pm_tlx htl rfl) (h.2 (q)) H locs ls hH hd hS hL)
      | ne =>
        obtain ⟨x, y, st, rfl, h⟩ := pm_sii_v hw
        exact lv_icmp_ne (tgt := i) hx hb hdg hrs (fun q => h.1 (q) H locs ls hH hd hS hL) (fun q => ih _ _ _ _ _ _ (pm_tlx htl rfl) (h.2 (q)) H locs ls hH hd hS hL)
      | lt =>
        obtain ⟨x, y, st, rfl, h⟩ := pm_sii_v hw
        exact lv_icmp_lt (tgt := i) hx hb hdg hrs (fun q => h.1 ((pm_lt _ _).mp q) H locs ls hH hd hS hL) (fun q => ih _ _ _ _ _ _ (pm_tlx htl rfl) (h.2 (by have := mt (pm_lt _ _).mpr q; omega)) H locs ls hH hd hS hL)
      | ge =>
        obtain ⟨x, y, st, rfl, h⟩ := pm_sii_v hw
        exact lv_icmp_ge (tgt := i) hx hb hdg hrs (fun q => h.1 ((pm_le _ _).mp q) H locs ls hH hd hS hL) (fun q => ih _ _ _ _ _ _ (pm_tlx htl rfl) (h.2 (by have := mt (pm_le _ _).mpr q; omega)) H locs ls hH hd hS hL)
      | gt =>
        obtain ⟨x, y, st, rfl, h⟩ := pm_sii_v hw
        exact lv_icmp_gt (tgt := i) hx hb hdg hrs (fun q => h.1 ((pm_lt _ _).mp q) H locs ls hH hd hS hL) (fun q => ih _ _ _ _ _ _ (pm_tlx htl rfl) (h.2 (by have := mt (pm_lt _ _).mpr q; omega)) H locs ls hH hd hS hL)
      | le =>
        obtain ⟨x, y, st, rfl, h⟩ := pm_sii_v hw
        exact lv_icmp_le (tgt := i) hx hb hdg hrs (fun q => h.1 ((pm_le _ _).mp q) H locs ls hH hd hS hL) (fun q => ih _ _ _ _ _ _ (pm_tlx htl rfl) (h.2 (by have := mt (pm_le _ _).mpr q; omega)) H locs ls hH hd hS hL)
    | ifCond cd off =>
      cases pm_len (n := 3) hln rfl rfl
      simp only [pm_rs, decide_eq_true_eq] at hrs
      cases cd with
      | eq =>
        obtain ⟨x, st, rfl, h⟩ := pm_si_v hw
        exact lv_if_eq (tgt := i) hx hb hdg hrs (fun q => h.1 (q) H locs ls hH hd hS hL) (fun q => ih _ _ _ _ _ _ (pm_tlx htl rfl) (h.2 (q)) H locs ls hH hd hS hL)
      | ne =>
        obtain ⟨x, st, rfl, h⟩ := pm_si_v hw
        exact lv_if_ne (tgt := i) hx hb hdg hrs (fun q => h.1 (q) H locs ls hH hd hS hL) (fun q => ih _ _ _ _ _ _ (pm_tlx htl rfl) (h.2 (q)) H locs ls hH hd hS hL)
      | lt =>
        obtain ⟨x, st, rfl, h⟩ := pm_si_v hw
        exact lv_if_lt (tgt := i) hx hb hdg hrs (fun q => h.1 ((pm_lt0 _).mp q) H locs ls hH hd hS hL) (fun q => ih _ _ _ _ _ _ (pm_tlx htl rfl) (h.2 (by have := mt (pm_lt0 _).mpr q; omega)) H locs ls hH hd hS hL)
      | ge =>
        obtain ⟨x, st, rfl, h⟩ := pm_si_v hw
        exact lv_if_ge (tgt := i) hx hb hdg hrs (fun q => h.1 ((pm_ge0 _).mp q) H locs ls hH hd hS hL) (fun q => ih _ _ _ _ _ _ (pm_tlx htl rfl) (h.2 (by have := mt (pm_ge0 _).mpr q; omega)) H locs ls hH hd hS hL)
      | gt =>
        obtain ⟨x, st, rfl, h⟩ := pm_si_v hw
        exact lv_if_gt (tgt := i) hx hb hdg hrs (fun q => h.1 ((pm_gt0 _).mp q) H locs ls hH hd hS hL) (fun q => ih _ _ _ _ _ _ (pm_tlx htl rfl) (h.2 (by have := mt (pm_gt0 _).mpr q; omega)) H locs ls hH hd hS hL)
      | le =>
        obtain ⟨x, st, rfl, h⟩ := pm_si_v hw
        exact lv_if_le (tgt := i) hx hb hdg hrs (fun q => h.1 ((pm_le0 _).mp q) H locs ls hH hd hS hL) (fun q => ih _ _ _ _ _ _ (pm_tlx htl rfl) (h.2 (by have := mt (pm_le0 _).mpr q; omega)) H locs ls hH hd hS hL)
    | ifnull off =>
      cases pm_len (n := 3) hln rfl rfl
      simp only [pm_rs, decide_eq_true_eq] at hrs
      rcases pm_srn_v hw with ⟨x, st, rfl, h⟩ | ⟨st, rfl, h⟩
      · exact lv_ifnull hx hb hdg (ih _ _ _ _ _ _ (pm_tlx htl rfl) h H locs ls hH hd hS hL)
      · exact lv_ifnullN (tgt := i) hx hb hdg hrs (h H locs ls hH hd hS hL)
    | ifnonnull off =>
      cases pm_len (n := 3) hln rfl rfl
      simp only [pm_rs, decide_eq_true_eq] at hrs
      rcases pm_srn_v hw with ⟨x, st, rfl, h⟩ | ⟨st, rfl, h⟩
      · exact lv_ifnonnull (tgt := i) hx hb hdg hrs (h H locs ls hH hd hS hL)
      · exact lv_ifnonnullN hx hb hdg (ih _ _ _ _ _ _ (pm_tlx htl rfl) h H locs ls hH hd hS hL)
    | tableswitch dflt lo hi offs =>
      simp only [pm_rs, Bool.and_eq_true, decide_eq_true_eq, List.all_eq_true] at hrs
      obtain ⟨⟨rfl, h1, h2⟩, h3⟩ := hrs
      obtain ⟨x, st, rfl, h⟩ := pm_si_v hw
      by_cases q1 : x.toInt < lo ∨ hi < x.toInt
      · exact lv_tableOut (tgt := ((pc : Int) + dflt).toNat) hx hb hdg q1 (by omega) (h _ (Or.inl ⟨q1, rfl⟩) H locs ls hH hd hS hL)
      · have q2 : ¬ x.toInt < lo := fun q => q1 (Or.inl q)
        have q3 : ¬ hi < x.toInt := fun q => q1 (Or.inr q)
        have q4 : (x.toInt - lo).toNat < offs.size := by omega
        have q5 : offs[(x.toInt - lo).toNat]? = some offs[(x.toInt - lo).toNat] := Array.getElem?_eq_getElem q4
        have q6 := h3 offs[(x.toInt - lo).toNat] (by rw [Array.mem_toList_iff]; exact Array.getElem_mem q4)
        exact lv_tableIn (tgt := ((pc : Int) + offs[(x.toInt - lo).toNat]).toNat) hx hb hdg q2 q3 q5 (by omega) (h _ (Or.inr ⟨q2, q3, _, q5, rfl⟩) H locs ls hH hd hS hL)
    | getfield idx =>
      cases pm_len (n := 3) hln rfl rfl
      simp only [pm_rs, decide_eq_true_eq] at hrs
      obtain ⟨a, st, rfl, fs, ha, h⟩ := pm_sr_v hw
      obtain ⟨v, hv, h⟩ := pm_ga_v h
      exact pm_w_get hx hb hown hts hK hH hrs ha hv hdg (ih _ _ _ _ _ _ (pm_tlx htl rfl) h H locs ls hH hd hS hL)
    | putfield idx =>
      cases pm_len (n := 3) hln rfl rfl
      simp only [pm_rs, Bool.and_eq_true, decide_eq_true_eq] at hrs
      obtain ⟨h1, h2, h3⟩ := hrs
      obtain ⟨v, a, st, rfl, fs, ha, hv, h⟩ := pm_svr_v hw
      simp only [Bool.and_eq_true] at hv
      obtain ⟨f1, f2⟩ := pm_fit h3 hv.1
      have hfa := hd a (by rw [ha]; exact fun q => by cases q)
      exact pm_w_put hx hb hown hts hK hH hin h1 h2 f1 f2 ha hv.2 hdg (fun H1 j hH1 hz oq => ih _ _ _ _ _ _ (pm_tlx htl rfl) h H1 _ ls hH1 (pm_dom_up hd hfa) (pm_S_put hS hz oq hfa) hL)
    | invokevirtual idx =>
      cases pm_len (n := 3) hln rfl rfl
      simp only [pm_rs, decide_eq_true_eq] at hrs
      obtain ⟨h1, h2, h3, h4, h5⟩ := hrs
      obtain ⟨as, b, rest, hna, rfl, ⟨fs, hb0⟩, d', mc', ms', Q', hM, hrm, h⟩ := pm_pv_v hw
      simp only [Bool.and_eq_true] at hrm
      obtain ⟨b1, b2, b3, b4⟩ := hrm
      have b1 : d' < d := by simpa using b1
      have b2 := Nat.le_of_ble_eq_true b2
      have b3 := Nat.le_of_ble_eq_true b3
      exact pm_w_callV hx hb hml hown hts hK hA hH hd hS hL.1 hM h1 h2 (hna.trans h3.symm) h5 h4 hb0 (by omega) (by omega) (by omega) (by omega) (pm_rme b4) hdg (fun rv A' H1 locs1 hq hH1 hd1 hS1 => ih _ _ _ _ _ _ (pm_tlx htl rfl) (h rv A' hq) H1 locs1 ls hH1 hd1 hS1 hL)
    | invokestatic idx =>
      cases pm_len (n := 3) hln rfl rfl
      simp only [pm_rs, decide_eq_true_eq] at hrs
      obtain ⟨h1, h2, h3⟩ := hrs
      obtain ⟨as, rest, hna, rfl, d', mc', ms', Q', hM, hrm, h⟩ := pm_ps_v hw
      simp only [Bool.and_eq_true] at hrm
      obtain ⟨b1, b2, b3, b4⟩ := hrm
      have b1 : d' < d := by simpa using b1
      have b2 := Nat.le_of_ble_eq_true b2
      have b3 := Nat.le_of_ble_eq_true b3
      exact pm_w_callS hx hb hml hown hts hK hA hH hd hS hL.1 hM h1 h2 (hna.trans h3.symm) (by omega) (by omega) (by omega) (by omega) (pm_rme b4) hdg (fun rv A' H1 locs1 hq hH1 hd1 hS1 => ih _ _ _ _ _ _ (pm_tlx htl rfl) (h rv A' hq) H1 locs1 ls hH1 hd1 hS1 hL)
    | invokespecial idx =>
      cases pm_len (n := 3) hln rfl rfl
      obtain ⟨b, rest, rfl, h⟩ := pm_sr_v hw
      replace h : pm_z0 z _ _ := h
      simp only [pm_rs] at hrs
      unfold pm_z0 at h
      rcases hz : z.toInt.toNat with _ | n0
      · rw [hz] at hrs h
        simp only [decide_eq_true_eq] at hrs
        obtain ⟨hrm, h⟩ := h
        simp only [Bool.and_eq_true] at hrm
        have b1 := Nat.le_of_ble_eq_true hrm.1
        have b4 := pm_rme hrm.2
        refine W.objInit hx hb hown (hts _ (pm_ol_ok _ hrs)) (hts _ pm_oi) (hts _ pm_oc) rfl (by rw [hml]; exact hL.1) rfl hdg (by omega) (by show 2 * 0 + _ + 12 ≤ _; omega) ?_
        exact ih _ _ _ _ _ _ (pm_tlx htl rfl) h H locs ls hH hd hS hL
      · rw [hz] at hrs h
        obtain ⟨d', mc', ms', Q', hM, hrm, h⟩ := h
        simp only [Bool.and_eq_true] at hrm
        obtain ⟨b1, b2, b3, b4⟩ := hrm
        have b1 : d' < d := by simpa using b1
        have b2 := Nat.le_of_ble_eq_true b2
        have b3 := Nat.le_of_ble_eq_true b3
        rcases n0 with _ | n0
        · simp only [decide_eq_true_eq] at hrs
          obtain ⟨h1, h2, h3⟩ := hrs
          exact pm_w_callI hx hb hml hown hts hK hA hH hd hS hL.1 hM h1 h2 h3.symm (by omega) (by omega) (by omega) (by omega) (pm_rme b4) hdg (fun rv A' H1 locs1 hq hH1 hd1 hS1 => ih _ _ _ _ _ _ (pm_tlx htl rfl) (h rv A' hq) H1 locs1 ls hH1 hd1 hS1 hL)
        · simp only [decide_eq_true_eq] at hrs
          obtain ⟨h1, h2, h3⟩ := hrs
          exact pm_w_callN hx hb hml hown hts hK hA hH hd hS hL.1 hM h1 h2 h3.symm (by omega) (by omega) (by omega) (by omega) (pm_rme b4) hdg (fun rv A' H1 locs1 hq hH1 hd1 hS1 => ih _ _ _ _ _ _ (pm_tlx htl rfl) (h rv A' hq) H1 locs1 ls hH1 hd1 hS1 hL)
    | new idx =>
      cases pm_len (n := 3) hln rfl rfl
      simp only [pm_rs, decide_eq_true_eq] at hrs
      obtain ⟨h1, rfl⟩ := hrs
      obtain ⟨hrm, h⟩ := hw
      simp only [Bool.and_eq_true] at hrm
      have b2 := Nat.le_of_ble_eq_true hrm.1
      have b3 := Nat.le_of_ble_eq_true hrm.2
      have hfz := hA H.size hS.1
      exact pm_w_new hx hb hown hts hK hH h1 (by omega) (by omega) hdg (fun H1 hH1 hz oq => ih _ _ _ _ _ _ (pm_tlx htl rfl) (h H.size (pm_hold_free hH (Nat.le_refl _))) H1 locs ls hH1 (pm_dom_up hd hfz) (pm_S_new hS (by omega) oq) hL)
    | newarray ty =>
      cases ty with
      | int =>
        cases pm_len (n := 2) hln rfl rfl
        simp only [pm_rs, decide_eq_true_eq] at hrs
        obtain ⟨n, st, rfl, rfl, hrm, h⟩ := pm_si_v hw
        simp only [Bool.and_eq_true] at hrm
        have b2 := Nat.le_of_ble_eq_true hrm.1
        have b3 := Nat.le_of_ble_eq_true hrm.2
        have hfz := hA H.size hS.1
        exact pm_w_newa hx hb hts hK hH hrs (by omega) (by omega) hdg (fun H1 hH1 hz oq => ih _ _ _ _ _ _ (pm_tlx htl rfl) (h H.size (pm_hold_free hH (Nat.le_refl _))) H1 locs ls hH1 (pm_dom_up hd hfz) (pm_S_new hS (by omega) oq) hL)
      | _ => exact False.elim hw
    | anewarray idx =>
      cases pm_len (n := 3) hln rfl rfl
      simp only [pm_rs, decide_eq_true_eq] at hrs
      obtain ⟨h1, h2⟩ := hrs
      obtain ⟨n, st, rfl, rfl, hrm, h⟩ := pm_si_v hw
      simp only [Bool.and_eq_true] at hrm
      have b2 := Nat.le_of_ble_eq_true hrm.1
      have b3 := Nat.le_of_ble_eq_true hrm.2
      have hfz := hA H.size hS.1
      exact pm_w_newq hx hb hown hts hK hH h1 h2 (by omega) (by omega) hdg (fun H1 hH1 hz oq => ih _ _ _ _ _ _ (pm_tlx htl rfl) (h H.size (pm_hold_free hH (Nat.le_refl _))) H1 locs ls hH1 (pm_dom_up hd hfz) (pm_S_new hS (by omega) oq) hL)
    | multianewarray idx dm =>
      cases pm_len (n := 4) hln rfl rfl
      simp only [pm_rs, decide_eq_true_eq] at hrs
      obtain ⟨rfl, rfl, rfl, h1, h2⟩ := hrs
      obtain ⟨n, m2, st, rfl, rfl, rfl, hrm, h⟩ := pm_sii_v hw
      simp only [Bool.and_eq_true] at hrm
      have b2 := Nat.le_of_ble_eq_true hrm.1
      have b3 := Nat.le_of_ble_eq_true hrm.2
      have hfz := hA H.size hS.1
      refine pm_w_mna hx hb hown hts hK hH h1 h2 (by omega) (by omega) hdg (fun H1 hH1 hz oq => ih _ _ _ _ _ _ (pm_tlx htl rfl) (h H.size (fun j => H.size + 1 + j) (pm_hold_free hH (Nat.le_refl _)) (fun j _ => pm_hold_free hH (by omega)) (fun j _ => by omega) (fun x y _ _ q => by omega)) H1 locs ls hH1 (fun q hq => ?_) (pm_S_new hS hz oq) hL)
      unfold pm_upm at hq
      by_cases q1 : q = H.size
      · rw [q1]; exact hfz
      · rw [if_neg q1] at hq
        by_cases q2 : ∃ j, j < i ∧ q = H.size + 1 + j
        · obtain ⟨j, -, rfl⟩ := q2
          exact hA _ (by have := hS.1; omega)
        · rw [if_neg q2] at hq
          exact hd q hq
    | ireturn =>
      cases pm_len (n := 1) hln rfl rfl
      simp only [pm_rs, decide_eq_true_eq] at hrs
      obtain ⟨v, st, rfl, rfl, h1, h⟩ := pm_si_v hw
      refine hret (some (.int v)) A cells slots H locs ls pc .ireturn h hH hd hS hdg (Or.inl ⟨rfl, v, rfl, ?_⟩)
      rcases hrs with ⟨-, q⟩ | ⟨q0, q⟩
      · exact Or.inl q
      · exact Or.inr ⟨q, h1 q0⟩
    | lreturn =>
      cases pm_len (n := 1) hln rfl rfl
      simp only [pm_rs, decide_eq_true_eq] at hrs
      obtain ⟨v, st, rfl, rfl, h⟩ := pm_sl_v hw
      exact hret (some (.long v)) A cells slots H locs ls pc .lreturn h hH hd hS hdg (Or.inr (Or.inl ⟨rfl, hrs, v, rfl⟩))
    | areturn =>
      cases pm_len (n := 1) hln rfl rfl
      have hrt : ∃ n, ret = some (.object n) := by
        simp only [pm_rs] at hrs
        split at hrs
        · exact ⟨_, rfl⟩
        · cases hrs
      rcases pm_srn_v hw with ⟨v, st, rfl, rfl, h⟩ | ⟨st, rfl, rfl, h⟩
      · exact hret (some (.ref v)) A cells slots H locs ls pc .areturn h hH hd hS hdg (Or.inr (Or.inr (Or.inl ⟨rfl, hrt, _, rfl, Or.inr ⟨v, rfl⟩⟩)))
      · exact hret (some .null) A cells slots H locs ls pc .areturn h hH hd hS hdg (Or.inr (Or.inr (Or.inl ⟨rfl, hrt, _, rfl, Or.inl rfl⟩)))
    | return_ =>
      cases pm_len (n := 1) hln rfl rfl
      simp only [pm_rs, decide_eq_true_eq] at hrs
      obtain ⟨rfl, h⟩ := hw
      exact hret none A cells slots H locs ls pc .return_ h hH hd hS hdg (Or.inr (Or.inr (Or.inr ⟨rfl, hrs, rfl⟩)))
    | _ => exact False.elim hw
end
section
/-! a method's contract out of a walk of its blocks: the walk speaks of any J that its blocks close -/
abbrev pm_B : Type := List (Nat × List pm_Op × Nat)
def pm_oks (own : Nat) (isI : Bool) (mx : Nat) (rt : Option FieldType) (cc : ByteArray) (b : pm_B) : Bool := b.all (fun q => pm_ok own mx isI rt cc q.2.2 q.1 q.2.1)
def pm_Rq (mc ms : Nat) (Q : Option Value → pm_H → Prop) : Option Value → pm_H → Nat → Nat → Prop := fun v A c s => (Nat.ble c mc && Nat.ble s ms) = true ∧ Q v A
def pm_Cl (l : Launch) (g : pm_G) (ro : Nat → Option (Nat × (Nat → Int32))) (d mc ms : Nat) (Ret : Option Value → pm_H → Nat → Nat → Prop) (b : pm_B) (J : pm_J) : Prop := (∀ (k pc : Nat) (ops : List pm_Op) (fin : Nat), b[k]? = some (pc, ops, fin) → ∀ (L : pm_L) (st : List Value) (A : pm_H) (c s : Nat), pm_wp l g ro d mc ms Ret J fin ops L st A c s → J pc L st A c s) ∧ ∀ (bs : List Bool) (pc : Nat) (L : pm_L) (st : List Value) (A : pm_H) (c s : Nat), J pc (pm_mask bs L) st A c s → J pc L st A c s
def pm_cat (mx : Nat) (as : List Value) : Bool := as.all (fun v => Nat.beq v.category 1) && Nat.ble as.length mx
theorem pm_sl_len : ∀ (as : List Value), (∀ v ∈ as, v.category = 1) → (lg_sl as).length = as.length
  | [], _ => rfl
  | v :: r, h => by
    have h1 : ¬ v.category = 2 := by rw [h v List.mem_cons_self]; omega
    have h2 := pm_sl_len r (fun x hx => h x (List.mem_cons_of_mem _ hx))
    simp only [lg_sl, List.flatMap_cons, if_neg h1, List.length_append, List.length_cons, List.length_nil] at h2 ⊢
    omega
set_option maxHeartbeats 4000000 in
theorem pm_Mt_of {l : Launch} {g : pm_G} {n d mc ms : Nat} {as : List Value} {A : pm_H} {Q : Option Value → pm_H → Prop} {y : MethodName} {cc : ByteArray} {mx na kd : Nat} {rt : Option FieldType} {isI : Bool} (own : Nat) (b : pm_B) (he : pm_me n = (y, cc, mx, rt, na, kd)) (hp : plainFor y = true) (hcl : pm_nm own = y.cls) (hI : isI = true → y.name = "<init>") (hok : pm_oks own isI mx rt cc b = true) (hca : pm_cat mx as = true)
    (body : ∀ J : pm_J, pm_Cl l g (fun _ => none) d mc ms (pm_Rq mc ms Q) b J → J 0 (pm_l0 mx as) [] A 0 0) : pm_Mt l g n d mc ms as A Q := by
  intro sz
  have hws : pm_ws n = .code y cc mx rt :: pm_W := by unfold pm_ws; rw [he]
  have hme : (pm_me n).1 = y := by rw [he]
  rw [hws, hme]
  simp only [pm_cat, Bool.and_eq_true, List.all_eq_true] at hca
  have hca1 : ∀ v ∈ as, v.category = 1 := fun v hv => Nat.eq_of_beq_eq_true (hca.1 v hv)
  have hca2 : as.length ≤ mx := Nat.le_of_ble_eq_true hca.2
  refine MetFree.of_bodySF (code := cc) (maxLocals := mx) (ret := rt) hp ?_ ?_
  · intro args s m h hn
    obtain ⟨meth, c, h1, h2, h3, h4, h5, h6, -, -⟩ := Cond.code_spec hn (atoms_spec (ws := .code y cc mx rt :: pm_W) h _ List.mem_cons_self)
    exact ⟨meth, c, h1, h2, h3, h4, h5, h6⟩
  · intro p e s m args below meth c s₁ B hml hP _
    obtain ⟨rfl, hsz, hH, hK⟩ := hP
    subst hsz
    have hh0 : s₁.heap = s.heap := by rw [B.state]; rfl
    have hts0 := atoms_spec (ws := .code y cc mx rt :: pm_W) B.pre
    have hts : ∀ w ∈ pm_W, w.before as.toArray s = true := fun w hw => hts0 w (List.mem_cons_of_mem _ hw)
    have hown : s.vm.findClass (pm_nm own) = some m.cls := by rw [hcl]; exact findClass_of_methodNamed B.named
    have hin : isI = true → meth.name = "<init>" := fun h => ((name_of_methodNamed B.named B.method).1).trans (hI h)
    have hr := B.returns
    have hlocks := B.notSynchronized
    have C : pm_Cx p l e ({ frames := d, cells := mc, slots := ms, locals := 40 * d }) s m as.toArray below meth c (MQ below (pm_Qc g A s.heap.size Q) as.toArray s mc ms (pm_fr A s.heap.size)) g own mx isI rt cc (fun _ => none) d mc ms (pm_Rq mc ms Q) (pm_fr A s.heap.size) := by
      refine ⟨B.exec, B.bytes, hml, hown, hts, hK, fun q h => Or.inr h, fun b n f h => (by cases h), hin, ⟨Nat.le_refl _, Nat.le_refl _, Nat.le_refl _, Nat.le_refl _⟩, ?_⟩
      intro v A' cells slots H locs ls pc ins hR hH' hd' hS' hdg hk
      obtain ⟨hcs, hQ⟩ := hR
      simp only [Bool.and_eq_true] at hcs
      refine W.widen (Nat.le_of_ble_eq_true hcs.1) (Nat.le_of_ble_eq_true hcs.2) ?_
      have hq : ∀ t : State, t.heap = H → pm_Qc g A s.heap.size Q as.toArray s (.returned v) t := fun t ht => ⟨v, A', rfl, hQ, by rw [ht]; exact hH', hd', by rw [ht]; exact hS'.1, fun q h1 h2 => by rw [ht]; exact hS'.2.1 q h1 h2⟩
      rcases hk with ⟨rfl, x, rfl, hrt | ⟨hrt, hx01⟩⟩ | ⟨rfl, hrt, x, rfl⟩ | ⟨rfl, ⟨nm, hrt⟩, w, rfl, hw⟩ | ⟨rfl, hrt, rfl⟩
      · subst hrt
        exact W.iret B.exec B.bytes hr (fun t ht _ => hq t ht) hS'.2.2 hdg
      · subst hrt
        exact W.zret B.exec B.bytes hr (by rcases hx01 with rfl | rfl <;> rfl) (fun t ht _ => hq t ht) hS'.2.2 hdg
      · subst hrt
        exact W.lret B.exec B.bytes hr (fun t ht _ => hq t ht) hS'.2.2 hdg
      · subst hrt
        exact W.aret B.exec B.bytes hr (Or.inl ⟨nm, rfl⟩) hw (fun t ht _ => hq t ht) hS'.2.2 hdg
      · subst hrt
        exact W.vret B.exec B.bytes hr (fun t ht _ => hq t ht) hS'.2.2 hdg
    have K := body _ ⟨fun k pc ops fin hk L st A' c' s' h => pm_sound C fin ops pc L st A' c' s' (by
      simp only [pm_oks, List.all_eq_true] at hok
      exact hok _ (List.mem_of_getElem? hk)) h, fun bs pc L st A' c' s' h H locs ls a1 a2 a3 a4 => h H locs ls a1 a2 a3 (pm_lv_mask bs a4)⟩
    have hl := lv_entry as (n := mx) (by rw [pm_sl_len as hca1]; exact hca2)
    have K2 := K s.heap [] _ hH (fun q h => Or.inl h) va_S.rf (pm_lv_l0 hca1 hl)
    rw [← lg_entry_eq] at K2
    obtain ⟨t, a1, o, b1, b2, b3⟩ := K2 s₁ hh0 (Stand.of_body B)
    exact ⟨t, o, a1, b1, b2, b3.1, b3.2⟩
end
section
/-! blocks, by a program -/
def bk_X10_init : pm_B := [(0, [(.aload_n 0, 1, 0, 0, 0), (.invokespecial 3, 3, 0, 0, 0), (.aload_n 0, 1, 0, 0, 0), (.new 9, 3, 9, 8, 0), (.dup, 1, 0, 0, 0), (.invokespecial 11, 3, 1, 0, 1), (.putfield 12, 3, 10, 0, 1), (.aload_n 0, 1, 0, 0, 0), (.new 16, 3, 2, 6, 0), (.dup, 1, 0, 0, 0), (.invokespecial 18, 3, 3, 0, 1), (.putfield 19, 3, 10, 1, 1), (.aload_n 0, 1, 0, 0, 0), (.new 23, 3, 0, 3, 0), (.dup, 1, 0, 0, 0), (.invokespecial 25, 3, 5, 0, 2), (.putfield 26, 3, 10, 2, 1), (.aload_n 0, 1, 0, 0, 0), (.new 30, 3, 1, 5, 0), (.dup, 1, 0, 0, 0), (.invokespecial 32, 3, 6, 0, 2), (.putfield 33, 3, 10, 3, 1), (.aload_n 0, 1, 0, 0, 0), (.new 37, 3, 6, 5, 0), (.dup, 1, 0, 0, 0), (.invokespecial 39, 3, 7, 0, 2), (.putfield 40, 3, 10, 4, 1), (.aload_n 0, 1, 0, 0, 0), (.new 44, 3, 8, 5, 0), (.dup, 1, 0, 0, 0), (.invokespecial 46, 3, 8, 0, 2), (.putfield 47, 3, 10, 5, 1), (.aload_n 0, 1, 0, 0, 0), (.new 51, 3, 4, 3, 0), (.dup, 1, 0, 0, 0), (.invokespecial 53, 3, 9, 0, 2), (.putfield 54, 3, 10, 6, 1), (.aload_n 0, 1, 0, 0, 0), (.new 58, 3, 3, 1, 0), (.dup, 1, 0, 0, 0), (.invokespecial 60, 3, 10, 0, 2), (.putfield 61, 3, 10, 7, 1), (.aload_n 0, 1, 0, 0, 0), (.new 65, 3, 5, 6, 0), (.dup, 1, 0, 0, 0), (.invokespecial 67, 3, 11, 0, 2), (.putfield 68, 3, 10, 8, 1), (.return_, 1, 0, 0, 0)], 104)]
set_option maxRecDepth 100000 in
theorem ok_X10_init : pm_oks 10 true 1 none cX10_init bk_X10_init = true := by decide +kernel
set_option maxRecDepth 100000 in
theorem me_X10_init : pm_me 0 = (yX10_init, cX10_init, 1, none, 0, 2) := rfl
theorem mt_X10_init {l : Launch} {g : pm_G} {d mc ms : Nat} {as : List Value} {A : pm_H} {Q : Option Value → pm_H → Prop} (hca : pm_cat 1 as = true) (body : ∀ J : pm_J, pm_Cl l g (fun _ => none) d mc ms (pm_Rq mc ms Q) bk_X10_init J → J 0 (pm_l0 1 as) [] A 0 0) : pm_Mt l g 0 d mc ms as A Q := pm_Mt_of (isI := true) 10 bk_X10_init me_X10_init (plainFor_of_name (by decide +kernel)) (by decide +kernel) (fun _ => by decide +kernel) ok_X10_init hca body
def bk_X10_put : pm_B := [(0, [(.aload_n 0, 1, 0, 0, 0), (.iload_n 1, 1, 1, 0, 0), (.iload_n 1, 1, 1, 0, 0), (.iload_n 2, 1, 2, 0, 0), (.invokevirtual 76, 3, 13, 3, 10), (.ireturn, 1, 0, 0, 0)], 8)]
set_option maxRecDepth 100000 in
theorem ok_X10_put : pm_oks 10 false 3 (some .int) cX10_put bk_X10_put = true := by decide +kernel
set_option maxRecDepth 100000 in
theorem me_X10_put : pm_me 12 = (yX10_put, cX10_put, 3, (some .int), 2, 0) := rfl
theorem mt_X10_put {l : Launch} {g : pm_G} {d mc ms : Nat} {as : List Value} {A : pm_H} {Q : Option Value → pm_H → Prop} (hca : pm_cat 3 as = true) (body : ∀ J : pm_J, pm_Cl l g (fun _ => none) d mc ms (pm_Rq mc ms Q) bk_X10_put J → J 0 (pm_l0 3 as) [] A 0 0) : pm_Mt l g 12 d mc ms as A Q := pm_Mt_of (isI := false) 10 bk_X10_put me_X10_put (plainFor_of_name (by decide +kernel)) (by decide +kernel) (fun h => by cases h) ok_X10_put hca body
def bk_X10_paint : pm_B := [(0, [(.aload_n 0, 1, 0, 0, 0), (.getfield 12, 3, 10, 0, 0), (.getfield 80, 3, 9, 4, 0), (.astore 4, 2, 4, 0, 0), (.aload 4, 2, 4, 0, 0), (.iload_n 1, 1, 1, 0, 0), (.iload_n 2, 1, 2, 0, 0), (.invokevirtual 111, 3, 14, 2, 7), (.ifCond .eq 10, 3, 26, 0, 0), (.iload_n 3, 1, 3, 0, 0), (.invokestatic 72, 3, 15, 1, 0), (.ifCond .ne 5, 3, 28, 0, 0)], 26),
  (26, [(.iconst (-1), 1, 0, 0, -1), (.ireturn, 1, 0, 0, 0)], 28),
  (28, [(.aload_n 0, 1, 0, 0, 0), (.getfield 12, 3, 10, 0, 0), (.invokevirtual 92, 3, 16, 0, 9), (.aload_n 0, 1, 0, 0, 0), (.getfield 12, 3, 10, 0, 0), (.iconst 0, 1, 0, 0, 0), (.iload_n 1, 1, 1, 0, 0), (.iconst 1, 1, 0, 0, 1), (.isub, 1, 0, 0, 0), (.invokevirtual 95, 3, 18, 2, 9), (.iload_n 1, 1, 1, 0, 0), (.istore 5, 2, 5, 0, 0)], 49),
  (49, [(.iload 5, 2, 5, 0, 0), (.iload_n 2, 1, 2, 0, 0), (.if_icmp .gt 19, 3, 71, 0, 0), (.aload_n 0, 1, 0, 0, 0), (.getfield 12, 3, 10, 0, 0), (.iload 5, 2, 5, 0, 0), (.iload_n 3, 1, 3, 0, 0), (.invokevirtual 115, 3, 23, 2, 9), (.iinc 5 1, 3, 5, 0, 1), (.goto (-19), 3, 49, 0, 0)], 71),
  (71, [(.aload_n 0, 1, 0, 0, 0), (.getfield 12, 3, 10, 0, 0), (.iload_n 2, 1, 2, 0, 0), (.iconst 1, 1, 0, 0, 1), (.iadd, 1, 0, 0, 0), (.aload 4, 2, 4, 0, 0), (.getfield 103, 3, 7, 3, 0), (.iconst 1, 1, 0, 0, 1), (.isub, 1, 0, 0, 0), (.invokevirtual 95, 3, 18, 2, 9), (.aload_n 0, 1, 0, 0, 0), (.getfield 12, 3, 10, 0, 0), (.invokevirtual 107, 3, 24, 0, 9), (.ireturn, 1, 0, 0, 0)], 96)]
set_option maxRecDepth 100000 in
theorem ok_X10_paint : pm_oks 10 false 6 (some .int) cX10_paint bk_X10_paint = true := by decide +kernel
set_option maxRecDepth 100000 in
theorem me_X10_paint : pm_me 13 = (yX10_paint, cX10_paint, 6, (some .int), 3, 0) := rfl
theorem mt_X10_paint {l : Launch} {g : pm_G} {d mc ms : Nat} {as : List Value} {A : pm_H} {Q : Option Value → pm_H → Prop} (hca : pm_cat 6 as = true) (body : ∀ J : pm_J, pm_Cl l g (fun _ => none) d mc ms (pm_Rq mc ms Q) bk_X10_paint J → J 0 (pm_l0 6 as) [] A 0 0) : pm_Mt l g 13 d mc ms as A Q := pm_Mt_of (isI := false) 10 bk_X10_paint me_X10_paint (plainFor_of_name (by decide +kernel)) (by decide +kernel) (fun h => by cases h) ok_X10_paint hca body
def bk_X10_isColour : pm_B := [(0, [(.iload_n 0, 1, 0, 0, 0), (.ifCond .lt 13, 3, 14, 0, 0), (.iload_n 0, 1, 0, 0, 0), (.bipush 24, 2, 0, 0, 24), (.if_icmp .ge 7, 3, 14, 0, 0), (.iconst 1, 1, 0, 0, 1), (.goto 4, 3, 15, 0, 0)], 14),
  (14, [(.iconst 0, 1, 0, 0, 0)], 15),
  (15, [(.ireturn, 1, 1, 0, 0)], 16)]
set_option maxRecDepth 100000 in
theorem ok_X10_isColour : pm_oks 10 false 1 (some .boolean) cX10_isColour bk_X10_isColour = true := by decide +kernel
set_option maxRecDepth 100000 in
theorem me_X10_isColour : pm_me 15 = (yX10_isColour, cX10_isColour, 1, (some .boolean), 1, 1) := rfl
theorem mt_X10_isColour {l : Launch} {g : pm_G} {d mc ms : Nat} {as : List Value} {A : pm_H} {Q : Option Value → pm_H → Prop} (hca : pm_cat 1 as = true) (body : ∀ J : pm_J, pm_Cl l g (fun _ => none) d mc ms (pm_Rq mc ms Q) bk_X10_isColour J → J 0 (pm_l0 1 as) [] A 0 0) : pm_Mt l g 15 d mc ms as A Q := pm_Mt_of (isI := false) 10 bk_X10_isColour me_X10_isColour (plainFor_of_name (by decide +kernel)) (by decide +kernel) (fun h => by cases h) ok_X10_isColour hca body
def bk_X10_insert : pm_B := [(0, [(.aload_n 0, 1, 0, 0, 0), (.getfield 12, 3, 10, 0, 0), (.getfield 80, 3, 9, 4, 0), (.astore_n 3, 1, 3, 0, 0), (.aload_n 3, 1, 3, 0, 0), (.iload_n 1, 1, 1, 0, 0), (.invokevirtual 84, 3, 26, 1, 7), (.ifCond .eq 21, 3, 34, 0, 0), (.iload_n 2, 1, 2, 0, 0), (.invokestatic 72, 3, 15, 1, 0), (.ifCond .eq 14, 3, 34, 0, 0), (.aload_n 0, 1, 0, 0, 0), (.getfield 12, 3, 10, 0, 0), (.iconst 1, 1, 0, 0, 1), (.invokevirtual 89, 3, 27, 1, 9), (.ifCond .ne 5, 3, 36, 0, 0)], 34),
  (34, [(.iconst (-1), 1, 0, 0, -1), (.ireturn, 1, 0, 0, 0)], 36),
  (36, [(.aload_n 0, 1, 0, 0, 0), (.getfield 12, 3, 10, 0, 0), (.invokevirtual 92, 3, 16, 0, 9), (.aload_n 0, 1, 0, 0, 0), (.getfield 12, 3, 10, 0, 0), (.iconst 0, 1, 0, 0, 0), (.iload_n 1, 1, 1, 0, 0), (.iconst 1, 1, 0, 0, 1), (.isub, 1, 0, 0, 0), (.invokevirtual 95, 3, 18, 2, 9), (.aload_n 0, 1, 0, 0, 0), (.getfield 12, 3, 10, 0, 0), (.iload_n 2, 1, 2, 0, 0), (.invokevirtual 99, 3, 28, 1, 9), (.aload_n 0, 1, 0, 0, 0), (.getfield 12, 3, 10, 0, 0), (.iload_n 1, 1, 1, 0, 0), (.aload_n 3, 1, 3, 0, 0), (.getfield 103, 3, 7, 3, 0), (.iconst 1, 1, 0, 0, 1), (.isub, 1, 0, 0, 0), (.invokevirtual 95, 3, 18, 2, 9), (.aload_n 0, 1, 0, 0, 0), (.getfield 12, 3, 10, 0, 0), (.invokevirtual 107, 3, 24, 0, 9), (.ireturn, 1, 0, 0, 0)], 84)]
set_option maxRecDepth 100000 in
theorem ok_X10_insert : pm_oks 10 false 4 (some .int) cX10_insert bk_X10_insert = true := by decide +kernel
set_option maxRecDepth 100000 in
theorem me_X10_insert : pm_me 25 = (yX10_insert, cX10_insert, 4, (some .int), 2, 0) := rfl
theorem mt_X10_insert {l : Launch} {g : pm_G} {d mc ms : Nat} {as : List Value} {A : pm_H} {Q : Option Value → pm_H → Prop} (hca : pm_cat 4 as = true) (body : ∀ J : pm_J, pm_Cl l g (fun _ => none) d mc ms (pm_Rq mc ms Q) bk_X10_insert J → J 0 (pm_l0 4 as) [] A 0 0) : pm_Mt l g 25 d mc ms as A Q := pm_Mt_of (isI := false) 10 bk_X10_insert me_X10_insert (plainFor_of_name (by decide +kernel)) (by decide +kernel) (fun h => by cases h) ok_X10_insert hca body
def bk_X10_cut : pm_B := [(0, [(.aload_n 0, 1, 0, 0, 0), (.getfield 12, 3, 10, 0, 0), (.getfield 80, 3, 9, 4, 0), (.astore_n 3, 1, 3, 0, 0), (.aload_n 3, 1, 3, 0, 0), (.iload_n 1, 1, 1, 0, 0), (.iload_n 2, 1, 2, 0, 0), (.invokevirtual 111, 3, 14, 2, 7), (.ifCond .ne 5, 3, 19, 0, 0), (.iconst (-1), 1, 0, 0, -1), (.ireturn, 1, 0, 0, 0)], 19),
  (19, [(.aload_n 0, 1, 0, 0, 0), (.getfield 12, 3, 10, 0, 0), (.invokevirtual 92, 3, 16, 0, 9), (.aload_n 0, 1, 0, 0, 0), (.getfield 12, 3, 10, 0, 0), (.iconst 0, 1, 0, 0, 0), (.iload_n 1, 1, 1, 0, 0), (.iconst 1, 1, 0, 0, 1), (.isub, 1, 0, 0, 0), (.invokevirtual 95, 3, 18, 2, 9), (.aload_n 0, 1, 0, 0, 0), (.getfield 12, 3, 10, 0, 0), (.iload_n 2, 1, 2, 0, 0), (.iconst 1, 1, 0, 0, 1), (.iadd, 1, 0, 0, 0), (.aload_n 3, 1, 3, 0, 0), (.getfield 103, 3, 7, 3, 0), (.iconst 1, 1, 0, 0, 1), (.isub, 1, 0, 0, 0), (.invokevirtual 95, 3, 18, 2, 9), (.aload_n 0, 1, 0, 0, 0), (.getfield 12, 3, 10, 0, 0), (.invokevirtual 107, 3, 24, 0, 9), (.ireturn, 1, 0, 0, 0)], 61)]
set_option maxRecDepth 100000 in
theorem ok_X10_cut : pm_oks 10 false 4 (some .int) cX10_cut bk_X10_cut = true := by decide +kernel
set_option maxRecDepth 100000 in
theorem me_X10_cut : pm_me 29 = (yX10_cut, cX10_cut, 4, (some .int), 2, 0) := rfl
theorem mt_X10_cut {l : Launch} {g : pm_G} {d mc ms : Nat} {as : List Value} {A : pm_H} {Q : Option Value → pm_H → Prop} (hca : pm_cat 4 as = true) (body : ∀ J : pm_J, pm_Cl l g (fun _ => none) d mc ms (pm_Rq mc ms Q) bk_X10_cut J → J 0 (pm_l0 4 as) [] A 0 0) : pm_Mt l g 29 d mc ms as A Q := pm_Mt_of (isI := false) 10 bk_X10_cut me_X10_cut (plainFor_of_name (by decide +kernel)) (by decide +kernel) (fun h => by cases h) ok_X10_cut hca body
def bk_X10_turn : pm_B := [(0, [(.aload_n 0, 1, 0, 0, 0), (.getfield 12, 3, 10, 0, 0), (.getfield 80, 3, 9, 4, 0), (.astore_n 3, 1, 3, 0, 0), (.aload_n 3, 1, 3, 0, 0), (.iload_n 1, 1, 1, 0, 0), (.iload_n 2, 1, 2, 0, 0), (.invokevirtual 111, 3, 14, 2, 7), (.ifCond .ne 5, 3, 19, 0, 0), (.iconst (-1), 1, 0, 0, -1), (.ireturn, 1, 0, 0, 0)], 19),
  (19, [(.aload_n 0, 1, 0, 0, 0), (.getfield 12, 3, 10, 0, 0), (.invokevirtual 92, 3, 16, 0, 9), (.aload_n 0, 1, 0, 0, 0), (.getfield 12, 3, 10, 0, 0), (.iconst 0, 1, 0, 0, 0), (.iload_n 1, 1, 1, 0, 0), (.iconst 1, 1, 0, 0, 1), (.isub, 1, 0, 0, 0), (.invokevirtual 95, 3, 18, 2, 9), (.iload_n 2, 1, 2, 0, 0), (.istore 4, 2, 4, 0, 0)], 40),
  (40, [(.iload 4, 2, 4, 0, 0), (.iload_n 1, 1, 1, 0, 0), (.if_icmp .lt 20, 3, 63, 0, 0), (.aload_n 0, 1, 0, 0, 0), (.getfield 12, 3, 10, 0, 0), (.iload 4, 2, 4, 0, 0), (.iload 4, 2, 4, 0, 0), (.invokevirtual 95, 3, 18, 2, 9), (.iinc 4 (-1), 3, 4, 0, -1), (.goto (-20), 3, 40, 0, 0)], 63),
  (63, [(.aload_n 0, 1, 0, 0, 0), (.getfield 12, 3, 10, 0, 0), (.iload_n 2, 1, 2, 0, 0), (.iconst 1, 1, 0, 0, 1), (.iadd, 1, 0, 0, 0), (.aload_n 3, 1, 3, 0, 0), (.getfield 103, 3, 7, 3, 0), (.iconst 1, 1, 0, 0, 1), (.isub, 1, 0, 0, 0), (.invokevirtual 95, 3, 18, 2, 9), (.aload_n 0, 1, 0, 0, 0), (.getfield 12, 3, 10, 0, 0), (.invokevirtual 107, 3, 24, 0, 9), (.ireturn, 1, 0, 0, 0)], 87)]
set_option maxRecDepth 100000 in
theorem ok_X10_turn : pm_oks 10 false 5 (some .int) cX10_turn bk_X10_turn = true := by decide +kernel
set_option maxRecDepth 100000 in
theorem me_X10_turn : pm_me 30 = (yX10_turn, cX10_turn, 5, (some .int), 2, 0) := rfl
theorem mt_X10_turn {l : Launch} {g : pm_G} {d mc ms : Nat} {as : List Value} {A : pm_H} {Q : Option Value → pm_H → Prop} (hca : pm_cat 5 as = true) (body : ∀ J : pm_J, pm_Cl l g (fun _ => none) d mc ms (pm_Rq mc ms Q) bk_X10_turn J → J 0 (pm_l0 5 as) [] A 0 0) : pm_Mt l g 30 d mc ms as A Q := pm_Mt_of (isI := false) 10 bk_X10_turn me_X10_turn (plainFor_of_name (by decide +kernel)) (by decide +kernel) (fun h => by cases h) ok_X10_turn hca body
def bk_X10_shift : pm_B := [(0, [(.aload_n 0, 1, 0, 0, 0), (.getfield 12, 3, 10, 0, 0), (.getfield 80, 3, 9, 4, 0), (.astore 4, 2, 4, 0, 0), (.aload 4, 2, 4, 0, 0), (.iload_n 1, 1, 1, 0, 0), (.iload_n 2, 1, 2, 0, 0), (.invokevirtual 111, 3, 14, 2, 7), (.ifCond .eq 16, 3, 32, 0, 0), (.iload_n 3, 1, 3, 0, 0), (.ifCond .lt 12, 3, 32, 0, 0), (.iload_n 3, 1, 3, 0, 0), (.iload_n 2, 1, 2, 0, 0), (.iload_n 1, 1, 1, 0, 0), (.isub, 1, 0, 0, 0), (.iconst 1, 1, 0, 0, 1), (.iadd, 1, 0, 0, 0), (.if_icmp .le 5, 3, 34, 0, 0)], 32),
  (32, [(.iconst (-1), 1, 0, 0, -1), (.ireturn, 1, 0, 0, 0)], 34),
  (34, [(.aload_n 0, 1, 0, 0, 0), (.getfield 12, 3, 10, 0, 0), (.invokevirtual 92, 3, 16, 0, 9), (.aload_n 0, 1, 0, 0, 0), (.getfield 12, 3, 10, 0, 0), (.iconst 0, 1, 0, 0, 0), (.iload_n 1, 1, 1, 0, 0), (.iconst 1, 1, 0, 0, 1), (.isub, 1, 0, 0, 0), (.invokevirtual 95, 3, 18, 2, 9), (.aload_n 0, 1, 0, 0, 0), (.getfield 12, 3, 10, 0, 0), (.iload_n 1, 1, 1, 0, 0), (.iload_n 3, 1, 3, 0, 0), (.iadd, 1, 0, 0, 0), (.iload_n 2, 1, 2, 0, 0), (.invokevirtual 95, 3, 18, 2, 9), (.aload_n 0, 1, 0, 0, 0), (.getfield 12, 3, 10, 0, 0), (.iload_n 1, 1, 1, 0, 0), (.iload_n 1, 1, 1, 0, 0), (.iload_n 3, 1, 3, 0, 0), (.iadd, 1, 0, 0, 0), (.iconst 1, 1, 0, 0, 1), (.isub, 1, 0, 0, 0), (.invokevirtual 95, 3, 18, 2, 9), (.aload_n 0, 1, 0, 0, 0), (.getfield 12, 3, 10, 0, 0), (.iload_n 2, 1, 2, 0, 0), (.iconst 1, 1, 0, 0, 1), (.iadd, 1, 0, 0, 0), (.aload 4, 2, 4, 0, 0), (.getfield 103, 3, 7, 3, 0), (.iconst 1, 1, 0, 0, 1), (.isub, 1, 0, 0, 0), (.invokevirtual 95, 3, 18, 2, 9), (.aload_n 0, 1, 0, 0, 0), (.getfield 12, 3, 10, 0, 0), (.invokevirtual 107, 3, 24, 0, 9), (.ireturn, 1, 0, 0, 0)], 101)]
set_option maxRecDepth 100000 in
theorem ok_X10_shift : pm_oks 10 false 5 (some .int) cX10_shift bk_X10_shift = true := by decide +kernel
set_option maxRecDepth 100000 in
theorem me_X10_shift : pm_me 31 = (yX10_shift, cX10_shift, 5, (some .int), 3, 0) := rfl
theorem mt_X10_shift {l : Launch} {g : pm_G} {d mc ms : Nat} {as : List Value} {A : pm_H} {Q : Option Value → pm_H → Prop} (hca : pm_cat 5 as = true) (body : ∀ J : pm_J, pm_Cl l g (fun _ => none) d mc ms (pm_Rq mc ms Q) bk_X10_shift J → J 0 (pm_l0 5 as) [] A 0 0) : pm_Mt l g 31 d mc ms as A Q := pm_Mt_of (isI := false) 10 bk_X10_shift me_X10_shift (plainFor_of_name (by decide +kernel)) (by decide +kernel) (fun h => by cases h) ok_X10_shift hca body
def bk_X10_sort : pm_B := [(0, [(.aload_n 0, 1, 0, 0, 0), (.getfield 12, 3, 10, 0, 0), (.getfield 80, 3, 9, 4, 0), (.astore_n 3, 1, 3, 0, 0), (.aload_n 3, 1, 3, 0, 0), (.iload_n 1, 1, 1, 0, 0), (.iload_n 2, 1, 2, 0, 0), (.invokevirtual 111, 3, 14, 2, 7), (.ifCond .ne 5, 3, 19, 0, 0), (.iconst (-1), 1, 0, 0, -1), (.ireturn, 1, 0, 0, 0)], 19),
  (19, [(.aload_n 0, 1, 0, 0, 0), (.getfield 12, 3, 10, 0, 0), (.invokevirtual 92, 3, 16, 0, 9), (.aload_n 0, 1, 0, 0, 0), (.getfield 12, 3, 10, 0, 0), (.iconst 0, 1, 0, 0, 0), (.iload_n 1, 1, 1, 0, 0), (.iconst 1, 1, 0, 0, 1), (.isub, 1, 0, 0, 0), (.invokevirtual 95, 3, 18, 2, 9), (.iconst 0, 1, 0, 0, 0), (.istore 4, 2, 4, 0, 0)], 40),
  (40, [(.iload 4, 2, 4, 0, 0), (.bipush 24, 2, 0, 0, 24), (.if_icmp .ge 20, 3, 64, 0, 0), (.aload_n 0, 1, 0, 0, 0), (.getfield 12, 3, 10, 0, 0), (.iload 4, 2, 4, 0, 0), (.iload_n 1, 1, 1, 0, 0), (.iload_n 2, 1, 2, 0, 0), (.invokevirtual 118, 3, 33, 3, 9), (.iinc 4 1, 3, 4, 0, 1), (.goto (-21), 3, 40, 0, 0)], 64),
  (64, [(.aload_n 0, 1, 0, 0, 0), (.getfield 12, 3, 10, 0, 0), (.iload_n 2, 1, 2, 0, 0), (.iconst 1, 1, 0, 0, 1), (.iadd, 1, 0, 0, 0), (.aload_n 3, 1, 3, 0, 0), (.getfield 103, 3, 7, 3, 0), (.iconst 1, 1, 0, 0, 1), (.isub, 1, 0, 0, 0), (.invokevirtual 95, 3, 18, 2, 9), (.aload_n 0, 1, 0, 0, 0), (.getfield 12, 3, 10, 0, 0), (.invokevirtual 107, 3, 24, 0, 9), (.ireturn, 1, 0, 0, 0)], 88)]
set_option maxRecDepth 100000 in
theorem ok_X10_sort : pm_oks 10 false 5 (some .int) cX10_sort bk_X10_sort = true := by decide +kernel
set_option maxRecDepth 100000 in
theorem me_X10_sort : pm_me 32 = (yX10_sort, cX10_sort, 5, (some .int), 2, 0) := rfl
theorem mt_X10_sort {l : Launch} {g : pm_G} {d mc ms : Nat} {as : List Value} {A : pm_H} {Q : Option Value → pm_H → Prop} (hca : pm_cat 5 as = true) (body : ∀ J : pm_J, pm_Cl l g (fun _ => none) d mc ms (pm_Rq mc ms Q) bk_X10_sort J → J 0 (pm_l0 5 as) [] A 0 0) : pm_Mt l g 32 d mc ms as A Q := pm_Mt_of (isI := false) 10 bk_X10_sort me_X10_sort (plainFor_of_name (by decide +kernel)) (by decide +kernel) (fun h => by cases h) ok_X10_sort hca body
def bk_X10_swap : pm_B := [(0, [(.aload_n 0, 1, 0, 0, 0), (.getfield 12, 3, 10, 0, 0), (.getfield 80, 3, 9, 4, 0), (.astore 5, 2, 5, 0, 0), (.aload 5, 2, 5, 0, 0), (.iload_n 1, 1, 1, 0, 0), (.iload_n 2, 1, 2, 0, 0), (.invokevirtual 111, 3, 14, 2, 7), (.ifCond .eq 14, 3, 30, 0, 0), (.aload 5, 2, 5, 0, 0), (.iload_n 3, 1, 3, 0, 0), (.iload 4, 2, 4, 0, 0), (.invokevirtual 111, 3, 14, 2, 7), (.ifCond .ne 5, 3, 32, 0, 0)], 30),
  (30, [(.iconst (-1), 1, 0, 0, -1), (.ireturn, 1, 0, 0, 0)], 32),
  (32, [(.iload_n 2, 1, 2, 0, 0), (.iload_n 3, 1, 3, 0, 0), (.if_icmp .ge 13, 3, 47, 0, 0), (.aload_n 0, 1, 0, 0, 0), (.iload_n 1, 1, 1, 0, 0), (.iload_n 2, 1, 2, 0, 0), (.iload_n 3, 1, 3, 0, 0), (.iload 4, 2, 4, 0, 0), (.invokevirtual 122, 3, 35, 4, 10), (.ireturn, 1, 0, 0, 0)], 47),
  (47, [(.iload 4, 2, 4, 0, 0), (.iload_n 1, 1, 1, 0, 0), (.if_icmp .ge 15, 3, 65, 0, 0), (.aload_n 0, 1, 0, 0, 0), (.iload_n 3, 1, 3, 0, 0), (.iload 4, 2, 4, 0, 0), (.iload_n 1, 1, 1, 0, 0), (.iload_n 2, 1, 2, 0, 0), (.invokevirtual 122, 3, 35, 4, 10), (.goto 4, 3, 66, 0, 0)], 65),
  (65, [(.iconst (-1), 1, 0, 0, -1)], 66),
  (66, [(.ireturn, 1, 0, 0, 0)], 67)]
set_option maxRecDepth 100000 in
theorem ok_X10_swap : pm_oks 10 false 6 (some .int) cX10_swap bk_X10_swap = true := by decide +kernel
set_option maxRecDepth 100000 in
theorem me_X10_swap : pm_me 34 = (yX10_swap, cX10_swap, 6, (some .int), 4, 0) := rfl
theorem mt_X10_swap {l : Launch} {g : pm_G} {d mc ms : Nat} {as : List Value} {A : pm_H} {Q : Option Value → pm_H → Prop} (hca : pm_cat 6 as = true) (body : ∀ J : pm_J, pm_Cl l g (fun _ => none) d mc ms (pm_Rq mc ms Q) bk_X10_swap J → J 0 (pm_l0 6 as) [] A 0 0) : pm_Mt l g 34 d mc ms as A Q := pm_Mt_of (isI := false) 10 bk_X10_swap me_X10_swap (plainFor_of_name (by decide +kernel)) (by decide +kernel) (fun h => by cases h) ok_X10_swap hca body
def bk_X10_swapInOrder : pm_B := [(0, [(.aload_n 0, 1, 0, 0, 0), (.getfield 12, 3, 10, 0, 0), (.invokevirtual 92, 3, 16, 0, 9), (.aload_n 0, 1, 0, 0, 0), (.getfield 12, 3, 10, 0, 0), (.iconst 0, 1, 0, 0, 0), (.iload_n 1, 1, 1, 0, 0), (.iconst 1, 1, 0, 0, 1), (.isub, 1, 0, 0, 0), (.invokevirtual 95, 3, 18, 2, 9), (.aload_n 0, 1, 0, 0, 0), (.getfield 12, 3, 10, 0, 0), (.iload_n 3, 1, 3, 0, 0), (.iload 4, 2, 4, 0, 0), (.invokevirtual 95, 3, 18, 2, 9), (.aload_n 0, 1, 0, 0, 0), (.getfield 12, 3, 10, 0, 0), (.iload_n 2, 1, 2, 0, 0), (.iconst 1, 1, 0, 0, 1), (.iadd, 1, 0, 0, 0), (.iload_n 3, 1, 3, 0, 0), (.iconst 1, 1, 0, 0, 1), (.isub, 1, 0, 0, 0), (.invokevirtual 95, 3, 18, 2, 9), (.aload_n 0, 1, 0, 0, 0), (.getfield 12, 3, 10, 0, 0), (.iload_n 1, 1, 1, 0, 0), (.iload_n 2, 1, 2, 0, 0), (.invokevirtual 95, 3, 18, 2, 9), (.aload_n 0, 1, 0, 0, 0), (.getfield 12, 3, 10, 0, 0), (.iload 4, 2, 4, 0, 0), (.iconst 1, 1, 0, 0, 1), (.iadd, 1, 0, 0, 0), (.aload_n 0, 1, 0, 0, 0), (.getfield 12, 3, 10, 0, 0), (.getfield 80, 3, 9, 4, 0), (.getfield 103, 3, 7, 3, 0), (.iconst 1, 1, 0, 0, 1), (.isub, 1, 0, 0, 0), (.invokevirtual 95, 3, 18, 2, 9), (.aload_n 0, 1, 0, 0, 0), (.getfield 12, 3, 10, 0, 0), (.invokevirtual 107, 3, 24, 0, 9), (.ireturn, 1, 0, 0, 0)], 81)]
set_option maxRecDepth 100000 in
theorem ok_X10_swapInOrder : pm_oks 10 false 5 (some .int) cX10_swapInOrder bk_X10_swapInOrder = true := by decide +kernel
set_option maxRecDepth 100000 in
theorem me_X10_swapInOrder : pm_me 35 = (yX10_swapInOrder, cX10_swapInOrder, 5, (some .int), 4, 0) := rfl
theorem mt_X10_swapInOrder {l : Launch} {g : pm_G} {d mc ms : Nat} {as : List Value} {A : pm_H} {Q : Option Value → pm_H → Prop} (hca : pm_cat 5 as = true) (body : ∀ J : pm_J, pm_Cl l g (fun _ => none) d mc ms (pm_Rq mc ms Q) bk_X10_swapInOrder J → J 0 (pm_l0 5 as) [] A 0 0) : pm_Mt l g 35 d mc ms as A Q := pm_Mt_of (isI := false) 10 bk_X10_swapInOrder me_X10_swapInOrder (plainFor_of_name (by decide +kernel)) (by decide +kernel) (fun h => by cases h) ok_X10_swapInOrder hca body
def bk_X10_copy : pm_B := [(0, [(.aload_n 0, 1, 0, 0, 0), (.getfield 12, 3, 10, 0, 0), (.getfield 80, 3, 9, 4, 0), (.astore 4, 2, 4, 0, 0), (.aload 4, 2, 4, 0, 0), (.iload_n 1, 1, 1, 0, 0), (.iload_n 2, 1, 2, 0, 0), (.invokevirtual 111, 3, 14, 2, 7), (.ifCond .eq 27, 3, 43, 0, 0), (.aload 4, 2, 4, 0, 0), (.iload_n 3, 1, 3, 0, 0), (.invokevirtual 84, 3, 26, 1, 7), (.ifCond .eq 18, 3, 43, 0, 0), (.aload_n 0, 1, 0, 0, 0), (.getfield 12, 3, 10, 0, 0), (.iload_n 2, 1, 2, 0, 0), (.iload_n 1, 1, 1, 0, 0), (.isub, 1, 0, 0, 0), (.iconst 1, 1, 0, 0, 1), (.iadd, 1, 0, 0, 0), (.invokevirtual 89, 3, 27, 1, 9), (.ifCond .ne 5, 3, 45, 0, 0)], 43),
  (43, [(.iconst (-1), 1, 0, 0, -1), (.ireturn, 1, 0, 0, 0)], 45),
  (45, [(.aload_n 0, 1, 0, 0, 0), (.getfield 12, 3, 10, 0, 0), (.invokevirtual 92, 3, 16, 0, 9), (.aload_n 0, 1, 0, 0, 0), (.getfield 12, 3, 10, 0, 0), (.iconst 0, 1, 0, 0, 0), (.iload_n 3, 1, 3, 0, 0), (.iconst 1, 1, 0, 0, 1), (.isub, 1, 0, 0, 0), (.invokevirtual 95, 3, 18, 2, 9), (.iload_n 1, 1, 1, 0, 0), (.istore 5, 2, 5, 0, 0)], 66),
  (66, [(.iload 5, 2, 5, 0, 0), (.iload_n 2, 1, 2, 0, 0), (.if_icmp .gt 24, 3, 93, 0, 0), (.aload_n 0, 1, 0, 0, 0), (.getfield 12, 3, 10, 0, 0), (.aload 4, 2, 4, 0, 0), (.getfield 126, 3, 7, 0, 0), (.iload 5, 2, 5, 0, 0), (.iaload, 1, 0, 0, 0), (.invokevirtual 99, 3, 28, 1, 9), (.iinc 5 1, 3, 5, 0, 1), (.goto (-24), 3, 66, 0, 0)], 93),
  (93, [(.aload_n 0, 1, 0, 0, 0), (.getfield 12, 3, 10, 0, 0), (.iload_n 3, 1, 3, 0, 0), (.aload 4, 2, 4, 0, 0), (.getfield 103, 3, 7, 3, 0), (.iconst 1, 1, 0, 0, 1), (.isub, 1, 0, 0, 0), (.invokevirtual 95, 3, 18, 2, 9), (.aload_n 0, 1, 0, 0, 0), (.getfield 12, 3, 10, 0, 0), (.invokevirtual 107, 3, 24, 0, 9), (.ireturn, 1, 0, 0, 0)], 116)]
set_option maxRecDepth 100000 in
theorem ok_X10_copy : pm_oks 10 false 6 (some .int) cX10_copy bk_X10_copy = true := by decide +kernel
set_option maxRecDepth 100000 in
theorem me_X10_copy : pm_me 36 = (yX10_copy, cX10_copy, 6, (some .int), 3, 0) := rfl
theorem mt_X10_copy {l : Launch} {g : pm_G} {d mc ms : Nat} {as : List Value} {A : pm_H} {Q : Option Value → pm_H → Prop} (hca : pm_cat 6 as = true) (body : ∀ J : pm_J, pm_Cl l g (fun _ => none) d mc ms (pm_Rq mc ms Q) bk_X10_copy J → J 0 (pm_l0 6 as) [] A 0 0) : pm_Mt l g 36 d mc ms as A Q := pm_Mt_of (isI := false) 10 bk_X10_copy me_X10_copy (plainFor_of_name (by decide +kernel)) (by decide +kernel) (fun h => by cases h) ok_X10_copy hca body
def bk_X10_merge : pm_B := [(0, [(.iload_n 1, 1, 1, 0, 0), (.iload_n 2, 1, 2, 0, 0), (.invokestatic 130, 3, 38, 2, 0), (.ifCond .ne 5, 3, 10, 0, 0), (.iconst (-1), 1, 0, 0, -1), (.ireturn, 1, 0, 0, 0)], 10),
  (10, [(.aload_n 0, 1, 0, 0, 0), (.getfield 12, 3, 10, 0, 0), (.getfield 80, 3, 9, 4, 0), (.astore_n 3, 1, 3, 0, 0), (.aload_n 0, 1, 0, 0, 0), (.getfield 12, 3, 10, 0, 0), (.invokevirtual 92, 3, 16, 0, 9), (.iconst 0, 1, 0, 0, 0), (.istore 4, 2, 4, 0, 0)], 28),
  (28, [(.iload 4, 2, 4, 0, 0), (.aload_n 3, 1, 3, 0, 0), (.getfield 103, 3, 7, 3, 0), (.if_icmp .ge 40, 3, 74, 0, 0), (.aload_n 0, 1, 0, 0, 0), (.getfield 12, 3, 10, 0, 0), (.iload 4, 2, 4, 0, 0), (.aload_n 3, 1, 3, 0, 0), (.getfield 126, 3, 7, 0, 0), (.iload 4, 2, 4, 0, 0), (.iaload, 1, 0, 0, 0), (.iload_n 1, 1, 1, 0, 0), (.if_icmp .ne 7, 3, 58, 0, 0), (.iload_n 2, 1, 2, 0, 0), (.goto 10, 3, 65, 0, 0)], 58),
  (58, [(.aload_n 3, 1, 3, 0, 0), (.getfield 126, 3, 7, 0, 0), (.iload 4, 2, 4, 0, 0), (.iaload, 1, 0, 0, 0)], 65),
  (65, [(.invokevirtual 115, 3, 23, 2, 9), (.iinc 4 1, 3, 4, 0, 1), (.goto (-43), 3, 28, 0, 0)], 74),
  (74, [(.aload_n 0, 1, 0, 0, 0), (.getfield 12, 3, 10, 0, 0), (.invokevirtual 107, 3, 24, 0, 9), (.ireturn, 1, 0, 0, 0)], 82)]
set_option maxRecDepth 100000 in
theorem ok_X10_merge : pm_oks 10 false 5 (some .int) cX10_merge bk_X10_merge = true := by decide +kernel
set_option maxRecDepth 100000 in
theorem me_X10_merge : pm_me 37 = (yX10_merge, cX10_merge, 5, (some .int), 2, 0) := rfl
theorem mt_X10_merge {l : Launch} {g : pm_G} {d mc ms : Nat} {as : List Value} {A : pm_H} {Q : Option Value → pm_H → Prop} (hca : pm_cat 5 as = true) (body : ∀ J : pm_J, pm_Cl l g (fun _ => none) d mc ms (pm_Rq mc ms Q) bk_X10_merge J → J 0 (pm_l0 5 as) [] A 0 0) : pm_Mt l g 37 d mc ms as A Q := pm_Mt_of (isI := false) 10 bk_X10_merge me_X10_merge (plainFor_of_name (by decide +kernel)) (by decide +kernel) (fun h => by cases h) ok_X10_merge hca body
def bk_X10_areUnlikeColours : pm_B := [(0, [(.iload_n 0, 1, 0, 0, 0), (.invokestatic 72, 3, 15, 1, 0), (.ifCond .eq 19, 3, 23, 0, 0), (.iload_n 1, 1, 1, 0, 0), (.invokestatic 72, 3, 15, 1, 0), (.ifCond .eq 12, 3, 23, 0, 0), (.iload_n 0, 1, 0, 0, 0), (.iload_n 1, 1, 1, 0, 0), (.if_icmp .eq 7, 3, 23, 0, 0), (.iconst 1, 1, 0, 0, 1), (.goto 4, 3, 24, 0, 0)], 23),
  (23, [(.iconst 0, 1, 0, 0, 0)], 24),
  (24, [(.ireturn, 1, 1, 0, 0)], 25)]
set_option maxRecDepth 100000 in
theorem ok_X10_areUnlikeColours : pm_oks 10 false 2 (some .boolean) cX10_areUnlikeColours bk_X10_areUnlikeColours = true := by decide +kernel
set_option maxRecDepth 100000 in
theorem me_X10_areUnlikeColours : pm_me 38 = (yX10_areUnlikeColours, cX10_areUnlikeColours, 2, (some .boolean), 2, 1) := rfl
theorem mt_X10_areUnlikeColours {l : Launch} {g : pm_G} {d mc ms : Nat} {as : List Value} {A : pm_H} {Q : Option Value → pm_H → Prop} (hca : pm_cat 2 as = true) (body : ∀ J : pm_J, pm_Cl l g (fun _ => none) d mc ms (pm_Rq mc ms Q) bk_X10_areUnlikeColours J → J 0 (pm_l0 2 as) [] A 0 0) : pm_Mt l g 38 d mc ms as A Q := pm_Mt_of (isI := false) 10 bk_X10_areUnlikeColours me_X10_areUnlikeColours (plainFor_of_name (by decide +kernel)) (by decide +kernel) (fun h => by cases h) ok_X10_areUnlikeColours hca body
def bk_X10_exchange : pm_B := [(0, [(.iload_n 1, 1, 1, 0, 0), (.iload_n 2, 1, 2, 0, 0), (.invokestatic 130, 3, 38, 2, 0), (.ifCond .ne 5, 3, 10, 0, 0), (.iconst (-1), 1, 0, 0, -1), (.ireturn, 1, 0, 0, 0)], 10),
  (10, [(.aload_n 0, 1, 0, 0, 0), (.getfield 12, 3, 10, 0, 0), (.getfield 80, 3, 9, 4, 0), (.astore_n 3, 1, 3, 0, 0), (.aload_n 0, 1, 0, 0, 0), (.getfield 12, 3, 10, 0, 0), (.invokevirtual 92, 3, 16, 0, 9), (.iconst 0, 1, 0, 0, 0), (.istore 4, 2, 4, 0, 0)], 28),
  (28, [(.iload 4, 2, 4, 0, 0), (.aload_n 3, 1, 3, 0, 0), (.getfield 103, 3, 7, 3, 0), (.if_icmp .ge 49, 3, 83, 0, 0), (.aload_n 3, 1, 3, 0, 0), (.getfield 126, 3, 7, 0, 0), (.iload 4, 2, 4, 0, 0), (.iaload, 1, 0, 0, 0), (.istore 5, 2, 5, 0, 0), (.aload_n 0, 1, 0, 0, 0), (.getfield 12, 3, 10, 0, 0), (.iload 4, 2, 4, 0, 0), (.iload 5, 2, 5, 0, 0), (.iload_n 1, 1, 1, 0, 0), (.if_icmp .ne 7, 3, 62, 0, 0), (.iload_n 2, 1, 2, 0, 0), (.goto 15, 3, 74, 0, 0)], 62),
  (62, [(.iload 5, 2, 5, 0, 0), (.iload_n 2, 1, 2, 0, 0), (.if_icmp .ne 7, 3, 72, 0, 0), (.iload_n 1, 1, 1, 0, 0), (.goto 5, 3, 74, 0, 0)], 72),
  (72, [(.iload 5, 2, 5, 0, 0)], 74),
  (74, [(.invokevirtual 115, 3, 23, 2, 9), (.iinc 4 1, 3, 4, 0, 1), (.goto (-52), 3, 28, 0, 0)], 83),
  (83, [(.aload_n 0, 1, 0, 0, 0), (.getfield 12, 3, 10, 0, 0), (.invokevirtual 107, 3, 24, 0, 9), (.ireturn, 1, 0, 0, 0)], 91)]
set_option maxRecDepth 100000 in
theorem ok_X10_exchange : pm_oks 10 false 6 (some .int) cX10_exchange bk_X10_exchange = true := by decide +kernel
set_option maxRecDepth 100000 in
theorem me_X10_exchange : pm_me 39 = (yX10_exchange, cX10_exchange, 6, (some .int), 2, 0) := rfl
theorem mt_X10_exchange {l : Launch} {g : pm_G} {d mc ms : Nat} {as : List Value} {A : pm_H} {Q : Option Value → pm_H → Prop} (hca : pm_cat 6 as = true) (body : ∀ J : pm_J, pm_Cl l g (fun _ => none) d mc ms (pm_Rq mc ms Q) bk_X10_exchange J → J 0 (pm_l0 6 as) [] A 0 0) : pm_Mt l g 39 d mc ms as A Q := pm_Mt_of (isI := false) 10 bk_X10_exchange me_X10_exchange (plainFor_of_name (by decide +kernel)) (by decide +kernel) (fun h => by cases h) ok_X10_exchange hca body
def bk_X10_draw : pm_B := [(0, [(.iload_n 1, 1, 1, 0, 0), (.ifCond .lt 26, 3, 27, 0, 0), (.iload_n 1, 1, 1, 0, 0), (.sipush 9999, 3, 0, 0, 9999), (.if_icmp .gt 19, 3, 27, 0, 0), (.iload_n 2, 1, 2, 0, 0), (.iconst 1, 1, 0, 0, 1), (.if_icmp .lt 14, 3, 27, 0, 0), (.iload_n 2, 1, 2, 0, 0), (.sipush 160, 3, 0, 0, 160), (.if_icmp .gt 7, 3, 27, 0, 0), (.iconst 1, 1, 0, 0, 1), (.goto 4, 3, 28, 0, 0)], 27),
  (27, [(.iconst 0, 1, 0, 0, 0)], 28),
  (28, [(.istore 4, 2, 4, 0, 0), (.iload 4, 2, 4, 0, 0), (.ifCond .eq 25, 3, 57, 0, 0), (.iload_n 3, 1, 3, 0, 0), (.iconst 1, 1, 0, 0, 1), (.if_icmp .lt 20, 3, 57, 0, 0), (.iload_n 3, 1, 3, 0, 0), (.bipush 24, 2, 0, 0, 24), (.if_icmp .gt 14, 3, 57, 0, 0), (.aload_n 0, 1, 0, 0, 0), (.getfield 12, 3, 10, 0, 0), (.iload_n 2, 1, 2, 0, 0), (.invokevirtual 89, 3, 27, 1, 9), (.ifCond .ne 5, 3, 59, 0, 0)], 57),
  (57, [(.iconst (-1), 1, 0, 0, -1), (.ireturn, 1, 0, 0, 0)], 59),
  (59, [(.aload_n 0, 1, 0, 0, 0), (.getfield 12, 3, 10, 0, 0), (.invokevirtual 92, 3, 16, 0, 9), (.aload_n 0, 1, 0, 0, 0), (.getfield 12, 3, 10, 0, 0), (.iconst 0, 1, 0, 0, 0), (.aload_n 0, 1, 0, 0, 0), (.getfield 12, 3, 10, 0, 0), (.getfield 80, 3, 9, 4, 0), (.getfield 103, 3, 7, 3, 0), (.iconst 1, 1, 0, 0, 1), (.isub, 1, 0, 0, 0), (.invokevirtual 95, 3, 18, 2, 9), (.iload_n 1, 1, 1, 0, 0), (.istore 5, 2, 5, 0, 0), (.iconst 0, 1, 0, 0, 0), (.istore 6, 2, 6, 0, 0)], 92),
  (92, [(.iload 6, 2, 6, 0, 0), (.iload_n 2, 1, 2, 0, 0), (.if_icmp .ge 35, 3, 130, 0, 0), (.iload 5, 2, 5, 0, 0), (.sipush 137, 3, 0, 0, 137), (.imul, 1, 0, 0, 0), (.bipush 71, 2, 0, 0, 71), (.iadd, 1, 0, 0, 0), (.sipush 10007, 3, 0, 0, 10007), (.irem, 1, 0, 0, 0), (.istore 5, 2, 5, 0, 0), (.aload_n 0, 1, 0, 0, 0), (.getfield 12, 3, 10, 0, 0), (.iload 5, 2, 5, 0, 0), (.iload_n 3, 1, 3, 0, 0), (.irem, 1, 0, 0, 0), (.invokevirtual 99, 3, 28, 1, 9), (.iinc 6 1, 3, 6, 0, 1), (.goto (-35), 3, 92, 0, 0)], 130),
  (130, [(.aload_n 0, 1, 0, 0, 0), (.getfield 12, 3, 10, 0, 0), (.invokevirtual 107, 3, 24, 0, 9), (.ireturn, 1, 0, 0, 0)], 138)]
set_option maxRecDepth 100000 in
theorem ok_X10_draw : pm_oks 10 false 7 (some .int) cX10_draw bk_X10_draw = true := by decide +kernel
set_option maxRecDepth 100000 in
theorem me_X10_draw : pm_me 40 = (yX10_draw, cX10_draw, 7, (some .int), 3, 0) := rfl
theorem mt_X10_draw {l : Launch} {g : pm_G} {d mc ms : Nat} {as : List Value} {A : pm_H} {Q : Option Value → pm_H → Prop} (hca : pm_cat 7 as = true) (body : ∀ J : pm_J, pm_Cl l g (fun _ => none) d mc ms (pm_Rq mc ms Q) bk_X10_draw J → J 0 (pm_l0 7 as) [] A 0 0) : pm_Mt l g 40 d mc ms as A Q := pm_Mt_of (isI := false) 10 bk_X10_draw me_X10_draw (plainFor_of_name (by decide +kernel)) (by decide +kernel) (fun h => by cases h) ok_X10_draw hca body
def bk_X10_weigh : pm_B := [(0, [(.iload_n 1, 1, 1, 0, 0), (.invokestatic 72, 3, 15, 1, 0), (.ifCond .eq 14, 3, 18, 0, 0), (.iload_n 2, 1, 2, 0, 0), (.ifCond .lt 10, 3, 18, 0, 0), (.iload_n 2, 1, 2, 0, 0), (.sipush 999, 3, 0, 0, 999), (.if_icmp .le 5, 3, 20, 0, 0)], 18),
  (18, [(.iconst (-1), 1, 0, 0, -1), (.ireturn, 1, 0, 0, 0)], 20),
  (20, [(.aload_n 0, 1, 0, 0, 0), (.getfield 19, 3, 10, 1, 0), (.getfield 133, 3, 2, 1, 0), (.iload_n 1, 1, 1, 0, 0), (.iaload, 1, 0, 0, 0), (.istore_n 3, 1, 3, 0, 0), (.aload_n 0, 1, 0, 0, 0), (.getfield 19, 3, 10, 1, 0), (.getfield 133, 3, 2, 1, 0), (.iload_n 1, 1, 1, 0, 0), (.iload_n 2, 1, 2, 0, 0), (.iastore, 1, 0, 0, 0), (.iload_n 3, 1, 3, 0, 0), (.ireturn, 1, 0, 0, 0)], 42)]
set_option maxRecDepth 100000 in
theorem ok_X10_weigh : pm_oks 10 false 4 (some .int) cX10_weigh bk_X10_weigh = true := by decide +kernel
set_option maxRecDepth 100000 in
theorem me_X10_weigh : pm_me 41 = (yX10_weigh, cX10_weigh, 4, (some .int), 2, 0) := rfl
theorem mt_X10_weigh {l : Launch} {g : pm_G} {d mc ms : Nat} {as : List Value} {A : pm_H} {Q : Option Value → pm_H → Prop} (hca : pm_cat 4 as = true) (body : ∀ J : pm_J, pm_Cl l g (fun _ => none) d mc ms (pm_Rq mc ms Q) bk_X10_weigh J → J 0 (pm_l0 4 as) [] A 0 0) : pm_Mt l g 41 d mc ms as A Q := pm_Mt_of (isI := false) 10 bk_X10_weigh me_X10_weigh (plainFor_of_name (by decide +kernel)) (by decide +kernel) (fun h => by cases h) ok_X10_weigh hca body
def bk_X10_at : pm_B := [(0, [(.aload_n 0, 1, 0, 0, 0), (.getfield 12, 3, 10, 0, 0), (.getfield 80, 3, 9, 4, 0), (.astore_n 3, 1, 3, 0, 0), (.iload_n 2, 1, 2, 0, 0), (.iconst 3, 1, 0, 0, 3), (.if_icmp .ne 15, 3, 25, 0, 0), (.aload_n 3, 1, 3, 0, 0), (.aload_n 3, 1, 3, 0, 0), (.iload_n 1, 1, 1, 0, 0), (.invokevirtual 136, 3, 43, 1, 7), (.invokevirtual 140, 3, 21, 1, 7), (.goto 9, 3, 31, 0, 0)], 25),
  (25, [(.aload_n 3, 1, 3, 0, 0), (.iload_n 1, 1, 1, 0, 0), (.iload_n 2, 1, 2, 0, 0), (.invokevirtual 143, 3, 44, 2, 7)], 31),
  (31, [(.ireturn, 1, 0, 0, 0)], 32)]
set_option maxRecDepth 100000 in
theorem ok_X10_at : pm_oks 10 false 4 (some .int) cX10_at bk_X10_at = true := by decide +kernel
set_option maxRecDepth 100000 in
theorem me_X10_at : pm_me 42 = (yX10_at, cX10_at, 4, (some .int), 2, 0) := rfl
theorem mt_X10_at {l : Launch} {g : pm_G} {d mc ms : Nat} {as : List Value} {A : pm_H} {Q : Option Value → pm_H → Prop} (hca : pm_cat 4 as = true) (body : ∀ J : pm_J, pm_Cl l g (fun _ => none) d mc ms (pm_Rq mc ms Q) bk_X10_at J → J 0 (pm_l0 4 as) [] A 0 0) : pm_Mt l g 42 d mc ms as A Q := pm_Mt_of (isI := false) 10 bk_X10_at me_X10_at (plainFor_of_name (by decide +kernel)) (by decide +kernel) (fun h => by cases h) ok_X10_at hca body
def bk_X10_place : pm_B := [(0, [(.aload_n 0, 1, 0, 0, 0), (.getfield 12, 3, 10, 0, 0), (.getfield 80, 3, 9, 4, 0), (.iload_n 1, 1, 1, 0, 0), (.invokevirtual 147, 3, 46, 1, 7), (.ireturn, 1, 0, 0, 0)], 12)]
set_option maxRecDepth 100000 in
theorem ok_X10_place : pm_oks 10 false 2 (some .int) cX10_place bk_X10_place = true := by decide +kernel
set_option maxRecDepth 100000 in
theorem me_X10_place : pm_me 45 = (yX10_place, cX10_place, 2, (some .int), 1, 0) := rfl
theorem mt_X10_place {l : Launch} {g : pm_G} {d mc ms : Nat} {as : List Value} {A : pm_H} {Q : Option Value → pm_H → Prop} (hca : pm_cat 2 as = true) (body : ∀ J : pm_J, pm_Cl l g (fun _ => none) d mc ms (pm_Rq mc ms Q) bk_X10_place J → J 0 (pm_l0 2 as) [] A 0 0) : pm_Mt l g 45 d mc ms as A Q := pm_Mt_of (isI := false) 10 bk_X10_place me_X10_place (plainFor_of_name (by decide +kernel)) (by decide +kernel) (fun h => by cases h) ok_X10_place hca body
def bk_X10_colour : pm_B := [(0, [(.iload_n 1, 1, 1, 0, 0), (.invokestatic 72, 3, 15, 1, 0), (.ifCond .ne 5, 3, 9, 0, 0), (.iconst (-1), 1, 0, 0, -1), (.ireturn, 1, 0, 0, 0)], 9),
  (9, [(.aload_n 0, 1, 0, 0, 0), (.getfield 12, 3, 10, 0, 0), (.getfield 80, 3, 9, 4, 0), (.astore_n 3, 1, 3, 0, 0), (.iload_n 2, 1, 2, 0, 0), (.tableswitch 76 0 4 #[34, 40, 50, 57, 70], 34, 18, 0, 0)], 52),
  (52, [(.aload_n 3, 1, 3, 0, 0), (.iload_n 1, 1, 1, 0, 0), (.invokevirtual 150, 3, 48, 1, 7), (.ireturn, 1, 0, 0, 0)], 58),
  (58, [(.aload_n 0, 1, 0, 0, 0), (.getfield 19, 3, 10, 1, 0), (.getfield 133, 3, 2, 1, 0), (.iload_n 1, 1, 1, 0, 0), (.iaload, 1, 0, 0, 0), (.ireturn, 1, 0, 0, 0)], 68),
  (68, [(.aload_n 3, 1, 3, 0, 0), (.iload_n 1, 1, 1, 0, 0), (.iconst 0, 1, 0, 0, 0), (.invokevirtual 153, 3, 49, 2, 7), (.ireturn, 1, 0, 0, 0)], 75),
  (75, [(.aload_n 3, 1, 3, 0, 0), (.iload_n 1, 1, 1, 0, 0), (.aload_n 3, 1, 3, 0, 0), (.iload_n 1, 1, 1, 0, 0), (.invokevirtual 150, 3, 48, 1, 7), (.iconst 1, 1, 0, 0, 1), (.isub, 1, 0, 0, 0), (.invokevirtual 153, 3, 49, 2, 7), (.ireturn, 1, 0, 0, 0)], 88),
  (88, [(.aload_n 3, 1, 3, 0, 0), (.iload_n 1, 1, 1, 0, 0), (.invokevirtual 156, 3, 50, 1, 7), (.ireturn, 1, 0, 0, 0)], 94),
  (94, [(.iconst (-1), 1, 0, 0, -1), (.ireturn, 1, 0, 0, 0)], 96)]
set_option maxRecDepth 100000 in
theorem ok_X10_colour : pm_oks 10 false 4 (some .int) cX10_colour bk_X10_colour = true := by decide +kernel
set_option maxRecDepth 100000 in
theorem me_X10_colour : pm_me 47 = (yX10_colour, cX10_colour, 4, (some .int), 2, 0) := rfl
theorem mt_X10_colour {l : Launch} {g : pm_G} {d mc ms : Nat} {as : List Value} {A : pm_H} {Q : Option Value → pm_H → Prop} (hca : pm_cat 4 as = true) (body : ∀ J : pm_J, pm_Cl l g (fun _ => none) d mc ms (pm_Rq mc ms Q) bk_X10_colour J → J 0 (pm_l0 4 as) [] A 0 0) : pm_Mt l g 47 d mc ms as A Q := pm_Mt_of (isI := false) 10 bk_X10_colour me_X10_colour (plainFor_of_name (by decide +kernel)) (by decide +kernel) (fun h => by cases h) ok_X10_colour hca body
def bk_X10_nth : pm_B := [(0, [(.aload_n 0, 1, 0, 0, 0), (.getfield 12, 3, 10, 0, 0), (.getfield 80, 3, 9, 4, 0), (.iload_n 1, 1, 1, 0, 0), (.iload_n 2, 1, 2, 0, 0), (.invokevirtual 153, 3, 49, 2, 7), (.ireturn, 1, 0, 0, 0)], 13)]
set_option maxRecDepth 100000 in
theorem ok_X10_nth : pm_oks 10 false 3 (some .int) cX10_nth bk_X10_nth = true := by decide +kernel
set_option maxRecDepth 100000 in
theorem me_X10_nth : pm_me 52 = (yX10_nth, cX10_nth, 3, (some .int), 2, 0) := rfl
theorem mt_X10_nth {l : Launch} {g : pm_G} {d mc ms : Nat} {as : List Value} {A : pm_H} {Q : Option Value → pm_H → Prop} (hca : pm_cat 3 as = true) (body : ∀ J : pm_J, pm_Cl l g (fun _ => none) d mc ms (pm_Rq mc ms Q) bk_X10_nth J → J 0 (pm_l0 3 as) [] A 0 0) : pm_Mt l g 52 d mc ms as A Q := pm_Mt_of (isI := false) 10 bk_X10_nth me_X10_nth (plainFor_of_name (by decide +kernel)) (by decide +kernel) (fun h => by cases h) ok_X10_nth hca body
def bk_X10_about : pm_B := [(0, [(.iload_n 1, 1, 1, 0, 0), (.tableswitch 107 0 5 #[39, 50, 75, 83, 91, 99], 39, 1, 0, 0)], 40),
  (40, [(.aload_n 0, 1, 0, 0, 0), (.getfield 12, 3, 10, 0, 0), (.getfield 80, 3, 9, 4, 0), (.getfield 103, 3, 7, 3, 0), (.ireturn, 1, 0, 0, 0)], 51),
  (51, [(.aload_n 0, 1, 0, 0, 0), (.aload_n 0, 1, 0, 0, 0), (.getfield 12, 3, 10, 0, 0), (.getfield 80, 3, 9, 4, 0), (.iconst 0, 1, 0, 0, 0), (.aload_n 0, 1, 0, 0, 0), (.getfield 12, 3, 10, 0, 0), (.getfield 80, 3, 9, 4, 0), (.getfield 103, 3, 7, 3, 0), (.iconst 1, 1, 0, 0, 1), (.isub, 1, 0, 0, 0), (.invokevirtual 159, 3, 54, 3, 10), (.ireturn, 1, 0, 0, 0)], 76),
  (76, [(.aload_n 0, 1, 0, 0, 0), (.getfield 12, 3, 10, 0, 0), (.getfield 163, 3, 9, 6, 0), (.ireturn, 1, 0, 0, 0)], 84),
  (84, [(.aload_n 0, 1, 0, 0, 0), (.getfield 12, 3, 10, 0, 0), (.getfield 166, 3, 9, 5, 0), (.ireturn, 1, 0, 0, 0)], 92),
  (92, [(.aload_n 0, 1, 0, 0, 0), (.getfield 12, 3, 10, 0, 0), (.getfield 169, 3, 9, 7, 0), (.ireturn, 1, 0, 0, 0)], 100),
  (100, [(.aload_n 0, 1, 0, 0, 0), (.getfield 68, 3, 10, 8, 0), (.getfield 172, 3, 5, 5, 0), (.ireturn, 1, 0, 0, 0)], 108),
  (108, [(.iconst (-1), 1, 0, 0, -1), (.ireturn, 1, 0, 0, 0)], 110)]
set_option maxRecDepth 100000 in
theorem ok_X10_about : pm_oks 10 false 2 (some .int) cX10_about bk_X10_about = true := by decide +kernel
set_option maxRecDepth 100000 in
theorem me_X10_about : pm_me 53 = (yX10_about, cX10_about, 2, (some .int), 1, 0) := rfl
theorem mt_X10_about {l : Launch} {g : pm_G} {d mc ms : Nat} {as : List Value} {A : pm_H} {Q : Option Value → pm_H → Prop} (hca : pm_cat 2 as = true) (body : ∀ J : pm_J, pm_Cl l g (fun _ => none) d mc ms (pm_Rq mc ms Q) bk_X10_about J → J 0 (pm_l0 2 as) [] A 0 0) : pm_Mt l g 53 d mc ms as A Q := pm_Mt_of (isI := false) 10 bk_X10_about me_X10_about (plainFor_of_name (by decide +kernel)) (by decide +kernel) (fun h => by cases h) ok_X10_about hca body
def bk_X10_colourNumber : pm_B := [(0, [(.aload_n 0, 1, 0, 0, 0), (.getfield 19, 3, 10, 1, 0), (.aload_n 1, 1, 1, 0, 0), (.iload_n 2, 1, 2, 0, 0), (.iload_n 3, 1, 3, 0, 0), (.invokevirtual 175, 3, 55, 3, 2), (.aload_n 0, 1, 0, 0, 0), (.getfield 19, 3, 10, 1, 0), (.getfield 179, 3, 2, 3, 0), (.ireturn, 1, 0, 0, 0)], 18)]
set_option maxRecDepth 100000 in
theorem ok_X10_colourNumber : pm_oks 10 false 4 (some .int) cX10_colourNumber bk_X10_colourNumber = true := by decide +kernel
set_option maxRecDepth 100000 in
theorem me_X10_colourNumber : pm_me 54 = (yX10_colourNumber, cX10_colourNumber, 4, (some .int), 3, 0) := rfl
theorem mt_X10_colourNumber {l : Launch} {g : pm_G} {d mc ms : Nat} {as : List Value} {A : pm_H} {Q : Option Value → pm_H → Prop} (hca : pm_cat 4 as = true) (body : ∀ J : pm_J, pm_Cl l g (fun _ => none) d mc ms (pm_Rq mc ms Q) bk_X10_colourNumber J → J 0 (pm_l0 4 as) [] A 0 0) : pm_Mt l g 54 d mc ms as A Q := pm_Mt_of (isI := false) 10 bk_X10_colourNumber me_X10_colourNumber (plainFor_of_name (by decide +kernel)) (by decide +kernel) (fun h => by cases h) ok_X10_colourNumber hca body
def bk_X10_count : pm_B := [(0, [(.aload_n 0, 1, 0, 0, 0), (.iload_n 1, 1, 1, 0, 0), (.iload_n 2, 1, 2, 0, 0), (.invokevirtual 182, 3, 59, 2, 10), (.ifCond .eq 13, 3, 19, 0, 0), (.aload_n 0, 1, 0, 0, 0), (.getfield 19, 3, 10, 1, 0), (.getfield 179, 3, 2, 3, 0), (.goto 4, 3, 20, 0, 0)], 19),
  (19, [(.iconst (-1), 1, 0, 0, -1)], 20),
  (20, [(.ireturn, 1, 0, 0, 0)], 21)]
set_option maxRecDepth 100000 in
theorem ok_X10_count : pm_oks 10 false 3 (some .int) cX10_count bk_X10_count = true := by decide +kernel
set_option maxRecDepth 100000 in
theorem me_X10_count : pm_me 58 = (yX10_count, cX10_count, 3, (some .int), 2, 0) := rfl
theorem mt_X10_count {l : Launch} {g : pm_G} {d mc ms : Nat} {as : List Value} {A : pm_H} {Q : Option Value → pm_H → Prop} (hca : pm_cat 3 as = true) (body : ∀ J : pm_J, pm_Cl l g (fun _ => none) d mc ms (pm_Rq mc ms Q) bk_X10_count J → J 0 (pm_l0 3 as) [] A 0 0) : pm_Mt l g 58 d mc ms as A Q := pm_Mt_of (isI := false) 10 bk_X10_count me_X10_count (plainFor_of_name (by decide +kernel)) (by decide +kernel) (fun h => by cases h) ok_X10_count hca body
def bk_X10_readSpan : pm_B := [(0, [(.aload_n 0, 1, 0, 0, 0), (.getfield 12, 3, 10, 0, 0), (.getfield 80, 3, 9, 4, 0), (.iload_n 1, 1, 1, 0, 0), (.iload_n 2, 1, 2, 0, 0), (.invokevirtual 111, 3, 14, 2, 7), (.ifCond .ne 5, 3, 17, 0, 0), (.iconst 0, 1, 0, 0, 0), (.ireturn, 1, 1, 0, 0)], 17),
  (17, [(.aload_n 0, 1, 0, 0, 0), (.getfield 19, 3, 10, 1, 0), (.aload_n 0, 1, 0, 0, 0), (.getfield 12, 3, 10, 0, 0), (.getfield 80, 3, 9, 4, 0), (.iload_n 1, 1, 1, 0, 0), (.iload_n 2, 1, 2, 0, 0), (.invokevirtual 175, 3, 55, 3, 2), (.iconst 1, 1, 0, 0, 1), (.ireturn, 1, 1, 0, 0)], 35)]
set_option maxRecDepth 100000 in
theorem ok_X10_readSpan : pm_oks 10 false 3 (some .boolean) cX10_readSpan bk_X10_readSpan = true := by decide +kernel
set_option maxRecDepth 100000 in
theorem me_X10_readSpan : pm_me 59 = (yX10_readSpan, cX10_readSpan, 3, (some .boolean), 2, 0) := rfl
theorem mt_X10_readSpan {l : Launch} {g : pm_G} {d mc ms : Nat} {as : List Value} {A : pm_H} {Q : Option Value → pm_H → Prop} (hca : pm_cat 3 as = true) (body : ∀ J : pm_J, pm_Cl l g (fun _ => none) d mc ms (pm_Rq mc ms Q) bk_X10_readSpan J → J 0 (pm_l0 3 as) [] A 0 0) : pm_Mt l g 59 d mc ms as A Q := pm_Mt_of (isI := false) 10 bk_X10_readSpan me_X10_readSpan (plainFor_of_name (by decide +kernel)) (by decide +kernel) (fun h => by cases h) ok_X10_readSpan hca body
def bk_X10_weight : pm_B := [(0, [(.aload_n 0, 1, 0, 0, 0), (.iload_n 1, 1, 1, 0, 0), (.iload_n 2, 1, 2, 0, 0), (.invokevirtual 182, 3, 59, 2, 10), (.ifCond .eq 13, 3, 19, 0, 0), (.aload_n 0, 1, 0, 0, 0), (.getfield 19, 3, 10, 1, 0), (.getfield 185, 3, 2, 5, 0), (.goto 4, 3, 20, 0, 0)], 19),
  (19, [(.iconst (-1), 1, 0, 0, -1)], 20),
  (20, [(.ireturn, 1, 0, 0, 0)], 21)]
set_option maxRecDepth 100000 in
theorem ok_X10_weight : pm_oks 10 false 3 (some .int) cX10_weight bk_X10_weight = true := by decide +kernel
set_option maxRecDepth 100000 in
theorem me_X10_weight : pm_me 60 = (yX10_weight, cX10_weight, 3, (some .int), 2, 0) := rfl
theorem mt_X10_weight {l : Launch} {g : pm_G} {d mc ms : Nat} {as : List Value} {A : pm_H} {Q : Option Value → pm_H → Prop} (hca : pm_cat 3 as = true) (body : ∀ J : pm_J, pm_Cl l g (fun _ => none) d mc ms (pm_Rq mc ms Q) bk_X10_weight J → J 0 (pm_l0 3 as) [] A 0 0) : pm_Mt l g 60 d mc ms as A Q := pm_Mt_of (isI := false) 10 bk_X10_weight me_X10_weight (plainFor_of_name (by decide +kernel)) (by decide +kernel) (fun h => by cases h) ok_X10_weight hca body
def bk_X10_set : pm_B := [(0, [(.aload_n 0, 1, 0, 0, 0), (.iload_n 1, 1, 1, 0, 0), (.iload_n 2, 1, 2, 0, 0), (.invokevirtual 182, 3, 59, 2, 10), (.ifCond .eq 13, 3, 19, 0, 0), (.aload_n 0, 1, 0, 0, 0), (.getfield 19, 3, 10, 1, 0), (.getfield 188, 3, 2, 4, 0), (.goto 4, 3, 20, 0, 0)], 19),
  (19, [(.iconst (-1), 1, 0, 0, -1)], 20),
  (20, [(.ireturn, 1, 0, 0, 0)], 21)]
set_option maxRecDepth 100000 in
theorem ok_X10_set : pm_oks 10 false 3 (some .int) cX10_set bk_X10_set = true := by decide +kernel
set_option maxRecDepth 100000 in
theorem me_X10_set : pm_me 61 = (yX10_set, cX10_set, 3, (some .int), 2, 0) := rfl
theorem mt_X10_set {l : Launch} {g : pm_G} {d mc ms : Nat} {as : List Value} {A : pm_H} {Q : Option Value → pm_H → Prop} (hca : pm_cat 3 as = true) (body : ∀ J : pm_J, pm_Cl l g (fun _ => none) d mc ms (pm_Rq mc ms Q) bk_X10_set J → J 0 (pm_l0 3 as) [] A 0 0) : pm_Mt l g 61 d mc ms as A Q := pm_Mt_of (isI := false) 10 bk_X10_set me_X10_set (plainFor_of_name (by decide +kernel)) (by decide +kernel) (fun h => by cases h) ok_X10_set hca body
def bk_X10_times : pm_B := [(0, [(.iload_n 3, 1, 3, 0, 0), (.invokestatic 72, 3, 15, 1, 0), (.ifCond .eq 24, 3, 28, 0, 0), (.aload_n 0, 1, 0, 0, 0), (.iload_n 1, 1, 1, 0, 0), (.iload_n 2, 1, 2, 0, 0), (.invokevirtual 182, 3, 59, 2, 10), (.ifCond .eq 15, 3, 28, 0, 0), (.aload_n 0, 1, 0, 0, 0), (.getfield 19, 3, 10, 1, 0), (.getfield 191, 3, 2, 0, 0), (.iload_n 3, 1, 3, 0, 0), (.iaload, 1, 0, 0, 0), (.goto 4, 3, 29, 0, 0)], 28),
  (28, [(.iconst (-1), 1, 0, 0, -1)], 29),
  (29, [(.ireturn, 1, 0, 0, 0)], 30)]
set_option maxRecDepth 100000 in
theorem ok_X10_times : pm_oks 10 false 4 (some .int) cX10_times bk_X10_times = true := by decide +kernel
set_option maxRecDepth 100000 in
theorem me_X10_times : pm_me 62 = (yX10_times, cX10_times, 4, (some .int), 3, 0) := rfl
theorem mt_X10_times {l : Launch} {g : pm_G} {d mc ms : Nat} {as : List Value} {A : pm_H} {Q : Option Value → pm_H → Prop} (hca : pm_cat 4 as = true) (body : ∀ J : pm_J, pm_Cl l g (fun _ => none) d mc ms (pm_Rq mc ms Q) bk_X10_times J → J 0 (pm_l0 4 as) [] A 0 0) : pm_Mt l g 62 d mc ms as A Q := pm_Mt_of (isI := false) 10 bk_X10_times me_X10_times (plainFor_of_name (by decide +kernel)) (by decide +kernel) (fun h => by cases h) ok_X10_times hca body
def bk_X10_often : pm_B := [(0, [(.iload_n 3, 1, 3, 0, 0), (.iconst 1, 1, 0, 0, 1), (.if_icmp .lt 23, 3, 25, 0, 0), (.aload_n 0, 1, 0, 0, 0), (.iload_n 1, 1, 1, 0, 0), (.iload_n 2, 1, 2, 0, 0), (.invokevirtual 182, 3, 59, 2, 10), (.ifCond .eq 14, 3, 25, 0, 0), (.aload_n 0, 1, 0, 0, 0), (.getfield 19, 3, 10, 1, 0), (.iload_n 3, 1, 3, 0, 0), (.invokevirtual 194, 3, 64, 1, 2), (.goto 4, 3, 26, 0, 0)], 25),
  (25, [(.iconst (-1), 1, 0, 0, -1)], 26),
  (26, [(.ireturn, 1, 0, 0, 0)], 27)]
set_option maxRecDepth 100000 in
theorem ok_X10_often : pm_oks 10 false 4 (some .int) cX10_often bk_X10_often = true := by decide +kernel
set_option maxRecDepth 100000 in
theorem me_X10_often : pm_me 63 = (yX10_often, cX10_often, 4, (some .int), 3, 0) := rfl
theorem mt_X10_often {l : Launch} {g : pm_G} {d mc ms : Nat} {as : List Value} {A : pm_H} {Q : Option Value → pm_H → Prop} (hca : pm_cat 4 as = true) (body : ∀ J : pm_J, pm_Cl l g (fun _ => none) d mc ms (pm_Rq mc ms Q) bk_X10_often J → J 0 (pm_l0 4 as) [] A 0 0) : pm_Mt l g 63 d mc ms as A Q := pm_Mt_of (isI := false) 10 bk_X10_often me_X10_often (plainFor_of_name (by decide +kernel)) (by decide +kernel) (fun h => by cases h) ok_X10_often hca body
end
section
/-! blocks, by a program -/
def bk_X10_report : pm_B := [(0, [(.aload_n 0, 1, 0, 0, 0), (.getfield 12, 3, 10, 0, 0), (.getfield 80, 3, 9, 4, 0), (.astore 5, 2, 5, 0, 0), (.aload 5, 2, 5, 0, 0), (.iload_n 1, 1, 1, 0, 0), (.iload_n 2, 1, 2, 0, 0), (.invokevirtual 111, 3, 14, 2, 7), (.ifCond .ne 5, 3, 21, 0, 0), (.iconst (-1), 1, 0, 0, -1), (.ireturn, 1, 0, 0, 0)], 21),
  (21, [(.aload_n 0, 1, 0, 0, 0), (.getfield 26, 3, 10, 2, 0), (.aload 5, 2, 5, 0, 0), (.iload_n 1, 1, 1, 0, 0), (.iload_n 2, 1, 2, 0, 0), (.iload_n 3, 1, 3, 0, 0), (.invokevirtual 197, 3, 66, 4, 0), (.istore 6, 2, 6, 0, 0), (.iload 4, 2, 4, 0, 0), (.tableswitch 48 0 2 #[27, 30, 39], 27, 37, 0, 0)], 64),
  (64, [(.iload 6, 2, 6, 0, 0), (.ireturn, 1, 0, 0, 0)], 67),
  (67, [(.aload 5, 2, 5, 0, 0), (.iload 6, 2, 6, 0, 0), (.iconst 0, 1, 0, 0, 0), (.invokevirtual 143, 3, 44, 2, 7), (.ireturn, 1, 0, 0, 0)], 76),
  (76, [(.aload 5, 2, 5, 0, 0), (.iload 6, 2, 6, 0, 0), (.iconst 2, 1, 0, 0, 2), (.invokevirtual 143, 3, 44, 2, 7), (.ireturn, 1, 0, 0, 0)], 85),
  (85, [(.iconst (-1), 1, 0, 0, -1), (.ireturn, 1, 0, 0, 0)], 87)]
set_option maxRecDepth 100000 in
theorem ok_X10_report : pm_oks 10 false 7 (some .int) cX10_report bk_X10_report = true := by decide +kernel
set_option maxRecDepth 100000 in
theorem me_X10_report : pm_me 65 = (yX10_report, cX10_report, 7, (some .int), 4, 0) := rfl
theorem mt_X10_report {l : Launch} {g : pm_G} {d mc ms : Nat} {as : List Value} {A : pm_H} {Q : Option Value → pm_H → Prop} (hca : pm_cat 7 as = true) (body : ∀ J : pm_J, pm_Cl l g (fun _ => none) d mc ms (pm_Rq mc ms Q) bk_X10_report J → J 0 (pm_l0 7 as) [] A 0 0) : pm_Mt l g 65 d mc ms as A Q := pm_Mt_of (isI := false) 10 bk_X10_report me_X10_report (plainFor_of_name (by decide +kernel)) (by decide +kernel) (fun h => by cases h) ok_X10_report hca body
def bk_X10_kth : pm_B := [(0, [(.aload_n 0, 1, 0, 0, 0), (.iload_n 1, 1, 1, 0, 0), (.iload_n 2, 1, 2, 0, 0), (.invokevirtual 182, 3, 59, 2, 10), (.ifCond .eq 29, 3, 35, 0, 0), (.aload_n 0, 1, 0, 0, 0), (.getfield 26, 3, 10, 2, 0), (.aload_n 0, 1, 0, 0, 0), (.getfield 12, 3, 10, 0, 0), (.getfield 80, 3, 9, 4, 0), (.aload_n 0, 1, 0, 0, 0), (.getfield 19, 3, 10, 1, 0), (.iload_n 1, 1, 1, 0, 0), (.iload_n 2, 1, 2, 0, 0), (.iload_n 3, 1, 3, 0, 0), (.iload 4, 2, 4, 0, 0), (.invokevirtual 201, 3, 68, 6, 0), (.goto 4, 3, 36, 0, 0)], 35),
  (35, [(.iconst (-1), 1, 0, 0, -1)], 36),
  (36, [(.ireturn, 1, 0, 0, 0)], 37)]
set_option maxRecDepth 100000 in
theorem ok_X10_kth : pm_oks 10 false 5 (some .int) cX10_kth bk_X10_kth = true := by decide +kernel
set_option maxRecDepth 100000 in
theorem me_X10_kth : pm_me 67 = (yX10_kth, cX10_kth, 5, (some .int), 4, 0) := rfl
theorem mt_X10_kth {l : Launch} {g : pm_G} {d mc ms : Nat} {as : List Value} {A : pm_H} {Q : Option Value → pm_H → Prop} (hca : pm_cat 5 as = true) (body : ∀ J : pm_J, pm_Cl l g (fun _ => none) d mc ms (pm_Rq mc ms Q) bk_X10_kth J → J 0 (pm_l0 5 as) [] A 0 0) : pm_Mt l g 67 d mc ms as A Q := pm_Mt_of (isI := false) 10 bk_X10_kth me_X10_kth (plainFor_of_name (by decide +kernel)) (by decide +kernel) (fun h => by cases h) ok_X10_kth hca body
def bk_X10_absent : pm_B := [(0, [(.aload_n 0, 1, 0, 0, 0), (.iload_n 1, 1, 1, 0, 0), (.iload_n 2, 1, 2, 0, 0), (.invokevirtual 182, 3, 59, 2, 10), (.ifCond .eq 26, 3, 32, 0, 0), (.aload_n 0, 1, 0, 0, 0), (.getfield 26, 3, 10, 2, 0), (.ldc 205, 2, 0, 0, 16777215), (.aload_n 0, 1, 0, 0, 0), (.getfield 19, 3, 10, 1, 0), (.getfield 188, 3, 2, 4, 0), (.iconst (-1), 1, 0, 0, -1), (.ixor, 1, 0, 0, 0), (.iand, 1, 0, 0, 0), (.iload_n 3, 1, 3, 0, 0), (.invokevirtual 206, 3, 71, 2, 0), (.goto 4, 3, 33, 0, 0)], 32),
  (32, [(.iconst (-1), 1, 0, 0, -1)], 33),
  (33, [(.ireturn, 1, 0, 0, 0)], 34)]
set_option maxRecDepth 100000 in
theorem ok_X10_absent : pm_oks 10 false 4 (some .int) cX10_absent bk_X10_absent = true := by decide +kernel
set_option maxRecDepth 100000 in
theorem me_X10_absent : pm_me 73 = (yX10_absent, cX10_absent, 4, (some .int), 3, 0) := rfl
theorem mt_X10_absent {l : Launch} {g : pm_G} {d mc ms : Nat} {as : List Value} {A : pm_H} {Q : Option Value → pm_H → Prop} (hca : pm_cat 4 as = true) (body : ∀ J : pm_J, pm_Cl l g (fun _ => none) d mc ms (pm_Rq mc ms Q) bk_X10_absent J → J 0 (pm_l0 4 as) [] A 0 0) : pm_Mt l g 73 d mc ms as A Q := pm_Mt_of (isI := false) 10 bk_X10_absent me_X10_absent (plainFor_of_name (by decide +kernel)) (by decide +kernel) (fun h => by cases h) ok_X10_absent hca body
def bk_X10_both : pm_B := [(0, [(.aload_n 0, 1, 0, 0, 0), (.iload_n 1, 1, 1, 0, 0), (.iload_n 2, 1, 2, 0, 0), (.invokevirtual 182, 3, 59, 2, 10), (.ifCond .ne 5, 3, 11, 0, 0), (.iconst (-1), 1, 0, 0, -1), (.ireturn, 1, 0, 0, 0)], 11),
  (11, [(.aload_n 0, 1, 0, 0, 0), (.getfield 19, 3, 10, 1, 0), (.getfield 188, 3, 2, 4, 0), (.istore 6, 2, 6, 0, 0), (.aload_n 0, 1, 0, 0, 0), (.iload_n 3, 1, 3, 0, 0), (.iload 4, 2, 4, 0, 0), (.invokevirtual 182, 3, 59, 2, 10), (.ifCond .ne 5, 3, 32, 0, 0), (.iconst (-1), 1, 0, 0, -1), (.ireturn, 1, 0, 0, 0)], 32),
  (32, [(.aload_n 0, 1, 0, 0, 0), (.getfield 19, 3, 10, 1, 0), (.getfield 188, 3, 2, 4, 0), (.istore 7, 2, 7, 0, 0), (.iload 5, 2, 5, 0, 0), (.tableswitch 54 0 2 #[25, 34, 45], 25, 43, 0, 0)], 68),
  (68, [(.iload 6, 2, 6, 0, 0), (.iload 7, 2, 7, 0, 0), (.iand, 1, 0, 0, 0), (.invokestatic 209, 3, 75, 1, 0), (.ireturn, 1, 0, 0, 0)], 77),
  (77, [(.iload 6, 2, 6, 0, 0), (.iload 7, 2, 7, 0, 0), (.iconst (-1), 1, 0, 0, -1), (.ixor, 1, 0, 0, 0), (.iand, 1, 0, 0, 0), (.invokestatic 209, 3, 75, 1, 0), (.ireturn, 1, 0, 0, 0)], 88),
  (88, [(.iload 6, 2, 6, 0, 0), (.iload 7, 2, 7, 0, 0), (.ior, 1, 0, 0, 0), (.invokestatic 209, 3, 75, 1, 0), (.ireturn, 1, 0, 0, 0)], 97),
  (97, [(.iconst (-1), 1, 0, 0, -1), (.ireturn, 1, 0, 0, 0)], 99)]
set_option maxRecDepth 100000 in
theorem ok_X10_both : pm_oks 10 false 8 (some .int) cX10_both bk_X10_both = true := by decide +kernel
set_option maxRecDepth 100000 in
theorem me_X10_both : pm_me 74 = (yX10_both, cX10_both, 8, (some .int), 5, 0) := rfl
theorem mt_X10_both {l : Launch} {g : pm_G} {d mc ms : Nat} {as : List Value} {A : pm_H} {Q : Option Value → pm_H → Prop} (hca : pm_cat 8 as = true) (body : ∀ J : pm_J, pm_Cl l g (fun _ => none) d mc ms (pm_Rq mc ms Q) bk_X10_both J → J 0 (pm_l0 8 as) [] A 0 0) : pm_Mt l g 74 d mc ms as A Q := pm_Mt_of (isI := false) 10 bk_X10_both me_X10_both (plainFor_of_name (by decide +kernel)) (by decide +kernel) (fun h => by cases h) ok_X10_both hca body
def bk_X10_tally : pm_B := [(0, [(.iload_n 3, 1, 3, 0, 0), (.iconst 1, 1, 0, 0, 1), (.if_icmp .lt 23, 3, 25, 0, 0), (.aload_n 0, 1, 0, 0, 0), (.iload_n 1, 1, 1, 0, 0), (.iload_n 2, 1, 2, 0, 0), (.invokevirtual 182, 3, 59, 2, 10), (.ifCond .eq 14, 3, 25, 0, 0), (.aload_n 0, 1, 0, 0, 0), (.getfield 19, 3, 10, 1, 0), (.iload_n 3, 1, 3, 0, 0), (.invokevirtual 214, 3, 77, 1, 2), (.goto 4, 3, 26, 0, 0)], 25),
  (25, [(.iconst (-1), 1, 0, 0, -1)], 26),
  (26, [(.ireturn, 1, 0, 0, 0)], 27)]
set_option maxRecDepth 100000 in
theorem ok_X10_tally : pm_oks 10 false 4 (some .int) cX10_tally bk_X10_tally = true := by decide +kernel
set_option maxRecDepth 100000 in
theorem me_X10_tally : pm_me 76 = (yX10_tally, cX10_tally, 4, (some .int), 3, 0) := rfl
theorem mt_X10_tally {l : Launch} {g : pm_G} {d mc ms : Nat} {as : List Value} {A : pm_H} {Q : Option Value → pm_H → Prop} (hca : pm_cat 4 as = true) (body : ∀ J : pm_J, pm_Cl l g (fun _ => none) d mc ms (pm_Rq mc ms Q) bk_X10_tally J → J 0 (pm_l0 4 as) [] A 0 0) : pm_Mt l g 76 d mc ms as A Q := pm_Mt_of (isI := false) 10 bk_X10_tally me_X10_tally (plainFor_of_name (by decide +kernel)) (by decide +kernel) (fun h => by cases h) ok_X10_tally hca body
def bk_X10_major : pm_B := [(0, [(.aload_n 0, 1, 0, 0, 0), (.iload_n 1, 1, 1, 0, 0), (.iload_n 2, 1, 2, 0, 0), (.invokevirtual 182, 3, 59, 2, 10), (.ifCond .eq 22, 3, 28, 0, 0), (.aload_n 0, 1, 0, 0, 0), (.getfield 26, 3, 10, 2, 0), (.aload_n 0, 1, 0, 0, 0), (.getfield 19, 3, 10, 1, 0), (.iconst 2, 1, 0, 0, 2), (.invokevirtual 217, 3, 79, 1, 2), (.iconst 0, 1, 0, 0, 0), (.invokevirtual 206, 3, 71, 2, 0), (.goto 4, 3, 29, 0, 0)], 28),
  (28, [(.iconst (-1), 1, 0, 0, -1)], 29),
  (29, [(.ireturn, 1, 0, 0, 0)], 30)]
set_option maxRecDepth 100000 in
theorem ok_X10_major : pm_oks 10 false 3 (some .int) cX10_major bk_X10_major = true := by decide +kernel
set_option maxRecDepth 100000 in
theorem me_X10_major : pm_me 78 = (yX10_major, cX10_major, 3, (some .int), 2, 0) := rfl
theorem mt_X10_major {l : Launch} {g : pm_G} {d mc ms : Nat} {as : List Value} {A : pm_H} {Q : Option Value → pm_H → Prop} (hca : pm_cat 3 as = true) (body : ∀ J : pm_J, pm_Cl l g (fun _ => none) d mc ms (pm_Rq mc ms Q) bk_X10_major J → J 0 (pm_l0 3 as) [] A 0 0) : pm_Mt l g 78 d mc ms as A Q := pm_Mt_of (isI := false) 10 bk_X10_major me_X10_major (plainFor_of_name (by decide +kernel)) (by decide +kernel) (fun h => by cases h) ok_X10_major hca body
def bk_X10_close : pm_B := [(0, [(.aload_n 0, 1, 0, 0, 0), (.getfield 12, 3, 10, 0, 0), (.getfield 80, 3, 9, 4, 0), (.astore 4, 2, 4, 0, 0), (.aload 4, 2, 4, 0, 0), (.iload_n 1, 1, 1, 0, 0), (.iload_n 2, 1, 2, 0, 0), (.invokevirtual 111, 3, 14, 2, 7), (.ifCond .ne 5, 3, 21, 0, 0), (.iconst (-1), 1, 0, 0, -1), (.ireturn, 1, 0, 0, 0)], 21),
  (21, [(.aload_n 0, 1, 0, 0, 0), (.getfield 33, 3, 10, 3, 0), (.aload 4, 2, 4, 0, 0), (.iload_n 1, 1, 1, 0, 0), (.iload_n 2, 1, 2, 0, 0), (.invokevirtual 220, 3, 81, 3, 1), (.aload_n 0, 1, 0, 0, 0), (.getfield 33, 3, 10, 3, 0), (.iload_n 3, 1, 3, 0, 0), (.invokevirtual 223, 3, 84, 1, 1), (.ireturn, 1, 0, 0, 0)], 41)]
set_option maxRecDepth 100000 in
theorem ok_X10_close : pm_oks 10 false 5 (some .int) cX10_close bk_X10_close = true := by decide +kernel
set_option maxRecDepth 100000 in
theorem me_X10_close : pm_me 80 = (yX10_close, cX10_close, 5, (some .int), 3, 0) := rfl
theorem mt_X10_close {l : Launch} {g : pm_G} {d mc ms : Nat} {as : List Value} {A : pm_H} {Q : Option Value → pm_H → Prop} (hca : pm_cat 5 as = true) (body : ∀ J : pm_J, pm_Cl l g (fun _ => none) d mc ms (pm_Rq mc ms Q) bk_X10_close J → J 0 (pm_l0 5 as) [] A 0 0) : pm_Mt l g 80 d mc ms as A Q := pm_Mt_of (isI := false) 10 bk_X10_close me_X10_close (plainFor_of_name (by decide +kernel)) (by decide +kernel) (fun h => by cases h) ok_X10_close hca body
def bk_X10_sides : pm_B := [(0, [(.aload_n 0, 1, 0, 0, 0), (.getfield 12, 3, 10, 0, 0), (.getfield 80, 3, 9, 4, 0), (.astore_n 3, 1, 3, 0, 0), (.aload_n 3, 1, 3, 0, 0), (.iload_n 1, 1, 1, 0, 0), (.iload_n 2, 1, 2, 0, 0), (.invokevirtual 111, 3, 14, 2, 7), (.ifCond .eq 16, 3, 30, 0, 0), (.aload_n 0, 1, 0, 0, 0), (.getfield 33, 3, 10, 3, 0), (.aload_n 3, 1, 3, 0, 0), (.iload_n 1, 1, 1, 0, 0), (.iload_n 2, 1, 2, 0, 0), (.invokevirtual 226, 3, 86, 3, 1), (.goto 4, 3, 31, 0, 0)], 30),
  (30, [(.iconst (-1), 1, 0, 0, -1)], 31),
  (31, [(.ireturn, 1, 0, 0, 0)], 32)]
set_option maxRecDepth 100000 in
theorem ok_X10_sides : pm_oks 10 false 4 (some .int) cX10_sides bk_X10_sides = true := by decide +kernel
set_option maxRecDepth 100000 in
theorem me_X10_sides : pm_me 85 = (yX10_sides, cX10_sides, 4, (some .int), 2, 0) := rfl
theorem mt_X10_sides {l : Launch} {g : pm_G} {d mc ms : Nat} {as : List Value} {A : pm_H} {Q : Option Value → pm_H → Prop} (hca : pm_cat 4 as = true) (body : ∀ J : pm_J, pm_Cl l g (fun _ => none) d mc ms (pm_Rq mc ms Q) bk_X10_sides J → J 0 (pm_l0 4 as) [] A 0 0) : pm_Mt l g 85 d mc ms as A Q := pm_Mt_of (isI := false) 10 bk_X10_sides me_X10_sides (plainFor_of_name (by decide +kernel)) (by decide +kernel) (fun h => by cases h) ok_X10_sides hca body
def bk_X10_cover : pm_B := [(0, [(.aload_n 0, 1, 0, 0, 0), (.getfield 12, 3, 10, 0, 0), (.getfield 80, 3, 9, 4, 0), (.astore_n 3, 1, 3, 0, 0), (.aload_n 3, 1, 3, 0, 0), (.iload_n 1, 1, 1, 0, 0), (.iload_n 2, 1, 2, 0, 0), (.invokevirtual 111, 3, 14, 2, 7), (.ifCond .eq 20, 3, 34, 0, 0), (.aload_n 0, 1, 0, 0, 0), (.getfield 33, 3, 10, 3, 0), (.aload_n 3, 1, 3, 0, 0), (.aload_n 0, 1, 0, 0, 0), (.getfield 19, 3, 10, 1, 0), (.iload_n 1, 1, 1, 0, 0), (.iload_n 2, 1, 2, 0, 0), (.invokevirtual 229, 3, 89, 4, 1), (.goto 4, 3, 35, 0, 0)], 34),
  (34, [(.iconst (-1), 1, 0, 0, -1)], 35),
  (35, [(.ireturn, 1, 0, 0, 0)], 36)]
set_option maxRecDepth 100000 in
theorem ok_X10_cover : pm_oks 10 false 4 (some .int) cX10_cover bk_X10_cover = true := by decide +kernel
set_option maxRecDepth 100000 in
theorem me_X10_cover : pm_me 88 = (yX10_cover, cX10_cover, 4, (some .int), 2, 0) := rfl
theorem mt_X10_cover {l : Launch} {g : pm_G} {d mc ms : Nat} {as : List Value} {A : pm_H} {Q : Option Value → pm_H → Prop} (hca : pm_cat 4 as = true) (body : ∀ J : pm_J, pm_Cl l g (fun _ => none) d mc ms (pm_Rq mc ms Q) bk_X10_cover J → J 0 (pm_l0 4 as) [] A 0 0) : pm_Mt l g 88 d mc ms as A Q := pm_Mt_of (isI := false) 10 bk_X10_cover me_X10_cover (plainFor_of_name (by decide +kernel)) (by decide +kernel) (fun h => by cases h) ok_X10_cover hca body
def bk_X10_least : pm_B := [(0, [(.iload_n 3, 1, 3, 0, 0), (.iconst 1, 1, 0, 0, 1), (.if_icmp .lt 31, 3, 33, 0, 0), (.aload_n 0, 1, 0, 0, 0), (.iload_n 1, 1, 1, 0, 0), (.iload_n 2, 1, 2, 0, 0), (.invokevirtual 182, 3, 59, 2, 10), (.ifCond .eq 22, 3, 33, 0, 0), (.aload_n 0, 1, 0, 0, 0), (.getfield 19, 3, 10, 1, 0), (.getfield 233, 3, 2, 2, 0), (.aload_n 0, 1, 0, 0, 0), (.getfield 19, 3, 10, 1, 0), (.iload_n 3, 1, 3, 0, 0), (.invokevirtual 236, 3, 91, 1, 2), (.isub, 1, 0, 0, 0), (.goto 4, 3, 34, 0, 0)], 33),
  (33, [(.iconst (-1), 1, 0, 0, -1)], 34),
  (34, [(.ireturn, 1, 0, 0, 0)], 35)]
set_option maxRecDepth 100000 in
theorem ok_X10_least : pm_oks 10 false 4 (some .int) cX10_least bk_X10_least = true := by decide +kernel
set_option maxRecDepth 100000 in
theorem me_X10_least : pm_me 90 = (yX10_least, cX10_least, 4, (some .int), 3, 0) := rfl
theorem mt_X10_least {l : Launch} {g : pm_G} {d mc ms : Nat} {as : List Value} {A : pm_H} {Q : Option Value → pm_H → Prop} (hca : pm_cat 4 as = true) (body : ∀ J : pm_J, pm_Cl l g (fun _ => none) d mc ms (pm_Rq mc ms Q) bk_X10_least J → J 0 (pm_l0 4 as) [] A 0 0) : pm_Mt l g 90 d mc ms as A Q := pm_Mt_of (isI := false) 10 bk_X10_least me_X10_least (plainFor_of_name (by decide +kernel)) (by decide +kernel) (fun h => by cases h) ok_X10_least hca body
def bk_X10_fair : pm_B := [(0, [(.iload_n 3, 1, 3, 0, 0), (.iconst 1, 1, 0, 0, 1), (.if_icmp .lt 23, 3, 25, 0, 0), (.aload_n 0, 1, 0, 0, 0), (.iload_n 1, 1, 1, 0, 0), (.iload_n 2, 1, 2, 0, 0), (.invokevirtual 182, 3, 59, 2, 10), (.ifCond .eq 14, 3, 25, 0, 0), (.aload_n 0, 1, 0, 0, 0), (.getfield 19, 3, 10, 1, 0), (.iload_n 3, 1, 3, 0, 0), (.invokevirtual 217, 3, 79, 1, 2), (.goto 4, 3, 26, 0, 0)], 25),
  (25, [(.iconst (-1), 1, 0, 0, -1)], 26),
  (26, [(.ireturn, 1, 0, 0, 0)], 27)]
set_option maxRecDepth 100000 in
theorem ok_X10_fair : pm_oks 10 false 4 (some .int) cX10_fair bk_X10_fair = true := by decide +kernel
set_option maxRecDepth 100000 in
theorem me_X10_fair : pm_me 93 = (yX10_fair, cX10_fair, 4, (some .int), 3, 0) := rfl
theorem mt_X10_fair {l : Launch} {g : pm_G} {d mc ms : Nat} {as : List Value} {A : pm_H} {Q : Option Value → pm_H → Prop} (hca : pm_cat 4 as = true) (body : ∀ J : pm_J, pm_Cl l g (fun _ => none) d mc ms (pm_Rq mc ms Q) bk_X10_fair J → J 0 (pm_l0 4 as) [] A 0 0) : pm_Mt l g 93 d mc ms as A Q := pm_Mt_of (isI := false) 10 bk_X10_fair me_X10_fair (plainFor_of_name (by decide +kernel)) (by decide +kernel) (fun h => by cases h) ok_X10_fair hca body
def bk_X10_alike : pm_B := [(0, [(.aload_n 0, 1, 0, 0, 0), (.iload_n 1, 1, 1, 0, 0), (.iload_n 2, 1, 2, 0, 0), (.invokevirtual 182, 3, 59, 2, 10), (.ifCond .eq 13, 3, 19, 0, 0), (.aload_n 0, 1, 0, 0, 0), (.getfield 19, 3, 10, 1, 0), (.invokevirtual 239, 3, 95, 0, 2), (.goto 4, 3, 20, 0, 0)], 19),
  (19, [(.iconst (-1), 1, 0, 0, -1)], 20),
  (20, [(.ireturn, 1, 0, 0, 0)], 21)]
set_option maxRecDepth 100000 in
theorem ok_X10_alike : pm_oks 10 false 3 (some .int) cX10_alike bk_X10_alike = true := by decide +kernel
set_option maxRecDepth 100000 in
theorem me_X10_alike : pm_me 94 = (yX10_alike, cX10_alike, 3, (some .int), 2, 0) := rfl
theorem mt_X10_alike {l : Launch} {g : pm_G} {d mc ms : Nat} {as : List Value} {A : pm_H} {Q : Option Value → pm_H → Prop} (hca : pm_cat 3 as = true) (body : ∀ J : pm_J, pm_Cl l g (fun _ => none) d mc ms (pm_Rq mc ms Q) bk_X10_alike J → J 0 (pm_l0 3 as) [] A 0 0) : pm_Mt l g 94 d mc ms as A Q := pm_Mt_of (isI := false) 10 bk_X10_alike me_X10_alike (plainFor_of_name (by decide +kernel)) (by decide +kernel) (fun h => by cases h) ok_X10_alike hca body
def bk_X10_even : pm_B := [(0, [(.aload_n 0, 1, 0, 0, 0), (.getfield 12, 3, 10, 0, 0), (.getfield 80, 3, 9, 4, 0), (.astore_n 3, 1, 3, 0, 0), (.aload_n 3, 1, 3, 0, 0), (.iload_n 1, 1, 1, 0, 0), (.iload_n 2, 1, 2, 0, 0), (.invokevirtual 111, 3, 14, 2, 7), (.ifCond .eq 20, 3, 34, 0, 0), (.aload_n 0, 1, 0, 0, 0), (.getfield 33, 3, 10, 3, 0), (.aload_n 3, 1, 3, 0, 0), (.aload_n 0, 1, 0, 0, 0), (.getfield 19, 3, 10, 1, 0), (.iload_n 1, 1, 1, 0, 0), (.iload_n 2, 1, 2, 0, 0), (.invokevirtual 242, 3, 97, 4, 1), (.goto 4, 3, 35, 0, 0)], 34),
  (34, [(.iconst (-1), 1, 0, 0, -1)], 35),
  (35, [(.ireturn, 1, 0, 0, 0)], 36)]
set_option maxRecDepth 100000 in
theorem ok_X10_even : pm_oks 10 false 4 (some .int) cX10_even bk_X10_even = true := by decide +kernel
set_option maxRecDepth 100000 in
theorem me_X10_even : pm_me 96 = (yX10_even, cX10_even, 4, (some .int), 2, 0) := rfl
theorem mt_X10_even {l : Launch} {g : pm_G} {d mc ms : Nat} {as : List Value} {A : pm_H} {Q : Option Value → pm_H → Prop} (hca : pm_cat 4 as = true) (body : ∀ J : pm_J, pm_Cl l g (fun _ => none) d mc ms (pm_Rq mc ms Q) bk_X10_even J → J 0 (pm_l0 4 as) [] A 0 0) : pm_Mt l g 96 d mc ms as A Q := pm_Mt_of (isI := false) 10 bk_X10_even me_X10_even (plainFor_of_name (by decide +kernel)) (by decide +kernel) (fun h => by cases h) ok_X10_even hca body
def bk_X10_apart : pm_B := [(0, [(.iload_n 1, 1, 1, 0, 0), (.iload_n 2, 1, 2, 0, 0), (.invokestatic 130, 3, 38, 2, 0), (.ifCond .ne 5, 3, 10, 0, 0), (.iconst (-1), 1, 0, 0, -1), (.ireturn, 1, 0, 0, 0)], 10),
  (10, [(.aload_n 0, 1, 0, 0, 0), (.getfield 33, 3, 10, 3, 0), (.aload_n 0, 1, 0, 0, 0), (.getfield 12, 3, 10, 0, 0), (.getfield 80, 3, 9, 4, 0), (.iload_n 1, 1, 1, 0, 0), (.iload_n 2, 1, 2, 0, 0), (.invokevirtual 245, 3, 99, 3, 1), (.aload_n 0, 1, 0, 0, 0), (.getfield 33, 3, 10, 3, 0), (.iload_n 3, 1, 3, 0, 0), (.invokevirtual 223, 3, 84, 1, 1), (.ireturn, 1, 0, 0, 0)], 35)]
set_option maxRecDepth 100000 in
theorem ok_X10_apart : pm_oks 10 false 4 (some .int) cX10_apart bk_X10_apart = true := by decide +kernel
set_option maxRecDepth 100000 in
theorem me_X10_apart : pm_me 98 = (yX10_apart, cX10_apart, 4, (some .int), 3, 0) := rfl
theorem mt_X10_apart {l : Launch} {g : pm_G} {d mc ms : Nat} {as : List Value} {A : pm_H} {Q : Option Value → pm_H → Prop} (hca : pm_cat 4 as = true) (body : ∀ J : pm_J, pm_Cl l g (fun _ => none) d mc ms (pm_Rq mc ms Q) bk_X10_apart J → J 0 (pm_l0 4 as) [] A 0 0) : pm_Mt l g 98 d mc ms as A Q := pm_Mt_of (isI := false) 10 bk_X10_apart me_X10_apart (plainFor_of_name (by decide +kernel)) (by decide +kernel) (fun h => by cases h) ok_X10_apart hca body
def bk_X10_reach : pm_B := [(0, [(.aload_n 0, 1, 0, 0, 0), (.getfield 12, 3, 10, 0, 0), (.getfield 80, 3, 9, 4, 0), (.astore_n 3, 1, 3, 0, 0), (.iload_n 2, 1, 2, 0, 0), (.iconst 1, 1, 0, 0, 1), (.if_icmp .lt 28, 3, 38, 0, 0), (.aload_n 3, 1, 3, 0, 0), (.iload_n 1, 1, 1, 0, 0), (.invokevirtual 248, 3, 19, 1, 7), (.ifCond .eq 20, 3, 38, 0, 0), (.aload_n 0, 1, 0, 0, 0), (.getfield 40, 3, 10, 4, 0), (.aload_n 3, 1, 3, 0, 0), (.aload_n 0, 1, 0, 0, 0), (.getfield 19, 3, 10, 1, 0), (.iload_n 1, 1, 1, 0, 0), (.iload_n 2, 1, 2, 0, 0), (.invokevirtual 251, 3, 101, 4, 6), (.goto 4, 3, 39, 0, 0)], 38),
  (38, [(.iconst (-1), 1, 0, 0, -1)], 39),
  (39, [(.ireturn, 1, 0, 0, 0)], 40)]
set_option maxRecDepth 100000 in
theorem ok_X10_reach : pm_oks 10 false 4 (some .int) cX10_reach bk_X10_reach = true := by decide +kernel
set_option maxRecDepth 100000 in
theorem me_X10_reach : pm_me 100 = (yX10_reach, cX10_reach, 4, (some .int), 2, 0) := rfl
theorem mt_X10_reach {l : Launch} {g : pm_G} {d mc ms : Nat} {as : List Value} {A : pm_H} {Q : Option Value → pm_H → Prop} (hca : pm_cat 4 as = true) (body : ∀ J : pm_J, pm_Cl l g (fun _ => none) d mc ms (pm_Rq mc ms Q) bk_X10_reach J → J 0 (pm_l0 4 as) [] A 0 0) : pm_Mt l g 100 d mc ms as A Q := pm_Mt_of (isI := false) 10 bk_X10_reach me_X10_reach (plainFor_of_name (by decide +kernel)) (by decide +kernel) (fun h => by cases h) ok_X10_reach hca body
def bk_X10_reachBack : pm_B := [(0, [(.aload_n 0, 1, 0, 0, 0), (.getfield 12, 3, 10, 0, 0), (.getfield 80, 3, 9, 4, 0), (.astore_n 3, 1, 3, 0, 0), (.iload_n 2, 1, 2, 0, 0), (.iconst 1, 1, 0, 0, 1), (.if_icmp .lt 28, 3, 38, 0, 0), (.aload_n 3, 1, 3, 0, 0), (.iload_n 1, 1, 1, 0, 0), (.invokevirtual 248, 3, 19, 1, 7), (.ifCond .eq 20, 3, 38, 0, 0), (.aload_n 0, 1, 0, 0, 0), (.getfield 40, 3, 10, 4, 0), (.aload_n 3, 1, 3, 0, 0), (.aload_n 0, 1, 0, 0, 0), (.getfield 19, 3, 10, 1, 0), (.iload_n 1, 1, 1, 0, 0), (.iload_n 2, 1, 2, 0, 0), (.invokevirtual 254, 3, 103, 4, 6), (.goto 4, 3, 39, 0, 0)], 38),
  (38, [(.iconst (-1), 1, 0, 0, -1)], 39),
  (39, [(.ireturn, 1, 0, 0, 0)], 40)]
set_option maxRecDepth 100000 in
theorem ok_X10_reachBack : pm_oks 10 false 4 (some .int) cX10_reachBack bk_X10_reachBack = true := by decide +kernel
set_option maxRecDepth 100000 in
theorem me_X10_reachBack : pm_me 102 = (yX10_reachBack, cX10_reachBack, 4, (some .int), 2, 0) := rfl
theorem mt_X10_reachBack {l : Launch} {g : pm_G} {d mc ms : Nat} {as : List Value} {A : pm_H} {Q : Option Value → pm_H → Prop} (hca : pm_cat 4 as = true) (body : ∀ J : pm_J, pm_Cl l g (fun _ => none) d mc ms (pm_Rq mc ms Q) bk_X10_reachBack J → J 0 (pm_l0 4 as) [] A 0 0) : pm_Mt l g 102 d mc ms as A Q := pm_Mt_of (isI := false) 10 bk_X10_reachBack me_X10_reachBack (plainFor_of_name (by decide +kernel)) (by decide +kernel) (fun h => by cases h) ok_X10_reachBack hca body
def bk_X10_load : pm_B := [(0, [(.aload_n 0, 1, 0, 0, 0), (.getfield 12, 3, 10, 0, 0), (.getfield 80, 3, 9, 4, 0), (.astore_n 3, 1, 3, 0, 0), (.iload_n 2, 1, 2, 0, 0), (.iconst 1, 1, 0, 0, 1), (.if_icmp .lt 28, 3, 38, 0, 0), (.aload_n 3, 1, 3, 0, 0), (.iload_n 1, 1, 1, 0, 0), (.invokevirtual 248, 3, 19, 1, 7), (.ifCond .eq 20, 3, 38, 0, 0), (.aload_n 0, 1, 0, 0, 0), (.getfield 40, 3, 10, 4, 0), (.aload_n 3, 1, 3, 0, 0), (.aload_n 0, 1, 0, 0, 0), (.getfield 19, 3, 10, 1, 0), (.iload_n 1, 1, 1, 0, 0), (.iload_n 2, 1, 2, 0, 0), (.invokevirtual 257, 3, 105, 4, 6), (.goto 4, 3, 39, 0, 0)], 38),
  (38, [(.iconst (-1), 1, 0, 0, -1)], 39),
  (39, [(.ireturn, 1, 0, 0, 0)], 40)]
set_option maxRecDepth 100000 in
theorem ok_X10_load : pm_oks 10 false 4 (some .int) cX10_load bk_X10_load = true := by decide +kernel
set_option maxRecDepth 100000 in
theorem me_X10_load : pm_me 104 = (yX10_load, cX10_load, 4, (some .int), 2, 0) := rfl
theorem mt_X10_load {l : Launch} {g : pm_G} {d mc ms : Nat} {as : List Value} {A : pm_H} {Q : Option Value → pm_H → Prop} (hca : pm_cat 4 as = true) (body : ∀ J : pm_J, pm_Cl l g (fun _ => none) d mc ms (pm_Rq mc ms Q) bk_X10_load J → J 0 (pm_l0 4 as) [] A 0 0) : pm_Mt l g 104 d mc ms as A Q := pm_Mt_of (isI := false) 10 bk_X10_load me_X10_load (plainFor_of_name (by decide +kernel)) (by decide +kernel) (fun h => by cases h) ok_X10_load hca body
def bk_X10_window : pm_B := [(0, [(.iload_n 1, 1, 1, 0, 0), (.ldc 205, 2, 0, 0, 16777215), (.iand, 1, 0, 0, 0), (.istore_n 3, 1, 3, 0, 0), (.iload_n 3, 1, 3, 0, 0), (.ifCond .ne 5, 3, 11, 0, 0), (.iconst (-1), 1, 0, 0, -1), (.ireturn, 1, 0, 0, 0)], 11),
  (11, [(.aload_n 0, 1, 0, 0, 0), (.getfield 40, 3, 10, 4, 0), (.aload_n 0, 1, 0, 0, 0), (.getfield 12, 3, 10, 0, 0), (.getfield 80, 3, 9, 4, 0), (.iload_n 3, 1, 3, 0, 0), (.invokevirtual 260, 3, 107, 2, 6), (.iload_n 2, 1, 2, 0, 0), (.iconst 2, 1, 0, 0, 2), (.if_icmp .ne 13, 3, 41, 0, 0), (.aload_n 0, 1, 0, 0, 0), (.getfield 40, 3, 10, 4, 0), (.getfield 264, 3, 6, 4, 0), (.goto 11, 3, 49, 0, 0)], 41),
  (41, [(.aload_n 0, 1, 0, 0, 0), (.getfield 40, 3, 10, 4, 0), (.iload_n 2, 1, 2, 0, 0), (.invokevirtual 267, 3, 110, 1, 6)], 49),
  (49, [(.ireturn, 1, 0, 0, 0)], 50)]
set_option maxRecDepth 100000 in
theorem ok_X10_window : pm_oks 10 false 4 (some .int) cX10_window bk_X10_window = true := by decide +kernel
set_option maxRecDepth 100000 in
theorem me_X10_window : pm_me 106 = (yX10_window, cX10_window, 4, (some .int), 2, 0) := rfl
theorem mt_X10_window {l : Launch} {g : pm_G} {d mc ms : Nat} {as : List Value} {A : pm_H} {Q : Option Value → pm_H → Prop} (hca : pm_cat 4 as = true) (body : ∀ J : pm_J, pm_Cl l g (fun _ => none) d mc ms (pm_Rq mc ms Q) bk_X10_window J → J 0 (pm_l0 4 as) [] A 0 0) : pm_Mt l g 106 d mc ms as A Q := pm_Mt_of (isI := false) 10 bk_X10_window me_X10_window (plainFor_of_name (by decide +kernel)) (by decide +kernel) (fun h => by cases h) ok_X10_window hca body
def bk_X10_longest : pm_B := [(0, [(.iload_n 1, 1, 1, 0, 0), (.iconst 1, 1, 0, 0, 1), (.if_icmp .ge 5, 3, 7, 0, 0), (.iconst (-1), 1, 0, 0, -1), (.ireturn, 1, 0, 0, 0)], 7),
  (7, [(.aload_n 0, 1, 0, 0, 0), (.getfield 40, 3, 10, 4, 0), (.aload_n 0, 1, 0, 0, 0), (.getfield 12, 3, 10, 0, 0), (.getfield 80, 3, 9, 4, 0), (.aload_n 0, 1, 0, 0, 0), (.getfield 19, 3, 10, 1, 0), (.iload_n 1, 1, 1, 0, 0), (.invokevirtual 270, 3, 112, 3, 6), (.aload_n 0, 1, 0, 0, 0), (.getfield 40, 3, 10, 4, 0), (.iload_n 2, 1, 2, 0, 0), (.invokevirtual 267, 3, 110, 1, 6), (.ireturn, 1, 0, 0, 0)], 35)]
set_option maxRecDepth 100000 in
theorem ok_X10_longest : pm_oks 10 false 3 (some .int) cX10_longest bk_X10_longest = true := by decide +kernel
set_option maxRecDepth 100000 in
theorem me_X10_longest : pm_me 111 = (yX10_longest, cX10_longest, 3, (some .int), 2, 0) := rfl
theorem mt_X10_longest {l : Launch} {g : pm_G} {d mc ms : Nat} {as : List Value} {A : pm_H} {Q : Option Value → pm_H → Prop} (hca : pm_cat 3 as = true) (body : ∀ J : pm_J, pm_Cl l g (fun _ => none) d mc ms (pm_Rq mc ms Q) bk_X10_longest J → J 0 (pm_l0 3 as) [] A 0 0) : pm_Mt l g 111 d mc ms as A Q := pm_Mt_of (isI := false) 10 bk_X10_longest me_X10_longest (plainFor_of_name (by decide +kernel)) (by decide +kernel) (fun h => by cases h) ok_X10_longest hca body
def bk_X10_unlike : pm_B := [(0, [(.aload_n 0, 1, 0, 0, 0), (.getfield 40, 3, 10, 4, 0), (.aload_n 0, 1, 0, 0, 0), (.getfield 12, 3, 10, 0, 0), (.getfield 80, 3, 9, 4, 0), (.invokevirtual 274, 3, 116, 1, 6), (.aload_n 0, 1, 0, 0, 0), (.getfield 40, 3, 10, 4, 0), (.iload_n 1, 1, 1, 0, 0), (.invokevirtual 267, 3, 110, 1, 6), (.ireturn, 1, 0, 0, 0)], 23)]
set_option maxRecDepth 100000 in
theorem ok_X10_unlike : pm_oks 10 false 2 (some .int) cX10_unlike bk_X10_unlike = true := by decide +kernel
set_option maxRecDepth 100000 in
theorem me_X10_unlike : pm_me 115 = (yX10_unlike, cX10_unlike, 2, (some .int), 1, 0) := rfl
theorem mt_X10_unlike {l : Launch} {g : pm_G} {d mc ms : Nat} {as : List Value} {A : pm_H} {Q : Option Value → pm_H → Prop} (hca : pm_cat 2 as = true) (body : ∀ J : pm_J, pm_Cl l g (fun _ => none) d mc ms (pm_Rq mc ms Q) bk_X10_unlike J → J 0 (pm_l0 2 as) [] A 0 0) : pm_Mt l g 115 d mc ms as A Q := pm_Mt_of (isI := false) 10 bk_X10_unlike me_X10_unlike (plainFor_of_name (by decide +kernel)) (by decide +kernel) (fun h => by cases h) ok_X10_unlike hca body
def bk_X10_heaviest : pm_B := [(0, [(.iload_n 1, 1, 1, 0, 0), (.iconst 1, 1, 0, 0, 1), (.if_icmp .lt 17, 3, 19, 0, 0), (.iload_n 1, 1, 1, 0, 0), (.aload_n 0, 1, 0, 0, 0), (.getfield 12, 3, 10, 0, 0), (.getfield 80, 3, 9, 4, 0), (.getfield 103, 3, 7, 3, 0), (.if_icmp .le 5, 3, 21, 0, 0)], 19),
  (19, [(.iconst (-1), 1, 0, 0, -1), (.ireturn, 1, 0, 0, 0)], 21),
  (21, [(.aload_n 0, 1, 0, 0, 0), (.getfield 40, 3, 10, 4, 0), (.aload_n 0, 1, 0, 0, 0), (.getfield 12, 3, 10, 0, 0), (.getfield 80, 3, 9, 4, 0), (.aload_n 0, 1, 0, 0, 0), (.getfield 19, 3, 10, 1, 0), (.iload_n 1, 1, 1, 0, 0), (.invokevirtual 278, 3, 118, 3, 6), (.iload_n 2, 1, 2, 0, 0), (.ifCond .ne 13, 3, 54, 0, 0), (.aload_n 0, 1, 0, 0, 0), (.getfield 40, 3, 10, 4, 0), (.getfield 281, 3, 6, 1, 0), (.goto 19, 3, 70, 0, 0)], 54),
  (54, [(.iload_n 2, 1, 2, 0, 0), (.iconst 1, 1, 0, 0, 1), (.if_icmp .ne 13, 3, 69, 0, 0), (.aload_n 0, 1, 0, 0, 0), (.getfield 40, 3, 10, 4, 0), (.getfield 284, 3, 6, 3, 0), (.goto 4, 3, 70, 0, 0)], 69),
  (69, [(.iconst (-1), 1, 0, 0, -1)], 70),
  (70, [(.ireturn, 1, 0, 0, 0)], 71)]
set_option maxRecDepth 100000 in
theorem ok_X10_heaviest : pm_oks 10 false 3 (some .int) cX10_heaviest bk_X10_heaviest = true := by decide +kernel
set_option maxRecDepth 100000 in
theorem me_X10_heaviest : pm_me 117 = (yX10_heaviest, cX10_heaviest, 3, (some .int), 2, 0) := rfl
theorem mt_X10_heaviest {l : Launch} {g : pm_G} {d mc ms : Nat} {as : List Value} {A : pm_H} {Q : Option Value → pm_H → Prop} (hca : pm_cat 3 as = true) (body : ∀ J : pm_J, pm_Cl l g (fun _ => none) d mc ms (pm_Rq mc ms Q) bk_X10_heaviest J → J 0 (pm_l0 3 as) [] A 0 0) : pm_Mt l g 117 d mc ms as A Q := pm_Mt_of (isI := false) 10 bk_X10_heaviest me_X10_heaviest (plainFor_of_name (by decide +kernel)) (by decide +kernel) (fun h => by cases h) ok_X10_heaviest hca body
def bk_X10_distance : pm_B := [(0, [(.aload_n 0, 1, 0, 0, 0), (.getfield 12, 3, 10, 0, 0), (.getfield 80, 3, 9, 4, 0), (.astore_n 2, 1, 2, 0, 0), (.aload_n 2, 1, 2, 0, 0), (.iload_n 1, 1, 1, 0, 0), (.invokevirtual 248, 3, 19, 1, 7), (.ifCond .eq 13, 3, 26, 0, 0), (.aload_n 2, 1, 2, 0, 0), (.getfield 287, 3, 7, 2, 0), (.iload_n 1, 1, 1, 0, 0), (.iaload, 1, 0, 0, 0), (.iconst (-1), 1, 0, 0, -1), (.if_icmp .ne 5, 3, 28, 0, 0)], 26),
  (26, [(.iconst (-1), 1, 0, 0, -1), (.ireturn, 1, 0, 0, 0)], 28),
  (28, [(.aload_n 0, 1, 0, 0, 0), (.aload_n 2, 1, 2, 0, 0), (.aload_n 2, 1, 2, 0, 0), (.getfield 287, 3, 7, 2, 0), (.iload_n 1, 1, 1, 0, 0), (.iaload, 1, 0, 0, 0), (.iconst 1, 1, 0, 0, 1), (.iadd, 1, 0, 0, 0), (.iload_n 1, 1, 1, 0, 0), (.iconst 1, 1, 0, 0, 1), (.isub, 1, 0, 0, 0), (.invokevirtual 159, 3, 54, 3, 10), (.ireturn, 1, 0, 0, 0)], 45)]
set_option maxRecDepth 100000 in
theorem ok_X10_distance : pm_oks 10 false 3 (some .int) cX10_distance bk_X10_distance = true := by decide +kernel
set_option maxRecDepth 100000 in
theorem me_X10_distance : pm_me 119 = (yX10_distance, cX10_distance, 3, (some .int), 1, 0) := rfl
theorem mt_X10_distance {l : Launch} {g : pm_G} {d mc ms : Nat} {as : List Value} {A : pm_H} {Q : Option Value → pm_H → Prop} (hca : pm_cat 3 as = true) (body : ∀ J : pm_J, pm_Cl l g (fun _ => none) d mc ms (pm_Rq mc ms Q) bk_X10_distance J → J 0 (pm_l0 3 as) [] A 0 0) : pm_Mt l g 119 d mc ms as A Q := pm_Mt_of (isI := false) 10 bk_X10_distance me_X10_distance (plainFor_of_name (by decide +kernel)) (by decide +kernel) (fun h => by cases h) ok_X10_distance hca body
def bk_X10_misses : pm_B := [(0, [(.iload_n 1, 1, 1, 0, 0), (.iload_n 2, 1, 2, 0, 0), (.invokestatic 290, 3, 121, 2, 0), (.ifCond .ne 5, 3, 10, 0, 0), (.iconst (-1), 1, 0, 0, -1), (.ireturn, 1, 0, 0, 0)], 10),
  (10, [(.aload_n 0, 1, 0, 0, 0), (.getfield 47, 3, 10, 5, 0), (.aload_n 0, 1, 0, 0, 0), (.getfield 12, 3, 10, 0, 0), (.getfield 80, 3, 9, 4, 0), (.aload_n 0, 1, 0, 0, 0), (.getfield 12, 3, 10, 0, 0), (.getfield 80, 3, 9, 4, 0), (.getfield 103, 3, 7, 3, 0), (.iconst 1, 1, 0, 0, 1), (.isub, 1, 0, 0, 0), (.iload_n 1, 1, 1, 0, 0), (.iload_n 2, 1, 2, 0, 0), (.invokevirtual 293, 3, 122, 4, 8), (.aload_n 0, 1, 0, 0, 0), (.getfield 47, 3, 10, 5, 0), (.getfield 297, 3, 8, 3, 0), (.ireturn, 1, 0, 0, 0)], 46)]
set_option maxRecDepth 100000 in
theorem ok_X10_misses : pm_oks 10 false 3 (some .int) cX10_misses bk_X10_misses = true := by decide +kernel
set_option maxRecDepth 100000 in
theorem me_X10_misses : pm_me 120 = (yX10_misses, cX10_misses, 3, (some .int), 2, 0) := rfl
theorem mt_X10_misses {l : Launch} {g : pm_G} {d mc ms : Nat} {as : List Value} {A : pm_H} {Q : Option Value → pm_H → Prop} (hca : pm_cat 3 as = true) (body : ∀ J : pm_J, pm_Cl l g (fun _ => none) d mc ms (pm_Rq mc ms Q) bk_X10_misses J → J 0 (pm_l0 3 as) [] A 0 0) : pm_Mt l g 120 d mc ms as A Q := pm_Mt_of (isI := false) 10 bk_X10_misses me_X10_misses (plainFor_of_name (by decide +kernel)) (by decide +kernel) (fun h => by cases h) ok_X10_misses hca body
def bk_X10_shelf : pm_B := [(0, [(.aload_n 0, 1, 0, 0, 0), (.getfield 12, 3, 10, 0, 0), (.getfield 80, 3, 9, 4, 0), (.iload_n 1, 1, 1, 0, 0), (.invokevirtual 248, 3, 19, 1, 7), (.ifCond .eq 11, 3, 22, 0, 0), (.iload_n 2, 1, 2, 0, 0), (.iload_n 3, 1, 3, 0, 0), (.invokestatic 290, 3, 121, 2, 0), (.ifCond .ne 5, 3, 24, 0, 0)], 22),
  (22, [(.iconst (-1), 1, 0, 0, -1), (.ireturn, 1, 0, 0, 0)], 24),
  (24, [(.aload_n 0, 1, 0, 0, 0), (.getfield 47, 3, 10, 5, 0), (.aload_n 0, 1, 0, 0, 0), (.getfield 12, 3, 10, 0, 0), (.getfield 80, 3, 9, 4, 0), (.iload_n 1, 1, 1, 0, 0), (.iload_n 2, 1, 2, 0, 0), (.iload_n 3, 1, 3, 0, 0), (.invokevirtual 293, 3, 122, 4, 8), (.aload_n 0, 1, 0, 0, 0), (.getfield 47, 3, 10, 5, 0), (.getfield 300, 3, 8, 4, 0), (.ireturn, 1, 0, 0, 0)], 49)]
set_option maxRecDepth 100000 in
theorem ok_X10_shelf : pm_oks 10 false 4 (some .int) cX10_shelf bk_X10_shelf = true := by decide +kernel
set_option maxRecDepth 100000 in
theorem me_X10_shelf : pm_me 126 = (yX10_shelf, cX10_shelf, 4, (some .int), 3, 0) := rfl
theorem mt_X10_shelf {l : Launch} {g : pm_G} {d mc ms : Nat} {as : List Value} {A : pm_H} {Q : Option Value → pm_H → Prop} (hca : pm_cat 4 as = true) (body : ∀ J : pm_J, pm_Cl l g (fun _ => none) d mc ms (pm_Rq mc ms Q) bk_X10_shelf J → J 0 (pm_l0 4 as) [] A 0 0) : pm_Mt l g 126 d mc ms as A Q := pm_Mt_of (isI := false) 10 bk_X10_shelf me_X10_shelf (plainFor_of_name (by decide +kernel)) (by decide +kernel) (fun h => by cases h) ok_X10_shelf hca body
def bk_X10_suffices : pm_B := [(0, [(.iload_n 1, 1, 1, 0, 0), (.ifCond .ge 5, 3, 6, 0, 0), (.iconst (-1), 1, 0, 0, -1), (.ireturn, 1, 0, 0, 0)], 6),
  (6, [(.iconst 1, 1, 0, 0, 1), (.istore_n 3, 1, 3, 0, 0)], 8),
  (8, [(.iload_n 3, 1, 3, 0, 0), (.bipush 24, 2, 0, 0, 24), (.if_icmp .gt 58, 3, 69, 0, 0), (.iload_n 3, 1, 3, 0, 0), (.iload_n 2, 1, 2, 0, 0), (.invokestatic 290, 3, 121, 2, 0), (.ifCond .eq 50, 3, 69, 0, 0), (.aload_n 0, 1, 0, 0, 0), (.getfield 47, 3, 10, 5, 0), (.aload_n 0, 1, 0, 0, 0), (.getfield 12, 3, 10, 0, 0), (.getfield 80, 3, 9, 4, 0), (.aload_n 0, 1, 0, 0, 0), (.getfield 12, 3, 10, 0, 0), (.getfield 80, 3, 9, 4, 0), (.getfield 103, 3, 7, 3, 0), (.iconst 1, 1, 0, 0, 1), (.isub, 1, 0, 0, 0), (.iload_n 3, 1, 3, 0, 0), (.iload_n 2, 1, 2, 0, 0), (.invokevirtual 293, 3, 122, 4, 8), (.aload_n 0, 1, 0, 0, 0), (.getfield 47, 3, 10, 5, 0), (.getfield 297, 3, 8, 3, 0), (.iload_n 1, 1, 1, 0, 0), (.if_icmp .gt 5, 3, 63, 0, 0), (.iload_n 3, 1, 3, 0, 0), (.ireturn, 1, 0, 0, 0)], 63),
  (63, [(.iinc 3 1, 3, 3, 0, 1), (.goto (-58), 3, 8, 0, 0)], 69),
  (69, [(.iconst (-1), 1, 0, 0, -1), (.ireturn, 1, 0, 0, 0)], 71)]
set_option maxRecDepth 100000 in
theorem ok_X10_suffices : pm_oks 10 false 4 (some .int) cX10_suffices bk_X10_suffices = true := by decide +kernel
set_option maxRecDepth 100000 in
theorem me_X10_suffices : pm_me 127 = (yX10_suffices, cX10_suffices, 4, (some .int), 2, 0) := rfl
theorem mt_X10_suffices {l : Launch} {g : pm_G} {d mc ms : Nat} {as : List Value} {A : pm_H} {Q : Option Value → pm_H → Prop} (hca : pm_cat 4 as = true) (body : ∀ J : pm_J, pm_Cl l g (fun _ => none) d mc ms (pm_Rq mc ms Q) bk_X10_suffices J → J 0 (pm_l0 4 as) [] A 0 0) : pm_Mt l g 127 d mc ms as A Q := pm_Mt_of (isI := false) 10 bk_X10_suffices me_X10_suffices (plainFor_of_name (by decide +kernel)) (by decide +kernel) (fun h => by cases h) ok_X10_suffices hca body
def bk_X10_just : pm_B := [(0, [(.iload_n 1, 1, 1, 0, 0), (.iconst 1, 1, 0, 0, 1), (.if_icmp .ge 5, 3, 7, 0, 0), (.iconst 0, 1, 0, 0, 0), (.ireturn, 1, 0, 0, 0)], 7),
  (7, [(.aload_n 0, 1, 0, 0, 0), (.getfield 12, 3, 10, 0, 0), (.getfield 80, 3, 9, 4, 0), (.astore_n 2, 1, 2, 0, 0), (.aload_n 0, 1, 0, 0, 0), (.getfield 54, 3, 10, 6, 0), (.aload_n 2, 1, 2, 0, 0), (.aload_n 0, 1, 0, 0, 0), (.getfield 19, 3, 10, 1, 0), (.iload_n 1, 1, 1, 0, 0), (.invokevirtual 301, 3, 129, 3, 4), (.aload_n 0, 1, 0, 0, 0), (.getfield 54, 3, 10, 6, 0), (.aload_n 2, 1, 2, 0, 0), (.aload_n 0, 1, 0, 0, 0), (.getfield 19, 3, 10, 1, 0), (.iload_n 1, 1, 1, 0, 0), (.iconst 1, 1, 0, 0, 1), (.isub, 1, 0, 0, 0), (.invokevirtual 301, 3, 129, 3, 4), (.isub, 1, 0, 0, 0), (.ireturn, 1, 0, 0, 0)], 45)]
set_option maxRecDepth 100000 in
theorem ok_X10_just : pm_oks 10 false 3 (some .int) cX10_just bk_X10_just = true := by decide +kernel
set_option maxRecDepth 100000 in
theorem me_X10_just : pm_me 128 = (yX10_just, cX10_just, 3, (some .int), 1, 0) := rfl
theorem mt_X10_just {l : Launch} {g : pm_G} {d mc ms : Nat} {as : List Value} {A : pm_H} {Q : Option Value → pm_H → Prop} (hca : pm_cat 3 as = true) (body : ∀ J : pm_J, pm_Cl l g (fun _ => none) d mc ms (pm_Rq mc ms Q) bk_X10_just J → J 0 (pm_l0 3 as) [] A 0 0) : pm_Mt l g 128 d mc ms as A Q := pm_Mt_of (isI := false) 10 bk_X10_just me_X10_just (plainFor_of_name (by decide +kernel)) (by decide +kernel) (fun h => by cases h) ok_X10_just hca body
def bk_X10_all : pm_B := [(0, [(.aload_n 0, 1, 0, 0, 0), (.getfield 12, 3, 10, 0, 0), (.getfield 80, 3, 9, 4, 0), (.astore_n 1, 1, 1, 0, 0), (.lconst 0, 1, 0, 0, 0), (.lstore_n 2, 1, 2, 0, 0), (.iconst 0, 1, 0, 0, 0), (.istore 4, 2, 4, 0, 0)], 13),
  (13, [(.iload 4, 2, 4, 0, 0), (.aload_n 1, 1, 1, 0, 0), (.getfield 103, 3, 7, 3, 0), (.if_icmp .ge 32, 3, 51, 0, 0), (.lload_n 2, 1, 2, 0, 0), (.iload 4, 2, 4, 0, 0), (.aload_n 1, 1, 1, 0, 0), (.getfield 287, 3, 7, 2, 0), (.iload 4, 2, 4, 0, 0), (.iaload, 1, 0, 0, 0), (.isub, 1, 0, 0, 0), (.i2l, 1, 0, 0, 0), (.aload_n 1, 1, 1, 0, 0), (.getfield 103, 3, 7, 3, 0), (.iload 4, 2, 4, 0, 0), (.isub, 1, 0, 0, 0), (.i2l, 1, 0, 0, 0), (.lmul, 1, 0, 0, 0), (.ladd, 1, 0, 0, 0), (.lstore_n 2, 1, 2, 0, 0), (.iinc 4 1, 3, 4, 0, 1), (.goto (-35), 3, 13, 0, 0)], 51),
  (51, [(.lload_n 2, 1, 2, 0, 0), (.lreturn, 1, 0, 0, 0)], 53)]
set_option maxRecDepth 100000 in
theorem ok_X10_all : pm_oks 10 false 5 (some .long) cX10_all bk_X10_all = true := by decide +kernel
set_option maxRecDepth 100000 in
theorem me_X10_all : pm_me 130 = (yX10_all, cX10_all, 5, (some .long), 0, 0) := rfl
theorem mt_X10_all {l : Launch} {g : pm_G} {d mc ms : Nat} {as : List Value} {A : pm_H} {Q : Option Value → pm_H → Prop} (hca : pm_cat 5 as = true) (body : ∀ J : pm_J, pm_Cl l g (fun _ => none) d mc ms (pm_Rq mc ms Q) bk_X10_all J → J 0 (pm_l0 5 as) [] A 0 0) : pm_Mt l g 130 d mc ms as A Q := pm_Mt_of (isI := false) 10 bk_X10_all me_X10_all (plainFor_of_name (by decide +kernel)) (by decide +kernel) (fun h => by cases h) ok_X10_all hca body
def bk_X10_sets : pm_B := [(0, [(.iload_n 1, 1, 1, 0, 0), (.iconst 1, 1, 0, 0, 1), (.if_icmp .lt 39, 3, 41, 0, 0), (.iload_n 1, 1, 1, 0, 0), (.aload_n 0, 1, 0, 0, 0), (.getfield 12, 3, 10, 0, 0), (.getfield 80, 3, 9, 4, 0), (.getfield 103, 3, 7, 3, 0), (.if_icmp .gt 25, 3, 41, 0, 0), (.aload_n 0, 1, 0, 0, 0), (.getfield 54, 3, 10, 6, 0), (.aload_n 0, 1, 0, 0, 0), (.getfield 12, 3, 10, 0, 0), (.getfield 80, 3, 9, 4, 0), (.aload_n 0, 1, 0, 0, 0), (.getfield 19, 3, 10, 1, 0), (.iload_n 1, 1, 1, 0, 0), (.invokevirtual 305, 3, 132, 3, 4), (.goto 4, 3, 42, 0, 0)], 41),
  (41, [(.iconst 0, 1, 0, 0, 0)], 42),
  (42, [(.ireturn, 1, 0, 0, 0)], 43)]
set_option maxRecDepth 100000 in
theorem ok_X10_sets : pm_oks 10 false 2 (some .int) cX10_sets bk_X10_sets = true := by decide +kernel
set_option maxRecDepth 100000 in
theorem me_X10_sets : pm_me 131 = (yX10_sets, cX10_sets, 2, (some .int), 1, 0) := rfl
theorem mt_X10_sets {l : Launch} {g : pm_G} {d mc ms : Nat} {as : List Value} {A : pm_H} {Q : Option Value → pm_H → Prop} (hca : pm_cat 2 as = true) (body : ∀ J : pm_J, pm_Cl l g (fun _ => none) d mc ms (pm_Rq mc ms Q) bk_X10_sets J → J 0 (pm_l0 2 as) [] A 0 0) : pm_Mt l g 131 d mc ms as A Q := pm_Mt_of (isI := false) 10 bk_X10_sets me_X10_sets (plainFor_of_name (by decide +kernel)) (by decide +kernel) (fun h => by cases h) ok_X10_sets hca body
def bk_X10_match : pm_B := [(0, [(.aload_n 0, 1, 0, 0, 0), (.getfield 12, 3, 10, 0, 0), (.getfield 80, 3, 9, 4, 0), (.iload_n 1, 1, 1, 0, 0), (.iload_n 2, 1, 2, 0, 0), (.invokevirtual 111, 3, 14, 2, 7), (.ifCond .eq 8, 3, 20, 0, 0), (.iload_n 3, 1, 3, 0, 0), (.iconst (-1), 1, 0, 0, -1), (.if_icmp .ge 5, 3, 22, 0, 0)], 20),
  (20, [(.iconst (-1), 1, 0, 0, -1), (.ireturn, 1, 0, 0, 0)], 22),
  (22, [(.aload_n 0, 1, 0, 0, 0), (.getfield 54, 3, 10, 6, 0), (.aload_n 0, 1, 0, 0, 0), (.getfield 12, 3, 10, 0, 0), (.getfield 80, 3, 9, 4, 0), (.iload_n 1, 1, 1, 0, 0), (.iload_n 2, 1, 2, 0, 0), (.iload_n 3, 1, 3, 0, 0), (.invokevirtual 308, 3, 135, 4, 4), (.ireturn, 1, 0, 0, 0)], 40)]
set_option maxRecDepth 100000 in
theorem ok_X10_match : pm_oks 10 false 4 (some .int) cX10_match bk_X10_match = true := by decide +kernel
set_option maxRecDepth 100000 in
theorem me_X10_match : pm_me 134 = (yX10_match, cX10_match, 4, (some .int), 3, 0) := rfl
theorem mt_X10_match {l : Launch} {g : pm_G} {d mc ms : Nat} {as : List Value} {A : pm_H} {Q : Option Value → pm_H → Prop} (hca : pm_cat 4 as = true) (body : ∀ J : pm_J, pm_Cl l g (fun _ => none) d mc ms (pm_Rq mc ms Q) bk_X10_match J → J 0 (pm_l0 4 as) [] A 0 0) : pm_Mt l g 134 d mc ms as A Q := pm_Mt_of (isI := false) 10 bk_X10_match me_X10_match (plainFor_of_name (by decide +kernel)) (by decide +kernel) (fun h => by cases h) ok_X10_match hca body
def bk_X10_twin : pm_B := [(0, [(.aload_n 0, 1, 0, 0, 0), (.getfield 54, 3, 10, 6, 0), (.aload_n 0, 1, 0, 0, 0), (.getfield 12, 3, 10, 0, 0), (.getfield 80, 3, 9, 4, 0), (.invokevirtual 311, 3, 139, 1, 4), (.aload_n 0, 1, 0, 0, 0), (.getfield 54, 3, 10, 6, 0), (.getfield 314, 3, 4, 2, 0), (.ifCond .ne 5, 3, 26, 0, 0), (.iconst (-1), 1, 0, 0, -1), (.ireturn, 1, 0, 0, 0)], 26),
  (26, [(.iload_n 1, 1, 1, 0, 0), (.ifCond .ne 13, 3, 40, 0, 0), (.aload_n 0, 1, 0, 0, 0), (.getfield 54, 3, 10, 6, 0), (.getfield 317, 3, 4, 1, 0), (.goto 19, 3, 56, 0, 0)], 40),
  (40, [(.iload_n 1, 1, 1, 0, 0), (.iconst 1, 1, 0, 0, 1), (.if_icmp .ne 13, 3, 55, 0, 0), (.aload_n 0, 1, 0, 0, 0), (.getfield 54, 3, 10, 6, 0), (.getfield 314, 3, 4, 2, 0), (.goto 4, 3, 56, 0, 0)], 55),
  (55, [(.iconst (-1), 1, 0, 0, -1)], 56),
  (56, [(.ireturn, 1, 0, 0, 0)], 57)]
set_option maxRecDepth 100000 in
theorem ok_X10_twin : pm_oks 10 false 2 (some .int) cX10_twin bk_X10_twin = true := by decide +kernel
set_option maxRecDepth 100000 in
theorem me_X10_twin : pm_me 138 = (yX10_twin, cX10_twin, 2, (some .int), 1, 0) := rfl
theorem mt_X10_twin {l : Launch} {g : pm_G} {d mc ms : Nat} {as : List Value} {A : pm_H} {Q : Option Value → pm_H → Prop} (hca : pm_cat 2 as = true) (body : ∀ J : pm_J, pm_Cl l g (fun _ => none) d mc ms (pm_Rq mc ms Q) bk_X10_twin J → J 0 (pm_l0 2 as) [] A 0 0) : pm_Mt l g 138 d mc ms as A Q := pm_Mt_of (isI := false) 10 bk_X10_twin me_X10_twin (plainFor_of_name (by decide +kernel)) (by decide +kernel) (fun h => by cases h) ok_X10_twin hca body
def bk_X10_parts : pm_B := [(0, [(.iload_n 1, 1, 1, 0, 0), (.iconst 1, 1, 0, 0, 1), (.if_icmp .lt 31, 3, 33, 0, 0), (.iload_n 2, 1, 2, 0, 0), (.iconst (-1), 1, 0, 0, -1), (.if_icmp .lt 26, 3, 33, 0, 0), (.aload_n 0, 1, 0, 0, 0), (.getfield 61, 3, 10, 7, 0), (.aload_n 0, 1, 0, 0, 0), (.getfield 12, 3, 10, 0, 0), (.getfield 80, 3, 9, 4, 0), (.aload_n 0, 1, 0, 0, 0), (.getfield 19, 3, 10, 1, 0), (.iload_n 1, 1, 1, 0, 0), (.iload_n 2, 1, 2, 0, 0), (.invokevirtual 320, 3, 142, 4, 3), (.goto 4, 3, 34, 0, 0)], 33),
  (33, [(.iconst (-1), 1, 0, 0, -1)], 34),
  (34, [(.ireturn, 1, 0, 0, 0)], 35)]
set_option maxRecDepth 100000 in
theorem ok_X10_parts : pm_oks 10 false 3 (some .int) cX10_parts bk_X10_parts = true := by decide +kernel
set_option maxRecDepth 100000 in
theorem me_X10_parts : pm_me 141 = (yX10_parts, cX10_parts, 3, (some .int), 2, 0) := rfl
theorem mt_X10_parts {l : Launch} {g : pm_G} {d mc ms : Nat} {as : List Value} {A : pm_H} {Q : Option Value → pm_H → Prop} (hca : pm_cat 3 as = true) (body : ∀ J : pm_J, pm_Cl l g (fun _ => none) d mc ms (pm_Rq mc ms Q) bk_X10_parts J → J 0 (pm_l0 3 as) [] A 0 0) : pm_Mt l g 141 d mc ms as A Q := pm_Mt_of (isI := false) 10 bk_X10_parts me_X10_parts (plainFor_of_name (by decide +kernel)) (by decide +kernel) (fun h => by cases h) ok_X10_parts hca body
def bk_X10_best : pm_B := [(0, [(.iload_n 1, 1, 1, 0, 0), (.iconst 1, 1, 0, 0, 1), (.if_icmp .lt 33, 3, 35, 0, 0), (.iload_n 1, 1, 1, 0, 0), (.bipush 8, 2, 0, 0, 8), (.if_icmp .gt 27, 3, 35, 0, 0), (.iload_n 1, 1, 1, 0, 0), (.aload_n 0, 1, 0, 0, 0), (.getfield 12, 3, 10, 0, 0), (.getfield 80, 3, 9, 4, 0), (.getfield 103, 3, 7, 3, 0), (.if_icmp .gt 13, 3, 35, 0, 0), (.iload_n 2, 1, 2, 0, 0), (.iconst (-1), 1, 0, 0, -1), (.if_icmp .lt 8, 3, 35, 0, 0), (.iload_n 2, 1, 2, 0, 0), (.iload_n 1, 1, 1, 0, 0), (.if_icmp .lt 5, 3, 37, 0, 0)], 35),
  (35, [(.iconst (-1), 1, 0, 0, -1), (.ireturn, 1, 0, 0, 0)], 37),
  (37, [(.aload_n 0, 1, 0, 0, 0), (.getfield 61, 3, 10, 7, 0), (.aload_n 0, 1, 0, 0, 0), (.getfield 12, 3, 10, 0, 0), (.getfield 80, 3, 9, 4, 0), (.aload_n 0, 1, 0, 0, 0), (.getfield 19, 3, 10, 1, 0), (.iload_n 1, 1, 1, 0, 0), (.invokevirtual 323, 3, 144, 3, 3), (.iload_n 2, 1, 2, 0, 0), (.iconst (-1), 1, 0, 0, -1), (.if_icmp .ne 15, 3, 73, 0, 0), (.aload_n 0, 1, 0, 0, 0), (.getfield 61, 3, 10, 7, 0), (.iload_n 1, 1, 1, 0, 0), (.iconst 0, 1, 0, 0, 0), (.invokevirtual 326, 3, 145, 2, 3), (.goto 23, 3, 93, 0, 0)], 73),
  (73, [(.aload_n 0, 1, 0, 0, 0), (.getfield 61, 3, 10, 7, 0), (.aload_n 0, 1, 0, 0, 0), (.getfield 12, 3, 10, 0, 0), (.getfield 80, 3, 9, 4, 0), (.aload_n 0, 1, 0, 0, 0), (.getfield 19, 3, 10, 1, 0), (.iload_n 1, 1, 1, 0, 0), (.iload_n 2, 1, 2, 0, 0), (.invokevirtual 329, 3, 146, 4, 3)], 93),
  (93, [(.ireturn, 1, 0, 0, 0)], 94)]
set_option maxRecDepth 100000 in
theorem ok_X10_best : pm_oks 10 false 3 (some .int) cX10_best bk_X10_best = true := by decide +kernel
set_option maxRecDepth 100000 in
theorem me_X10_best : pm_me 143 = (yX10_best, cX10_best, 3, (some .int), 2, 0) := rfl
theorem mt_X10_best {l : Launch} {g : pm_G} {d mc ms : Nat} {as : List Value} {A : pm_H} {Q : Option Value → pm_H → Prop} (hca : pm_cat 3 as = true) (body : ∀ J : pm_J, pm_Cl l g (fun _ => none) d mc ms (pm_Rq mc ms Q) bk_X10_best J → J 0 (pm_l0 3 as) [] A 0 0) : pm_Mt l g 143 d mc ms as A Q := pm_Mt_of (isI := false) 10 bk_X10_best me_X10_best (plainFor_of_name (by decide +kernel)) (by decide +kernel) (fun h => by cases h) ok_X10_best hca body
def bk_X10_was : pm_B := [(0, [(.aload_n 0, 1, 0, 0, 0), (.getfield 12, 3, 10, 0, 0), (.iload_n 1, 1, 1, 0, 0), (.invokevirtual 332, 3, 149, 1, 9), (.astore 4, 2, 4, 0, 0), (.aload 4, 2, 4, 0, 0), (.ifnonnull 5, 3, 17, 0, 0), (.iconst (-1), 1, 0, 0, -1), (.ireturn, 1, 0, 0, 0)], 17),
  (17, [(.iload_n 2, 1, 2, 0, 0), (.iconst (-1), 1, 0, 0, -1), (.if_icmp .ne 11, 3, 30, 0, 0), (.aload 4, 2, 4, 0, 0), (.getfield 103, 3, 7, 3, 0), (.goto 10, 3, 37, 0, 0)], 30),
  (30, [(.aload 4, 2, 4, 0, 0), (.iload_n 2, 1, 2, 0, 0), (.iload_n 3, 1, 3, 0, 0), (.invokevirtual 143, 3, 44, 2, 7)], 37),
  (37, [(.ireturn, 1, 0, 0, 0)], 38)]
set_option maxRecDepth 100000 in
theorem ok_X10_was : pm_oks 10 false 5 (some .int) cX10_was bk_X10_was = true := by decide +kernel
set_option maxRecDepth 100000 in
theorem me_X10_was : pm_me 148 = (yX10_was, cX10_was, 5, (some .int), 3, 0) := rfl
theorem mt_X10_was {l : Launch} {g : pm_G} {d mc ms : Nat} {as : List Value} {A : pm_H} {Q : Option Value → pm_H → Prop} (hca : pm_cat 5 as = true) (body : ∀ J : pm_J, pm_Cl l g (fun _ => none) d mc ms (pm_Rq mc ms Q) bk_X10_was J → J 0 (pm_l0 5 as) [] A 0 0) : pm_Mt l g 148 d mc ms as A Q := pm_Mt_of (isI := false) 10 bk_X10_was me_X10_was (plainFor_of_name (by decide +kernel)) (by decide +kernel) (fun h => by cases h) ok_X10_was hca body
def bk_X10_counted : pm_B := [(0, [(.aload_n 0, 1, 0, 0, 0), (.getfield 12, 3, 10, 0, 0), (.iload_n 1, 1, 1, 0, 0), (.invokevirtual 332, 3, 149, 1, 9), (.astore 4, 2, 4, 0, 0), (.aload 4, 2, 4, 0, 0), (.ifnull 24, 3, 36, 0, 0), (.aload 4, 2, 4, 0, 0), (.iload_n 2, 1, 2, 0, 0), (.iload_n 3, 1, 3, 0, 0), (.invokevirtual 111, 3, 14, 2, 7), (.ifCond .eq 14, 3, 36, 0, 0), (.aload_n 0, 1, 0, 0, 0), (.aload 4, 2, 4, 0, 0), (.iload_n 2, 1, 2, 0, 0), (.iload_n 3, 1, 3, 0, 0), (.invokevirtual 159, 3, 54, 3, 10), (.goto 4, 3, 37, 0, 0)], 36),
  (36, [(.iconst (-1), 1, 0, 0, -1)], 37),
  (37, [(.ireturn, 1, 0, 0, 0)], 38)]
set_option maxRecDepth 100000 in
theorem ok_X10_counted : pm_oks 10 false 5 (some .int) cX10_counted bk_X10_counted = true := by decide +kernel
set_option maxRecDepth 100000 in
theorem me_X10_counted : pm_me 150 = (yX10_counted, cX10_counted, 5, (some .int), 3, 0) := rfl
theorem mt_X10_counted {l : Launch} {g : pm_G} {d mc ms : Nat} {as : List Value} {A : pm_H} {Q : Option Value → pm_H → Prop} (hca : pm_cat 5 as = true) (body : ∀ J : pm_J, pm_Cl l g (fun _ => none) d mc ms (pm_Rq mc ms Q) bk_X10_counted J → J 0 (pm_l0 5 as) [] A 0 0) : pm_Mt l g 150 d mc ms as A Q := pm_Mt_of (isI := false) 10 bk_X10_counted me_X10_counted (plainFor_of_name (by decide +kernel)) (by decide +kernel) (fun h => by cases h) ok_X10_counted hca body
def bk_X10_touched : pm_B := [(0, [(.aload_n 0, 1, 0, 0, 0), (.getfield 12, 3, 10, 0, 0), (.iload_n 1, 1, 1, 0, 0), (.invokevirtual 332, 3, 149, 1, 9), (.astore_n 2, 1, 2, 0, 0), (.aload_n 2, 1, 2, 0, 0), (.ifnull 15, 3, 25, 0, 0), (.iload_n 1, 1, 1, 0, 0), (.iconst 1, 1, 0, 0, 1), (.if_icmp .lt 10, 3, 25, 0, 0), (.aload_n 2, 1, 2, 0, 0), (.getfield 336, 3, 7, 4, 0), (.goto 4, 3, 26, 0, 0)], 25),
  (25, [(.iconst (-1), 1, 0, 0, -1)], 26),
  (26, [(.ireturn, 1, 0, 0, 0)], 27)]
set_option maxRecDepth 100000 in
theorem ok_X10_touched : pm_oks 10 false 3 (some .int) cX10_touched bk_X10_touched = true := by decide +kernel
set_option maxRecDepth 100000 in
theorem me_X10_touched : pm_me 151 = (yX10_touched, cX10_touched, 3, (some .int), 1, 0) := rfl
theorem mt_X10_touched {l : Launch} {g : pm_G} {d mc ms : Nat} {as : List Value} {A : pm_H} {Q : Option Value → pm_H → Prop} (hca : pm_cat 3 as = true) (body : ∀ J : pm_J, pm_Cl l g (fun _ => none) d mc ms (pm_Rq mc ms Q) bk_X10_touched J → J 0 (pm_l0 3 as) [] A 0 0) : pm_Mt l g 151 d mc ms as A Q := pm_Mt_of (isI := false) 10 bk_X10_touched me_X10_touched (plainFor_of_name (by decide +kernel)) (by decide +kernel) (fun h => by cases h) ok_X10_touched hca body
def bk_X10_since : pm_B := [(0, [(.aload_n 0, 1, 0, 0, 0), (.getfield 12, 3, 10, 0, 0), (.iload_n 1, 1, 1, 0, 0), (.invokevirtual 339, 3, 153, 1, 9), (.ireturn, 1, 0, 0, 0)], 9)]
set_option maxRecDepth 100000 in
theorem ok_X10_since : pm_oks 10 false 2 (some .int) cX10_since bk_X10_since = true := by decide +kernel
set_option maxRecDepth 100000 in
theorem me_X10_since : pm_me 152 = (yX10_since, cX10_since, 2, (some .int), 1, 0) := rfl
theorem mt_X10_since {l : Launch} {g : pm_G} {d mc ms : Nat} {as : List Value} {A : pm_H} {Q : Option Value → pm_H → Prop} (hca : pm_cat 2 as = true) (body : ∀ J : pm_J, pm_Cl l g (fun _ => none) d mc ms (pm_Rq mc ms Q) bk_X10_since J → J 0 (pm_l0 2 as) [] A 0 0) : pm_Mt l g 152 d mc ms as A Q := pm_Mt_of (isI := false) 10 bk_X10_since me_X10_since (plainFor_of_name (by decide +kernel)) (by decide +kernel) (fun h => by cases h) ok_X10_since hca body
def bk_X10_changed : pm_B := [(0, [(.aload_n 0, 1, 0, 0, 0), (.getfield 12, 3, 10, 0, 0), (.iload_n 1, 1, 1, 0, 0), (.invokevirtual 332, 3, 149, 1, 9), (.astore_n 3, 1, 3, 0, 0), (.aload_n 3, 1, 3, 0, 0), (.ifnull 24, 3, 34, 0, 0), (.iload_n 2, 1, 2, 0, 0), (.ifCond .lt 20, 3, 34, 0, 0), (.iload_n 2, 1, 2, 0, 0), (.iconst 3, 1, 0, 0, 3), (.if_icmp .gt 15, 3, 34, 0, 0), (.aload_n 0, 1, 0, 0, 0), (.getfield 12, 3, 10, 0, 0), (.aload_n 3, 1, 3, 0, 0), (.iload_n 2, 1, 2, 0, 0), (.invokevirtual 342, 3, 156, 2, 9), (.goto 4, 3, 35, 0, 0)], 34),
  (34, [(.iconst (-1), 1, 0, 0, -1)], 35),
  (35, [(.ireturn, 1, 0, 0, 0)], 36)]
set_option maxRecDepth 100000 in
theorem ok_X10_changed : pm_oks 10 false 4 (some .int) cX10_changed bk_X10_changed = true := by decide +kernel
set_option maxRecDepth 100000 in
theorem me_X10_changed : pm_me 155 = (yX10_changed, cX10_changed, 4, (some .int), 2, 0) := rfl
theorem mt_X10_changed {l : Launch} {g : pm_G} {d mc ms : Nat} {as : List Value} {A : pm_H} {Q : Option Value → pm_H → Prop} (hca : pm_cat 4 as = true) (body : ∀ J : pm_J, pm_Cl l g (fun _ => none) d mc ms (pm_Rq mc ms Q) bk_X10_changed J → J 0 (pm_l0 4 as) [] A 0 0) : pm_Mt l g 155 d mc ms as A Q := pm_Mt_of (isI := false) 10 bk_X10_changed me_X10_changed (plainFor_of_name (by decide +kernel)) (by decide +kernel) (fun h => by cases h) ok_X10_changed hca body
def bk_X10_ask : pm_B := [(0, [(.aload_n 0, 1, 0, 0, 0), (.getfield 12, 3, 10, 0, 0), (.getfield 80, 3, 9, 4, 0), (.astore_n 3, 1, 3, 0, 0), (.aload_n 3, 1, 3, 0, 0), (.iload_n 1, 1, 1, 0, 0), (.invokevirtual 346, 3, 154, 1, 7), (.ifCond .eq 24, 3, 37, 0, 0), (.aload_n 3, 1, 3, 0, 0), (.iload_n 2, 1, 2, 0, 0), (.invokevirtual 346, 3, 154, 1, 7), (.ifCond .eq 16, 3, 37, 0, 0), (.aload_n 0, 1, 0, 0, 0), (.getfield 68, 3, 10, 8, 0), (.iconst (-1), 1, 0, 0, -1), (.iload_n 1, 1, 1, 0, 0), (.iload_n 2, 1, 2, 0, 0), (.invokevirtual 349, 3, 159, 3, 5), (.goto 4, 3, 38, 0, 0)], 37),
  (37, [(.iconst (-1), 1, 0, 0, -1)], 38),
  (38, [(.ireturn, 1, 0, 0, 0)], 39)]
set_option maxRecDepth 100000 in
theorem ok_X10_ask : pm_oks 10 false 4 (some .int) cX10_ask bk_X10_ask = true := by decide +kernel
set_option maxRecDepth 100000 in
theorem me_X10_ask : pm_me 158 = (yX10_ask, cX10_ask, 4, (some .int), 2, 0) := rfl
theorem mt_X10_ask {l : Launch} {g : pm_G} {d mc ms : Nat} {as : List Value} {A : pm_H} {Q : Option Value → pm_H → Prop} (hca : pm_cat 4 as = true) (body : ∀ J : pm_J, pm_Cl l g (fun _ => none) d mc ms (pm_Rq mc ms Q) bk_X10_ask J → J 0 (pm_l0 4 as) [] A 0 0) : pm_Mt l g 158 d mc ms as A Q := pm_Mt_of (isI := false) 10 bk_X10_ask me_X10_ask (plainFor_of_name (by decide +kernel)) (by decide +kernel) (fun h => by cases h) ok_X10_ask hca body
def bk_X10_askOf : pm_B := [(0, [(.aload_n 0, 1, 0, 0, 0), (.getfield 12, 3, 10, 0, 0), (.iload_n 1, 1, 1, 0, 0), (.invokevirtual 332, 3, 149, 1, 9), (.astore 4, 2, 4, 0, 0), (.aload 4, 2, 4, 0, 0), (.ifnull 21, 3, 33, 0, 0), (.aload 4, 2, 4, 0, 0), (.iload_n 2, 1, 2, 0, 0), (.invokevirtual 346, 3, 154, 1, 7), (.ifCond .eq 12, 3, 33, 0, 0), (.aload 4, 2, 4, 0, 0), (.iload_n 3, 1, 3, 0, 0), (.invokevirtual 346, 3, 154, 1, 7), (.ifCond .ne 5, 3, 35, 0, 0)], 33),
  (33, [(.iconst (-1), 1, 0, 0, -1), (.ireturn, 1, 0, 0, 0)], 35),
  (35, [(.aload_n 0, 1, 0, 0, 0), (.getfield 68, 3, 10, 8, 0), (.iload_n 1, 1, 1, 0, 0), (.iload_n 2, 1, 2, 0, 0), (.iload_n 3, 1, 3, 0, 0), (.invokevirtual 349, 3, 159, 3, 5), (.ireturn, 1, 0, 0, 0)], 46)]
set_option maxRecDepth 100000 in
theorem ok_X10_askOf : pm_oks 10 false 5 (some .int) cX10_askOf bk_X10_askOf = true := by decide +kernel
set_option maxRecDepth 100000 in
theorem me_X10_askOf : pm_me 160 = (yX10_askOf, cX10_askOf, 5, (some .int), 3, 0) := rfl
theorem mt_X10_askOf {l : Launch} {g : pm_G} {d mc ms : Nat} {as : List Value} {A : pm_H} {Q : Option Value → pm_H → Prop} (hca : pm_cat 5 as = true) (body : ∀ J : pm_J, pm_Cl l g (fun _ => none) d mc ms (pm_Rq mc ms Q) bk_X10_askOf J → J 0 (pm_l0 5 as) [] A 0 0) : pm_Mt l g 160 d mc ms as A Q := pm_Mt_of (isI := false) 10 bk_X10_askOf me_X10_askOf (plainFor_of_name (by decide +kernel)) (by decide +kernel) (fun h => by cases h) ok_X10_askOf hca body
end
section
/-! blocks, by a program -/
def bk_X10_solve : pm_B := [(0, [(.iconst 0, 1, 0, 0, 0), (.istore_n 1, 1, 1, 0, 0), (.iconst 0, 1, 0, 0, 0), (.istore_n 2, 1, 2, 0, 0)], 4),
  (4, [(.iload_n 2, 1, 2, 0, 0), (.aload_n 0, 1, 0, 0, 0), (.getfield 68, 3, 10, 8, 0), (.getfield 172, 3, 5, 5, 0), (.if_icmp .ge 64, 3, 76, 0, 0), (.aload_n 0, 1, 0, 0, 0), (.getfield 68, 3, 10, 8, 0), (.getfield 351, 3, 5, 4, 0), (.iload_n 2, 1, 2, 0, 0), (.iaload, 1, 0, 0, 0), (.istore_n 3, 1, 3, 0, 0), (.iload_n 3, 1, 3, 0, 0), (.iconst (-1), 1, 0, 0, -1), (.if_icmp .ne 13, 3, 40, 0, 0), (.aload_n 0, 1, 0, 0, 0), (.getfield 12, 3, 10, 0, 0), (.getfield 80, 3, 9, 4, 0), (.goto 11, 3, 48, 0, 0)], 40),
  (40, [(.aload_n 0, 1, 0, 0, 0), (.getfield 12, 3, 10, 0, 0), (.iload_n 3, 1, 3, 0, 0), (.invokevirtual 332, 3, 149, 1, 9)], 48),
  (48, [(.astore 4, 2, 4, 0, 0), (.aload_n 0, 1, 0, 0, 0), (.getfield 68, 3, 10, 8, 0), (.iload_n 2, 1, 2, 0, 0), (.aload 4, 2, 4, 0, 0), (.aload_n 0, 1, 0, 0, 0), (.getfield 19, 3, 10, 1, 0), (.invokevirtual 353, 3, 162, 3, 5), (.ifCond .eq 6, 3, 70, 0, 0), (.iinc 1 1, 3, 1, 0, 1)], 70),
  (70, [(.iinc 2 1, 3, 2, 0, 1), (.goto (-69), 3, 4, 0, 0)], 76),
  (76, [(.iload_n 1, 1, 1, 0, 0), (.ireturn, 1, 0, 0, 0)], 78)]
set_option maxRecDepth 100000 in
theorem ok_X10_solve : pm_oks 10 false 5 (some .int) cX10_solve bk_X10_solve = true := by decide +kernel
set_option maxRecDepth 100000 in
theorem me_X10_solve : pm_me 161 = (yX10_solve, cX10_solve, 5, (some .int), 0, 0) := rfl
theorem mt_X10_solve {l : Launch} {g : pm_G} {d mc ms : Nat} {as : List Value} {A : pm_H} {Q : Option Value → pm_H → Prop} (hca : pm_cat 5 as = true) (body : ∀ J : pm_J, pm_Cl l g (fun _ => none) d mc ms (pm_Rq mc ms Q) bk_X10_solve J → J 0 (pm_l0 5 as) [] A 0 0) : pm_Mt l g 161 d mc ms as A Q := pm_Mt_of (isI := false) 10 bk_X10_solve me_X10_solve (plainFor_of_name (by decide +kernel)) (by decide +kernel) (fun h => by cases h) ok_X10_solve hca body
def bk_X10_asked : pm_B := [(0, [(.aload_n 0, 1, 0, 0, 0), (.getfield 68, 3, 10, 8, 0), (.iload_n 1, 1, 1, 0, 0), (.iload_n 2, 1, 2, 0, 0), (.invokevirtual 357, 3, 164, 2, 5), (.ireturn, 1, 0, 0, 0)], 10)]
set_option maxRecDepth 100000 in
theorem ok_X10_asked : pm_oks 10 false 3 (some .int) cX10_asked bk_X10_asked = true := by decide +kernel
set_option maxRecDepth 100000 in
theorem me_X10_asked : pm_me 163 = (yX10_asked, cX10_asked, 3, (some .int), 2, 0) := rfl
theorem mt_X10_asked {l : Launch} {g : pm_G} {d mc ms : Nat} {as : List Value} {A : pm_H} {Q : Option Value → pm_H → Prop} (hca : pm_cat 3 as = true) (body : ∀ J : pm_J, pm_Cl l g (fun _ => none) d mc ms (pm_Rq mc ms Q) bk_X10_asked J → J 0 (pm_l0 3 as) [] A 0 0) : pm_Mt l g 163 d mc ms as A Q := pm_Mt_of (isI := false) 10 bk_X10_asked me_X10_asked (plainFor_of_name (by decide +kernel)) (by decide +kernel) (fun h => by cases h) ok_X10_asked hca body
def bk_X10_forget : pm_B := [(0, [(.aload_n 0, 1, 0, 0, 0), (.getfield 68, 3, 10, 8, 0), (.getfield 172, 3, 5, 5, 0), (.istore_n 1, 1, 1, 0, 0), (.aload_n 0, 1, 0, 0, 0), (.getfield 68, 3, 10, 8, 0), (.iconst 0, 1, 0, 0, 0), (.putfield 172, 3, 5, 5, 0), (.iload_n 1, 1, 1, 0, 0), (.ireturn, 1, 0, 0, 0)], 18)]
set_option maxRecDepth 100000 in
theorem ok_X10_forget : pm_oks 10 false 2 (some .int) cX10_forget bk_X10_forget = true := by decide +kernel
set_option maxRecDepth 100000 in
theorem me_X10_forget : pm_me 165 = (yX10_forget, cX10_forget, 2, (some .int), 0, 0) := rfl
theorem mt_X10_forget {l : Launch} {g : pm_G} {d mc ms : Nat} {as : List Value} {A : pm_H} {Q : Option Value → pm_H → Prop} (hca : pm_cat 2 as = true) (body : ∀ J : pm_J, pm_Cl l g (fun _ => none) d mc ms (pm_Rq mc ms Q) bk_X10_forget J → J 0 (pm_l0 2 as) [] A 0 0) : pm_Mt l g 165 d mc ms as A Q := pm_Mt_of (isI := false) 10 bk_X10_forget me_X10_forget (plainFor_of_name (by decide +kernel)) (by decide +kernel) (fun h => by cases h) ok_X10_forget hca body
def bk_X9_init : pm_B := [(0, [(.aload_n 0, 1, 0, 0, 0), (.invokespecial 3, 3, 0, 0, 0), (.aload_n 0, 1, 0, 0, 0), (.bipush 41, 2, 0, 0, 41), (.anewarray 9, 3, 41, 0, 0), (.putfield 11, 3, 9, 0, 1), (.aload_n 0, 1, 0, 0, 0), (.sipush 160, 3, 0, 0, 160), (.newarray .int, 2, 160, 0, 0), (.putfield 17, 3, 9, 1, 1), (.aload_n 0, 1, 0, 0, 0), (.bipush 24, 2, 0, 0, 24), (.newarray .int, 2, 24, 0, 0), (.putfield 21, 3, 9, 2, 1), (.aload_n 0, 1, 0, 0, 0), (.new 9, 3, 7, 5, 0), (.dup, 1, 0, 0, 0), (.invokespecial 24, 3, 2, 0, 2), (.putfield 25, 3, 9, 4, 1), (.aload_n 0, 1, 0, 0, 0), (.aload_n 0, 1, 0, 0, 0), (.getfield 25, 3, 9, 4, 0), (.putfield 29, 3, 9, 3, 1), (.aload_n 0, 1, 0, 0, 0), (.getfield 11, 3, 9, 0, 0), (.iconst 0, 1, 0, 0, 0), (.aload_n 0, 1, 0, 0, 0), (.getfield 25, 3, 9, 4, 0), (.aastore, 1, 0, 0, 0), (.return_, 1, 0, 0, 0)], 60)]
set_option maxRecDepth 100000 in
theorem ok_X9_init : pm_oks 9 true 1 none cX9_init bk_X9_init = true := by decide +kernel
set_option maxRecDepth 100000 in
theorem me_X9_init : pm_me 1 = (yX9_init, cX9_init, 1, none, 0, 2) := rfl
theorem mt_X9_init {l : Launch} {g : pm_G} {d mc ms : Nat} {as : List Value} {A : pm_H} {Q : Option Value → pm_H → Prop} (hca : pm_cat 1 as = true) (body : ∀ J : pm_J, pm_Cl l g (fun _ => none) d mc ms (pm_Rq mc ms Q) bk_X9_init J → J 0 (pm_l0 1 as) [] A 0 0) : pm_Mt l g 1 d mc ms as A Q := pm_Mt_of (isI := true) 9 bk_X9_init me_X9_init (plainFor_of_name (by decide +kernel)) (by decide +kernel) (fun _ => by decide +kernel) ok_X9_init hca body
def bk_X9_begin : pm_B := [(0, [(.aload_n 0, 1, 0, 0, 0), (.getfield 32, 3, 9, 5, 0), (.iconst 1, 1, 0, 0, 1), (.iadd, 1, 0, 0, 0), (.bipush 41, 2, 0, 0, 41), (.invokestatic 42, 3, 17, 2, 0), (.istore_n 1, 1, 1, 0, 0), (.aload_n 0, 1, 0, 0, 0), (.getfield 11, 3, 9, 0, 0), (.iload_n 1, 1, 1, 0, 0), (.aaload, 1, 0, 0, 0), (.ifnonnull 16, 3, 34, 0, 0), (.aload_n 0, 1, 0, 0, 0), (.getfield 11, 3, 9, 0, 0), (.iload_n 1, 1, 1, 0, 0), (.new 9, 3, 7, 5, 0), (.dup, 1, 0, 0, 0), (.invokespecial 24, 3, 2, 0, 2), (.aastore, 1, 0, 0, 0)], 34),
  (34, [(.aload_n 0, 1, 0, 0, 0), (.aload_n 0, 1, 0, 0, 0), (.getfield 11, 3, 9, 0, 0), (.iload_n 1, 1, 1, 0, 0), (.aaload, 1, 0, 0, 0), (.putfield 29, 3, 9, 3, 1), (.aload_n 0, 1, 0, 0, 0), (.getfield 29, 3, 9, 3, 0), (.iconst 0, 1, 0, 0, 0), (.putfield 36, 3, 7, 3, 0), (.return_, 1, 0, 0, 0)], 53)]
set_option maxRecDepth 100000 in
theorem ok_X9_begin : pm_oks 9 false 2 none cX9_begin bk_X9_begin = true := by decide +kernel
set_option maxRecDepth 100000 in
theorem me_X9_begin : pm_me 16 = (yX9_begin, cX9_begin, 2, none, 0, 0) := rfl
theorem mt_X9_begin {l : Launch} {g : pm_G} {d mc ms : Nat} {as : List Value} {A : pm_H} {Q : Option Value → pm_H → Prop} (hca : pm_cat 2 as = true) (body : ∀ J : pm_J, pm_Cl l g (fun _ => none) d mc ms (pm_Rq mc ms Q) bk_X9_begin J → J 0 (pm_l0 2 as) [] A 0 0) : pm_Mt l g 16 d mc ms as A Q := pm_Mt_of (isI := false) 9 bk_X9_begin me_X9_begin (plainFor_of_name (by decide +kernel)) (by decide +kernel) (fun h => by cases h) ok_X9_begin hca body
def bk_X9_keep : pm_B := [(0, [(.iload_n 1, 1, 1, 0, 0), (.istore_n 3, 1, 3, 0, 0)], 2),
  (2, [(.iload_n 3, 1, 3, 0, 0), (.iload_n 2, 1, 2, 0, 0), (.if_icmp .gt 50, 3, 54, 0, 0), (.aload_n 0, 1, 0, 0, 0), (.getfield 25, 3, 9, 4, 0), (.iload_n 3, 1, 3, 0, 0), (.invokevirtual 48, 3, 19, 1, 7), (.ifCond .eq 39, 3, 54, 0, 0), (.aload_n 0, 1, 0, 0, 0), (.aload_n 0, 1, 0, 0, 0), (.getfield 25, 3, 9, 4, 0), (.getfield 52, 3, 7, 0, 0), (.iload_n 3, 1, 3, 0, 0), (.iaload, 1, 0, 0, 0), (.aload_n 0, 1, 0, 0, 0), (.getfield 25, 3, 9, 4, 0), (.getfield 55, 3, 7, 1, 0), (.iload_n 3, 1, 3, 0, 0), (.iaload, 1, 0, 0, 0), (.aload_n 0, 1, 0, 0, 0), (.getfield 25, 3, 9, 4, 0), (.iload_n 3, 1, 3, 0, 0), (.invokevirtual 58, 3, 20, 1, 7), (.invokevirtual 62, 3, 22, 3, 9), (.iinc 3 1, 3, 3, 0, 1), (.goto (-49), 3, 2, 0, 0)], 54),
  (54, [(.return_, 1, 0, 0, 0)], 55)]
set_option maxRecDepth 100000 in
theorem ok_X9_keep : pm_oks 9 false 4 none cX9_keep bk_X9_keep = true := by decide +kernel
set_option maxRecDepth 100000 in
theorem me_X9_keep : pm_me 18 = (yX9_keep, cX9_keep, 4, none, 2, 0) := rfl
theorem mt_X9_keep {l : Launch} {g : pm_G} {d mc ms : Nat} {as : List Value} {A : pm_H} {Q : Option Value → pm_H → Prop} (hca : pm_cat 4 as = true) (body : ∀ J : pm_J, pm_Cl l g (fun _ => none) d mc ms (pm_Rq mc ms Q) bk_X9_keep J → J 0 (pm_l0 4 as) [] A 0 0) : pm_Mt l g 18 d mc ms as A Q := pm_Mt_of (isI := false) 9 bk_X9_keep me_X9_keep (plainFor_of_name (by decide +kernel)) (by decide +kernel) (fun h => by cases h) ok_X9_keep hca body
def bk_X9_append : pm_B := [(0, [(.aload_n 0, 1, 0, 0, 0), (.getfield 29, 3, 9, 3, 0), (.getfield 36, 3, 7, 3, 0), (.istore 4, 2, 4, 0, 0), (.iload 4, 2, 4, 0, 0), (.ifCond .lt 11, 3, 22, 0, 0), (.iload 4, 2, 4, 0, 0), (.sipush 160, 3, 0, 0, 160), (.if_icmp .lt 4, 3, 23, 0, 0)], 22),
  (22, [(.return_, 1, 0, 0, 0)], 23),
  (23, [(.aload_n 0, 1, 0, 0, 0), (.getfield 29, 3, 9, 3, 0), (.getfield 52, 3, 7, 0, 0), (.iload 4, 2, 4, 0, 0), (.iload_n 1, 1, 1, 0, 0), (.iastore, 1, 0, 0, 0), (.aload_n 0, 1, 0, 0, 0), (.getfield 29, 3, 9, 3, 0), (.getfield 55, 3, 7, 1, 0), (.iload 4, 2, 4, 0, 0), (.iload_n 2, 1, 2, 0, 0), (.iastore, 1, 0, 0, 0), (.aload_n 0, 1, 0, 0, 0), (.getfield 17, 3, 9, 1, 0), (.iload 4, 2, 4, 0, 0), (.iload_n 3, 1, 3, 0, 0), (.iastore, 1, 0, 0, 0), (.aload_n 0, 1, 0, 0, 0), (.getfield 29, 3, 9, 3, 0), (.iload 4, 2, 4, 0, 0), (.iconst 1, 1, 0, 0, 1), (.iadd, 1, 0, 0, 0), (.putfield 36, 3, 7, 3, 0), (.return_, 1, 0, 0, 0)], 65)]
set_option maxRecDepth 100000 in
theorem ok_X9_append : pm_oks 9 false 5 none cX9_append bk_X9_append = true := by decide +kernel
set_option maxRecDepth 100000 in
theorem me_X9_append : pm_me 22 = (yX9_append, cX9_append, 5, none, 3, 0) := rfl
theorem mt_X9_append {l : Launch} {g : pm_G} {d mc ms : Nat} {as : List Value} {A : pm_H} {Q : Option Value → pm_H → Prop} (hca : pm_cat 5 as = true) (body : ∀ J : pm_J, pm_Cl l g (fun _ => none) d mc ms (pm_Rq mc ms Q) bk_X9_append J → J 0 (pm_l0 5 as) [] A 0 0) : pm_Mt l g 22 d mc ms as A Q := pm_Mt_of (isI := false) 9 bk_X9_append me_X9_append (plainFor_of_name (by decide +kernel)) (by decide +kernel) (fun h => by cases h) ok_X9_append hca body
def bk_X9_keepAs : pm_B := [(0, [(.aload_n 0, 1, 0, 0, 0), (.getfield 25, 3, 9, 4, 0), (.iload_n 1, 1, 1, 0, 0), (.invokevirtual 48, 3, 19, 1, 7), (.ifCond .eq 25, 3, 33, 0, 0), (.aload_n 0, 1, 0, 0, 0), (.iload_n 2, 1, 2, 0, 0), (.aload_n 0, 1, 0, 0, 0), (.getfield 25, 3, 9, 4, 0), (.getfield 55, 3, 7, 1, 0), (.iload_n 1, 1, 1, 0, 0), (.iaload, 1, 0, 0, 0), (.aload_n 0, 1, 0, 0, 0), (.getfield 25, 3, 9, 4, 0), (.iload_n 1, 1, 1, 0, 0), (.invokevirtual 58, 3, 20, 1, 7), (.invokevirtual 62, 3, 22, 3, 9)], 33),
  (33, [(.return_, 1, 0, 0, 0)], 34)]
set_option maxRecDepth 100000 in
theorem ok_X9_keepAs : pm_oks 9 false 3 none cX9_keepAs bk_X9_keepAs = true := by decide +kernel
set_option maxRecDepth 100000 in
theorem me_X9_keepAs : pm_me 23 = (yX9_keepAs, cX9_keepAs, 3, none, 2, 0) := rfl
theorem mt_X9_keepAs {l : Launch} {g : pm_G} {d mc ms : Nat} {as : List Value} {A : pm_H} {Q : Option Value → pm_H → Prop} (hca : pm_cat 3 as = true) (body : ∀ J : pm_J, pm_Cl l g (fun _ => none) d mc ms (pm_Rq mc ms Q) bk_X9_keepAs J → J 0 (pm_l0 3 as) [] A 0 0) : pm_Mt l g 23 d mc ms as A Q := pm_Mt_of (isI := false) 9 bk_X9_keepAs me_X9_keepAs (plainFor_of_name (by decide +kernel)) (by decide +kernel) (fun h => by cases h) ok_X9_keepAs hca body
def bk_X9_finish : pm_B := [(0, [(.aload_n 0, 1, 0, 0, 0), (.getfield 21, 3, 9, 2, 0), (.iconst (-1), 1, 0, 0, -1), (.invokestatic 70, 3, 4, 2, 0), (.iconst 0, 1, 0, 0, 0), (.istore_n 1, 1, 1, 0, 0), (.iconst 0, 1, 0, 0, 0), (.istore_n 2, 1, 2, 0, 0)], 12),
  (12, [(.iload_n 2, 1, 2, 0, 0), (.aload_n 0, 1, 0, 0, 0), (.getfield 29, 3, 9, 3, 0), (.getfield 36, 3, 7, 3, 0), (.if_icmp .ge 72, 3, 92, 0, 0), (.aload_n 0, 1, 0, 0, 0), (.getfield 29, 3, 9, 3, 0), (.getfield 52, 3, 7, 0, 0), (.iload_n 2, 1, 2, 0, 0), (.iaload, 1, 0, 0, 0), (.istore_n 3, 1, 3, 0, 0), (.aload_n 0, 1, 0, 0, 0), (.getfield 29, 3, 9, 3, 0), (.getfield 76, 3, 7, 2, 0), (.iload_n 2, 1, 2, 0, 0), (.aload_n 0, 1, 0, 0, 0), (.getfield 21, 3, 9, 2, 0), (.iload_n 3, 1, 3, 0, 0), (.iaload, 1, 0, 0, 0), (.iastore, 1, 0, 0, 0), (.aload_n 0, 1, 0, 0, 0), (.getfield 21, 3, 9, 2, 0), (.iload_n 3, 1, 3, 0, 0), (.iload_n 2, 1, 2, 0, 0), (.iastore, 1, 0, 0, 0), (.aload_n 0, 1, 0, 0, 0), (.getfield 17, 3, 9, 1, 0), (.iload_n 2, 1, 2, 0, 0), (.iaload, 1, 0, 0, 0), (.bipush (-2), 2, 0, 0, -2), (.if_icmp .eq 23, 3, 86, 0, 0), (.aload_n 0, 1, 0, 0, 0), (.getfield 17, 3, 9, 1, 0), (.iload_n 2, 1, 2, 0, 0), (.iaload, 1, 0, 0, 0), (.aload_n 0, 1, 0, 0, 0), (.getfield 29, 3, 9, 3, 0), (.iload_n 2, 1, 2, 0, 0), (.invokevirtual 58, 3, 20, 1, 7), (.if_icmp .eq 6, 3, 86, 0, 0), (.iinc 1 1, 3, 1, 0, 1)], 86),
  (86, [(.iinc 2 1, 3, 2, 0, 1), (.goto (-77), 3, 12, 0, 0)], 92),
  (92, [(.aload_n 0, 1, 0, 0, 0), (.getfield 29, 3, 9, 3, 0), (.iload_n 1, 1, 1, 0, 0), (.putfield 79, 3, 7, 4, 0), (.aload_n 0, 1, 0, 0, 0), (.aload_n 0, 1, 0, 0, 0), (.getfield 29, 3, 9, 3, 0), (.putfield 25, 3, 9, 4, 1), (.aload_n 0, 1, 0, 0, 0), (.dup, 1, 0, 0, 0), (.getfield 32, 3, 9, 5, 0), (.iconst 1, 1, 0, 0, 1), (.iadd, 1, 0, 0, 0), (.putfield 32, 3, 9, 5, 0), (.aload_n 0, 1, 0, 0, 0), (.dup, 1, 0, 0, 0), (.getfield 82, 3, 9, 7, 0), (.iload_n 1, 1, 1, 0, 0), (.iadd, 1, 0, 0, 0), (.putfield 82, 3, 9, 7, 0), (.iload_n 1, 1, 1, 0, 0), (.ireturn, 1, 0, 0, 0)], 130)]
set_option maxRecDepth 100000 in
theorem ok_X9_finish : pm_oks 9 false 4 (some .int) cX9_finish bk_X9_finish = true := by decide +kernel
set_option maxRecDepth 100000 in
theorem me_X9_finish : pm_me 24 = (yX9_finish, cX9_finish, 4, (some .int), 0, 0) := rfl
theorem mt_X9_finish {l : Launch} {g : pm_G} {d mc ms : Nat} {as : List Value} {A : pm_H} {Q : Option Value → pm_H → Prop} (hca : pm_cat 4 as = true) (body : ∀ J : pm_J, pm_Cl l g (fun _ => none) d mc ms (pm_Rq mc ms Q) bk_X9_finish J → J 0 (pm_l0 4 as) [] A 0 0) : pm_Mt l g 24 d mc ms as A Q := pm_Mt_of (isI := false) 9 bk_X9_finish me_X9_finish (plainFor_of_name (by decide +kernel)) (by decide +kernel) (fun h => by cases h) ok_X9_finish hca body
def bk_X9_hasRoomFor : pm_B := [(0, [(.aload_n 0, 1, 0, 0, 0), (.getfield 25, 3, 9, 4, 0), (.getfield 36, 3, 7, 3, 0), (.iload_n 1, 1, 1, 0, 0), (.iadd, 1, 0, 0, 0), (.sipush 160, 3, 0, 0, 160), (.if_icmp .gt 19, 3, 31, 0, 0), (.aload_n 0, 1, 0, 0, 0), (.getfield 39, 3, 9, 6, 0), (.iload_n 1, 1, 1, 0, 0), (.iadd, 1, 0, 0, 0), (.sipush 10000, 3, 0, 0, 10000), (.if_icmp .gt 7, 3, 31, 0, 0), (.iconst 1, 1, 0, 0, 1), (.goto 4, 3, 32, 0, 0)], 31),
  (31, [(.iconst 0, 1, 0, 0, 0)], 32),
  (32, [(.ireturn, 1, 1, 0, 0)], 33)]
set_option maxRecDepth 100000 in
theorem ok_X9_hasRoomFor : pm_oks 9 false 2 (some .boolean) cX9_hasRoomFor bk_X9_hasRoomFor = true := by decide +kernel
set_option maxRecDepth 100000 in
theorem me_X9_hasRoomFor : pm_me 27 = (yX9_hasRoomFor, cX9_hasRoomFor, 2, (some .boolean), 1, 0) := rfl
theorem mt_X9_hasRoomFor {l : Launch} {g : pm_G} {d mc ms : Nat} {as : List Value} {A : pm_H} {Q : Option Value → pm_H → Prop} (hca : pm_cat 2 as = true) (body : ∀ J : pm_J, pm_Cl l g (fun _ => none) d mc ms (pm_Rq mc ms Q) bk_X9_hasRoomFor J → J 0 (pm_l0 2 as) [] A 0 0) : pm_Mt l g 27 d mc ms as A Q := pm_Mt_of (isI := false) 9 bk_X9_hasRoomFor me_X9_hasRoomFor (plainFor_of_name (by decide +kernel)) (by decide +kernel) (fun h => by cases h) ok_X9_hasRoomFor hca body
def bk_X9_add : pm_B := [(0, [(.aload_n 0, 1, 0, 0, 0), (.iload_n 1, 1, 1, 0, 0), (.aload_n 0, 1, 0, 0, 0), (.getfield 39, 3, 9, 6, 0), (.bipush (-2), 2, 0, 0, -2), (.invokevirtual 62, 3, 22, 3, 9), (.aload_n 0, 1, 0, 0, 0), (.dup, 1, 0, 0, 0), (.getfield 39, 3, 9, 6, 0), (.iconst 1, 1, 0, 0, 1), (.iadd, 1, 0, 0, 0), (.putfield 39, 3, 9, 6, 0), (.return_, 1, 0, 0, 0)], 22)]
set_option maxRecDepth 100000 in
theorem ok_X9_add : pm_oks 9 false 2 none cX9_add bk_X9_add = true := by decide +kernel
set_option maxRecDepth 100000 in
theorem me_X9_add : pm_me 28 = (yX9_add, cX9_add, 2, none, 1, 0) := rfl
theorem mt_X9_add {l : Launch} {g : pm_G} {d mc ms : Nat} {as : List Value} {A : pm_H} {Q : Option Value → pm_H → Prop} (hca : pm_cat 2 as = true) (body : ∀ J : pm_J, pm_Cl l g (fun _ => none) d mc ms (pm_Rq mc ms Q) bk_X9_add J → J 0 (pm_l0 2 as) [] A 0 0) : pm_Mt l g 28 d mc ms as A Q := pm_Mt_of (isI := false) 9 bk_X9_add me_X9_add (plainFor_of_name (by decide +kernel)) (by decide +kernel) (fun h => by cases h) ok_X9_add hca body
def bk_X9_keepThoseOf : pm_B := [(0, [(.iload_n 2, 1, 2, 0, 0), (.istore 4, 2, 4, 0, 0)], 3),
  (3, [(.iload 4, 2, 4, 0, 0), (.iload_n 3, 1, 3, 0, 0), (.if_icmp .gt 42, 3, 48, 0, 0), (.aload_n 0, 1, 0, 0, 0), (.getfield 25, 3, 9, 4, 0), (.iload 4, 2, 4, 0, 0), (.invokevirtual 48, 3, 19, 1, 7), (.ifCond .eq 30, 3, 48, 0, 0), (.aload_n 0, 1, 0, 0, 0), (.getfield 25, 3, 9, 4, 0), (.getfield 52, 3, 7, 0, 0), (.iload 4, 2, 4, 0, 0), (.iaload, 1, 0, 0, 0), (.iload_n 1, 1, 1, 0, 0), (.if_icmp .ne 10, 3, 42, 0, 0), (.aload_n 0, 1, 0, 0, 0), (.iload 4, 2, 4, 0, 0), (.iload_n 1, 1, 1, 0, 0), (.invokevirtual 66, 3, 23, 2, 9)], 42),
  (42, [(.iinc 4 1, 3, 4, 0, 1), (.goto (-42), 3, 3, 0, 0)], 48),
  (48, [(.return_, 1, 0, 0, 0)], 49)]
set_option maxRecDepth 100000 in
theorem ok_X9_keepThoseOf : pm_oks 9 false 5 none cX9_keepThoseOf bk_X9_keepThoseOf = true := by decide +kernel
set_option maxRecDepth 100000 in
theorem me_X9_keepThoseOf : pm_me 33 = (yX9_keepThoseOf, cX9_keepThoseOf, 5, none, 3, 0) := rfl
theorem mt_X9_keepThoseOf {l : Launch} {g : pm_G} {d mc ms : Nat} {as : List Value} {A : pm_H} {Q : Option Value → pm_H → Prop} (hca : pm_cat 5 as = true) (body : ∀ J : pm_J, pm_Cl l g (fun _ => none) d mc ms (pm_Rq mc ms Q) bk_X9_keepThoseOf J → J 0 (pm_l0 5 as) [] A 0 0) : pm_Mt l g 33 d mc ms as A Q := pm_Mt_of (isI := false) 9 bk_X9_keepThoseOf me_X9_keepThoseOf (plainFor_of_name (by decide +kernel)) (by decide +kernel) (fun h => by cases h) ok_X9_keepThoseOf hca body
def bk_X9_behind : pm_B := [(0, [(.iload_n 1, 1, 1, 0, 0), (.ifCond .lt 26, 3, 27, 0, 0), (.iload_n 1, 1, 1, 0, 0), (.aload_n 0, 1, 0, 0, 0), (.getfield 32, 3, 9, 5, 0), (.if_icmp .gt 18, 3, 27, 0, 0), (.iload_n 1, 1, 1, 0, 0), (.aload_n 0, 1, 0, 0, 0), (.getfield 32, 3, 9, 5, 0), (.bipush 40, 2, 0, 0, 40), (.isub, 1, 0, 0, 0), (.if_icmp .le 7, 3, 27, 0, 0), (.iconst 1, 1, 0, 0, 1), (.goto 4, 3, 28, 0, 0)], 27),
  (27, [(.iconst 0, 1, 0, 0, 0)], 28),
  (28, [(.istore_n 2, 1, 2, 0, 0), (.iload_n 2, 1, 2, 0, 0), (.ifCond .eq 15, 3, 45, 0, 0), (.aload_n 0, 1, 0, 0, 0), (.getfield 11, 3, 9, 0, 0), (.iload_n 1, 1, 1, 0, 0), (.bipush 41, 2, 0, 0, 41), (.irem, 1, 0, 0, 0), (.aaload, 1, 0, 0, 0), (.goto 4, 3, 46, 0, 0)], 45),
  (45, [(.aconst_null, 1, 0, 0, 0)], 46),
  (46, [(.areturn, 1, 0, 0, 0)], 47)]
set_option maxRecDepth 100000 in
theorem ok_X9_behind : pm_oks 9 false 3 (some (.object "SpanColours$Row")) cX9_behind bk_X9_behind = true := by decide +kernel
set_option maxRecDepth 100000 in
theorem me_X9_behind : pm_me 149 = (yX9_behind, cX9_behind, 3, (some (.object "SpanColours$Row")), 1, 0) := rfl
theorem mt_X9_behind {l : Launch} {g : pm_G} {d mc ms : Nat} {as : List Value} {A : pm_H} {Q : Option Value → pm_H → Prop} (hca : pm_cat 3 as = true) (body : ∀ J : pm_J, pm_Cl l g (fun _ => none) d mc ms (pm_Rq mc ms Q) bk_X9_behind J → J 0 (pm_l0 3 as) [] A 0 0) : pm_Mt l g 149 d mc ms as A Q := pm_Mt_of (isI := false) 9 bk_X9_behind me_X9_behind (plainFor_of_name (by decide +kernel)) (by decide +kernel) (fun h => by cases h) ok_X9_behind hca body
def bk_X9_steadySince : pm_B := [(0, [(.aload_n 0, 1, 0, 0, 0), (.getfield 25, 3, 9, 4, 0), (.iload_n 1, 1, 1, 0, 0), (.invokevirtual 85, 3, 46, 1, 7), (.istore_n 2, 1, 2, 0, 0), (.iload_n 2, 1, 2, 0, 0), (.iconst (-1), 1, 0, 0, -1), (.if_icmp .ne 5, 3, 16, 0, 0), (.iconst (-1), 1, 0, 0, -1), (.ireturn, 1, 0, 0, 0)], 16),
  (16, [(.aload_n 0, 1, 0, 0, 0), (.getfield 25, 3, 9, 4, 0), (.iload_n 2, 1, 2, 0, 0), (.invokevirtual 58, 3, 20, 1, 7), (.istore_n 3, 1, 3, 0, 0), (.aload_n 0, 1, 0, 0, 0), (.getfield 32, 3, 9, 5, 0), (.iconst 1, 1, 0, 0, 1), (.isub, 1, 0, 0, 0), (.istore 4, 2, 4, 0, 0)], 33),
  (33, [(.iload 4, 2, 4, 0, 0), (.ifCond .lt 51, 3, 86, 0, 0), (.aload_n 0, 1, 0, 0, 0), (.iload 4, 2, 4, 0, 0), (.invokevirtual 88, 3, 149, 1, 9), (.astore 5, 2, 5, 0, 0), (.aload 5, 2, 5, 0, 0), (.ifnull 27, 3, 75, 0, 0), (.aload 5, 2, 5, 0, 0), (.iload_n 1, 1, 1, 0, 0), (.invokevirtual 92, 3, 154, 1, 7), (.ifCond .eq 18, 3, 75, 0, 0), (.aload 5, 2, 5, 0, 0), (.aload 5, 2, 5, 0, 0), (.iload_n 1, 1, 1, 0, 0), (.invokevirtual 85, 3, 46, 1, 7), (.invokevirtual 58, 3, 20, 1, 7), (.iload_n 3, 1, 3, 0, 0), (.if_icmp .eq 8, 3, 80, 0, 0)], 75),
  (75, [(.iload 4, 2, 4, 0, 0), (.iconst 1, 1, 0, 0, 1), (.iadd, 1, 0, 0, 0), (.ireturn, 1, 0, 0, 0)], 80),
  (80, [(.iinc 4 (-1), 3, 4, 0, -1), (.goto (-50), 3, 33, 0, 0)], 86),
  (86, [(.iconst 0, 1, 0, 0, 0), (.ireturn, 1, 0, 0, 0)], 88)]
set_option maxRecDepth 100000 in
theorem ok_X9_steadySince : pm_oks 9 false 6 (some .int) cX9_steadySince bk_X9_steadySince = true := by decide +kernel
set_option maxRecDepth 100000 in
theorem me_X9_steadySince : pm_me 153 = (yX9_steadySince, cX9_steadySince, 6, (some .int), 1, 0) := rfl
theorem mt_X9_steadySince {l : Launch} {g : pm_G} {d mc ms : Nat} {as : List Value} {A : pm_H} {Q : Option Value → pm_H → Prop} (hca : pm_cat 6 as = true) (body : ∀ J : pm_J, pm_Cl l g (fun _ => none) d mc ms (pm_Rq mc ms Q) bk_X9_steadySince J → J 0 (pm_l0 6 as) [] A 0 0) : pm_Mt l g 153 d mc ms as A Q := pm_Mt_of (isI := false) 9 bk_X9_steadySince me_X9_steadySince (plainFor_of_name (by decide +kernel)) (by decide +kernel) (fun h => by cases h) ok_X9_steadySince hca body
def bk_X9_unlikeNow : pm_B := [(0, [(.iconst 0, 1, 0, 0, 0), (.istore_n 3, 1, 3, 0, 0), (.iconst 0, 1, 0, 0, 0), (.istore 4, 2, 4, 0, 0)], 5),
  (5, [(.iload 4, 2, 4, 0, 0), (.aload_n 0, 1, 0, 0, 0), (.getfield 25, 3, 9, 4, 0), (.getfield 36, 3, 7, 3, 0), (.if_icmp .ge 47, 3, 61, 0, 0), (.aload_n 1, 1, 1, 0, 0), (.aload_n 0, 1, 0, 0, 0), (.getfield 25, 3, 9, 4, 0), (.getfield 55, 3, 7, 1, 0), (.iload 4, 2, 4, 0, 0), (.iaload, 1, 0, 0, 0), (.invokevirtual 85, 3, 46, 1, 7), (.istore 5, 2, 5, 0, 0), (.iload 5, 2, 5, 0, 0), (.iconst (-1), 1, 0, 0, -1), (.if_icmp .eq 19, 3, 55, 0, 0), (.aload_n 0, 1, 0, 0, 0), (.aload_n 1, 1, 1, 0, 0), (.iload 5, 2, 5, 0, 0), (.iload 4, 2, 4, 0, 0), (.iload_n 2, 1, 2, 0, 0), (.invokevirtual 95, 3, 157, 4, 9), (.ifCond .eq 6, 3, 55, 0, 0), (.iinc 3 1, 3, 3, 0, 1)], 55),
  (55, [(.iinc 4 1, 3, 4, 0, 1), (.goto (-53), 3, 5, 0, 0)], 61),
  (61, [(.iload_n 3, 1, 3, 0, 0), (.ireturn, 1, 0, 0, 0)], 63)]
set_option maxRecDepth 100000 in
theorem ok_X9_unlikeNow : pm_oks 9 false 6 (some .int) cX9_unlikeNow bk_X9_unlikeNow = true := by decide +kernel
set_option maxRecDepth 100000 in
theorem me_X9_unlikeNow : pm_me 156 = (yX9_unlikeNow, cX9_unlikeNow, 6, (some .int), 2, 0) := rfl
theorem mt_X9_unlikeNow {l : Launch} {g : pm_G} {d mc ms : Nat} {as : List Value} {A : pm_H} {Q : Option Value → pm_H → Prop} (hca : pm_cat 6 as = true) (body : ∀ J : pm_J, pm_Cl l g (fun _ => none) d mc ms (pm_Rq mc ms Q) bk_X9_unlikeNow J → J 0 (pm_l0 6 as) [] A 0 0) : pm_Mt l g 156 d mc ms as A Q := pm_Mt_of (isI := false) 9 bk_X9_unlikeNow me_X9_unlikeNow (plainFor_of_name (by decide +kernel)) (by decide +kernel) (fun h => by cases h) ok_X9_unlikeNow hca body
def bk_X9_isUnlike : pm_B := [(0, [(.iload 4, 2, 4, 0, 0), (.tableswitch 63 0 2 #[26, 28, 39], 26, 2, 0, 0)], 28),
  (28, [(.iconst 1, 1, 0, 0, 1), (.ireturn, 1, 1, 0, 0)], 30),
  (30, [(.iload_n 2, 1, 2, 0, 0), (.iload_n 3, 1, 3, 0, 0), (.if_icmp .eq 7, 3, 39, 0, 0), (.iconst 1, 1, 0, 0, 1), (.goto 4, 3, 40, 0, 0)], 39),
  (39, [(.iconst 0, 1, 0, 0, 0)], 40),
  (40, [(.ireturn, 1, 1, 0, 0)], 41),
  (41, [(.aload_n 1, 1, 1, 0, 0), (.iload_n 2, 1, 2, 0, 0), (.iconst 0, 1, 0, 0, 0), (.invokevirtual 99, 3, 44, 2, 7), (.aload_n 0, 1, 0, 0, 0), (.getfield 25, 3, 9, 4, 0), (.iload_n 3, 1, 3, 0, 0), (.iconst 0, 1, 0, 0, 0), (.invokevirtual 99, 3, 44, 2, 7), (.if_icmp .eq 7, 3, 63, 0, 0), (.iconst 1, 1, 0, 0, 1), (.goto 4, 3, 64, 0, 0)], 63),
  (63, [(.iconst 0, 1, 0, 0, 0)], 64),
  (64, [(.ireturn, 1, 1, 0, 0)], 65),
  (65, [(.aload_n 1, 1, 1, 0, 0), (.iload_n 2, 1, 2, 0, 0), (.invokevirtual 58, 3, 20, 1, 7), (.aload_n 0, 1, 0, 0, 0), (.getfield 25, 3, 9, 4, 0), (.iload_n 3, 1, 3, 0, 0), (.invokevirtual 58, 3, 20, 1, 7), (.if_icmp .eq 7, 3, 85, 0, 0), (.iconst 1, 1, 0, 0, 1), (.goto 4, 3, 86, 0, 0)], 85),
  (85, [(.iconst 0, 1, 0, 0, 0)], 86),
  (86, [(.ireturn, 1, 1, 0, 0)], 87)]
set_option maxRecDepth 100000 in
theorem ok_X9_isUnlike : pm_oks 9 false 5 (some .boolean) cX9_isUnlike bk_X9_isUnlike = true := by decide +kernel
set_option maxRecDepth 100000 in
theorem me_X9_isUnlike : pm_me 157 = (yX9_isUnlike, cX9_isUnlike, 5, (some .boolean), 4, 0) := rfl
theorem mt_X9_isUnlike {l : Launch} {g : pm_G} {d mc ms : Nat} {as : List Value} {A : pm_H} {Q : Option Value → pm_H → Prop} (hca : pm_cat 5 as = true) (body : ∀ J : pm_J, pm_Cl l g (fun _ => none) d mc ms (pm_Rq mc ms Q) bk_X9_isUnlike J → J 0 (pm_l0 5 as) [] A 0 0) : pm_Mt l g 157 d mc ms as A Q := pm_Mt_of (isI := false) 9 bk_X9_isUnlike me_X9_isUnlike (plainFor_of_name (by decide +kernel)) (by decide +kernel) (fun h => by cases h) ok_X9_isUnlike hca body
def bk_X7_init : pm_B := [(0, [(.aload_n 0, 1, 0, 0, 0), (.invokespecial 3, 3, 0, 0, 0), (.aload_n 0, 1, 0, 0, 0), (.sipush 160, 3, 0, 0, 160), (.newarray .int, 2, 160, 0, 0), (.putfield 9, 3, 7, 0, 1), (.aload_n 0, 1, 0, 0, 0), (.sipush 160, 3, 0, 0, 160), (.newarray .int, 2, 160, 0, 0), (.putfield 15, 3, 7, 1, 1), (.aload_n 0, 1, 0, 0, 0), (.sipush 160, 3, 0, 0, 160), (.newarray .int, 2, 160, 0, 0), (.putfield 18, 3, 7, 2, 1), (.return_, 1, 0, 0, 0)], 32)]
set_option maxRecDepth 100000 in
theorem ok_X7_init : pm_oks 7 true 1 none cX7_init bk_X7_init = true := by decide +kernel
set_option maxRecDepth 100000 in
theorem me_X7_init : pm_me 2 = (yX7_init, cX7_init, 1, none, 0, 2) := rfl
theorem mt_X7_init {l : Launch} {g : pm_G} {d mc ms : Nat} {as : List Value} {A : pm_H} {Q : Option Value → pm_H → Prop} (hca : pm_cat 1 as = true) (body : ∀ J : pm_J, pm_Cl l g (fun _ => none) d mc ms (pm_Rq mc ms Q) bk_X7_init J → J 0 (pm_l0 1 as) [] A 0 0) : pm_Mt l g 2 d mc ms as A Q := pm_Mt_of (isI := true) 7 bk_X7_init me_X7_init (plainFor_of_name (by decide +kernel)) (by decide +kernel) (fun _ => by decide +kernel) ok_X7_init hca body
def bk_X7_isSpan : pm_B := [(0, [(.iload_n 1, 1, 1, 0, 0), (.ifCond .lt 20, 3, 21, 0, 0), (.iload_n 1, 1, 1, 0, 0), (.iload_n 2, 1, 2, 0, 0), (.if_icmp .gt 15, 3, 21, 0, 0), (.iload_n 2, 1, 2, 0, 0), (.aload_n 0, 1, 0, 0, 0), (.getfield 21, 3, 7, 3, 0), (.if_icmp .ge 7, 3, 21, 0, 0), (.iconst 1, 1, 0, 0, 1), (.goto 4, 3, 22, 0, 0)], 21),
  (21, [(.iconst 0, 1, 0, 0, 0)], 22),
  (22, [(.ireturn, 1, 1, 0, 0)], 23)]
set_option maxRecDepth 100000 in
theorem ok_X7_isSpan : pm_oks 7 false 3 (some .boolean) cX7_isSpan bk_X7_isSpan = true := by decide +kernel
set_option maxRecDepth 100000 in
theorem me_X7_isSpan : pm_me 14 = (yX7_isSpan, cX7_isSpan, 3, (some .boolean), 2, 0) := rfl
theorem mt_X7_isSpan {l : Launch} {g : pm_G} {d mc ms : Nat} {as : List Value} {A : pm_H} {Q : Option Value → pm_H → Prop} (hca : pm_cat 3 as = true) (body : ∀ J : pm_J, pm_Cl l g (fun _ => none) d mc ms (pm_Rq mc ms Q) bk_X7_isSpan J → J 0 (pm_l0 3 as) [] A 0 0) : pm_Mt l g 14 d mc ms as A Q := pm_Mt_of (isI := false) 7 bk_X7_isSpan me_X7_isSpan (plainFor_of_name (by decide +kernel)) (by decide +kernel) (fun h => by cases h) ok_X7_isSpan hca body
def bk_X7_has : pm_B := [(0, [(.iload_n 1, 1, 1, 0, 0), (.ifCond .lt 15, 3, 16, 0, 0), (.iload_n 1, 1, 1, 0, 0), (.aload_n 0, 1, 0, 0, 0), (.getfield 21, 3, 7, 3, 0), (.if_icmp .ge 7, 3, 16, 0, 0), (.iconst 1, 1, 0, 0, 1), (.goto 4, 3, 17, 0, 0)], 16),
  (16, [(.iconst 0, 1, 0, 0, 0)], 17),
  (17, [(.ireturn, 1, 1, 0, 0)], 18)]
set_option maxRecDepth 100000 in
theorem ok_X7_has : pm_oks 7 false 2 (some .boolean) cX7_has bk_X7_has = true := by decide +kernel
set_option maxRecDepth 100000 in
theorem me_X7_has : pm_me 19 = (yX7_has, cX7_has, 2, (some .boolean), 1, 0) := rfl
theorem mt_X7_has {l : Launch} {g : pm_G} {d mc ms : Nat} {as : List Value} {A : pm_H} {Q : Option Value → pm_H → Prop} (hca : pm_cat 2 as = true) (body : ∀ J : pm_J, pm_Cl l g (fun _ => none) d mc ms (pm_Rq mc ms Q) bk_X7_has J → J 0 (pm_l0 2 as) [] A 0 0) : pm_Mt l g 19 d mc ms as A Q := pm_Mt_of (isI := false) 7 bk_X7_has me_X7_has (plainFor_of_name (by decide +kernel)) (by decide +kernel) (fun h => by cases h) ok_X7_has hca body
def bk_X7_bondAt : pm_B := [(0, [(.aload_n 0, 1, 0, 0, 0), (.iload_n 1, 1, 1, 0, 0), (.invokevirtual 25, 3, 19, 1, 7), (.ifCond .eq 16, 3, 21, 0, 0), (.aload_n 0, 1, 0, 0, 0), (.aload_n 0, 1, 0, 0, 0), (.getfield 18, 3, 7, 2, 0), (.iload_n 1, 1, 1, 0, 0), (.iaload, 1, 0, 0, 0), (.invokevirtual 29, 3, 21, 1, 7), (.goto 4, 3, 22, 0, 0)], 21),
  (21, [(.iconst (-1), 1, 0, 0, -1)], 22),
  (22, [(.ireturn, 1, 0, 0, 0)], 23)]
set_option maxRecDepth 100000 in
theorem ok_X7_bondAt : pm_oks 7 false 2 (some .int) cX7_bondAt bk_X7_bondAt = true := by decide +kernel
set_option maxRecDepth 100000 in
theorem me_X7_bondAt : pm_me 20 = (yX7_bondAt, cX7_bondAt, 2, (some .int), 1, 0) := rfl
theorem mt_X7_bondAt {l : Launch} {g : pm_G} {d mc ms : Nat} {as : List Value} {A : pm_H} {Q : Option Value → pm_H → Prop} (hca : pm_cat 2 as = true) (body : ∀ J : pm_J, pm_Cl l g (fun _ => none) d mc ms (pm_Rq mc ms Q) bk_X7_bondAt J → J 0 (pm_l0 2 as) [] A 0 0) : pm_Mt l g 20 d mc ms as A Q := pm_Mt_of (isI := false) 7 bk_X7_bondAt me_X7_bondAt (plainFor_of_name (by decide +kernel)) (by decide +kernel) (fun h => by cases h) ok_X7_bondAt hca body
def bk_X7_nameAt : pm_B := [(0, [(.aload_n 0, 1, 0, 0, 0), (.iload_n 1, 1, 1, 0, 0), (.invokevirtual 25, 3, 19, 1, 7), (.ifCond .eq 12, 3, 17, 0, 0), (.aload_n 0, 1, 0, 0, 0), (.getfield 15, 3, 7, 1, 0), (.iload_n 1, 1, 1, 0, 0), (.iaload, 1, 0, 0, 0), (.goto 4, 3, 18, 0, 0)], 17),
  (17, [(.iconst (-1), 1, 0, 0, -1)], 18),
  (18, [(.ireturn, 1, 0, 0, 0)], 19)]
set_option maxRecDepth 100000 in
theorem ok_X7_nameAt : pm_oks 7 false 2 (some .int) cX7_nameAt bk_X7_nameAt = true := by decide +kernel
set_option maxRecDepth 100000 in
theorem me_X7_nameAt : pm_me 21 = (yX7_nameAt, cX7_nameAt, 2, (some .int), 1, 0) := rfl
theorem mt_X7_nameAt {l : Launch} {g : pm_G} {d mc ms : Nat} {as : List Value} {A : pm_H} {Q : Option Value → pm_H → Prop} (hca : pm_cat 2 as = true) (body : ∀ J : pm_J, pm_Cl l g (fun _ => none) d mc ms (pm_Rq mc ms Q) bk_X7_nameAt J → J 0 (pm_l0 2 as) [] A 0 0) : pm_Mt l g 21 d mc ms as A Q := pm_Mt_of (isI := false) 7 bk_X7_nameAt me_X7_nameAt (plainFor_of_name (by decide +kernel)) (by decide +kernel) (fun h => by cases h) ok_X7_nameAt hca body
def bk_X7_isGap : pm_B := [(0, [(.iload_n 1, 1, 1, 0, 0), (.ifCond .lt 15, 3, 16, 0, 0), (.iload_n 1, 1, 1, 0, 0), (.aload_n 0, 1, 0, 0, 0), (.getfield 21, 3, 7, 3, 0), (.if_icmp .gt 7, 3, 16, 0, 0), (.iconst 1, 1, 0, 0, 1), (.goto 4, 3, 17, 0, 0)], 16),
  (16, [(.iconst 0, 1, 0, 0, 0)], 17),
  (17, [(.ireturn, 1, 1, 0, 0)], 18)]
set_option maxRecDepth 100000 in
theorem ok_X7_isGap : pm_oks 7 false 2 (some .boolean) cX7_isGap bk_X7_isGap = true := by decide +kernel
set_option maxRecDepth 100000 in
theorem me_X7_isGap : pm_me 26 = (yX7_isGap, cX7_isGap, 2, (some .boolean), 1, 0) := rfl
theorem mt_X7_isGap {l : Launch} {g : pm_G} {d mc ms : Nat} {as : List Value} {A : pm_H} {Q : Option Value → pm_H → Prop} (hca : pm_cat 2 as = true) (body : ∀ J : pm_J, pm_Cl l g (fun _ => none) d mc ms (pm_Rq mc ms Q) bk_X7_isGap J → J 0 (pm_l0 2 as) [] A 0 0) : pm_Mt l g 26 d mc ms as A Q := pm_Mt_of (isI := false) 7 bk_X7_isGap me_X7_isGap (plainFor_of_name (by decide +kernel)) (by decide +kernel) (fun h => by cases h) ok_X7_isGap hca body
def bk_X7_nextAlike : pm_B := [(0, [(.aload_n 0, 1, 0, 0, 0), (.iload_n 1, 1, 1, 0, 0), (.invokevirtual 25, 3, 19, 1, 7), (.ifCond .ne 5, 3, 10, 0, 0), (.iconst (-1), 1, 0, 0, -1), (.ireturn, 1, 0, 0, 0)], 10),
  (10, [(.iload_n 1, 1, 1, 0, 0), (.iconst 1, 1, 0, 0, 1), (.iadd, 1, 0, 0, 0), (.istore_n 2, 1, 2, 0, 0)], 14),
  (14, [(.iload_n 2, 1, 2, 0, 0), (.aload_n 0, 1, 0, 0, 0), (.getfield 21, 3, 7, 3, 0), (.if_icmp .ge 26, 3, 45, 0, 0), (.aload_n 0, 1, 0, 0, 0), (.getfield 9, 3, 7, 0, 0), (.iload_n 2, 1, 2, 0, 0), (.iaload, 1, 0, 0, 0), (.aload_n 0, 1, 0, 0, 0), (.getfield 9, 3, 7, 0, 0), (.iload_n 1, 1, 1, 0, 0), (.iaload, 1, 0, 0, 0), (.if_icmp .ne 5, 3, 39, 0, 0), (.iload_n 2, 1, 2, 0, 0), (.ireturn, 1, 0, 0, 0)], 39),
  (39, [(.iinc 2 1, 3, 2, 0, 1), (.goto (-28), 3, 14, 0, 0)], 45),
  (45, [(.iconst (-1), 1, 0, 0, -1), (.ireturn, 1, 0, 0, 0)], 47)]
set_option maxRecDepth 100000 in
theorem ok_X7_nextAlike : pm_oks 7 false 3 (some .int) cX7_nextAlike bk_X7_nextAlike = true := by decide +kernel
set_option maxRecDepth 100000 in
theorem me_X7_nextAlike : pm_me 43 = (yX7_nextAlike, cX7_nextAlike, 3, (some .int), 1, 0) := rfl
theorem mt_X7_nextAlike {l : Launch} {g : pm_G} {d mc ms : Nat} {as : List Value} {A : pm_H} {Q : Option Value → pm_H → Prop} (hca : pm_cat 3 as = true) (body : ∀ J : pm_J, pm_Cl l g (fun _ => none) d mc ms (pm_Rq mc ms Q) bk_X7_nextAlike J → J 0 (pm_l0 3 as) [] A 0 0) : pm_Mt l g 43 d mc ms as A Q := pm_Mt_of (isI := false) 7 bk_X7_nextAlike me_X7_nextAlike (plainFor_of_name (by decide +kernel)) (by decide +kernel) (fun h => by cases h) ok_X7_nextAlike hca body
def bk_X7_tell : pm_B := [(0, [(.aload_n 0, 1, 0, 0, 0), (.iload_n 1, 1, 1, 0, 0), (.invokevirtual 25, 3, 19, 1, 7), (.ifCond .ne 5, 3, 10, 0, 0), (.iconst (-1), 1, 0, 0, -1), (.ireturn, 1, 0, 0, 0)], 10),
  (10, [(.iload_n 2, 1, 2, 0, 0), (.tableswitch 45 0 2 #[25, 32, 39], 25, 11, 0, 0)], 36),
  (36, [(.aload_n 0, 1, 0, 0, 0), (.getfield 9, 3, 7, 0, 0), (.iload_n 1, 1, 1, 0, 0), (.iaload, 1, 0, 0, 0), (.ireturn, 1, 0, 0, 0)], 43),
  (43, [(.aload_n 0, 1, 0, 0, 0), (.getfield 15, 3, 7, 1, 0), (.iload_n 1, 1, 1, 0, 0), (.iaload, 1, 0, 0, 0), (.ireturn, 1, 0, 0, 0)], 50),
  (50, [(.aload_n 0, 1, 0, 0, 0), (.iload_n 1, 1, 1, 0, 0), (.invokevirtual 33, 3, 20, 1, 7), (.ireturn, 1, 0, 0, 0)], 56),
  (56, [(.iconst (-1), 1, 0, 0, -1), (.ireturn, 1, 0, 0, 0)], 58)]
set_option maxRecDepth 100000 in
theorem ok_X7_tell : pm_oks 7 false 3 (some .int) cX7_tell bk_X7_tell = true := by decide +kernel
set_option maxRecDepth 100000 in
theorem me_X7_tell : pm_me 44 = (yX7_tell, cX7_tell, 3, (some .int), 2, 0) := rfl
theorem mt_X7_tell {l : Launch} {g : pm_G} {d mc ms : Nat} {as : List Value} {A : pm_H} {Q : Option Value → pm_H → Prop} (hca : pm_cat 3 as = true) (body : ∀ J : pm_J, pm_Cl l g (fun _ => none) d mc ms (pm_Rq mc ms Q) bk_X7_tell J → J 0 (pm_l0 3 as) [] A 0 0) : pm_Mt l g 44 d mc ms as A Q := pm_Mt_of (isI := false) 7 bk_X7_tell me_X7_tell (plainFor_of_name (by decide +kernel)) (by decide +kernel) (fun h => by cases h) ok_X7_tell hca body
def bk_X7_placeOf : pm_B := [(0, [(.iconst 0, 1, 0, 0, 0), (.istore_n 2, 1, 2, 0, 0)], 2),
  (2, [(.iload_n 2, 1, 2, 0, 0), (.aload_n 0, 1, 0, 0, 0), (.getfield 21, 3, 7, 3, 0), (.if_icmp .ge 21, 3, 28, 0, 0), (.aload_n 0, 1, 0, 0, 0), (.getfield 15, 3, 7, 1, 0), (.iload_n 2, 1, 2, 0, 0), (.iaload, 1, 0, 0, 0), (.iload_n 1, 1, 1, 0, 0), (.if_icmp .ne 5, 3, 22, 0, 0), (.iload_n 2, 1, 2, 0, 0), (.ireturn, 1, 0, 0, 0)], 22),
  (22, [(.iinc 2 1, 3, 2, 0, 1), (.goto (-23), 3, 2, 0, 0)], 28),
  (28, [(.iconst (-1), 1, 0, 0, -1), (.ireturn, 1, 0, 0, 0)], 30)]
set_option maxRecDepth 100000 in
theorem ok_X7_placeOf : pm_oks 7 false 3 (some .int) cX7_placeOf bk_X7_placeOf = true := by decide +kernel
set_option maxRecDepth 100000 in
theorem me_X7_placeOf : pm_me 46 = (yX7_placeOf, cX7_placeOf, 3, (some .int), 1, 0) := rfl
theorem mt_X7_placeOf {l : Launch} {g : pm_G} {d mc ms : Nat} {as : List Value} {A : pm_H} {Q : Option Value → pm_H → Prop} (hca : pm_cat 3 as = true) (body : ∀ J : pm_J, pm_Cl l g (fun _ => none) d mc ms (pm_Rq mc ms Q) bk_X7_placeOf J → J 0 (pm_l0 3 as) [] A 0 0) : pm_Mt l g 46 d mc ms as A Q := pm_Mt_of (isI := false) 7 bk_X7_placeOf me_X7_placeOf (plainFor_of_name (by decide +kernel)) (by decide +kernel) (fun h => by cases h) ok_X7_placeOf hca body
def bk_X7_howMany : pm_B := [(0, [(.iconst 0, 1, 0, 0, 0), (.istore_n 2, 1, 2, 0, 0), (.iconst 0, 1, 0, 0, 0), (.istore_n 3, 1, 3, 0, 0)], 4),
  (4, [(.iload_n 3, 1, 3, 0, 0), (.aload_n 0, 1, 0, 0, 0), (.getfield 21, 3, 7, 3, 0), (.if_icmp .ge 22, 3, 31, 0, 0), (.aload_n 0, 1, 0, 0, 0), (.getfield 9, 3, 7, 0, 0), (.iload_n 3, 1, 3, 0, 0), (.iaload, 1, 0, 0, 0), (.iload_n 1, 1, 1, 0, 0), (.if_icmp .ne 6, 3, 25, 0, 0), (.iinc 2 1, 3, 2, 0, 1)], 25),
  (25, [(.iinc 3 1, 3, 3, 0, 1), (.goto (-24), 3, 4, 0, 0)], 31),
  (31, [(.iload_n 2, 1, 2, 0, 0), (.ireturn, 1, 0, 0, 0)], 33)]
set_option maxRecDepth 100000 in
theorem ok_X7_howMany : pm_oks 7 false 4 (some .int) cX7_howMany bk_X7_howMany = true := by decide +kernel
set_option maxRecDepth 100000 in
theorem me_X7_howMany : pm_me 48 = (yX7_howMany, cX7_howMany, 4, (some .int), 1, 0) := rfl
theorem mt_X7_howMany {l : Launch} {g : pm_G} {d mc ms : Nat} {as : List Value} {A : pm_H} {Q : Option Value → pm_H → Prop} (hca : pm_cat 4 as = true) (body : ∀ J : pm_J, pm_Cl l g (fun _ => none) d mc ms (pm_Rq mc ms Q) bk_X7_howMany J → J 0 (pm_l0 4 as) [] A 0 0) : pm_Mt l g 48 d mc ms as A Q := pm_Mt_of (isI := false) 7 bk_X7_howMany me_X7_howMany (plainFor_of_name (by decide +kernel)) (by decide +kernel) (fun h => by cases h) ok_X7_howMany hca body
def bk_X7_placeOfNth : pm_B := [(0, [(.iconst 0, 1, 0, 0, 0), (.istore_n 3, 1, 3, 0, 0), (.iconst 0, 1, 0, 0, 0), (.istore 4, 2, 4, 0, 0)], 5),
  (5, [(.iload 4, 2, 4, 0, 0), (.aload_n 0, 1, 0, 0, 0), (.getfield 21, 3, 7, 3, 0), (.if_icmp .ge 31, 3, 42, 0, 0), (.aload_n 0, 1, 0, 0, 0), (.getfield 9, 3, 7, 0, 0), (.iload 4, 2, 4, 0, 0), (.iaload, 1, 0, 0, 0), (.iload_n 1, 1, 1, 0, 0), (.if_icmp .ne 14, 3, 36, 0, 0), (.iload_n 3, 1, 3, 0, 0), (.iload_n 2, 1, 2, 0, 0), (.if_icmp .ne 6, 3, 33, 0, 0), (.iload 4, 2, 4, 0, 0), (.ireturn, 1, 0, 0, 0)], 33),
  (33, [(.iinc 3 1, 3, 3, 0, 1)], 36),
  (36, [(.iinc 4 1, 3, 4, 0, 1), (.goto (-34), 3, 5, 0, 0)], 42),
  (42, [(.iconst (-1), 1, 0, 0, -1), (.ireturn, 1, 0, 0, 0)], 44)]
set_option maxRecDepth 100000 in
theorem ok_X7_placeOfNth : pm_oks 7 false 5 (some .int) cX7_placeOfNth bk_X7_placeOfNth = true := by decide +kernel
set_option maxRecDepth 100000 in
theorem me_X7_placeOfNth : pm_me 49 = (yX7_placeOfNth, cX7_placeOfNth, 5, (some .int), 2, 0) := rfl
theorem mt_X7_placeOfNth {l : Launch} {g : pm_G} {d mc ms : Nat} {as : List Value} {A : pm_H} {Q : Option Value → pm_H → Prop} (hca : pm_cat 5 as = true) (body : ∀ J : pm_J, pm_Cl l g (fun _ => none) d mc ms (pm_Rq mc ms Q) bk_X7_placeOfNth J → J 0 (pm_l0 5 as) [] A 0 0) : pm_Mt l g 49 d mc ms as A Q := pm_Mt_of (isI := false) 7 bk_X7_placeOfNth me_X7_placeOfNth (plainFor_of_name (by decide +kernel)) (by decide +kernel) (fun h => by cases h) ok_X7_placeOfNth hca body
def bk_X7_widestGap : pm_B := [(0, [(.iconst (-1), 1, 0, 0, -1), (.istore_n 2, 1, 2, 0, 0), (.iconst 0, 1, 0, 0, 0), (.istore_n 3, 1, 3, 0, 0)], 4),
  (4, [(.iload_n 3, 1, 3, 0, 0), (.aload_n 0, 1, 0, 0, 0), (.getfield 21, 3, 7, 3, 0), (.if_icmp .ge 44, 3, 53, 0, 0), (.aload_n 0, 1, 0, 0, 0), (.getfield 9, 3, 7, 0, 0), (.iload_n 3, 1, 3, 0, 0), (.iaload, 1, 0, 0, 0), (.iload_n 1, 1, 1, 0, 0), (.if_icmp .ne 28, 3, 47, 0, 0), (.aload_n 0, 1, 0, 0, 0), (.getfield 18, 3, 7, 2, 0), (.iload_n 3, 1, 3, 0, 0), (.iaload, 1, 0, 0, 0), (.iconst (-1), 1, 0, 0, -1), (.if_icmp .eq 18, 3, 47, 0, 0), (.iload_n 2, 1, 2, 0, 0), (.iload_n 3, 1, 3, 0, 0), (.aload_n 0, 1, 0, 0, 0), (.getfield 18, 3, 7, 2, 0), (.iload_n 3, 1, 3, 0, 0), (.iaload, 1, 0, 0, 0), (.isub, 1, 0, 0, 0), (.iconst 1, 1, 0, 0, 1), (.isub, 1, 0, 0, 0), (.invokestatic 39, 3, 51, 2, 0), (.istore_n 2, 1, 2, 0, 0)], 47),
  (47, [(.iinc 3 1, 3, 3, 0, 1), (.goto (-46), 3, 4, 0, 0)], 53),
  (53, [(.iload_n 2, 1, 2, 0, 0), (.ireturn, 1, 0, 0, 0)], 55)]
set_option maxRecDepth 100000 in
theorem ok_X7_widestGap : pm_oks 7 false 4 (some .int) cX7_widestGap bk_X7_widestGap = true := by decide +kernel
set_option maxRecDepth 100000 in
theorem me_X7_widestGap : pm_me 50 = (yX7_widestGap, cX7_widestGap, 4, (some .int), 1, 0) := rfl
theorem mt_X7_widestGap {l : Launch} {g : pm_G} {d mc ms : Nat} {as : List Value} {A : pm_H} {Q : Option Value → pm_H → Prop} (hca : pm_cat 4 as = true) (body : ∀ J : pm_J, pm_Cl l g (fun _ => none) d mc ms (pm_Rq mc ms Q) bk_X7_widestGap J → J 0 (pm_l0 4 as) [] A 0 0) : pm_Mt l g 50 d mc ms as A Q := pm_Mt_of (isI := false) 7 bk_X7_widestGap me_X7_widestGap (plainFor_of_name (by decide +kernel)) (by decide +kernel) (fun h => by cases h) ok_X7_widestGap hca body
def bk_X7_hasName : pm_B := [(0, [(.aload_n 0, 1, 0, 0, 0), (.iload_n 1, 1, 1, 0, 0), (.invokevirtual 36, 3, 46, 1, 7), (.iconst (-1), 1, 0, 0, -1), (.if_icmp .eq 7, 3, 13, 0, 0), (.iconst 1, 1, 0, 0, 1), (.goto 4, 3, 14, 0, 0)], 13),
  (13, [(.iconst 0, 1, 0, 0, 0)], 14),
  (14, [(.ireturn, 1, 1, 0, 0)], 15)]
set_option maxRecDepth 100000 in
theorem ok_X7_hasName : pm_oks 7 false 2 (some .boolean) cX7_hasName bk_X7_hasName = true := by decide +kernel
set_option maxRecDepth 100000 in
theorem me_X7_hasName : pm_me 154 = (yX7_hasName, cX7_hasName, 2, (some .boolean), 1, 0) := rfl
theorem mt_X7_hasName {l : Launch} {g : pm_G} {d mc ms : Nat} {as : List Value} {A : pm_H} {Q : Option Value → pm_H → Prop} (hca : pm_cat 2 as = true) (body : ∀ J : pm_J, pm_Cl l g (fun _ => none) d mc ms (pm_Rq mc ms Q) bk_X7_hasName J → J 0 (pm_l0 2 as) [] A 0 0) : pm_Mt l g 154 d mc ms as A Q := pm_Mt_of (isI := false) 7 bk_X7_hasName me_X7_hasName (plainFor_of_name (by decide +kernel)) (by decide +kernel) (fun h => by cases h) ok_X7_hasName hca body
def bk_X2_init : pm_B := [(0, [(.aload_n 0, 1, 0, 0, 0), (.invokespecial 3, 3, 0, 0, 0), (.aload_n 0, 1, 0, 0, 0), (.bipush 24, 2, 0, 0, 24), (.newarray .int, 2, 24, 0, 0), (.putfield 9, 3, 2, 0, 1), (.aload_n 0, 1, 0, 0, 0), (.bipush 24, 2, 0, 0, 24), (.newarray .int, 2, 24, 0, 0), (.putfield 15, 3, 2, 1, 1), (.aload_n 0, 1, 0, 0, 0), (.getfield 15, 3, 2, 1, 0), (.iconst 1, 1, 0, 0, 1), (.invokestatic 18, 3, 4, 2, 0), (.return_, 1, 0, 0, 0)], 29)]
set_option maxRecDepth 100000 in
theorem ok_X2_init : pm_oks 2 true 1 none cX2_init bk_X2_init = true := by decide +kernel
set_option maxRecDepth 100000 in
theorem me_X2_init : pm_me 3 = (yX2_init, cX2_init, 1, none, 0, 2) := rfl
theorem mt_X2_init {l : Launch} {g : pm_G} {d mc ms : Nat} {as : List Value} {A : pm_H} {Q : Option Value → pm_H → Prop} (hca : pm_cat 1 as = true) (body : ∀ J : pm_J, pm_Cl l g (fun _ => none) d mc ms (pm_Rq mc ms Q) bk_X2_init J → J 0 (pm_l0 1 as) [] A 0 0) : pm_Mt l g 3 d mc ms as A Q := pm_Mt_of (isI := true) 2 bk_X2_init me_X2_init (plainFor_of_name (by decide +kernel)) (by decide +kernel) (fun _ => by decide +kernel) ok_X2_init hca body
def bk_X2_read : pm_B := [(0, [(.aload_n 0, 1, 0, 0, 0), (.invokevirtual 37, 3, 56, 0, 2), (.iload_n 2, 1, 2, 0, 0), (.istore 4, 2, 4, 0, 0)], 7),
  (7, [(.iload 4, 2, 4, 0, 0), (.iload_n 3, 1, 3, 0, 0), (.if_icmp .gt 29, 3, 39, 0, 0), (.aload_n 1, 1, 1, 0, 0), (.iload 4, 2, 4, 0, 0), (.invokevirtual 40, 3, 19, 1, 7), (.ifCond .eq 20, 3, 39, 0, 0), (.aload_n 0, 1, 0, 0, 0), (.aload_n 1, 1, 1, 0, 0), (.getfield 46, 3, 7, 0, 0), (.iload 4, 2, 4, 0, 0), (.iaload, 1, 0, 0, 0), (.invokevirtual 49, 3, 57, 1, 2), (.iinc 4 1, 3, 4, 0, 1), (.goto (-29), 3, 7, 0, 0)], 39),
  (39, [(.return_, 1, 0, 0, 0)], 40)]
set_option maxRecDepth 100000 in
theorem ok_X2_read : pm_oks 2 false 5 none cX2_read bk_X2_read = true := by decide +kernel
set_option maxRecDepth 100000 in
theorem me_X2_read : pm_me 55 = (yX2_read, cX2_read, 5, none, 3, 0) := rfl
theorem mt_X2_read {l : Launch} {g : pm_G} {d mc ms : Nat} {as : List Value} {A : pm_H} {Q : Option Value → pm_H → Prop} (hca : pm_cat 5 as = true) (body : ∀ J : pm_J, pm_Cl l g (fun _ => none) d mc ms (pm_Rq mc ms Q) bk_X2_read J → J 0 (pm_l0 5 as) [] A 0 0) : pm_Mt l g 55 d mc ms as A Q := pm_Mt_of (isI := false) 2 bk_X2_read me_X2_read (plainFor_of_name (by decide +kernel)) (by decide +kernel) (fun h => by cases h) ok_X2_read hca body
def bk_X2_clear : pm_B := [(0, [(.aload_n 0, 1, 0, 0, 0), (.getfield 9, 3, 2, 0, 0), (.iconst 0, 1, 0, 0, 0), (.invokestatic 18, 3, 4, 2, 0), (.aload_n 0, 1, 0, 0, 0), (.iconst 0, 1, 0, 0, 0), (.putfield 24, 3, 2, 2, 0), (.aload_n 0, 1, 0, 0, 0), (.iconst 0, 1, 0, 0, 0), (.putfield 28, 3, 2, 3, 0), (.aload_n 0, 1, 0, 0, 0), (.iconst 0, 1, 0, 0, 0), (.putfield 31, 3, 2, 4, 0), (.aload_n 0, 1, 0, 0, 0), (.iconst 0, 1, 0, 0, 0), (.putfield 34, 3, 2, 5, 0), (.return_, 1, 0, 0, 0)], 29)]
set_option maxRecDepth 100000 in
theorem ok_X2_clear : pm_oks 2 false 1 none cX2_clear bk_X2_clear = true := by decide +kernel
set_option maxRecDepth 100000 in
theorem me_X2_clear : pm_me 56 = (yX2_clear, cX2_clear, 1, none, 0, 0) := rfl
theorem mt_X2_clear {l : Launch} {g : pm_G} {d mc ms : Nat} {as : List Value} {A : pm_H} {Q : Option Value → pm_H → Prop} (hca : pm_cat 1 as = true) (body : ∀ J : pm_J, pm_Cl l g (fun _ => none) d mc ms (pm_Rq mc ms Q) bk_X2_clear J → J 0 (pm_l0 1 as) [] A 0 0) : pm_Mt l g 56 d mc ms as A Q := pm_Mt_of (isI := false) 2 bk_X2_clear me_X2_clear (plainFor_of_name (by decide +kernel)) (by decide +kernel) (fun h => by cases h) ok_X2_clear hca body
def bk_X2_take : pm_B := [(0, [(.aload_n 0, 1, 0, 0, 0), (.dup, 1, 0, 0, 0), (.getfield 24, 3, 2, 2, 0), (.iconst 1, 1, 0, 0, 1), (.iadd, 1, 0, 0, 0), (.putfield 24, 3, 2, 2, 0), (.aload_n 0, 1, 0, 0, 0), (.getfield 9, 3, 2, 0, 0), (.iload_n 1, 1, 1, 0, 0), (.dup2, 1, 0, 0, 0), (.iaload, 1, 0, 0, 0), (.iconst 1, 1, 0, 0, 1), (.iadd, 1, 0, 0, 0), (.iastore, 1, 0, 0, 0), (.aload_n 0, 1, 0, 0, 0), (.getfield 9, 3, 2, 0, 0), (.iload_n 1, 1, 1, 0, 0), (.iaload, 1, 0, 0, 0), (.iconst 1, 1, 0, 0, 1), (.if_icmp .ne 40, 3, 67, 0, 0), (.aload_n 0, 1, 0, 0, 0), (.dup, 1, 0, 0, 0), (.getfield 28, 3, 2, 3, 0), (.iconst 1, 1, 0, 0, 1), (.iadd, 1, 0, 0, 0), (.putfield 28, 3, 2, 3, 0), (.aload_n 0, 1, 0, 0, 0), (.dup, 1, 0, 0, 0), (.getfield 31, 3, 2, 4, 0), (.iconst 1, 1, 0, 0, 1), (.iload_n 1, 1, 1, 0, 0), (.ishl, 1, 0, 0, 0), (.ior, 1, 0, 0, 0), (.putfield 31, 3, 2, 4, 0), (.aload_n 0, 1, 0, 0, 0), (.dup, 1, 0, 0, 0), (.getfield 34, 3, 2, 5, 0), (.aload_n 0, 1, 0, 0, 0), (.getfield 15, 3, 2, 1, 0), (.iload_n 1, 1, 1, 0, 0), (.iaload, 1, 0, 0, 0), (.iadd, 1, 0, 0, 0), (.putfield 34, 3, 2, 5, 0)], 67),
  (67, [(.return_, 1, 0, 0, 0)], 68)]
set_option maxRecDepth 100000 in
theorem ok_X2_take : pm_oks 2 false 2 none cX2_take bk_X2_take = true := by decide +kernel
set_option maxRecDepth 100000 in
theorem me_X2_take : pm_me 57 = (yX2_take, cX2_take, 2, none, 1, 0) := rfl
theorem mt_X2_take {l : Launch} {g : pm_G} {d mc ms : Nat} {as : List Value} {A : pm_H} {Q : Option Value → pm_H → Prop} (hca : pm_cat 2 as = true) (body : ∀ J : pm_J, pm_Cl l g (fun _ => none) d mc ms (pm_Rq mc ms Q) bk_X2_take J → J 0 (pm_l0 2 as) [] A 0 0) : pm_Mt l g 57 d mc ms as A Q := pm_Mt_of (isI := false) 2 bk_X2_take me_X2_take (plainFor_of_name (by decide +kernel)) (by decide +kernel) (fun h => by cases h) ok_X2_take hca body
def bk_X2_kindsFrom : pm_B := [(0, [(.iconst 0, 1, 0, 0, 0), (.istore_n 2, 1, 2, 0, 0), (.iconst 0, 1, 0, 0, 0), (.istore_n 3, 1, 3, 0, 0)], 4),
  (4, [(.iload_n 3, 1, 3, 0, 0), (.bipush 24, 2, 0, 0, 24), (.if_icmp .ge 22, 3, 29, 0, 0), (.aload_n 0, 1, 0, 0, 0), (.getfield 9, 3, 2, 0, 0), (.iload_n 3, 1, 3, 0, 0), (.iaload, 1, 0, 0, 0), (.iload_n 1, 1, 1, 0, 0), (.if_icmp .lt 6, 3, 23, 0, 0), (.iinc 2 1, 3, 2, 0, 1)], 23),
  (23, [(.iinc 3 1, 3, 3, 0, 1), (.goto (-22), 3, 4, 0, 0)], 29),
  (29, [(.iload_n 2, 1, 2, 0, 0), (.ireturn, 1, 0, 0, 0)], 31)]
set_option maxRecDepth 100000 in
theorem ok_X2_kindsFrom : pm_oks 2 false 4 (some .int) cX2_kindsFrom bk_X2_kindsFrom = true := by decide +kernel
set_option maxRecDepth 100000 in
theorem me_X2_kindsFrom : pm_me 64 = (yX2_kindsFrom, cX2_kindsFrom, 4, (some .int), 1, 0) := rfl
theorem mt_X2_kindsFrom {l : Launch} {g : pm_G} {d mc ms : Nat} {as : List Value} {A : pm_H} {Q : Option Value → pm_H → Prop} (hca : pm_cat 4 as = true) (body : ∀ J : pm_J, pm_Cl l g (fun _ => none) d mc ms (pm_Rq mc ms Q) bk_X2_kindsFrom J → J 0 (pm_l0 4 as) [] A 0 0) : pm_Mt l g 64 d mc ms as A Q := pm_Mt_of (isI := false) 2 bk_X2_kindsFrom me_X2_kindsFrom (plainFor_of_name (by decide +kernel)) (by decide +kernel) (fun h => by cases h) ok_X2_kindsFrom hca body
def bk_X2_kindsOfJust : pm_B := [(0, [(.iconst 0, 1, 0, 0, 0), (.istore_n 2, 1, 2, 0, 0), (.iconst 0, 1, 0, 0, 0), (.istore_n 3, 1, 3, 0, 0)], 4),
  (4, [(.iload_n 3, 1, 3, 0, 0), (.bipush 24, 2, 0, 0, 24), (.if_icmp .ge 22, 3, 29, 0, 0), (.aload_n 0, 1, 0, 0, 0), (.getfield 9, 3, 2, 0, 0), (.iload_n 3, 1, 3, 0, 0), (.iaload, 1, 0, 0, 0), (.iload_n 1, 1, 1, 0, 0), (.if_icmp .ne 6, 3, 23, 0, 0), (.iinc 2 1, 3, 2, 0, 1)], 23),
  (23, [(.iinc 3 1, 3, 3, 0, 1), (.goto (-22), 3, 4, 0, 0)], 29),
  (29, [(.iload_n 2, 1, 2, 0, 0), (.ireturn, 1, 0, 0, 0)], 31)]
set_option maxRecDepth 100000 in
theorem ok_X2_kindsOfJust : pm_oks 2 false 4 (some .int) cX2_kindsOfJust bk_X2_kindsOfJust = true := by decide +kernel
set_option maxRecDepth 100000 in
theorem me_X2_kindsOfJust : pm_me 77 = (yX2_kindsOfJust, cX2_kindsOfJust, 4, (some .int), 1, 0) := rfl
theorem mt_X2_kindsOfJust {l : Launch} {g : pm_G} {d mc ms : Nat} {as : List Value} {A : pm_H} {Q : Option Value → pm_H → Prop} (hca : pm_cat 4 as = true) (body : ∀ J : pm_J, pm_Cl l g (fun _ => none) d mc ms (pm_Rq mc ms Q) bk_X2_kindsOfJust J → J 0 (pm_l0 4 as) [] A 0 0) : pm_Mt l g 77 d mc ms as A Q := pm_Mt_of (isI := false) 2 bk_X2_kindsOfJust me_X2_kindsOfJust (plainFor_of_name (by decide +kernel)) (by decide +kernel) (fun h => by cases h) ok_X2_kindsOfJust hca body
def bk_X2_largerThanPart : pm_B := [(0, [(.iconst 0, 1, 0, 0, 0), (.istore_n 2, 1, 2, 0, 0), (.iconst 0, 1, 0, 0, 0), (.istore_n 3, 1, 3, 0, 0)], 4),
  (4, [(.iload_n 3, 1, 3, 0, 0), (.bipush 24, 2, 0, 0, 24), (.if_icmp .ge 34, 3, 41, 0, 0), (.aload_n 0, 1, 0, 0, 0), (.getfield 9, 3, 2, 0, 0), (.iload_n 3, 1, 3, 0, 0), (.iaload, 1, 0, 0, 0), (.i2l, 1, 0, 0, 0), (.iload_n 1, 1, 1, 0, 0), (.i2l, 1, 0, 0, 0), (.lmul, 1, 0, 0, 0), (.aload_n 0, 1, 0, 0, 0), (.getfield 24, 3, 2, 2, 0), (.i2l, 1, 0, 0, 0), (.lcmp, 1, 0, 0, 0), (.ifCond .le 9, 3, 35, 0, 0), (.iload_n 2, 1, 2, 0, 0), (.iconst 1, 1, 0, 0, 1), (.iload_n 3, 1, 3, 0, 0), (.ishl, 1, 0, 0, 0), (.ior, 1, 0, 0, 0), (.istore_n 2, 1, 2, 0, 0)], 35),
  (35, [(.iinc 3 1, 3, 3, 0, 1), (.goto (-34), 3, 4, 0, 0)], 41),
  (41, [(.iload_n 2, 1, 2, 0, 0), (.ireturn, 1, 0, 0, 0)], 43)]
set_option maxRecDepth 100000 in
theorem ok_X2_largerThanPart : pm_oks 2 false 4 (some .int) cX2_largerThanPart bk_X2_largerThanPart = true := by decide +kernel
set_option maxRecDepth 100000 in
theorem me_X2_largerThanPart : pm_me 79 = (yX2_largerThanPart, cX2_largerThanPart, 4, (some .int), 1, 0) := rfl
theorem mt_X2_largerThanPart {l : Launch} {g : pm_G} {d mc ms : Nat} {as : List Value} {A : pm_H} {Q : Option Value → pm_H → Prop} (hca : pm_cat 4 as = true) (body : ∀ J : pm_J, pm_Cl l g (fun _ => none) d mc ms (pm_Rq mc ms Q) bk_X2_largerThanPart J → J 0 (pm_l0 4 as) [] A 0 0) : pm_Mt l g 79 d mc ms as A Q := pm_Mt_of (isI := false) 2 bk_X2_largerThanPart me_X2_largerThanPart (plainFor_of_name (by decide +kernel)) (by decide +kernel) (fun h => by cases h) ok_X2_largerThanPart hca body
def bk_X2_placesOfLargest : pm_B := [(0, [(.iconst 0, 1, 0, 0, 0), (.istore_n 2, 1, 2, 0, 0), (.iconst 0, 1, 0, 0, 0), (.istore_n 3, 1, 3, 0, 0), (.iconst 0, 1, 0, 0, 0), (.istore 4, 2, 4, 0, 0)], 7),
  (7, [(.iload 4, 2, 4, 0, 0), (.iload_n 1, 1, 1, 0, 0), (.if_icmp .ge 48, 3, 58, 0, 0), (.iload 4, 2, 4, 0, 0), (.bipush 24, 2, 0, 0, 24), (.if_icmp .ge 41, 3, 58, 0, 0), (.aload_n 0, 1, 0, 0, 0), (.iload_n 2, 1, 2, 0, 0), (.invokevirtual 53, 3, 92, 1, 2), (.istore 5, 2, 5, 0, 0), (.iload 5, 2, 5, 0, 0), (.iconst (-1), 1, 0, 0, -1), (.if_icmp .ne 5, 3, 35, 0, 0), (.iload_n 3, 1, 3, 0, 0), (.ireturn, 1, 0, 0, 0)], 35),
  (35, [(.iload_n 2, 1, 2, 0, 0), (.iconst 1, 1, 0, 0, 1), (.iload 5, 2, 5, 0, 0), (.ishl, 1, 0, 0, 0), (.ior, 1, 0, 0, 0), (.istore_n 2, 1, 2, 0, 0), (.iload_n 3, 1, 3, 0, 0), (.aload_n 0, 1, 0, 0, 0), (.getfield 9, 3, 2, 0, 0), (.iload 5, 2, 5, 0, 0), (.iaload, 1, 0, 0, 0), (.iadd, 1, 0, 0, 0), (.istore_n 3, 1, 3, 0, 0), (.iinc 4 1, 3, 4, 0, 1), (.goto (-48), 3, 7, 0, 0)], 58),
  (58, [(.iload_n 3, 1, 3, 0, 0), (.ireturn, 1, 0, 0, 0)], 60)]
set_option maxRecDepth 100000 in
theorem ok_X2_placesOfLargest : pm_oks 2 false 6 (some .int) cX2_placesOfLargest bk_X2_placesOfLargest = true := by decide +kernel
set_option maxRecDepth 100000 in
theorem me_X2_placesOfLargest : pm_me 91 = (yX2_placesOfLargest, cX2_placesOfLargest, 6, (some .int), 1, 0) := rfl
theorem mt_X2_placesOfLargest {l : Launch} {g : pm_G} {d mc ms : Nat} {as : List Value} {A : pm_H} {Q : Option Value → pm_H → Prop} (hca : pm_cat 6 as = true) (body : ∀ J : pm_J, pm_Cl l g (fun _ => none) d mc ms (pm_Rq mc ms Q) bk_X2_placesOfLargest J → J 0 (pm_l0 6 as) [] A 0 0) : pm_Mt l g 91 d mc ms as A Q := pm_Mt_of (isI := false) 2 bk_X2_placesOfLargest me_X2_placesOfLargest (plainFor_of_name (by decide +kernel)) (by decide +kernel) (fun h => by cases h) ok_X2_placesOfLargest hca body
end
section
/-! blocks, by a program -/
def bk_X2_largestBeside : pm_B := [(0, [(.iconst (-1), 1, 0, 0, -1), (.istore_n 2, 1, 2, 0, 0), (.iconst 0, 1, 0, 0, 0), (.istore_n 3, 1, 3, 0, 0)], 4),
  (4, [(.iload_n 3, 1, 3, 0, 0), (.bipush 24, 2, 0, 0, 24), (.if_icmp .ge 51, 3, 58, 0, 0), (.iload_n 1, 1, 1, 0, 0), (.iconst 1, 1, 0, 0, 1), (.iload_n 3, 1, 3, 0, 0), (.ishl, 1, 0, 0, 0), (.iand, 1, 0, 0, 0), (.ifCond .ne 7, 3, 22, 0, 0), (.iconst 1, 1, 0, 0, 1), (.goto 4, 3, 23, 0, 0)], 22),
  (22, [(.iconst 0, 1, 0, 0, 0)], 23),
  (23, [(.istore 4, 2, 4, 0, 0), (.iload 4, 2, 4, 0, 0), (.ifCond .eq 25, 3, 52, 0, 0), (.iload_n 2, 1, 2, 0, 0), (.iconst (-1), 1, 0, 0, -1), (.if_icmp .eq 18, 3, 50, 0, 0), (.aload_n 0, 1, 0, 0, 0), (.getfield 9, 3, 2, 0, 0), (.iload_n 3, 1, 3, 0, 0), (.iaload, 1, 0, 0, 0), (.aload_n 0, 1, 0, 0, 0), (.getfield 9, 3, 2, 0, 0), (.iload_n 2, 1, 2, 0, 0), (.iaload, 1, 0, 0, 0), (.if_icmp .le 5, 3, 52, 0, 0)], 50),
  (50, [(.iload_n 3, 1, 3, 0, 0), (.istore_n 2, 1, 2, 0, 0)], 52),
  (52, [(.iinc 3 1, 3, 3, 0, 1), (.goto (-51), 3, 4, 0, 0)], 58),
  (58, [(.iload_n 2, 1, 2, 0, 0), (.ireturn, 1, 0, 0, 0)], 60)]
set_option maxRecDepth 100000 in
theorem ok_X2_largestBeside : pm_oks 2 false 5 (some .int) cX2_largestBeside bk_X2_largestBeside = true := by decide +kernel
set_option maxRecDepth 100000 in
theorem me_X2_largestBeside : pm_me 92 = (yX2_largestBeside, cX2_largestBeside, 5, (some .int), 1, 0) := rfl
theorem mt_X2_largestBeside {l : Launch} {g : pm_G} {d mc ms : Nat} {as : List Value} {A : pm_H} {Q : Option Value → pm_H → Prop} (hca : pm_cat 5 as = true) (body : ∀ J : pm_J, pm_Cl l g (fun _ => none) d mc ms (pm_Rq mc ms Q) bk_X2_largestBeside J → J 0 (pm_l0 5 as) [] A 0 0) : pm_Mt l g 92 d mc ms as A Q := pm_Mt_of (isI := false) 2 bk_X2_largestBeside me_X2_largestBeside (plainFor_of_name (by decide +kernel)) (by decide +kernel) (fun h => by cases h) ok_X2_largestBeside hca body
def bk_X2_twosAlike : pm_B := [(0, [(.iconst 0, 1, 0, 0, 0), (.istore_n 1, 1, 1, 0, 0), (.iconst 0, 1, 0, 0, 0), (.istore_n 2, 1, 2, 0, 0)], 4),
  (4, [(.iload_n 2, 1, 2, 0, 0), (.bipush 24, 2, 0, 0, 24), (.if_icmp .ge 29, 3, 36, 0, 0), (.iload_n 1, 1, 1, 0, 0), (.aload_n 0, 1, 0, 0, 0), (.getfield 9, 3, 2, 0, 0), (.iload_n 2, 1, 2, 0, 0), (.iaload, 1, 0, 0, 0), (.aload_n 0, 1, 0, 0, 0), (.getfield 9, 3, 2, 0, 0), (.iload_n 2, 1, 2, 0, 0), (.iaload, 1, 0, 0, 0), (.iconst 1, 1, 0, 0, 1), (.isub, 1, 0, 0, 0), (.imul, 1, 0, 0, 0), (.iconst 2, 1, 0, 0, 2), (.idiv, 1, 0, 0, 0), (.iadd, 1, 0, 0, 0), (.istore_n 1, 1, 1, 0, 0), (.iinc 2 1, 3, 2, 0, 1), (.goto (-29), 3, 4, 0, 0)], 36),
  (36, [(.iload_n 1, 1, 1, 0, 0), (.ireturn, 1, 0, 0, 0)], 38)]
set_option maxRecDepth 100000 in
theorem ok_X2_twosAlike : pm_oks 2 false 3 (some .int) cX2_twosAlike bk_X2_twosAlike = true := by decide +kernel
set_option maxRecDepth 100000 in
theorem me_X2_twosAlike : pm_me 95 = (yX2_twosAlike, cX2_twosAlike, 3, (some .int), 0, 0) := rfl
theorem mt_X2_twosAlike {l : Launch} {g : pm_G} {d mc ms : Nat} {as : List Value} {A : pm_H} {Q : Option Value → pm_H → Prop} (hca : pm_cat 3 as = true) (body : ∀ J : pm_J, pm_Cl l g (fun _ => none) d mc ms (pm_Rq mc ms Q) bk_X2_twosAlike J → J 0 (pm_l0 3 as) [] A 0 0) : pm_Mt l g 95 d mc ms as A Q := pm_Mt_of (isI := false) 2 bk_X2_twosAlike me_X2_twosAlike (plainFor_of_name (by decide +kernel)) (by decide +kernel) (fun h => by cases h) ok_X2_twosAlike hca body
def bk_X2_drop : pm_B := [(0, [(.aload_n 0, 1, 0, 0, 0), (.dup, 1, 0, 0, 0), (.getfield 24, 3, 2, 2, 0), (.iconst 1, 1, 0, 0, 1), (.isub, 1, 0, 0, 0), (.putfield 24, 3, 2, 2, 0), (.aload_n 0, 1, 0, 0, 0), (.getfield 9, 3, 2, 0, 0), (.iload_n 1, 1, 1, 0, 0), (.dup2, 1, 0, 0, 0), (.iaload, 1, 0, 0, 0), (.iconst 1, 1, 0, 0, 1), (.isub, 1, 0, 0, 0), (.iastore, 1, 0, 0, 0), (.aload_n 0, 1, 0, 0, 0), (.getfield 9, 3, 2, 0, 0), (.iload_n 1, 1, 1, 0, 0), (.iaload, 1, 0, 0, 0), (.ifCond .ne 42, 3, 68, 0, 0), (.aload_n 0, 1, 0, 0, 0), (.dup, 1, 0, 0, 0), (.getfield 28, 3, 2, 3, 0), (.iconst 1, 1, 0, 0, 1), (.isub, 1, 0, 0, 0), (.putfield 28, 3, 2, 3, 0), (.aload_n 0, 1, 0, 0, 0), (.dup, 1, 0, 0, 0), (.getfield 31, 3, 2, 4, 0), (.iconst 1, 1, 0, 0, 1), (.iload_n 1, 1, 1, 0, 0), (.ishl, 1, 0, 0, 0), (.iconst (-1), 1, 0, 0, -1), (.ixor, 1, 0, 0, 0), (.iand, 1, 0, 0, 0), (.putfield 31, 3, 2, 4, 0), (.aload_n 0, 1, 0, 0, 0), (.dup, 1, 0, 0, 0), (.getfield 34, 3, 2, 5, 0), (.aload_n 0, 1, 0, 0, 0), (.getfield 15, 3, 2, 1, 0), (.iload_n 1, 1, 1, 0, 0), (.iaload, 1, 0, 0, 0), (.isub, 1, 0, 0, 0), (.putfield 34, 3, 2, 5, 0)], 68),
  (68, [(.return_, 1, 0, 0, 0)], 69)]
set_option maxRecDepth 100000 in
theorem ok_X2_drop : pm_oks 2 false 2 none cX2_drop bk_X2_drop = true := by decide +kernel
set_option maxRecDepth 100000 in
theorem me_X2_drop : pm_me 113 = (yX2_drop, cX2_drop, 2, none, 1, 0) := rfl
theorem mt_X2_drop {l : Launch} {g : pm_G} {d mc ms : Nat} {as : List Value} {A : pm_H} {Q : Option Value → pm_H → Prop} (hca : pm_cat 2 as = true) (body : ∀ J : pm_J, pm_Cl l g (fun _ => none) d mc ms (pm_Rq mc ms Q) bk_X2_drop J → J 0 (pm_l0 2 as) [] A 0 0) : pm_Mt l g 113 d mc ms as A Q := pm_Mt_of (isI := false) 2 bk_X2_drop me_X2_drop (plainFor_of_name (by decide +kernel)) (by decide +kernel) (fun h => by cases h) ok_X2_drop hca body
def bk_J7_fill_53178 : pm_B := [(0, [(.iconst 0, 1, 0, 0, 0), (.istore_n 2, 1, 2, 0, 0), (.aload_n 0, 1, 0, 0, 0), (.arraylength, 1, 0, 0, 0), (.istore_n 3, 1, 3, 0, 0)], 5),
  (5, [(.iload_n 2, 1, 2, 0, 0), (.iload_n 3, 1, 3, 0, 0), (.if_icmp .ge 13, 3, 20, 0, 0), (.aload_n 0, 1, 0, 0, 0), (.iload_n 2, 1, 2, 0, 0), (.iload_n 1, 1, 1, 0, 0), (.iastore, 1, 0, 0, 0), (.iinc 2 1, 3, 2, 0, 1), (.goto (-12), 3, 5, 0, 0)], 20),
  (20, [(.return_, 1, 0, 0, 0)], 21)]
set_option maxRecDepth 100000 in
theorem ok_J7_fill_53178 : pm_oks 15 false 4 none cJ7_fill_53178 bk_J7_fill_53178 = true := by decide +kernel
set_option maxRecDepth 100000 in
theorem me_J7_fill_53178 : pm_me 4 = (yJ7_fill_53178, cJ7_fill_53178, 4, none, 2, 1) := rfl
theorem mt_J7_fill_53178 {l : Launch} {g : pm_G} {d mc ms : Nat} {as : List Value} {A : pm_H} {Q : Option Value → pm_H → Prop} (hca : pm_cat 4 as = true) (body : ∀ J : pm_J, pm_Cl l g (fun _ => none) d mc ms (pm_Rq mc ms Q) bk_J7_fill_53178 J → J 0 (pm_l0 4 as) [] A 0 0) : pm_Mt l g 4 d mc ms as A Q := pm_Mt_of (isI := false) 15 bk_J7_fill_53178 me_J7_fill_53178 (plainFor_of_name (by decide +kernel)) (by decide +kernel) (fun h => by cases h) ok_J7_fill_53178 hca body
def bk_X0_init : pm_B := [(0, [(.aload_n 0, 1, 0, 0, 0), (.invokespecial 3, 3, 0, 0, 0), (.aload_n 0, 1, 0, 0, 0), (.bipush 24, 2, 0, 0, 24), (.newarray .int, 2, 24, 0, 0), (.putfield 9, 3, 0, 0, 1), (.aload_n 0, 1, 0, 0, 0), (.sipush 160, 3, 0, 0, 160), (.newarray .int, 2, 160, 0, 0), (.putfield 15, 3, 0, 1, 1), (.return_, 1, 0, 0, 0)], 22)]
set_option maxRecDepth 100000 in
theorem ok_X0_init : pm_oks 0 true 1 none cX0_init bk_X0_init = true := by decide +kernel
set_option maxRecDepth 100000 in
theorem me_X0_init : pm_me 5 = (yX0_init, cX0_init, 1, none, 0, 2) := rfl
theorem mt_X0_init {l : Launch} {g : pm_G} {d mc ms : Nat} {as : List Value} {A : pm_H} {Q : Option Value → pm_H → Prop} (hca : pm_cat 1 as = true) (body : ∀ J : pm_J, pm_Cl l g (fun _ => none) d mc ms (pm_Rq mc ms Q) bk_X0_init J → J 0 (pm_l0 1 as) [] A 0 0) : pm_Mt l g 5 d mc ms as A Q := pm_Mt_of (isI := true) 0 bk_X0_init me_X0_init (plainFor_of_name (by decide +kernel)) (by decide +kernel) (fun _ => by decide +kernel) ok_X0_init hca body
def bk_X0_reported : pm_B := [(0, [(.aload_n 0, 1, 0, 0, 0), (.getfield 15, 3, 0, 1, 0), (.iconst (-1), 1, 0, 0, -1), (.invokestatic 18, 3, 4, 2, 0), (.iconst 0, 1, 0, 0, 0), (.istore 5, 2, 5, 0, 0), (.iload_n 2, 1, 2, 0, 0), (.istore 6, 2, 6, 0, 0)], 14),
  (14, [(.iload 6, 2, 6, 0, 0), (.iload_n 3, 1, 3, 0, 0), (.if_icmp .gt 55, 3, 72, 0, 0), (.aload_n 1, 1, 1, 0, 0), (.getfield 24, 3, 7, 2, 0), (.iload 6, 2, 6, 0, 0), (.iaload, 1, 0, 0, 0), (.istore 7, 2, 7, 0, 0), (.iload 7, 2, 7, 0, 0), (.iconst (-1), 1, 0, 0, -1), (.if_icmp .ne 19, 3, 51, 0, 0), (.iload 5, 2, 5, 0, 0), (.iload 4, 2, 4, 0, 0), (.if_icmp .ne 6, 3, 45, 0, 0), (.iload 6, 2, 6, 0, 0), (.ireturn, 1, 0, 0, 0)], 45),
  (45, [(.iinc 5 1, 3, 5, 0, 1), (.goto 18, 3, 66, 0, 0)], 51),
  (51, [(.iload 7, 2, 7, 0, 0), (.iload_n 2, 1, 2, 0, 0), (.if_icmp .ge 12, 3, 66, 0, 0), (.aload_n 0, 1, 0, 0, 0), (.getfield 15, 3, 0, 1, 0), (.iload 7, 2, 7, 0, 0), (.iload 6, 2, 6, 0, 0), (.iastore, 1, 0, 0, 0)], 66),
  (66, [(.iinc 6 1, 3, 6, 0, 1), (.goto (-55), 3, 14, 0, 0)], 72),
  (72, [(.iconst 0, 1, 0, 0, 0), (.istore 6, 2, 6, 0, 0)], 75),
  (75, [(.iload 6, 2, 6, 0, 0), (.iload_n 2, 1, 2, 0, 0), (.if_icmp .ge 38, 3, 116, 0, 0), (.aload_n 0, 1, 0, 0, 0), (.getfield 15, 3, 0, 1, 0), (.iload 6, 2, 6, 0, 0), (.iaload, 1, 0, 0, 0), (.iconst (-1), 1, 0, 0, -1), (.if_icmp .eq 21, 3, 110, 0, 0), (.iload 5, 2, 5, 0, 0), (.iload 4, 2, 4, 0, 0), (.if_icmp .ne 11, 3, 107, 0, 0), (.aload_n 0, 1, 0, 0, 0), (.getfield 15, 3, 0, 1, 0), (.iload 6, 2, 6, 0, 0), (.iaload, 1, 0, 0, 0), (.ireturn, 1, 0, 0, 0)], 107),
  (107, [(.iinc 5 1, 3, 5, 0, 1)], 110),
  (110, [(.iinc 6 1, 3, 6, 0, 1), (.goto (-38), 3, 75, 0, 0)], 116),
  (116, [(.iconst (-1), 1, 0, 0, -1), (.ireturn, 1, 0, 0, 0)], 118)]
set_option maxRecDepth 100000 in
theorem ok_X0_reported : pm_oks 0 false 8 (some .int) cX0_reported bk_X0_reported = true := by decide +kernel
set_option maxRecDepth 100000 in
theorem me_X0_reported : pm_me 66 = (yX0_reported, cX0_reported, 8, (some .int), 4, 0) := rfl
theorem mt_X0_reported {l : Launch} {g : pm_G} {d mc ms : Nat} {as : List Value} {A : pm_H} {Q : Option Value → pm_H → Prop} (hca : pm_cat 8 as = true) (body : ∀ J : pm_J, pm_Cl l g (fun _ => none) d mc ms (pm_Rq mc ms Q) bk_X0_reported J → J 0 (pm_l0 8 as) [] A 0 0) : pm_Mt l g 66 d mc ms as A Q := pm_Mt_of (isI := false) 0 bk_X0_reported me_X0_reported (plainFor_of_name (by decide +kernel)) (by decide +kernel) (fun h => by cases h) ok_X0_reported hca body
def bk_X0_colourInOrder : pm_B := [(0, [(.iload 6, 2, 6, 0, 0), (.tableswitch 93 0 4 #[34, 46, 58, 69, 81], 34, 2, 0, 0)], 36),
  (36, [(.aload_n 0, 1, 0, 0, 0), (.aload_n 1, 1, 1, 0, 0), (.iload_n 3, 1, 3, 0, 0), (.iload 4, 2, 4, 0, 0), (.iconst 1, 1, 0, 0, 1), (.invokevirtual 29, 3, 69, 4, 0), (.goto 52, 3, 97, 0, 0)], 48),
  (48, [(.aload_n 0, 1, 0, 0, 0), (.aload_n 1, 1, 1, 0, 0), (.iload 4, 2, 4, 0, 0), (.iload_n 3, 1, 3, 0, 0), (.iconst (-1), 1, 0, 0, -1), (.invokevirtual 29, 3, 69, 4, 0), (.goto 40, 3, 97, 0, 0)], 60),
  (60, [(.aload_n 0, 1, 0, 0, 0), (.aload_n 2, 1, 2, 0, 0), (.getfield 33, 3, 2, 4, 0), (.iload 5, 2, 5, 0, 0), (.invokevirtual 39, 3, 71, 2, 0), (.ireturn, 1, 0, 0, 0)], 71),
  (71, [(.aload_n 0, 1, 0, 0, 0), (.aload_n 2, 1, 2, 0, 0), (.aload_n 2, 1, 2, 0, 0), (.getfield 43, 3, 2, 1, 0), (.invokevirtual 46, 3, 72, 2, 0), (.goto 17, 3, 97, 0, 0)], 83),
  (83, [(.aload_n 0, 1, 0, 0, 0), (.aload_n 2, 1, 2, 0, 0), (.aload_n 2, 1, 2, 0, 0), (.getfield 50, 3, 2, 0, 0), (.invokevirtual 46, 3, 72, 2, 0), (.goto 5, 3, 97, 0, 0)], 95),
  (95, [(.iconst (-1), 1, 0, 0, -1), (.ireturn, 1, 0, 0, 0)], 97),
  (97, [(.iload 5, 2, 5, 0, 0), (.ifCond .lt 22, 3, 121, 0, 0), (.iload 5, 2, 5, 0, 0), (.aload_n 0, 1, 0, 0, 0), (.getfield 53, 3, 0, 2, 0), (.if_icmp .ge 13, 3, 121, 0, 0), (.aload_n 0, 1, 0, 0, 0), (.getfield 9, 3, 0, 0, 0), (.iload 5, 2, 5, 0, 0), (.iaload, 1, 0, 0, 0), (.goto 4, 3, 122, 0, 0)], 121),
  (121, [(.iconst (-1), 1, 0, 0, -1)], 122),
  (122, [(.ireturn, 1, 0, 0, 0)], 123)]
set_option maxRecDepth 100000 in
theorem ok_X0_colourInOrder : pm_oks 0 false 7 (some .int) cX0_colourInOrder bk_X0_colourInOrder = true := by decide +kernel
set_option maxRecDepth 100000 in
theorem me_X0_colourInOrder : pm_me 68 = (yX0_colourInOrder, cX0_colourInOrder, 7, (some .int), 6, 0) := rfl
theorem mt_X0_colourInOrder {l : Launch} {g : pm_G} {d mc ms : Nat} {as : List Value} {A : pm_H} {Q : Option Value → pm_H → Prop} (hca : pm_cat 7 as = true) (body : ∀ J : pm_J, pm_Cl l g (fun _ => none) d mc ms (pm_Rq mc ms Q) bk_X0_colourInOrder J → J 0 (pm_l0 7 as) [] A 0 0) : pm_Mt l g 68 d mc ms as A Q := pm_Mt_of (isI := false) 0 bk_X0_colourInOrder me_X0_colourInOrder (plainFor_of_name (by decide +kernel)) (by decide +kernel) (fun h => by cases h) ok_X0_colourInOrder hca body
def bk_X0_listAsMet : pm_B := [(0, [(.iconst 0, 1, 0, 0, 0), (.istore 5, 2, 5, 0, 0), (.iload_n 3, 1, 3, 0, 0), (.iload_n 2, 1, 2, 0, 0), (.isub, 1, 0, 0, 0), (.invokestatic 56, 3, 70, 1, 0), (.istore 6, 2, 6, 0, 0), (.aload_n 0, 1, 0, 0, 0), (.iconst 0, 1, 0, 0, 0), (.putfield 53, 3, 0, 2, 0), (.iconst 0, 1, 0, 0, 0), (.istore 7, 2, 7, 0, 0)], 19),
  (19, [(.iload 7, 2, 7, 0, 0), (.iload 6, 2, 6, 0, 0), (.if_icmp .gt 72, 3, 95, 0, 0), (.aload_n 1, 1, 1, 0, 0), (.getfield 62, 3, 7, 0, 0), (.iload_n 2, 1, 2, 0, 0), (.iload 7, 2, 7, 0, 0), (.iload 4, 2, 4, 0, 0), (.imul, 1, 0, 0, 0), (.iadd, 1, 0, 0, 0), (.iaload, 1, 0, 0, 0), (.istore 8, 2, 8, 0, 0), (.iload 5, 2, 5, 0, 0), (.iconst 1, 1, 0, 0, 1), (.iload 8, 2, 8, 0, 0), (.ishl, 1, 0, 0, 0), (.iand, 1, 0, 0, 0), (.ifCond .ne 42, 3, 89, 0, 0), (.aload_n 0, 1, 0, 0, 0), (.getfield 53, 3, 0, 2, 0), (.bipush 24, 2, 0, 0, 24), (.if_icmp .ge 33, 3, 89, 0, 0), (.iload 5, 2, 5, 0, 0), (.iconst 1, 1, 0, 0, 1), (.iload 8, 2, 8, 0, 0), (.ishl, 1, 0, 0, 0), (.ior, 1, 0, 0, 0), (.istore 5, 2, 5, 0, 0), (.aload_n 0, 1, 0, 0, 0), (.getfield 9, 3, 0, 0, 0), (.aload_n 0, 1, 0, 0, 0), (.getfield 53, 3, 0, 2, 0), (.iload 8, 2, 8, 0, 0), (.iastore, 1, 0, 0, 0), (.aload_n 0, 1, 0, 0, 0), (.dup, 1, 0, 0, 0), (.getfield 53, 3, 0, 2, 0), (.iconst 1, 1, 0, 0, 1), (.iadd, 1, 0, 0, 0), (.putfield 53, 3, 0, 2, 0)], 89),
  (89, [(.iinc 7 1, 3, 7, 0, 1), (.goto (-73), 3, 19, 0, 0)], 95),
  (95, [(.return_, 1, 0, 0, 0)], 96)]
set_option maxRecDepth 100000 in
theorem ok_X0_listAsMet : pm_oks 0 false 9 none cX0_listAsMet bk_X0_listAsMet = true := by decide +kernel
set_option maxRecDepth 100000 in
theorem me_X0_listAsMet : pm_me 69 = (yX0_listAsMet, cX0_listAsMet, 9, none, 4, 0) := rfl
theorem mt_X0_listAsMet {l : Launch} {g : pm_G} {d mc ms : Nat} {as : List Value} {A : pm_H} {Q : Option Value → pm_H → Prop} (hca : pm_cat 9 as = true) (body : ∀ J : pm_J, pm_Cl l g (fun _ => none) d mc ms (pm_Rq mc ms Q) bk_X0_listAsMet J → J 0 (pm_l0 9 as) [] A 0 0) : pm_Mt l g 69 d mc ms as A Q := pm_Mt_of (isI := false) 0 bk_X0_listAsMet me_X0_listAsMet (plainFor_of_name (by decide +kernel)) (by decide +kernel) (fun h => by cases h) ok_X0_listAsMet hca body
def bk_X0_colourOf : pm_B := [(0, [(.iconst 0, 1, 0, 0, 0), (.istore_n 3, 1, 3, 0, 0), (.iconst 0, 1, 0, 0, 0), (.istore 4, 2, 4, 0, 0)], 5),
  (5, [(.iload 4, 2, 4, 0, 0), (.bipush 24, 2, 0, 0, 24), (.if_icmp .ge 29, 3, 38, 0, 0), (.iload_n 1, 1, 1, 0, 0), (.iconst 1, 1, 0, 0, 1), (.iload 4, 2, 4, 0, 0), (.ishl, 1, 0, 0, 0), (.iand, 1, 0, 0, 0), (.ifCond .eq 14, 3, 32, 0, 0), (.iload_n 3, 1, 3, 0, 0), (.iload_n 2, 1, 2, 0, 0), (.if_icmp .ne 6, 3, 29, 0, 0), (.iload 4, 2, 4, 0, 0), (.ireturn, 1, 0, 0, 0)], 29),
  (29, [(.iinc 3 1, 3, 3, 0, 1)], 32),
  (32, [(.iinc 4 1, 3, 4, 0, 1), (.goto (-30), 3, 5, 0, 0)], 38),
  (38, [(.iconst (-1), 1, 0, 0, -1), (.ireturn, 1, 0, 0, 0)], 40)]
set_option maxRecDepth 100000 in
theorem ok_X0_colourOf : pm_oks 0 false 5 (some .int) cX0_colourOf bk_X0_colourOf = true := by decide +kernel
set_option maxRecDepth 100000 in
theorem me_X0_colourOf : pm_me 71 = (yX0_colourOf, cX0_colourOf, 5, (some .int), 2, 0) := rfl
theorem mt_X0_colourOf {l : Launch} {g : pm_G} {d mc ms : Nat} {as : List Value} {A : pm_H} {Q : Option Value → pm_H → Prop} (hca : pm_cat 5 as = true) (body : ∀ J : pm_J, pm_Cl l g (fun _ => none) d mc ms (pm_Rq mc ms Q) bk_X0_colourOf J → J 0 (pm_l0 5 as) [] A 0 0) : pm_Mt l g 71 d mc ms as A Q := pm_Mt_of (isI := false) 0 bk_X0_colourOf me_X0_colourOf (plainFor_of_name (by decide +kernel)) (by decide +kernel) (fun h => by cases h) ok_X0_colourOf hca body
def bk_X0_listByMost : pm_B := [(0, [(.aload_n 0, 1, 0, 0, 0), (.iconst 0, 1, 0, 0, 0), (.putfield 53, 3, 0, 2, 0), (.iconst 0, 1, 0, 0, 0), (.istore_n 3, 1, 3, 0, 0)], 7),
  (7, [(.iload_n 3, 1, 3, 0, 0), (.bipush 24, 2, 0, 0, 24), (.if_icmp .ge 86, 3, 96, 0, 0), (.aload_n 1, 1, 1, 0, 0), (.getfield 50, 3, 2, 0, 0), (.iload_n 3, 1, 3, 0, 0), (.iaload, 1, 0, 0, 0), (.ifCond .le 71, 3, 90, 0, 0), (.aload_n 0, 1, 0, 0, 0), (.getfield 53, 3, 0, 2, 0), (.istore 4, 2, 4, 0, 0)], 28),
  (28, [(.iload 4, 2, 4, 0, 0), (.ifCond .le 42, 3, 72, 0, 0), (.aload_n 2, 1, 2, 0, 0), (.aload_n 0, 1, 0, 0, 0), (.getfield 9, 3, 0, 0, 0), (.iload 4, 2, 4, 0, 0), (.iconst 1, 1, 0, 0, 1), (.isub, 1, 0, 0, 0), (.iaload, 1, 0, 0, 0), (.iaload, 1, 0, 0, 0), (.aload_n 2, 1, 2, 0, 0), (.iload_n 3, 1, 3, 0, 0), (.iaload, 1, 0, 0, 0), (.if_icmp .ge 25, 3, 72, 0, 0), (.aload_n 0, 1, 0, 0, 0), (.getfield 9, 3, 0, 0, 0), (.iload 4, 2, 4, 0, 0), (.aload_n 0, 1, 0, 0, 0), (.getfield 9, 3, 0, 0, 0), (.iload 4, 2, 4, 0, 0), (.iconst 1, 1, 0, 0, 1), (.isub, 1, 0, 0, 0), (.iaload, 1, 0, 0, 0), (.iastore, 1, 0, 0, 0), (.iinc 4 (-1), 3, 4, 0, -1), (.goto (-41), 3, 28, 0, 0)], 72),
  (72, [(.aload_n 0, 1, 0, 0, 0), (.getfield 9, 3, 0, 0, 0), (.iload 4, 2, 4, 0, 0), (.iload_n 3, 1, 3, 0, 0), (.iastore, 1, 0, 0, 0), (.aload_n 0, 1, 0, 0, 0), (.dup, 1, 0, 0, 0), (.getfield 53, 3, 0, 2, 0), (.iconst 1, 1, 0, 0, 1), (.iadd, 1, 0, 0, 0), (.putfield 53, 3, 0, 2, 0)], 90),
  (90, [(.iinc 3 1, 3, 3, 0, 1), (.goto (-86), 3, 7, 0, 0)], 96),
  (96, [(.return_, 1, 0, 0, 0)], 97)]
set_option maxRecDepth 100000 in
theorem ok_X0_listByMost : pm_oks 0 false 5 none cX0_listByMost bk_X0_listByMost = true := by decide +kernel
set_option maxRecDepth 100000 in
theorem me_X0_listByMost : pm_me 72 = (yX0_listByMost, cX0_listByMost, 5, none, 2, 0) := rfl
theorem mt_X0_listByMost {l : Launch} {g : pm_G} {d mc ms : Nat} {as : List Value} {A : pm_H} {Q : Option Value → pm_H → Prop} (hca : pm_cat 5 as = true) (body : ∀ J : pm_J, pm_Cl l g (fun _ => none) d mc ms (pm_Rq mc ms Q) bk_X0_listByMost J → J 0 (pm_l0 5 as) [] A 0 0) : pm_Mt l g 72 d mc ms as A Q := pm_Mt_of (isI := false) 0 bk_X0_listByMost me_X0_listByMost (plainFor_of_name (by decide +kernel)) (by decide +kernel) (fun h => by cases h) ok_X0_listByMost hca body
def bk_X1_init : pm_B := [(0, [(.aload_n 0, 1, 0, 0, 0), (.invokespecial 3, 3, 0, 0, 0), (.aload_n 0, 1, 0, 0, 0), (.sipush 160, 3, 0, 0, 160), (.newarray .int, 2, 160, 0, 0), (.putfield 9, 3, 1, 0, 1), (.aload_n 0, 1, 0, 0, 0), (.bipush 24, 2, 0, 0, 24), (.newarray .int, 2, 24, 0, 0), (.putfield 15, 3, 1, 1, 1), (.aload_n 0, 1, 0, 0, 0), (.bipush 24, 2, 0, 0, 24), (.newarray .int, 2, 24, 0, 0), (.putfield 18, 3, 1, 2, 1), (.return_, 1, 0, 0, 0)], 30)]
set_option maxRecDepth 100000 in
theorem ok_X1_init : pm_oks 1 true 1 none cX1_init bk_X1_init = true := by decide +kernel
set_option maxRecDepth 100000 in
theorem me_X1_init : pm_me 6 = (yX1_init, cX1_init, 1, none, 0, 2) := rfl
theorem mt_X1_init {l : Launch} {g : pm_G} {d mc ms : Nat} {as : List Value} {A : pm_H} {Q : Option Value → pm_H → Prop} (hca : pm_cat 1 as = true) (body : ∀ J : pm_J, pm_Cl l g (fun _ => none) d mc ms (pm_Rq mc ms Q) bk_X1_init J → J 0 (pm_l0 1 as) [] A 0 0) : pm_Mt l g 6 d mc ms as A Q := pm_Mt_of (isI := true) 1 bk_X1_init me_X1_init (plainFor_of_name (by decide +kernel)) (by decide +kernel) (fun _ => by decide +kernel) ok_X1_init hca body
def bk_X1_findNearestAlike : pm_B := [(0, [(.aload_n 0, 1, 0, 0, 0), (.invokevirtual 28, 3, 82, 0, 1), (.iload_n 2, 1, 2, 0, 0), (.istore 4, 2, 4, 0, 0)], 7),
  (7, [(.iload 4, 2, 4, 0, 0), (.iload_n 3, 1, 3, 0, 0), (.if_icmp .gt 33, 3, 43, 0, 0), (.aload_n 1, 1, 1, 0, 0), (.getfield 31, 3, 7, 2, 0), (.iload 4, 2, 4, 0, 0), (.iaload, 1, 0, 0, 0), (.iload_n 2, 1, 2, 0, 0), (.if_icmp .lt 16, 3, 37, 0, 0), (.aload_n 0, 1, 0, 0, 0), (.aload_n 1, 1, 1, 0, 0), (.getfield 31, 3, 7, 2, 0), (.iload 4, 2, 4, 0, 0), (.iaload, 1, 0, 0, 0), (.iload 4, 2, 4, 0, 0), (.invokevirtual 36, 3, 83, 2, 1)], 37),
  (37, [(.iinc 4 1, 3, 4, 0, 1), (.goto (-33), 3, 7, 0, 0)], 43),
  (43, [(.return_, 1, 0, 0, 0)], 44)]
set_option maxRecDepth 100000 in
theorem ok_X1_findNearestAlike : pm_oks 1 false 5 none cX1_findNearestAlike bk_X1_findNearestAlike = true := by decide +kernel
set_option maxRecDepth 100000 in
theorem me_X1_findNearestAlike : pm_me 81 = (yX1_findNearestAlike, cX1_findNearestAlike, 5, none, 3, 0) := rfl
theorem mt_X1_findNearestAlike {l : Launch} {g : pm_G} {d mc ms : Nat} {as : List Value} {A : pm_H} {Q : Option Value → pm_H → Prop} (hca : pm_cat 5 as = true) (body : ∀ J : pm_J, pm_Cl l g (fun _ => none) d mc ms (pm_Rq mc ms Q) bk_X1_findNearestAlike J → J 0 (pm_l0 5 as) [] A 0 0) : pm_Mt l g 81 d mc ms as A Q := pm_Mt_of (isI := false) 1 bk_X1_findNearestAlike me_X1_findNearestAlike (plainFor_of_name (by decide +kernel)) (by decide +kernel) (fun h => by cases h) ok_X1_findNearestAlike hca body
def bk_X1_clearPair : pm_B := [(0, [(.aload_n 0, 1, 0, 0, 0), (.iconst (-1), 1, 0, 0, -1), (.putfield 21, 3, 1, 3, 0), (.aload_n 0, 1, 0, 0, 0), (.iconst (-1), 1, 0, 0, -1), (.putfield 25, 3, 1, 4, 0), (.return_, 1, 0, 0, 0)], 11)]
set_option maxRecDepth 100000 in
theorem ok_X1_clearPair : pm_oks 1 false 1 none cX1_clearPair bk_X1_clearPair = true := by decide +kernel
set_option maxRecDepth 100000 in
theorem me_X1_clearPair : pm_me 82 = (yX1_clearPair, cX1_clearPair, 1, none, 0, 0) := rfl
theorem mt_X1_clearPair {l : Launch} {g : pm_G} {d mc ms : Nat} {as : List Value} {A : pm_H} {Q : Option Value → pm_H → Prop} (hca : pm_cat 1 as = true) (body : ∀ J : pm_J, pm_Cl l g (fun _ => none) d mc ms (pm_Rq mc ms Q) bk_X1_clearPair J → J 0 (pm_l0 1 as) [] A 0 0) : pm_Mt l g 82 d mc ms as A Q := pm_Mt_of (isI := false) 1 bk_X1_clearPair me_X1_clearPair (plainFor_of_name (by decide +kernel)) (by decide +kernel) (fun h => by cases h) ok_X1_clearPair hca body
def bk_X1_offerPair : pm_B := [(0, [(.aload_n 0, 1, 0, 0, 0), (.getfield 21, 3, 1, 3, 0), (.iconst (-1), 1, 0, 0, -1), (.if_icmp .eq 13, 3, 18, 0, 0), (.iload_n 2, 1, 2, 0, 0), (.iload_n 1, 1, 1, 0, 0), (.isub, 1, 0, 0, 0), (.aload_n 0, 1, 0, 0, 0), (.getfield 21, 3, 1, 3, 0), (.if_icmp .ge 15, 3, 30, 0, 0)], 18),
  (18, [(.aload_n 0, 1, 0, 0, 0), (.iload_n 2, 1, 2, 0, 0), (.iload_n 1, 1, 1, 0, 0), (.isub, 1, 0, 0, 0), (.putfield 21, 3, 1, 3, 0), (.aload_n 0, 1, 0, 0, 0), (.iload_n 1, 1, 1, 0, 0), (.putfield 25, 3, 1, 4, 0)], 30),
  (30, [(.return_, 1, 0, 0, 0)], 31)]
set_option maxRecDepth 100000 in
theorem ok_X1_offerPair : pm_oks 1 false 3 none cX1_offerPair bk_X1_offerPair = true := by decide +kernel
set_option maxRecDepth 100000 in
theorem me_X1_offerPair : pm_me 83 = (yX1_offerPair, cX1_offerPair, 3, none, 2, 0) := rfl
theorem mt_X1_offerPair {l : Launch} {g : pm_G} {d mc ms : Nat} {as : List Value} {A : pm_H} {Q : Option Value → pm_H → Prop} (hca : pm_cat 3 as = true) (body : ∀ J : pm_J, pm_Cl l g (fun _ => none) d mc ms (pm_Rq mc ms Q) bk_X1_offerPair J → J 0 (pm_l0 3 as) [] A 0 0) : pm_Mt l g 83 d mc ms as A Q := pm_Mt_of (isI := false) 1 bk_X1_offerPair me_X1_offerPair (plainFor_of_name (by decide +kernel)) (by decide +kernel) (fun h => by cases h) ok_X1_offerPair hca body
def bk_X1_pairFound : pm_B := [(0, [(.iload_n 1, 1, 1, 0, 0), (.ifCond .ne 10, 3, 11, 0, 0), (.aload_n 0, 1, 0, 0, 0), (.getfield 21, 3, 1, 3, 0), (.goto 16, 3, 24, 0, 0)], 11),
  (11, [(.iload_n 1, 1, 1, 0, 0), (.iconst 1, 1, 0, 0, 1), (.if_icmp .ne 10, 3, 23, 0, 0), (.aload_n 0, 1, 0, 0, 0), (.getfield 25, 3, 1, 4, 0), (.goto 4, 3, 24, 0, 0)], 23),
  (23, [(.iconst (-1), 1, 0, 0, -1)], 24),
  (24, [(.ireturn, 1, 0, 0, 0)], 25)]
set_option maxRecDepth 100000 in
theorem ok_X1_pairFound : pm_oks 1 false 2 (some .int) cX1_pairFound bk_X1_pairFound = true := by decide +kernel
set_option maxRecDepth 100000 in
theorem me_X1_pairFound : pm_me 84 = (yX1_pairFound, cX1_pairFound, 2, (some .int), 1, 0) := rfl
theorem mt_X1_pairFound {l : Launch} {g : pm_G} {d mc ms : Nat} {as : List Value} {A : pm_H} {Q : Option Value → pm_H → Prop} (hca : pm_cat 2 as = true) (body : ∀ J : pm_J, pm_Cl l g (fun _ => none) d mc ms (pm_Rq mc ms Q) bk_X1_pairFound J → J 0 (pm_l0 2 as) [] A 0 0) : pm_Mt l g 84 d mc ms as A Q := pm_Mt_of (isI := false) 1 bk_X1_pairFound me_X1_pairFound (plainFor_of_name (by decide +kernel)) (by decide +kernel) (fun h => by cases h) ok_X1_pairFound hca body
def bk_X1_unlikeTwos : pm_B := [(0, [(.aload_n 0, 1, 0, 0, 0), (.getfield 18, 3, 1, 2, 0), (.iconst 0, 1, 0, 0, 0), (.invokestatic 46, 3, 4, 2, 0), (.iconst 0, 1, 0, 0, 0), (.istore 4, 2, 4, 0, 0), (.iload_n 2, 1, 2, 0, 0), (.iconst 1, 1, 0, 0, 1), (.iadd, 1, 0, 0, 0), (.istore 5, 2, 5, 0, 0)], 16),
  (16, [(.iload 5, 2, 5, 0, 0), (.iload_n 3, 1, 3, 0, 0), (.if_icmp .gt 90, 3, 109, 0, 0), (.aload_n 1, 1, 1, 0, 0), (.getfield 43, 3, 7, 0, 0), (.iload 5, 2, 5, 0, 0), (.iconst 1, 1, 0, 0, 1), (.isub, 1, 0, 0, 0), (.iaload, 1, 0, 0, 0), (.aload_n 1, 1, 1, 0, 0), (.getfield 43, 3, 7, 0, 0), (.iload 5, 2, 5, 0, 0), (.iaload, 1, 0, 0, 0), (.invokestatic 52, 3, 87, 2, 0), (.istore 6, 2, 6, 0, 0), (.aload_n 1, 1, 1, 0, 0), (.getfield 43, 3, 7, 0, 0), (.iload 5, 2, 5, 0, 0), (.iconst 1, 1, 0, 0, 1), (.isub, 1, 0, 0, 0), (.iaload, 1, 0, 0, 0), (.aload_n 1, 1, 1, 0, 0), (.getfield 43, 3, 7, 0, 0), (.iload 5, 2, 5, 0, 0), (.iaload, 1, 0, 0, 0), (.invokestatic 58, 3, 51, 2, 0), (.istore 7, 2, 7, 0, 0), (.iload 6, 2, 6, 0, 0), (.iload 7, 2, 7, 0, 0), (.if_icmp .eq 35, 3, 103, 0, 0), (.aload_n 0, 1, 0, 0, 0), (.getfield 18, 3, 1, 2, 0), (.iload 6, 2, 6, 0, 0), (.iaload, 1, 0, 0, 0), (.iconst 1, 1, 0, 0, 1), (.iload 7, 2, 7, 0, 0), (.ishl, 1, 0, 0, 0), (.iand, 1, 0, 0, 0), (.ifCond .ne 20, 3, 103, 0, 0), (.aload_n 0, 1, 0, 0, 0), (.getfield 18, 3, 1, 2, 0), (.iload 6, 2, 6, 0, 0), (.dup2, 1, 0, 0, 0), (.iaload, 1, 0, 0, 0), (.iconst 1, 1, 0, 0, 1), (.iload 7, 2, 7, 0, 0), (.ishl, 1, 0, 0, 0), (.ior, 1, 0, 0, 0), (.iastore, 1, 0, 0, 0), (.iinc 4 1, 3, 4, 0, 1)], 103),
  (103, [(.iinc 5 1, 3, 5, 0, 1), (.goto (-90), 3, 16, 0, 0)], 109),
  (109, [(.iload 4, 2, 4, 0, 0), (.ireturn, 1, 0, 0, 0)], 112)]
set_option maxRecDepth 100000 in
theorem ok_X1_unlikeTwos : pm_oks 1 false 8 (some .int) cX1_unlikeTwos bk_X1_unlikeTwos = true := by decide +kernel
set_option maxRecDepth 100000 in
theorem me_X1_unlikeTwos : pm_me 86 = (yX1_unlikeTwos, cX1_unlikeTwos, 8, (some .int), 3, 0) := rfl
theorem mt_X1_unlikeTwos {l : Launch} {g : pm_G} {d mc ms : Nat} {as : List Value} {A : pm_H} {Q : Option Value → pm_H → Prop} (hca : pm_cat 8 as = true) (body : ∀ J : pm_J, pm_Cl l g (fun _ => none) d mc ms (pm_Rq mc ms Q) bk_X1_unlikeTwos J → J 0 (pm_l0 8 as) [] A 0 0) : pm_Mt l g 86 d mc ms as A Q := pm_Mt_of (isI := false) 1 bk_X1_unlikeTwos me_X1_unlikeTwos (plainFor_of_name (by decide +kernel)) (by decide +kernel) (fun h => by cases h) ok_X1_unlikeTwos hca body
def bk_X1_coveringLength : pm_B := [(0, [(.aload_n 2, 1, 2, 0, 0), (.aload_n 1, 1, 1, 0, 0), (.iload_n 3, 1, 3, 0, 0), (.iload 4, 2, 4, 0, 0), (.invokevirtual 61, 3, 55, 3, 2), (.aload_n 0, 1, 0, 0, 0), (.getfield 15, 3, 1, 1, 0), (.iload_n 3, 1, 3, 0, 0), (.iconst 1, 1, 0, 0, 1), (.isub, 1, 0, 0, 0), (.invokestatic 46, 3, 4, 2, 0), (.iconst 1, 1, 0, 0, 1), (.istore 5, 2, 5, 0, 0), (.iload_n 3, 1, 3, 0, 0), (.istore 6, 2, 6, 0, 0)], 24),
  (24, [(.iload 6, 2, 6, 0, 0), (.iload 4, 2, 4, 0, 0), (.if_icmp .gt 44, 3, 72, 0, 0), (.aload_n 1, 1, 1, 0, 0), (.getfield 43, 3, 7, 0, 0), (.iload 6, 2, 6, 0, 0), (.iaload, 1, 0, 0, 0), (.istore 7, 2, 7, 0, 0), (.iload 5, 2, 5, 0, 0), (.iload 6, 2, 6, 0, 0), (.aload_n 0, 1, 0, 0, 0), (.getfield 15, 3, 1, 1, 0), (.iload 7, 2, 7, 0, 0), (.iaload, 1, 0, 0, 0), (.isub, 1, 0, 0, 0), (.invokestatic 58, 3, 51, 2, 0), (.istore 5, 2, 5, 0, 0), (.aload_n 0, 1, 0, 0, 0), (.getfield 15, 3, 1, 1, 0), (.iload 7, 2, 7, 0, 0), (.iload 6, 2, 6, 0, 0), (.iastore, 1, 0, 0, 0), (.iinc 6 1, 3, 6, 0, 1), (.goto (-45), 3, 24, 0, 0)], 72),
  (72, [(.iconst 0, 1, 0, 0, 0), (.istore 6, 2, 6, 0, 0)], 75),
  (75, [(.iload 6, 2, 6, 0, 0), (.bipush 24, 2, 0, 0, 24), (.if_icmp .ge 38, 3, 117, 0, 0), (.aload_n 2, 1, 2, 0, 0), (.getfield 67, 3, 2, 0, 0), (.iload 6, 2, 6, 0, 0), (.iaload, 1, 0, 0, 0), (.ifCond .le 22, 3, 111, 0, 0), (.iload 5, 2, 5, 0, 0), (.iload 4, 2, 4, 0, 0), (.iconst 1, 1, 0, 0, 1), (.iadd, 1, 0, 0, 0), (.aload_n 0, 1, 0, 0, 0), (.getfield 15, 3, 1, 1, 0), (.iload 6, 2, 6, 0, 0), (.iaload, 1, 0, 0, 0), (.isub, 1, 0, 0, 0), (.invokestatic 58, 3, 51, 2, 0), (.istore 5, 2, 5, 0, 0)], 111),
  (111, [(.iinc 6 1, 3, 6, 0, 1), (.goto (-39), 3, 75, 0, 0)], 117),
  (117, [(.iload 5, 2, 5, 0, 0), (.ireturn, 1, 0, 0, 0)], 120)]
set_option maxRecDepth 100000 in
theorem ok_X1_coveringLength : pm_oks 1 false 8 (some .int) cX1_coveringLength bk_X1_coveringLength = true := by decide +kernel
set_option maxRecDepth 100000 in
theorem me_X1_coveringLength : pm_me 89 = (yX1_coveringLength, cX1_coveringLength, 8, (some .int), 4, 0) := rfl
theorem mt_X1_coveringLength {l : Launch} {g : pm_G} {d mc ms : Nat} {as : List Value} {A : pm_H} {Q : Option Value → pm_H → Prop} (hca : pm_cat 8 as = true) (body : ∀ J : pm_J, pm_Cl l g (fun _ => none) d mc ms (pm_Rq mc ms Q) bk_X1_coveringLength J → J 0 (pm_l0 8 as) [] A 0 0) : pm_Mt l g 89 d mc ms as A Q := pm_Mt_of (isI := false) 1 bk_X1_coveringLength me_X1_coveringLength (plainFor_of_name (by decide +kernel)) (by decide +kernel) (fun h => by cases h) ok_X1_coveringLength hca body
def bk_X1_evenestEnd : pm_B := [(0, [(.aload_n 2, 1, 2, 0, 0), (.invokevirtual 70, 3, 56, 0, 2), (.iload_n 3, 1, 3, 0, 0), (.istore 5, 2, 5, 0, 0)], 7),
  (7, [(.iload 5, 2, 5, 0, 0), (.iload 4, 2, 4, 0, 0), (.if_icmp .gt 31, 3, 42, 0, 0), (.aload_n 2, 1, 2, 0, 0), (.aload_n 1, 1, 1, 0, 0), (.getfield 43, 3, 7, 0, 0), (.iload 5, 2, 5, 0, 0), (.iaload, 1, 0, 0, 0), (.invokevirtual 73, 3, 57, 1, 2), (.aload_n 0, 1, 0, 0, 0), (.getfield 9, 3, 1, 0, 0), (.iload 5, 2, 5, 0, 0), (.aload_n 2, 1, 2, 0, 0), (.getfield 77, 3, 2, 3, 0), (.iastore, 1, 0, 0, 0), (.iinc 5 1, 3, 5, 0, 1), (.goto (-32), 3, 7, 0, 0)], 42),
  (42, [(.aload_n 2, 1, 2, 0, 0), (.invokevirtual 70, 3, 56, 0, 2), (.iconst (-1), 1, 0, 0, -1), (.istore 5, 2, 5, 0, 0), (.bipush 25, 2, 0, 0, 25), (.istore 6, 2, 6, 0, 0), (.iload 4, 2, 4, 0, 0), (.iconst 1, 1, 0, 0, 1), (.isub, 1, 0, 0, 0), (.istore 7, 2, 7, 0, 0)], 59),
  (59, [(.iload 7, 2, 7, 0, 0), (.iload_n 3, 1, 3, 0, 0), (.if_icmp .lt 54, 3, 116, 0, 0), (.aload_n 2, 1, 2, 0, 0), (.aload_n 1, 1, 1, 0, 0), (.getfield 43, 3, 7, 0, 0), (.iload 7, 2, 7, 0, 0), (.iconst 1, 1, 0, 0, 1), (.iadd, 1, 0, 0, 0), (.iaload, 1, 0, 0, 0), (.invokevirtual 73, 3, 57, 1, 2), (.aload_n 0, 1, 0, 0, 0), (.getfield 9, 3, 1, 0, 0), (.iload 7, 2, 7, 0, 0), (.iaload, 1, 0, 0, 0), (.aload_n 2, 1, 2, 0, 0), (.getfield 77, 3, 2, 3, 0), (.isub, 1, 0, 0, 0), (.invokestatic 80, 3, 70, 1, 0), (.istore 8, 2, 8, 0, 0), (.iload 8, 2, 8, 0, 0), (.iload 6, 2, 6, 0, 0), (.if_icmp .gt 11, 3, 110, 0, 0), (.iload 8, 2, 8, 0, 0), (.istore 6, 2, 6, 0, 0), (.iload 7, 2, 7, 0, 0), (.istore 5, 2, 5, 0, 0)], 110),
  (110, [(.iinc 7 (-1), 3, 7, 0, -1), (.goto (-54), 3, 59, 0, 0)], 116),
  (116, [(.iload 5, 2, 5, 0, 0), (.ireturn, 1, 0, 0, 0)], 119)]
set_option maxRecDepth 100000 in
theorem ok_X1_evenestEnd : pm_oks 1 false 9 (some .int) cX1_evenestEnd bk_X1_evenestEnd = true := by decide +kernel
set_option maxRecDepth 100000 in
theorem me_X1_evenestEnd : pm_me 97 = (yX1_evenestEnd, cX1_evenestEnd, 9, (some .int), 4, 0) := rfl
theorem mt_X1_evenestEnd {l : Launch} {g : pm_G} {d mc ms : Nat} {as : List Value} {A : pm_H} {Q : Option Value → pm_H → Prop} (hca : pm_cat 9 as = true) (body : ∀ J : pm_J, pm_Cl l g (fun _ => none) d mc ms (pm_Rq mc ms Q) bk_X1_evenestEnd J → J 0 (pm_l0 9 as) [] A 0 0) : pm_Mt l g 97 d mc ms as A Q := pm_Mt_of (isI := false) 1 bk_X1_evenestEnd me_X1_evenestEnd (plainFor_of_name (by decide +kernel)) (by decide +kernel) (fun h => by cases h) ok_X1_evenestEnd hca body
def bk_X1_findNearestOfTwo : pm_B := [(0, [(.aload_n 0, 1, 0, 0, 0), (.invokevirtual 28, 3, 82, 0, 1), (.iconst (-1), 1, 0, 0, -1), (.istore 4, 2, 4, 0, 0), (.iconst (-1), 1, 0, 0, -1), (.istore 5, 2, 5, 0, 0), (.iconst 0, 1, 0, 0, 0), (.istore 6, 2, 6, 0, 0)], 13),
  (13, [(.iload 6, 2, 6, 0, 0), (.aload_n 1, 1, 1, 0, 0), (.getfield 40, 3, 7, 3, 0), (.if_icmp .ge 70, 3, 89, 0, 0), (.aload_n 1, 1, 1, 0, 0), (.getfield 43, 3, 7, 0, 0), (.iload 6, 2, 6, 0, 0), (.iaload, 1, 0, 0, 0), (.iload_n 2, 1, 2, 0, 0), (.if_icmp .ne 24, 3, 54, 0, 0), (.iload 6, 2, 6, 0, 0), (.istore 4, 2, 4, 0, 0), (.iload 5, 2, 5, 0, 0), (.iconst (-1), 1, 0, 0, -1), (.if_icmp .eq 43, 3, 83, 0, 0), (.aload_n 0, 1, 0, 0, 0), (.iload 5, 2, 5, 0, 0), (.iload 6, 2, 6, 0, 0), (.invokevirtual 36, 3, 83, 2, 1), (.goto 32, 3, 83, 0, 0)], 54),
  (54, [(.aload_n 1, 1, 1, 0, 0), (.getfield 43, 3, 7, 0, 0), (.iload 6, 2, 6, 0, 0), (.iaload, 1, 0, 0, 0), (.iload_n 3, 1, 3, 0, 0), (.if_icmp .ne 21, 3, 83, 0, 0), (.iload 6, 2, 6, 0, 0), (.istore 5, 2, 5, 0, 0), (.iload 4, 2, 4, 0, 0), (.iconst (-1), 1, 0, 0, -1), (.if_icmp .eq 11, 3, 83, 0, 0), (.aload_n 0, 1, 0, 0, 0), (.iload 4, 2, 4, 0, 0), (.iload 6, 2, 6, 0, 0), (.invokevirtual 36, 3, 83, 2, 1)], 83),
  (83, [(.iinc 6 1, 3, 6, 0, 1), (.goto (-73), 3, 13, 0, 0)], 89),
  (89, [(.return_, 1, 0, 0, 0)], 90)]
set_option maxRecDepth 100000 in
theorem ok_X1_findNearestOfTwo : pm_oks 1 false 7 none cX1_findNearestOfTwo bk_X1_findNearestOfTwo = true := by decide +kernel
set_option maxRecDepth 100000 in
theorem me_X1_findNearestOfTwo : pm_me 99 = (yX1_findNearestOfTwo, cX1_findNearestOfTwo, 7, none, 3, 0) := rfl
theorem mt_X1_findNearestOfTwo {l : Launch} {g : pm_G} {d mc ms : Nat} {as : List Value} {A : pm_H} {Q : Option Value → pm_H → Prop} (hca : pm_cat 7 as = true) (body : ∀ J : pm_J, pm_Cl l g (fun _ => none) d mc ms (pm_Rq mc ms Q) bk_X1_findNearestOfTwo J → J 0 (pm_l0 7 as) [] A 0 0) : pm_Mt l g 99 d mc ms as A Q := pm_Mt_of (isI := false) 1 bk_X1_findNearestOfTwo me_X1_findNearestOfTwo (plainFor_of_name (by decide +kernel)) (by decide +kernel) (fun h => by cases h) ok_X1_findNearestOfTwo hca body
def bk_X6_init : pm_B := [(0, [(.aload_n 0, 1, 0, 0, 0), (.invokespecial 3, 3, 0, 0, 0), (.aload_n 0, 1, 0, 0, 0), (.bipush 24, 2, 0, 0, 24), (.newarray .int, 2, 24, 0, 0), (.putfield 9, 3, 6, 0, 1), (.return_, 1, 0, 0, 0)], 13)]
set_option maxRecDepth 100000 in
theorem ok_X6_init : pm_oks 6 true 1 none cX6_init bk_X6_init = true := by decide +kernel
set_option maxRecDepth 100000 in
theorem me_X6_init : pm_me 7 = (yX6_init, cX6_init, 1, none, 0, 2) := rfl
theorem mt_X6_init {l : Launch} {g : pm_G} {d mc ms : Nat} {as : List Value} {A : pm_H} {Q : Option Value → pm_H → Prop} (hca : pm_cat 1 as = true) (body : ∀ J : pm_J, pm_Cl l g (fun _ => none) d mc ms (pm_Rq mc ms Q) bk_X6_init J → J 0 (pm_l0 1 as) [] A 0 0) : pm_Mt l g 7 d mc ms as A Q := pm_Mt_of (isI := true) 6 bk_X6_init me_X6_init (plainFor_of_name (by decide +kernel)) (by decide +kernel) (fun _ => by decide +kernel) ok_X6_init hca body
def bk_X6_forColours : pm_B := [(0, [(.aload_n 2, 1, 2, 0, 0), (.invokevirtual 22, 3, 56, 0, 2), (.iload_n 3, 1, 3, 0, 0), (.istore 5, 2, 5, 0, 0)], 7),
  (7, [(.iload 5, 2, 5, 0, 0), (.aload_n 1, 1, 1, 0, 0), (.getfield 27, 3, 7, 3, 0), (.if_icmp .ge 32, 3, 45, 0, 0), (.aload_n 2, 1, 2, 0, 0), (.aload_n 1, 1, 1, 0, 0), (.getfield 32, 3, 7, 0, 0), (.iload 5, 2, 5, 0, 0), (.iaload, 1, 0, 0, 0), (.invokevirtual 35, 3, 57, 1, 2), (.aload_n 2, 1, 2, 0, 0), (.getfield 39, 3, 2, 3, 0), (.iload 4, 2, 4, 0, 0), (.if_icmp .lt 6, 3, 39, 0, 0), (.iload 5, 2, 5, 0, 0), (.ireturn, 1, 0, 0, 0)], 39),
  (39, [(.iinc 5 1, 3, 5, 0, 1), (.goto (-35), 3, 7, 0, 0)], 45),
  (45, [(.iconst (-1), 1, 0, 0, -1), (.ireturn, 1, 0, 0, 0)], 47)]
set_option maxRecDepth 100000 in
theorem ok_X6_forColours : pm_oks 6 false 6 (some .int) cX6_forColours bk_X6_forColours = true := by decide +kernel
set_option maxRecDepth 100000 in
theorem me_X6_forColours : pm_me 101 = (yX6_forColours, cX6_forColours, 6, (some .int), 4, 0) := rfl
theorem mt_X6_forColours {l : Launch} {g : pm_G} {d mc ms : Nat} {as : List Value} {A : pm_H} {Q : Option Value → pm_H → Prop} (hca : pm_cat 6 as = true) (body : ∀ J : pm_J, pm_Cl l g (fun _ => none) d mc ms (pm_Rq mc ms Q) bk_X6_forColours J → J 0 (pm_l0 6 as) [] A 0 0) : pm_Mt l g 101 d mc ms as A Q := pm_Mt_of (isI := false) 6 bk_X6_forColours me_X6_forColours (plainFor_of_name (by decide +kernel)) (by decide +kernel) (fun h => by cases h) ok_X6_forColours hca body
def bk_X6_backForColours : pm_B := [(0, [(.aload_n 2, 1, 2, 0, 0), (.invokevirtual 22, 3, 56, 0, 2), (.iload_n 3, 1, 3, 0, 0), (.istore 5, 2, 5, 0, 0)], 7),
  (7, [(.iload 5, 2, 5, 0, 0), (.ifCond .lt 32, 3, 41, 0, 0), (.aload_n 2, 1, 2, 0, 0), (.aload_n 1, 1, 1, 0, 0), (.getfield 32, 3, 7, 0, 0), (.iload 5, 2, 5, 0, 0), (.iaload, 1, 0, 0, 0), (.invokevirtual 35, 3, 57, 1, 2), (.aload_n 2, 1, 2, 0, 0), (.getfield 39, 3, 2, 3, 0), (.iload 4, 2, 4, 0, 0), (.if_icmp .lt 6, 3, 35, 0, 0), (.iload 5, 2, 5, 0, 0), (.ireturn, 1, 0, 0, 0)], 35),
  (35, [(.iinc 5 (-1), 3, 5, 0, -1), (.goto (-31), 3, 7, 0, 0)], 41),
  (41, [(.iconst (-1), 1, 0, 0, -1), (.ireturn, 1, 0, 0, 0)], 43)]
set_option maxRecDepth 100000 in
theorem ok_X6_backForColours : pm_oks 6 false 6 (some .int) cX6_backForColours bk_X6_backForColours = true := by decide +kernel
set_option maxRecDepth 100000 in
theorem me_X6_backForColours : pm_me 103 = (yX6_backForColours, cX6_backForColours, 6, (some .int), 4, 0) := rfl
theorem mt_X6_backForColours {l : Launch} {g : pm_G} {d mc ms : Nat} {as : List Value} {A : pm_H} {Q : Option Value → pm_H → Prop} (hca : pm_cat 6 as = true) (body : ∀ J : pm_J, pm_Cl l g (fun _ => none) d mc ms (pm_Rq mc ms Q) bk_X6_backForColours J → J 0 (pm_l0 6 as) [] A 0 0) : pm_Mt l g 103 d mc ms as A Q := pm_Mt_of (isI := false) 6 bk_X6_backForColours me_X6_backForColours (plainFor_of_name (by decide +kernel)) (by decide +kernel) (fun h => by cases h) ok_X6_backForColours hca body
def bk_X6_forMass : pm_B := [(0, [(.aload_n 2, 1, 2, 0, 0), (.invokevirtual 22, 3, 56, 0, 2), (.iload_n 3, 1, 3, 0, 0), (.istore 5, 2, 5, 0, 0)], 7),
  (7, [(.iload 5, 2, 5, 0, 0), (.aload_n 1, 1, 1, 0, 0), (.getfield 27, 3, 7, 3, 0), (.if_icmp .ge 32, 3, 45, 0, 0), (.aload_n 2, 1, 2, 0, 0), (.aload_n 1, 1, 1, 0, 0), (.getfield 32, 3, 7, 0, 0), (.iload 5, 2, 5, 0, 0), (.iaload, 1, 0, 0, 0), (.invokevirtual 35, 3, 57, 1, 2), (.aload_n 2, 1, 2, 0, 0), (.getfield 42, 3, 2, 5, 0), (.iload 4, 2, 4, 0, 0), (.if_icmp .lt 6, 3, 39, 0, 0), (.iload 5, 2, 5, 0, 0), (.ireturn, 1, 0, 0, 0)], 39),
  (39, [(.iinc 5 1, 3, 5, 0, 1), (.goto (-35), 3, 7, 0, 0)], 45),
  (45, [(.iconst (-1), 1, 0, 0, -1), (.ireturn, 1, 0, 0, 0)], 47)]
set_option maxRecDepth 100000 in
theorem ok_X6_forMass : pm_oks 6 false 6 (some .int) cX6_forMass bk_X6_forMass = true := by decide +kernel
set_option maxRecDepth 100000 in
theorem me_X6_forMass : pm_me 105 = (yX6_forMass, cX6_forMass, 6, (some .int), 4, 0) := rfl
theorem mt_X6_forMass {l : Launch} {g : pm_G} {d mc ms : Nat} {as : List Value} {A : pm_H} {Q : Option Value → pm_H → Prop} (hca : pm_cat 6 as = true) (body : ∀ J : pm_J, pm_Cl l g (fun _ => none) d mc ms (pm_Rq mc ms Q) bk_X6_forMass J → J 0 (pm_l0 6 as) [] A 0 0) : pm_Mt l g 105 d mc ms as A Q := pm_Mt_of (isI := false) 6 bk_X6_forMass me_X6_forMass (plainFor_of_name (by decide +kernel)) (by decide +kernel) (fun h => by cases h) ok_X6_forMass hca body
def bk_X6_findShortestWith : pm_B := [(0, [(.aload_n 0, 1, 0, 0, 0), (.invokevirtual 45, 3, 108, 0, 6), (.aload_n 0, 1, 0, 0, 0), (.iconst 0, 1, 0, 0, 0), (.putfield 48, 3, 6, 4, 0), (.aload_n 0, 1, 0, 0, 0), (.getfield 9, 3, 6, 0, 0), (.iconst (-1), 1, 0, 0, -1), (.invokestatic 51, 3, 4, 2, 0), (.iconst 0, 1, 0, 0, 0), (.istore_n 3, 1, 3, 0, 0)], 19),
  (19, [(.iload_n 3, 1, 3, 0, 0), (.aload_n 1, 1, 1, 0, 0), (.getfield 27, 3, 7, 3, 0), (.if_icmp .ge 83, 3, 107, 0, 0), (.aload_n 0, 1, 0, 0, 0), (.getfield 9, 3, 6, 0, 0), (.aload_n 1, 1, 1, 0, 0), (.getfield 32, 3, 7, 0, 0), (.iload_n 3, 1, 3, 0, 0), (.iaload, 1, 0, 0, 0), (.iload_n 3, 1, 3, 0, 0), (.iastore, 1, 0, 0, 0), (.aload_n 0, 1, 0, 0, 0), (.iload_n 2, 1, 2, 0, 0), (.iload_n 3, 1, 3, 0, 0), (.invokevirtual 57, 3, 109, 2, 6), (.istore 4, 2, 4, 0, 0), (.aload_n 0, 1, 0, 0, 0), (.dup, 1, 0, 0, 0), (.getfield 48, 3, 6, 4, 0), (.iload 4, 2, 4, 0, 0), (.iconst 1, 1, 0, 0, 1), (.iadd, 1, 0, 0, 0), (.iadd, 1, 0, 0, 0), (.putfield 48, 3, 6, 4, 0), (.iload 4, 2, 4, 0, 0), (.iconst (-1), 1, 0, 0, -1), (.if_icmp .eq 38, 3, 101, 0, 0), (.aload_n 0, 1, 0, 0, 0), (.getfield 15, 3, 6, 1, 0), (.iconst (-1), 1, 0, 0, -1), (.if_icmp .eq 19, 3, 90, 0, 0), (.iload_n 3, 1, 3, 0, 0), (.iload 4, 2, 4, 0, 0), (.isub, 1, 0, 0, 0), (.aload_n 0, 1, 0, 0, 0), (.getfield 19, 3, 6, 2, 0), (.aload_n 0, 1, 0, 0, 0), (.getfield 15, 3, 6, 1, 0), (.isub, 1, 0, 0, 0), (.if_icmp .ge 14, 3, 101, 0, 0)], 90),
  (90, [(.aload_n 0, 1, 0, 0, 0), (.iload 4, 2, 4, 0, 0), (.putfield 15, 3, 6, 1, 0), (.aload_n 0, 1, 0, 0, 0), (.iload_n 3, 1, 3, 0, 0), (.putfield 19, 3, 6, 2, 0)], 101),
  (101, [(.iinc 3 1, 3, 3, 0, 1), (.goto (-85), 3, 19, 0, 0)], 107),
  (107, [(.return_, 1, 0, 0, 0)], 108)]
set_option maxRecDepth 100000 in
theorem ok_X6_findShortestWith : pm_oks 6 false 5 none cX6_findShortestWith bk_X6_findShortestWith = true := by decide +kernel
set_option maxRecDepth 100000 in
theorem me_X6_findShortestWith : pm_me 107 = (yX6_findShortestWith, cX6_findShortestWith, 5, none, 2, 0) := rfl
theorem mt_X6_findShortestWith {l : Launch} {g : pm_G} {d mc ms : Nat} {as : List Value} {A : pm_H} {Q : Option Value → pm_H → Prop} (hca : pm_cat 5 as = true) (body : ∀ J : pm_J, pm_Cl l g (fun _ => none) d mc ms (pm_Rq mc ms Q) bk_X6_findShortestWith J → J 0 (pm_l0 5 as) [] A 0 0) : pm_Mt l g 107 d mc ms as A Q := pm_Mt_of (isI := false) 6 bk_X6_findShortestWith me_X6_findShortestWith (plainFor_of_name (by decide +kernel)) (by decide +kernel) (fun h => by cases h) ok_X6_findShortestWith hca body
def bk_X6_clearFound : pm_B := [(0, [(.aload_n 0, 1, 0, 0, 0), (.iconst (-1), 1, 0, 0, -1), (.putfield 15, 3, 6, 1, 0), (.aload_n 0, 1, 0, 0, 0), (.iconst (-1), 1, 0, 0, -1), (.putfield 19, 3, 6, 2, 0), (.return_, 1, 0, 0, 0)], 11)]
set_option maxRecDepth 100000 in
theorem ok_X6_clearFound : pm_oks 6 false 1 none cX6_clearFound bk_X6_clearFound = true := by decide +kernel
set_option maxRecDepth 100000 in
theorem me_X6_clearFound : pm_me 108 = (yX6_clearFound, cX6_clearFound, 1, none, 0, 0) := rfl
theorem mt_X6_clearFound {l : Launch} {g : pm_G} {d mc ms : Nat} {as : List Value} {A : pm_H} {Q : Option Value → pm_H → Prop} (hca : pm_cat 1 as = true) (body : ∀ J : pm_J, pm_Cl l g (fun _ => none) d mc ms (pm_Rq mc ms Q) bk_X6_clearFound J → J 0 (pm_l0 1 as) [] A 0 0) : pm_Mt l g 108 d mc ms as A Q := pm_Mt_of (isI := false) 6 bk_X6_clearFound me_X6_clearFound (plainFor_of_name (by decide +kernel)) (by decide +kernel) (fun h => by cases h) ok_X6_clearFound hca body
def bk_X6_earliestLatest : pm_B := [(0, [(.iload_n 2, 1, 2, 0, 0), (.istore_n 3, 1, 3, 0, 0), (.iconst 0, 1, 0, 0, 0), (.istore 4, 2, 4, 0, 0)], 5),
  (5, [(.iload 4, 2, 4, 0, 0), (.bipush 24, 2, 0, 0, 24), (.if_icmp .ge 30, 3, 39, 0, 0), (.iload_n 1, 1, 1, 0, 0), (.iconst 1, 1, 0, 0, 1), (.iload 4, 2, 4, 0, 0), (.ishl, 1, 0, 0, 0), (.iand, 1, 0, 0, 0), (.ifCond .eq 15, 3, 33, 0, 0), (.iload_n 3, 1, 3, 0, 0), (.aload_n 0, 1, 0, 0, 0), (.getfield 9, 3, 6, 0, 0), (.iload 4, 2, 4, 0, 0), (.iaload, 1, 0, 0, 0), (.invokestatic 61, 3, 87, 2, 0), (.istore_n 3, 1, 3, 0, 0)], 33),
  (33, [(.iinc 4 1, 3, 4, 0, 1), (.goto (-31), 3, 5, 0, 0)], 39),
  (39, [(.iload_n 3, 1, 3, 0, 0), (.ireturn, 1, 0, 0, 0)], 41)]
set_option maxRecDepth 100000 in
theorem ok_X6_earliestLatest : pm_oks 6 false 5 (some .int) cX6_earliestLatest bk_X6_earliestLatest = true := by decide +kernel
set_option maxRecDepth 100000 in
theorem me_X6_earliestLatest : pm_me 109 = (yX6_earliestLatest, cX6_earliestLatest, 5, (some .int), 2, 0) := rfl
theorem mt_X6_earliestLatest {l : Launch} {g : pm_G} {d mc ms : Nat} {as : List Value} {A : pm_H} {Q : Option Value → pm_H → Prop} (hca : pm_cat 5 as = true) (body : ∀ J : pm_J, pm_Cl l g (fun _ => none) d mc ms (pm_Rq mc ms Q) bk_X6_earliestLatest J → J 0 (pm_l0 5 as) [] A 0 0) : pm_Mt l g 109 d mc ms as A Q := pm_Mt_of (isI := false) 6 bk_X6_earliestLatest me_X6_earliestLatest (plainFor_of_name (by decide +kernel)) (by decide +kernel) (fun h => by cases h) ok_X6_earliestLatest hca body
def bk_X6_endFound : pm_B := [(0, [(.iload_n 1, 1, 1, 0, 0), (.ifCond .ne 10, 3, 11, 0, 0), (.aload_n 0, 1, 0, 0, 0), (.getfield 15, 3, 6, 1, 0), (.goto 16, 3, 24, 0, 0)], 11),
  (11, [(.iload_n 1, 1, 1, 0, 0), (.iconst 1, 1, 0, 0, 1), (.if_icmp .ne 10, 3, 23, 0, 0), (.aload_n 0, 1, 0, 0, 0), (.getfield 19, 3, 6, 2, 0), (.goto 4, 3, 24, 0, 0)], 23),
  (23, [(.iconst (-1), 1, 0, 0, -1)], 24),
  (24, [(.ireturn, 1, 0, 0, 0)], 25)]
set_option maxRecDepth 100000 in
theorem ok_X6_endFound : pm_oks 6 false 2 (some .int) cX6_endFound bk_X6_endFound = true := by decide +kernel
set_option maxRecDepth 100000 in
theorem me_X6_endFound : pm_me 110 = (yX6_endFound, cX6_endFound, 2, (some .int), 1, 0) := rfl
theorem mt_X6_endFound {l : Launch} {g : pm_G} {d mc ms : Nat} {as : List Value} {A : pm_H} {Q : Option Value → pm_H → Prop} (hca : pm_cat 2 as = true) (body : ∀ J : pm_J, pm_Cl l g (fun _ => none) d mc ms (pm_Rq mc ms Q) bk_X6_endFound J → J 0 (pm_l0 2 as) [] A 0 0) : pm_Mt l g 110 d mc ms as A Q := pm_Mt_of (isI := false) 6 bk_X6_endFound me_X6_endFound (plainFor_of_name (by decide +kernel)) (by decide +kernel) (fun h => by cases h) ok_X6_endFound hca body
end
section
/-! blocks, by a program -/
def bk_X6_findLongestOf : pm_B := [(0, [(.aload_n 0, 1, 0, 0, 0), (.invokevirtual 45, 3, 108, 0, 6), (.aload_n 2, 1, 2, 0, 0), (.invokevirtual 22, 3, 56, 0, 2), (.iconst 0, 1, 0, 0, 0), (.istore 4, 2, 4, 0, 0), (.iconst 0, 1, 0, 0, 0), (.istore 5, 2, 5, 0, 0)], 14),
  (14, [(.iload 5, 2, 5, 0, 0), (.aload_n 1, 1, 1, 0, 0), (.getfield 27, 3, 7, 3, 0), (.if_icmp .ge 60, 3, 80, 0, 0), (.aload_n 2, 1, 2, 0, 0), (.aload_n 1, 1, 1, 0, 0), (.getfield 32, 3, 7, 0, 0), (.iload 5, 2, 5, 0, 0), (.iaload, 1, 0, 0, 0), (.invokevirtual 35, 3, 57, 1, 2)], 34),
  (34, [(.aload_n 2, 1, 2, 0, 0), (.getfield 39, 3, 2, 3, 0), (.iload_n 3, 1, 3, 0, 0), (.if_icmp .le 27, 3, 66, 0, 0), (.iload 4, 2, 4, 0, 0), (.iload 5, 2, 5, 0, 0), (.if_icmp .ge 20, 3, 66, 0, 0), (.aload_n 2, 1, 2, 0, 0), (.aload_n 1, 1, 1, 0, 0), (.getfield 32, 3, 7, 0, 0), (.iload 4, 2, 4, 0, 0), (.iaload, 1, 0, 0, 0), (.invokevirtual 66, 3, 113, 1, 2), (.iinc 4 1, 3, 4, 0, 1), (.goto (-29), 3, 34, 0, 0)], 66),
  (66, [(.aload_n 0, 1, 0, 0, 0), (.iload 4, 2, 4, 0, 0), (.iload 5, 2, 5, 0, 0), (.invokevirtual 69, 3, 114, 2, 6), (.iinc 5 1, 3, 5, 0, 1), (.goto (-63), 3, 14, 0, 0)], 80),
  (80, [(.return_, 1, 0, 0, 0)], 81)]
set_option maxRecDepth 100000 in
theorem ok_X6_findLongestOf : pm_oks 6 false 6 none cX6_findLongestOf bk_X6_findLongestOf = true := by decide +kernel
set_option maxRecDepth 100000 in
theorem me_X6_findLongestOf : pm_me 112 = (yX6_findLongestOf, cX6_findLongestOf, 6, none, 3, 0) := rfl
theorem mt_X6_findLongestOf {l : Launch} {g : pm_G} {d mc ms : Nat} {as : List Value} {A : pm_H} {Q : Option Value → pm_H → Prop} (hca : pm_cat 6 as = true) (body : ∀ J : pm_J, pm_Cl l g (fun _ => none) d mc ms (pm_Rq mc ms Q) bk_X6_findLongestOf J → J 0 (pm_l0 6 as) [] A 0 0) : pm_Mt l g 112 d mc ms as A Q := pm_Mt_of (isI := false) 6 bk_X6_findLongestOf me_X6_findLongestOf (plainFor_of_name (by decide +kernel)) (by decide +kernel) (fun h => by cases h) ok_X6_findLongestOf hca body
def bk_X6_offerLonger : pm_B := [(0, [(.aload_n 0, 1, 0, 0, 0), (.getfield 15, 3, 6, 1, 0), (.iconst (-1), 1, 0, 0, -1), (.if_icmp .eq 18, 3, 23, 0, 0), (.iload_n 2, 1, 2, 0, 0), (.iload_n 1, 1, 1, 0, 0), (.isub, 1, 0, 0, 0), (.aload_n 0, 1, 0, 0, 0), (.getfield 19, 3, 6, 2, 0), (.aload_n 0, 1, 0, 0, 0), (.getfield 15, 3, 6, 1, 0), (.isub, 1, 0, 0, 0), (.if_icmp .le 13, 3, 33, 0, 0)], 23),
  (23, [(.aload_n 0, 1, 0, 0, 0), (.iload_n 1, 1, 1, 0, 0), (.putfield 15, 3, 6, 1, 0), (.aload_n 0, 1, 0, 0, 0), (.iload_n 2, 1, 2, 0, 0), (.putfield 19, 3, 6, 2, 0)], 33),
  (33, [(.return_, 1, 0, 0, 0)], 34)]
set_option maxRecDepth 100000 in
theorem ok_X6_offerLonger : pm_oks 6 false 3 none cX6_offerLonger bk_X6_offerLonger = true := by decide +kernel
set_option maxRecDepth 100000 in
theorem me_X6_offerLonger : pm_me 114 = (yX6_offerLonger, cX6_offerLonger, 3, none, 2, 0) := rfl
theorem mt_X6_offerLonger {l : Launch} {g : pm_G} {d mc ms : Nat} {as : List Value} {A : pm_H} {Q : Option Value → pm_H → Prop} (hca : pm_cat 3 as = true) (body : ∀ J : pm_J, pm_Cl l g (fun _ => none) d mc ms (pm_Rq mc ms Q) bk_X6_offerLonger J → J 0 (pm_l0 3 as) [] A 0 0) : pm_Mt l g 114 d mc ms as A Q := pm_Mt_of (isI := false) 6 bk_X6_offerLonger me_X6_offerLonger (plainFor_of_name (by decide +kernel)) (by decide +kernel) (fun h => by cases h) ok_X6_offerLonger hca body
def bk_X6_findLongestUnlike : pm_B := [(0, [(.aload_n 0, 1, 0, 0, 0), (.invokevirtual 45, 3, 108, 0, 6), (.iconst 0, 1, 0, 0, 0), (.istore_n 2, 1, 2, 0, 0), (.iconst 0, 1, 0, 0, 0), (.istore_n 3, 1, 3, 0, 0)], 8),
  (8, [(.iload_n 3, 1, 3, 0, 0), (.aload_n 1, 1, 1, 0, 0), (.getfield 27, 3, 7, 3, 0), (.if_icmp .ge 28, 3, 41, 0, 0), (.iload_n 2, 1, 2, 0, 0), (.aload_n 1, 1, 1, 0, 0), (.getfield 73, 3, 7, 2, 0), (.iload_n 3, 1, 3, 0, 0), (.iaload, 1, 0, 0, 0), (.iconst 1, 1, 0, 0, 1), (.iadd, 1, 0, 0, 0), (.invokestatic 76, 3, 51, 2, 0), (.istore_n 2, 1, 2, 0, 0), (.aload_n 0, 1, 0, 0, 0), (.iload_n 2, 1, 2, 0, 0), (.iload_n 3, 1, 3, 0, 0), (.invokevirtual 69, 3, 114, 2, 6), (.iinc 3 1, 3, 3, 0, 1), (.goto (-30), 3, 8, 0, 0)], 41),
  (41, [(.return_, 1, 0, 0, 0)], 42)]
set_option maxRecDepth 100000 in
theorem ok_X6_findLongestUnlike : pm_oks 6 false 4 none cX6_findLongestUnlike bk_X6_findLongestUnlike = true := by decide +kernel
set_option maxRecDepth 100000 in
theorem me_X6_findLongestUnlike : pm_me 116 = (yX6_findLongestUnlike, cX6_findLongestUnlike, 4, none, 1, 0) := rfl
theorem mt_X6_findLongestUnlike {l : Launch} {g : pm_G} {d mc ms : Nat} {as : List Value} {A : pm_H} {Q : Option Value → pm_H → Prop} (hca : pm_cat 4 as = true) (body : ∀ J : pm_J, pm_Cl l g (fun _ => none) d mc ms (pm_Rq mc ms Q) bk_X6_findLongestUnlike J → J 0 (pm_l0 4 as) [] A 0 0) : pm_Mt l g 116 d mc ms as A Q := pm_Mt_of (isI := false) 6 bk_X6_findLongestUnlike me_X6_findLongestUnlike (plainFor_of_name (by decide +kernel)) (by decide +kernel) (fun h => by cases h) ok_X6_findLongestUnlike hca body
def bk_X6_findHeaviest : pm_B := [(0, [(.aload_n 2, 1, 2, 0, 0), (.aload_n 1, 1, 1, 0, 0), (.iconst 0, 1, 0, 0, 0), (.iload_n 3, 1, 3, 0, 0), (.iconst 1, 1, 0, 0, 1), (.isub, 1, 0, 0, 0), (.invokevirtual 79, 3, 55, 3, 2), (.aload_n 0, 1, 0, 0, 0), (.iconst 0, 1, 0, 0, 0), (.putfield 15, 3, 6, 1, 0), (.aload_n 0, 1, 0, 0, 0), (.aload_n 2, 1, 2, 0, 0), (.getfield 42, 3, 2, 5, 0), (.putfield 83, 3, 6, 3, 0), (.iconst 1, 1, 0, 0, 1), (.istore 4, 2, 4, 0, 0)], 25),
  (25, [(.iload 4, 2, 4, 0, 0), (.iload_n 3, 1, 3, 0, 0), (.iadd, 1, 0, 0, 0), (.aload_n 1, 1, 1, 0, 0), (.getfield 27, 3, 7, 3, 0), (.if_icmp .gt 62, 3, 95, 0, 0), (.aload_n 2, 1, 2, 0, 0), (.aload_n 1, 1, 1, 0, 0), (.getfield 32, 3, 7, 0, 0), (.iload 4, 2, 4, 0, 0), (.iconst 1, 1, 0, 0, 1), (.isub, 1, 0, 0, 0), (.iaload, 1, 0, 0, 0), (.invokevirtual 66, 3, 113, 1, 2), (.aload_n 2, 1, 2, 0, 0), (.aload_n 1, 1, 1, 0, 0), (.getfield 32, 3, 7, 0, 0), (.iload 4, 2, 4, 0, 0), (.iload_n 3, 1, 3, 0, 0), (.iadd, 1, 0, 0, 0), (.iconst 1, 1, 0, 0, 1), (.isub, 1, 0, 0, 0), (.iaload, 1, 0, 0, 0), (.invokevirtual 35, 3, 57, 1, 2), (.aload_n 2, 1, 2, 0, 0), (.getfield 42, 3, 2, 5, 0), (.aload_n 0, 1, 0, 0, 0), (.getfield 83, 3, 6, 3, 0), (.if_icmp .le 17, 3, 89, 0, 0), (.aload_n 0, 1, 0, 0, 0), (.iload 4, 2, 4, 0, 0), (.putfield 15, 3, 6, 1, 0), (.aload_n 0, 1, 0, 0, 0), (.aload_n 2, 1, 2, 0, 0), (.getfield 42, 3, 2, 5, 0), (.putfield 83, 3, 6, 3, 0)], 89),
  (89, [(.iinc 4 1, 3, 4, 0, 1), (.goto (-67), 3, 25, 0, 0)], 95),
  (95, [(.return_, 1, 0, 0, 0)], 96)]
set_option maxRecDepth 100000 in
theorem ok_X6_findHeaviest : pm_oks 6 false 5 none cX6_findHeaviest bk_X6_findHeaviest = true := by decide +kernel
set_option maxRecDepth 100000 in
theorem me_X6_findHeaviest : pm_me 118 = (yX6_findHeaviest, cX6_findHeaviest, 5, none, 3, 0) := rfl
theorem mt_X6_findHeaviest {l : Launch} {g : pm_G} {d mc ms : Nat} {as : List Value} {A : pm_H} {Q : Option Value → pm_H → Prop} (hca : pm_cat 5 as = true) (body : ∀ J : pm_J, pm_Cl l g (fun _ => none) d mc ms (pm_Rq mc ms Q) bk_X6_findHeaviest J → J 0 (pm_l0 5 as) [] A 0 0) : pm_Mt l g 118 d mc ms as A Q := pm_Mt_of (isI := false) 6 bk_X6_findHeaviest me_X6_findHeaviest (plainFor_of_name (by decide +kernel)) (by decide +kernel) (fun h => by cases h) ok_X6_findHeaviest hca body
def bk_X8_init : pm_B := [(0, [(.aload_n 0, 1, 0, 0, 0), (.invokespecial 3, 3, 0, 0, 0), (.aload_n 0, 1, 0, 0, 0), (.sipush 160, 3, 0, 0, 160), (.newarray .int, 2, 160, 0, 0), (.putfield 9, 3, 8, 0, 1), (.aload_n 0, 1, 0, 0, 0), (.bipush 24, 2, 0, 0, 24), (.newarray .int, 2, 24, 0, 0), (.putfield 15, 3, 8, 1, 1), (.aload_n 0, 1, 0, 0, 0), (.bipush 24, 2, 0, 0, 24), (.newarray .int, 2, 24, 0, 0), (.putfield 18, 3, 8, 2, 1), (.return_, 1, 0, 0, 0)], 30)]
set_option maxRecDepth 100000 in
theorem ok_X8_init : pm_oks 8 true 1 none cX8_init bk_X8_init = true := by decide +kernel
set_option maxRecDepth 100000 in
theorem me_X8_init : pm_me 8 = (yX8_init, cX8_init, 1, none, 0, 2) := rfl
theorem mt_X8_init {l : Launch} {g : pm_G} {d mc ms : Nat} {as : List Value} {A : pm_H} {Q : Option Value → pm_H → Prop} (hca : pm_cat 1 as = true) (body : ∀ J : pm_J, pm_Cl l g (fun _ => none) d mc ms (pm_Rq mc ms Q) bk_X8_init J → J 0 (pm_l0 1 as) [] A 0 0) : pm_Mt l g 8 d mc ms as A Q := pm_Mt_of (isI := true) 8 bk_X8_init me_X8_init (plainFor_of_name (by decide +kernel)) (by decide +kernel) (fun _ => by decide +kernel) ok_X8_init hca body
def bk_X8_canBe : pm_B := [(0, [(.iload_n 0, 1, 0, 0, 0), (.iconst 1, 1, 0, 0, 1), (.if_icmp .lt 22, 3, 24, 0, 0), (.iload_n 0, 1, 0, 0, 0), (.bipush 24, 2, 0, 0, 24), (.if_icmp .gt 16, 3, 24, 0, 0), (.iload_n 1, 1, 1, 0, 0), (.ifCond .eq 8, 3, 20, 0, 0), (.iload_n 1, 1, 1, 0, 0), (.iconst 1, 1, 0, 0, 1), (.if_icmp .ne 7, 3, 24, 0, 0)], 20),
  (20, [(.iconst 1, 1, 0, 0, 1), (.goto 4, 3, 25, 0, 0)], 24),
  (24, [(.iconst 0, 1, 0, 0, 0)], 25),
  (25, [(.ireturn, 1, 1, 0, 0)], 26)]
set_option maxRecDepth 100000 in
theorem ok_X8_canBe : pm_oks 8 false 2 (some .boolean) cX8_canBe bk_X8_canBe = true := by decide +kernel
set_option maxRecDepth 100000 in
theorem me_X8_canBe : pm_me 121 = (yX8_canBe, cX8_canBe, 2, (some .boolean), 2, 1) := rfl
theorem mt_X8_canBe {l : Launch} {g : pm_G} {d mc ms : Nat} {as : List Value} {A : pm_H} {Q : Option Value → pm_H → Prop} (hca : pm_cat 2 as = true) (body : ∀ J : pm_J, pm_Cl l g (fun _ => none) d mc ms (pm_Rq mc ms Q) bk_X8_canBe J → J 0 (pm_l0 2 as) [] A 0 0) : pm_Mt l g 121 d mc ms as A Q := pm_Mt_of (isI := false) 8 bk_X8_canBe me_X8_canBe (plainFor_of_name (by decide +kernel)) (by decide +kernel) (fun h => by cases h) ok_X8_canBe hca body
def bk_X8_goThrough : pm_B := [(0, [(.aload_n 0, 1, 0, 0, 0), (.aload_n 1, 1, 1, 0, 0), (.invokevirtual 21, 3, 123, 1, 8), (.aload_n 0, 1, 0, 0, 0), (.iconst 0, 1, 0, 0, 0), (.putfield 25, 3, 8, 3, 0), (.aload_n 0, 1, 0, 0, 0), (.iconst 0, 1, 0, 0, 0), (.putfield 29, 3, 8, 4, 0), (.iconst 0, 1, 0, 0, 0), (.istore 5, 2, 5, 0, 0)], 18),
  (18, [(.iload 5, 2, 5, 0, 0), (.iload_n 2, 1, 2, 0, 0), (.if_icmp .gt 115, 3, 136, 0, 0), (.aload_n 1, 1, 1, 0, 0), (.iload 5, 2, 5, 0, 0), (.invokevirtual 32, 3, 19, 1, 7), (.ifCond .eq 106, 3, 136, 0, 0), (.aload_n 1, 1, 1, 0, 0), (.getfield 38, 3, 7, 0, 0), (.iload 5, 2, 5, 0, 0), (.iaload, 1, 0, 0, 0), (.istore 6, 2, 6, 0, 0), (.aload_n 0, 1, 0, 0, 0), (.getfield 29, 3, 8, 4, 0), (.iconst 1, 1, 0, 0, 1), (.iload 6, 2, 6, 0, 0), (.ishl, 1, 0, 0, 0), (.iand, 1, 0, 0, 0), (.ifCond .ne 56, 3, 107, 0, 0), (.aload_n 0, 1, 0, 0, 0), (.dup, 1, 0, 0, 0), (.getfield 25, 3, 8, 3, 0), (.iconst 1, 1, 0, 0, 1), (.iadd, 1, 0, 0, 0), (.putfield 25, 3, 8, 3, 0), (.aload_n 0, 1, 0, 0, 0), (.getfield 29, 3, 8, 4, 0), (.invokestatic 41, 3, 75, 1, 0), (.iload_n 3, 1, 3, 0, 0), (.if_icmp .lt 22, 3, 94, 0, 0), (.aload_n 0, 1, 0, 0, 0), (.dup, 1, 0, 0, 0), (.getfield 29, 3, 8, 4, 0), (.iconst 1, 1, 0, 0, 1), (.aload_n 0, 1, 0, 0, 0), (.iload 4, 2, 4, 0, 0), (.invokevirtual 47, 3, 124, 1, 8), (.ishl, 1, 0, 0, 0), (.iconst (-1), 1, 0, 0, -1), (.ixor, 1, 0, 0, 0), (.iand, 1, 0, 0, 0), (.putfield 29, 3, 8, 4, 0)], 94),
  (94, [(.aload_n 0, 1, 0, 0, 0), (.dup, 1, 0, 0, 0), (.getfield 29, 3, 8, 4, 0), (.iconst 1, 1, 0, 0, 1), (.iload 6, 2, 6, 0, 0), (.ishl, 1, 0, 0, 0), (.ior, 1, 0, 0, 0), (.putfield 29, 3, 8, 4, 0)], 107),
  (107, [(.aload_n 0, 1, 0, 0, 0), (.getfield 15, 3, 8, 1, 0), (.iload 6, 2, 6, 0, 0), (.iload 5, 2, 5, 0, 0), (.iastore, 1, 0, 0, 0), (.aload_n 0, 1, 0, 0, 0), (.getfield 18, 3, 8, 2, 0), (.iload 6, 2, 6, 0, 0), (.aload_n 0, 1, 0, 0, 0), (.getfield 9, 3, 8, 0, 0), (.iload 5, 2, 5, 0, 0), (.iaload, 1, 0, 0, 0), (.iastore, 1, 0, 0, 0), (.iinc 5 1, 3, 5, 0, 1), (.goto (-115), 3, 18, 0, 0)], 136),
  (136, [(.return_, 1, 0, 0, 0)], 137)]
set_option maxRecDepth 100000 in
theorem ok_X8_goThrough : pm_oks 8 false 7 none cX8_goThrough bk_X8_goThrough = true := by decide +kernel
set_option maxRecDepth 100000 in
theorem me_X8_goThrough : pm_me 122 = (yX8_goThrough, cX8_goThrough, 7, none, 4, 0) := rfl
theorem mt_X8_goThrough {l : Launch} {g : pm_G} {d mc ms : Nat} {as : List Value} {A : pm_H} {Q : Option Value → pm_H → Prop} (hca : pm_cat 7 as = true) (body : ∀ J : pm_J, pm_Cl l g (fun _ => none) d mc ms (pm_Rq mc ms Q) bk_X8_goThrough J → J 0 (pm_l0 7 as) [] A 0 0) : pm_Mt l g 122 d mc ms as A Q := pm_Mt_of (isI := false) 8 bk_X8_goThrough me_X8_goThrough (plainFor_of_name (by decide +kernel)) (by decide +kernel) (fun h => by cases h) ok_X8_goThrough hca body
def bk_X8_findNextAlike : pm_B := [(0, [(.aload_n 0, 1, 0, 0, 0), (.getfield 9, 3, 8, 0, 0), (.sipush 160, 3, 0, 0, 160), (.invokestatic 50, 3, 4, 2, 0), (.iconst 0, 1, 0, 0, 0), (.istore_n 2, 1, 2, 0, 0)], 12),
  (12, [(.iload_n 2, 1, 2, 0, 0), (.aload_n 1, 1, 1, 0, 0), (.getfield 56, 3, 7, 3, 0), (.if_icmp .ge 31, 3, 48, 0, 0), (.aload_n 1, 1, 1, 0, 0), (.getfield 59, 3, 7, 2, 0), (.iload_n 2, 1, 2, 0, 0), (.iaload, 1, 0, 0, 0), (.iconst (-1), 1, 0, 0, -1), (.if_icmp .eq 15, 3, 42, 0, 0), (.aload_n 0, 1, 0, 0, 0), (.getfield 9, 3, 8, 0, 0), (.aload_n 1, 1, 1, 0, 0), (.getfield 59, 3, 7, 2, 0), (.iload_n 2, 1, 2, 0, 0), (.iaload, 1, 0, 0, 0), (.iload_n 2, 1, 2, 0, 0), (.iastore, 1, 0, 0, 0)], 42),
  (42, [(.iinc 2 1, 3, 2, 0, 1), (.goto (-33), 3, 12, 0, 0)], 48),
  (48, [(.return_, 1, 0, 0, 0)], 49)]
set_option maxRecDepth 100000 in
theorem ok_X8_findNextAlike : pm_oks 8 false 3 none cX8_findNextAlike bk_X8_findNextAlike = true := by decide +kernel
set_option maxRecDepth 100000 in
theorem me_X8_findNextAlike : pm_me 123 = (yX8_findNextAlike, cX8_findNextAlike, 3, none, 1, 0) := rfl
theorem mt_X8_findNextAlike {l : Launch} {g : pm_G} {d mc ms : Nat} {as : List Value} {A : pm_H} {Q : Option Value → pm_H → Prop} (hca : pm_cat 3 as = true) (body : ∀ J : pm_J, pm_Cl l g (fun _ => none) d mc ms (pm_Rq mc ms Q) bk_X8_findNextAlike J → J 0 (pm_l0 3 as) [] A 0 0) : pm_Mt l g 123 d mc ms as A Q := pm_Mt_of (isI := false) 8 bk_X8_findNextAlike me_X8_findNextAlike (plainFor_of_name (by decide +kernel)) (by decide +kernel) (fun h => by cases h) ok_X8_findNextAlike hca body
def bk_X8_oneToGo : pm_B := [(0, [(.iconst (-1), 1, 0, 0, -1), (.istore_n 2, 1, 2, 0, 0), (.iconst 0, 1, 0, 0, 0), (.istore_n 3, 1, 3, 0, 0)], 4),
  (4, [(.iload_n 3, 1, 3, 0, 0), (.bipush 24, 2, 0, 0, 24), (.if_icmp .ge 37, 3, 44, 0, 0), (.aload_n 0, 1, 0, 0, 0), (.getfield 29, 3, 8, 4, 0), (.iconst 1, 1, 0, 0, 1), (.iload_n 3, 1, 3, 0, 0), (.ishl, 1, 0, 0, 0), (.iand, 1, 0, 0, 0), (.ifCond .eq 20, 3, 38, 0, 0), (.iload_n 2, 1, 2, 0, 0), (.iconst (-1), 1, 0, 0, -1), (.if_icmp .eq 13, 3, 36, 0, 0), (.aload_n 0, 1, 0, 0, 0), (.iload_n 3, 1, 3, 0, 0), (.iload_n 2, 1, 2, 0, 0), (.iload_n 1, 1, 1, 0, 0), (.invokevirtual 62, 3, 125, 3, 8), (.ifCond .eq 5, 3, 38, 0, 0)], 36),
  (36, [(.iload_n 3, 1, 3, 0, 0), (.istore_n 2, 1, 2, 0, 0)], 38),
  (38, [(.iinc 3 1, 3, 3, 0, 1), (.goto (-37), 3, 4, 0, 0)], 44),
  (44, [(.iload_n 2, 1, 2, 0, 0), (.iconst 0, 1, 0, 0, 0), (.invokestatic 66, 3, 51, 2, 0), (.ireturn, 1, 0, 0, 0)], 50)]
set_option maxRecDepth 100000 in
theorem ok_X8_oneToGo : pm_oks 8 false 4 (some .int) cX8_oneToGo bk_X8_oneToGo = true := by decide +kernel
set_option maxRecDepth 100000 in
theorem me_X8_oneToGo : pm_me 124 = (yX8_oneToGo, cX8_oneToGo, 4, (some .int), 1, 0) := rfl
theorem mt_X8_oneToGo {l : Launch} {g : pm_G} {d mc ms : Nat} {as : List Value} {A : pm_H} {Q : Option Value → pm_H → Prop} (hca : pm_cat 4 as = true) (body : ∀ J : pm_J, pm_Cl l g (fun _ => none) d mc ms (pm_Rq mc ms Q) bk_X8_oneToGo J → J 0 (pm_l0 4 as) [] A 0 0) : pm_Mt l g 124 d mc ms as A Q := pm_Mt_of (isI := false) 8 bk_X8_oneToGo me_X8_oneToGo (plainFor_of_name (by decide +kernel)) (by decide +kernel) (fun h => by cases h) ok_X8_oneToGo hca body
def bk_X8_goesRather : pm_B := [(0, [(.iload_n 3, 1, 3, 0, 0), (.ifCond .ne 24, 3, 25, 0, 0), (.aload_n 0, 1, 0, 0, 0), (.getfield 15, 3, 8, 1, 0), (.iload_n 1, 1, 1, 0, 0), (.iaload, 1, 0, 0, 0), (.aload_n 0, 1, 0, 0, 0), (.getfield 15, 3, 8, 1, 0), (.iload_n 2, 1, 2, 0, 0), (.iaload, 1, 0, 0, 0), (.if_icmp .ge 7, 3, 23, 0, 0), (.iconst 1, 1, 0, 0, 1), (.goto 4, 3, 24, 0, 0)], 23),
  (23, [(.iconst 0, 1, 0, 0, 0)], 24),
  (24, [(.ireturn, 1, 1, 0, 0)], 25),
  (25, [(.aload_n 0, 1, 0, 0, 0), (.getfield 18, 3, 8, 2, 0), (.iload_n 1, 1, 1, 0, 0), (.iaload, 1, 0, 0, 0), (.aload_n 0, 1, 0, 0, 0), (.getfield 18, 3, 8, 2, 0), (.iload_n 2, 1, 2, 0, 0), (.iaload, 1, 0, 0, 0), (.if_icmp .le 7, 3, 44, 0, 0), (.iconst 1, 1, 0, 0, 1), (.goto 4, 3, 45, 0, 0)], 44),
  (44, [(.iconst 0, 1, 0, 0, 0)], 45),
  (45, [(.ireturn, 1, 1, 0, 0)], 46)]
set_option maxRecDepth 100000 in
theorem ok_X8_goesRather : pm_oks 8 false 4 (some .boolean) cX8_goesRather bk_X8_goesRather = true := by decide +kernel
set_option maxRecDepth 100000 in
theorem me_X8_goesRather : pm_me 125 = (yX8_goesRather, cX8_goesRather, 4, (some .boolean), 3, 0) := rfl
theorem mt_X8_goesRather {l : Launch} {g : pm_G} {d mc ms : Nat} {as : List Value} {A : pm_H} {Q : Option Value → pm_H → Prop} (hca : pm_cat 4 as = true) (body : ∀ J : pm_J, pm_Cl l g (fun _ => none) d mc ms (pm_Rq mc ms Q) bk_X8_goesRather J → J 0 (pm_l0 4 as) [] A 0 0) : pm_Mt l g 125 d mc ms as A Q := pm_Mt_of (isI := false) 8 bk_X8_goesRather me_X8_goesRather (plainFor_of_name (by decide +kernel)) (by decide +kernel) (fun h => by cases h) ok_X8_goesRather hca body
def bk_X4_init : pm_B := [(0, [(.aload_n 0, 1, 0, 0, 0), (.invokespecial 3, 3, 0, 0, 0), (.aload_n 0, 1, 0, 0, 0), (.sipush 160, 3, 0, 0, 160), (.newarray .int, 2, 160, 0, 0), (.putfield 9, 3, 4, 0, 1), (.return_, 1, 0, 0, 0)], 14)]
set_option maxRecDepth 100000 in
theorem ok_X4_init : pm_oks 4 true 1 none cX4_init bk_X4_init = true := by decide +kernel
set_option maxRecDepth 100000 in
theorem me_X4_init : pm_me 9 = (yX4_init, cX4_init, 1, none, 0, 2) := rfl
theorem mt_X4_init {l : Launch} {g : pm_G} {d mc ms : Nat} {as : List Value} {A : pm_H} {Q : Option Value → pm_H → Prop} (hca : pm_cat 1 as = true) (body : ∀ J : pm_J, pm_Cl l g (fun _ => none) d mc ms (pm_Rq mc ms Q) bk_X4_init J → J 0 (pm_l0 1 as) [] A 0 0) : pm_Mt l g 9 d mc ms as A Q := pm_Mt_of (isI := true) 4 bk_X4_init me_X4_init (plainFor_of_name (by decide +kernel)) (by decide +kernel) (fun _ => by decide +kernel) ok_X4_init hca body
def bk_X4_spansUpTo : pm_B := [(0, [(.aload_n 2, 1, 2, 0, 0), (.invokevirtual 15, 3, 56, 0, 2), (.iconst 0, 1, 0, 0, 0), (.istore 4, 2, 4, 0, 0), (.iconst 0, 1, 0, 0, 0), (.istore 5, 2, 5, 0, 0), (.iconst 0, 1, 0, 0, 0), (.istore 6, 2, 6, 0, 0)], 13),
  (13, [(.iload 6, 2, 6, 0, 0), (.aload_n 1, 1, 1, 0, 0), (.getfield 20, 3, 7, 3, 0), (.if_icmp .ge 64, 3, 83, 0, 0), (.aload_n 2, 1, 2, 0, 0), (.aload_n 1, 1, 1, 0, 0), (.getfield 26, 3, 7, 0, 0), (.iload 6, 2, 6, 0, 0), (.iaload, 1, 0, 0, 0), (.invokevirtual 29, 3, 57, 1, 2)], 33),
  (33, [(.aload_n 2, 1, 2, 0, 0), (.getfield 33, 3, 2, 3, 0), (.iload_n 3, 1, 3, 0, 0), (.if_icmp .le 27, 3, 65, 0, 0), (.iload 5, 2, 5, 0, 0), (.iload 6, 2, 6, 0, 0), (.if_icmp .gt 20, 3, 65, 0, 0), (.aload_n 2, 1, 2, 0, 0), (.aload_n 1, 1, 1, 0, 0), (.getfield 26, 3, 7, 0, 0), (.iload 5, 2, 5, 0, 0), (.iaload, 1, 0, 0, 0), (.invokevirtual 36, 3, 113, 1, 2), (.iinc 5 1, 3, 5, 0, 1), (.goto (-29), 3, 33, 0, 0)], 65),
  (65, [(.iload 4, 2, 4, 0, 0), (.iload 6, 2, 6, 0, 0), (.iload 5, 2, 5, 0, 0), (.isub, 1, 0, 0, 0), (.iconst 1, 1, 0, 0, 1), (.iadd, 1, 0, 0, 0), (.iadd, 1, 0, 0, 0), (.istore 4, 2, 4, 0, 0), (.iinc 6 1, 3, 6, 0, 1), (.goto (-67), 3, 13, 0, 0)], 83),
  (83, [(.iload 4, 2, 4, 0, 0), (.ireturn, 1, 0, 0, 0)], 86)]
set_option maxRecDepth 100000 in
theorem ok_X4_spansUpTo : pm_oks 4 false 7 (some .int) cX4_spansUpTo bk_X4_spansUpTo = true := by decide +kernel
set_option maxRecDepth 100000 in
theorem me_X4_spansUpTo : pm_me 129 = (yX4_spansUpTo, cX4_spansUpTo, 7, (some .int), 3, 0) := rfl
theorem mt_X4_spansUpTo {l : Launch} {g : pm_G} {d mc ms : Nat} {as : List Value} {A : pm_H} {Q : Option Value → pm_H → Prop} (hca : pm_cat 7 as = true) (body : ∀ J : pm_J, pm_Cl l g (fun _ => none) d mc ms (pm_Rq mc ms Q) bk_X4_spansUpTo J → J 0 (pm_l0 7 as) [] A 0 0) : pm_Mt l g 129 d mc ms as A Q := pm_Mt_of (isI := false) 4 bk_X4_spansUpTo me_X4_spansUpTo (plainFor_of_name (by decide +kernel)) (by decide +kernel) (fun h => by cases h) ok_X4_spansUpTo hca body
def bk_X4_unlikeSets : pm_B := [(0, [(.aload_n 2, 1, 2, 0, 0), (.aload_n 1, 1, 1, 0, 0), (.iconst 0, 1, 0, 0, 0), (.iload_n 3, 1, 3, 0, 0), (.iconst 1, 1, 0, 0, 1), (.isub, 1, 0, 0, 0), (.invokevirtual 39, 3, 55, 3, 2), (.iconst 0, 1, 0, 0, 0), (.istore 4, 2, 4, 0, 0), (.iconst 0, 1, 0, 0, 0), (.istore 5, 2, 5, 0, 0)], 15),
  (15, [(.iload 5, 2, 5, 0, 0), (.iload_n 3, 1, 3, 0, 0), (.iadd, 1, 0, 0, 0), (.aload_n 1, 1, 1, 0, 0), (.getfield 20, 3, 7, 3, 0), (.if_icmp .gt 69, 3, 92, 0, 0), (.iload 5, 2, 5, 0, 0), (.ifCond .le 31, 3, 59, 0, 0), (.aload_n 2, 1, 2, 0, 0), (.aload_n 1, 1, 1, 0, 0), (.getfield 26, 3, 7, 0, 0), (.iload 5, 2, 5, 0, 0), (.iconst 1, 1, 0, 0, 1), (.isub, 1, 0, 0, 0), (.iaload, 1, 0, 0, 0), (.invokevirtual 36, 3, 113, 1, 2), (.aload_n 2, 1, 2, 0, 0), (.aload_n 1, 1, 1, 0, 0), (.getfield 26, 3, 7, 0, 0), (.iload 5, 2, 5, 0, 0), (.iload_n 3, 1, 3, 0, 0), (.iadd, 1, 0, 0, 0), (.iconst 1, 1, 0, 0, 1), (.isub, 1, 0, 0, 0), (.iaload, 1, 0, 0, 0), (.invokevirtual 29, 3, 57, 1, 2)], 59),
  (59, [(.aload_n 0, 1, 0, 0, 0), (.aload_n 2, 1, 2, 0, 0), (.getfield 43, 3, 2, 4, 0), (.iload 4, 2, 4, 0, 0), (.invokevirtual 46, 3, 133, 2, 4), (.ifCond .ne 17, 3, 86, 0, 0), (.aload_n 0, 1, 0, 0, 0), (.getfield 9, 3, 4, 0, 0), (.iload 4, 2, 4, 0, 0), (.aload_n 2, 1, 2, 0, 0), (.getfield 43, 3, 2, 4, 0), (.iastore, 1, 0, 0, 0), (.iinc 4 1, 3, 4, 0, 1)], 86),
  (86, [(.iinc 5 1, 3, 5, 0, 1), (.goto (-74), 3, 15, 0, 0)], 92),
  (92, [(.iload 4, 2, 4, 0, 0), (.ireturn, 1, 0, 0, 0)], 95)]
set_option maxRecDepth 100000 in
theorem ok_X4_unlikeSets : pm_oks 4 false 6 (some .int) cX4_unlikeSets bk_X4_unlikeSets = true := by decide +kernel
set_option maxRecDepth 100000 in
theorem me_X4_unlikeSets : pm_me 132 = (yX4_unlikeSets, cX4_unlikeSets, 6, (some .int), 3, 0) := rfl
theorem mt_X4_unlikeSets {l : Launch} {g : pm_G} {d mc ms : Nat} {as : List Value} {A : pm_H} {Q : Option Value → pm_H → Prop} (hca : pm_cat 6 as = true) (body : ∀ J : pm_J, pm_Cl l g (fun _ => none) d mc ms (pm_Rq mc ms Q) bk_X4_unlikeSets J → J 0 (pm_l0 6 as) [] A 0 0) : pm_Mt l g 132 d mc ms as A Q := pm_Mt_of (isI := false) 4 bk_X4_unlikeSets me_X4_unlikeSets (plainFor_of_name (by decide +kernel)) (by decide +kernel) (fun h => by cases h) ok_X4_unlikeSets hca body
def bk_X4_isAmong : pm_B := [(0, [(.iconst 0, 1, 0, 0, 0), (.istore_n 3, 1, 3, 0, 0)], 2),
  (2, [(.iload_n 3, 1, 3, 0, 0), (.iload_n 2, 1, 2, 0, 0), (.if_icmp .ge 21, 3, 25, 0, 0), (.aload_n 0, 1, 0, 0, 0), (.getfield 9, 3, 4, 0, 0), (.iload_n 3, 1, 3, 0, 0), (.iaload, 1, 0, 0, 0), (.iload_n 1, 1, 1, 0, 0), (.if_icmp .ne 5, 3, 19, 0, 0), (.iconst 1, 1, 0, 0, 1), (.ireturn, 1, 1, 0, 0)], 19),
  (19, [(.iinc 3 1, 3, 3, 0, 1), (.goto (-20), 3, 2, 0, 0)], 25),
  (25, [(.iconst 0, 1, 0, 0, 0), (.ireturn, 1, 1, 0, 0)], 27)]
set_option maxRecDepth 100000 in
theorem ok_X4_isAmong : pm_oks 4 false 4 (some .boolean) cX4_isAmong bk_X4_isAmong = true := by decide +kernel
set_option maxRecDepth 100000 in
theorem me_X4_isAmong : pm_me 133 = (yX4_isAmong, cX4_isAmong, 4, (some .boolean), 2, 0) := rfl
theorem mt_X4_isAmong {l : Launch} {g : pm_G} {d mc ms : Nat} {as : List Value} {A : pm_H} {Q : Option Value → pm_H → Prop} (hca : pm_cat 4 as = true) (body : ∀ J : pm_J, pm_Cl l g (fun _ => none) d mc ms (pm_Rq mc ms Q) bk_X4_isAmong J → J 0 (pm_l0 4 as) [] A 0 0) : pm_Mt l g 133 d mc ms as A Q := pm_Mt_of (isI := false) 4 bk_X4_isAmong me_X4_isAmong (plainFor_of_name (by decide +kernel)) (by decide +kernel) (fun h => by cases h) ok_X4_isAmong hca body
def bk_X4_matching : pm_B := [(0, [(.iconst 0, 1, 0, 0, 0), (.istore 5, 2, 5, 0, 0), (.iconst 0, 1, 0, 0, 0), (.istore 6, 2, 6, 0, 0)], 6),
  (6, [(.iload 6, 2, 6, 0, 0), (.iload_n 3, 1, 3, 0, 0), (.iadd, 1, 0, 0, 0), (.iload_n 2, 1, 2, 0, 0), (.isub, 1, 0, 0, 0), (.aload_n 1, 1, 1, 0, 0), (.getfield 20, 3, 7, 3, 0), (.if_icmp .ge 37, 3, 53, 0, 0), (.aload_n 1, 1, 1, 0, 0), (.iload_n 2, 1, 2, 0, 0), (.iload 6, 2, 6, 0, 0), (.iload_n 3, 1, 3, 0, 0), (.iload_n 2, 1, 2, 0, 0), (.isub, 1, 0, 0, 0), (.iconst 1, 1, 0, 0, 1), (.iadd, 1, 0, 0, 0), (.invokestatic 53, 3, 136, 4, 0), (.ifCond .eq 16, 3, 47, 0, 0), (.iload 5, 2, 5, 0, 0), (.iload 4, 2, 4, 0, 0), (.if_icmp .ne 6, 3, 44, 0, 0), (.iload 6, 2, 6, 0, 0), (.ireturn, 1, 0, 0, 0)], 44),
  (44, [(.iinc 5 1, 3, 5, 0, 1)], 47),
  (47, [(.iinc 6 1, 3, 6, 0, 1), (.goto (-44), 3, 6, 0, 0)], 53),
  (53, [(.iload 4, 2, 4, 0, 0), (.iconst (-1), 1, 0, 0, -1), (.if_icmp .ne 8, 3, 64, 0, 0), (.iload 5, 2, 5, 0, 0), (.goto 4, 3, 65, 0, 0)], 64),
  (64, [(.iconst (-1), 1, 0, 0, -1)], 65),
  (65, [(.ireturn, 1, 0, 0, 0)], 66)]
set_option maxRecDepth 100000 in
theorem ok_X4_matching : pm_oks 4 false 7 (some .int) cX4_matching bk_X4_matching = true := by decide +kernel
set_option maxRecDepth 100000 in
theorem me_X4_matching : pm_me 135 = (yX4_matching, cX4_matching, 7, (some .int), 4, 0) := rfl
theorem mt_X4_matching {l : Launch} {g : pm_G} {d mc ms : Nat} {as : List Value} {A : pm_H} {Q : Option Value → pm_H → Prop} (hca : pm_cat 7 as = true) (body : ∀ J : pm_J, pm_Cl l g (fun _ => none) d mc ms (pm_Rq mc ms Q) bk_X4_matching J → J 0 (pm_l0 7 as) [] A 0 0) : pm_Mt l g 135 d mc ms as A Q := pm_Mt_of (isI := false) 4 bk_X4_matching me_X4_matching (plainFor_of_name (by decide +kernel)) (by decide +kernel) (fun h => by cases h) ok_X4_matching hca body
def bk_X4_areMatching : pm_B := [(0, [(.iconst 0, 1, 0, 0, 0), (.istore 4, 2, 4, 0, 0)], 3),
  (3, [(.iload 4, 2, 4, 0, 0), (.iload_n 3, 1, 3, 0, 0), (.if_icmp .ge 32, 3, 38, 0, 0), (.aload_n 0, 1, 0, 0, 0), (.iload_n 1, 1, 1, 0, 0), (.iload_n 1, 1, 1, 0, 0), (.iload 4, 2, 4, 0, 0), (.iadd, 1, 0, 0, 0), (.invokestatic 57, 3, 137, 3, 0), (.aload_n 0, 1, 0, 0, 0), (.iload_n 2, 1, 2, 0, 0), (.iload_n 2, 1, 2, 0, 0), (.iload 4, 2, 4, 0, 0), (.iadd, 1, 0, 0, 0), (.invokestatic 57, 3, 137, 3, 0), (.if_icmp .eq 5, 3, 32, 0, 0), (.iconst 0, 1, 0, 0, 0), (.ireturn, 1, 1, 0, 0)], 32),
  (32, [(.iinc 4 1, 3, 4, 0, 1), (.goto (-32), 3, 3, 0, 0)], 38),
  (38, [(.iconst 1, 1, 0, 0, 1), (.ireturn, 1, 1, 0, 0)], 40)]
set_option maxRecDepth 100000 in
theorem ok_X4_areMatching : pm_oks 4 false 5 (some .boolean) cX4_areMatching bk_X4_areMatching = true := by decide +kernel
set_option maxRecDepth 100000 in
theorem me_X4_areMatching : pm_me 136 = (yX4_areMatching, cX4_areMatching, 5, (some .boolean), 4, 1) := rfl
theorem mt_X4_areMatching {l : Launch} {g : pm_G} {d mc ms : Nat} {as : List Value} {A : pm_H} {Q : Option Value → pm_H → Prop} (hca : pm_cat 5 as = true) (body : ∀ J : pm_J, pm_Cl l g (fun _ => none) d mc ms (pm_Rq mc ms Q) bk_X4_areMatching J → J 0 (pm_l0 5 as) [] A 0 0) : pm_Mt l g 136 d mc ms as A Q := pm_Mt_of (isI := false) 4 bk_X4_areMatching me_X4_areMatching (plainFor_of_name (by decide +kernel)) (by decide +kernel) (fun h => by cases h) ok_X4_areMatching hca body
def bk_X4_stepWithin : pm_B := [(0, [(.aload_n 0, 1, 0, 0, 0), (.getfield 50, 3, 7, 2, 0), (.iload_n 2, 1, 2, 0, 0), (.iaload, 1, 0, 0, 0), (.iload_n 1, 1, 1, 0, 0), (.if_icmp .lt 14, 3, 21, 0, 0), (.iload_n 2, 1, 2, 0, 0), (.aload_n 0, 1, 0, 0, 0), (.getfield 50, 3, 7, 2, 0), (.iload_n 2, 1, 2, 0, 0), (.iaload, 1, 0, 0, 0), (.isub, 1, 0, 0, 0), (.goto 4, 3, 22, 0, 0)], 21),
  (21, [(.iconst 0, 1, 0, 0, 0)], 22),
  (22, [(.ireturn, 1, 0, 0, 0)], 23)]
set_option maxRecDepth 100000 in
theorem ok_X4_stepWithin : pm_oks 4 false 3 (some .int) cX4_stepWithin bk_X4_stepWithin = true := by decide +kernel
set_option maxRecDepth 100000 in
theorem me_X4_stepWithin : pm_me 137 = (yX4_stepWithin, cX4_stepWithin, 3, (some .int), 3, 1) := rfl
theorem mt_X4_stepWithin {l : Launch} {g : pm_G} {d mc ms : Nat} {as : List Value} {A : pm_H} {Q : Option Value → pm_H → Prop} (hca : pm_cat 3 as = true) (body : ∀ J : pm_J, pm_Cl l g (fun _ => none) d mc ms (pm_Rq mc ms Q) bk_X4_stepWithin J → J 0 (pm_l0 3 as) [] A 0 0) : pm_Mt l g 137 d mc ms as A Q := pm_Mt_of (isI := false) 4 bk_X4_stepWithin me_X4_stepWithin (plainFor_of_name (by decide +kernel)) (by decide +kernel) (fun h => by cases h) ok_X4_stepWithin hca body
def bk_X4_findTwin : pm_B := [(0, [(.aload_n 0, 1, 0, 0, 0), (.iconst (-1), 1, 0, 0, -1), (.putfield 61, 3, 4, 1, 0), (.aload_n 0, 1, 0, 0, 0), (.iconst 0, 1, 0, 0, 0), (.putfield 64, 3, 4, 2, 0), (.iconst 1, 1, 0, 0, 1), (.istore_n 2, 1, 2, 0, 0)], 12),
  (12, [(.iload_n 2, 1, 2, 0, 0), (.aload_n 1, 1, 1, 0, 0), (.getfield 20, 3, 7, 3, 0), (.if_icmp .ge 15, 3, 32, 0, 0), (.aload_n 0, 1, 0, 0, 0), (.aload_n 1, 1, 1, 0, 0), (.iload_n 2, 1, 2, 0, 0), (.invokevirtual 67, 3, 140, 2, 4), (.iinc 2 1, 3, 2, 0, 1), (.goto (-17), 3, 12, 0, 0)], 32),
  (32, [(.return_, 1, 0, 0, 0)], 33)]
set_option maxRecDepth 100000 in
theorem ok_X4_findTwin : pm_oks 4 false 3 none cX4_findTwin bk_X4_findTwin = true := by decide +kernel
set_option maxRecDepth 100000 in
theorem me_X4_findTwin : pm_me 139 = (yX4_findTwin, cX4_findTwin, 3, none, 1, 0) := rfl
theorem mt_X4_findTwin {l : Launch} {g : pm_G} {d mc ms : Nat} {as : List Value} {A : pm_H} {Q : Option Value → pm_H → Prop} (hca : pm_cat 3 as = true) (body : ∀ J : pm_J, pm_Cl l g (fun _ => none) d mc ms (pm_Rq mc ms Q) bk_X4_findTwin J → J 0 (pm_l0 3 as) [] A 0 0) : pm_Mt l g 139 d mc ms as A Q := pm_Mt_of (isI := false) 4 bk_X4_findTwin me_X4_findTwin (plainFor_of_name (by decide +kernel)) (by decide +kernel) (fun h => by cases h) ok_X4_findTwin hca body
def bk_X4_findTwinApart : pm_B := [(0, [(.iconst 0, 1, 0, 0, 0), (.istore_n 3, 1, 3, 0, 0), (.iconst 0, 1, 0, 0, 0), (.istore 4, 2, 4, 0, 0)], 5),
  (5, [(.iload 4, 2, 4, 0, 0), (.iload_n 2, 1, 2, 0, 0), (.iadd, 1, 0, 0, 0), (.aload_n 1, 1, 1, 0, 0), (.getfield 20, 3, 7, 3, 0), (.if_icmp .ge 98, 3, 111, 0, 0), (.iload_n 3, 1, 3, 0, 0), (.iload 4, 2, 4, 0, 0), (.invokestatic 71, 3, 51, 2, 0), (.istore_n 3, 1, 3, 0, 0)], 23),
  (23, [(.iload_n 3, 1, 3, 0, 0), (.iload_n 2, 1, 2, 0, 0), (.iadd, 1, 0, 0, 0), (.aload_n 1, 1, 1, 0, 0), (.getfield 20, 3, 7, 3, 0), (.if_icmp .ge 30, 3, 60, 0, 0), (.aload_n 1, 1, 1, 0, 0), (.iload 4, 2, 4, 0, 0), (.iload_n 3, 1, 3, 0, 0), (.invokestatic 57, 3, 137, 3, 0), (.aload_n 1, 1, 1, 0, 0), (.iload 4, 2, 4, 0, 0), (.iload_n 2, 1, 2, 0, 0), (.iadd, 1, 0, 0, 0), (.iload_n 3, 1, 3, 0, 0), (.iload_n 2, 1, 2, 0, 0), (.iadd, 1, 0, 0, 0), (.invokestatic 57, 3, 137, 3, 0), (.if_icmp .ne 9, 3, 60, 0, 0), (.iinc 3 1, 3, 3, 0, 1), (.goto (-34), 3, 23, 0, 0)], 60),
  (60, [(.iload_n 3, 1, 3, 0, 0), (.iload 4, 2, 4, 0, 0), (.isub, 1, 0, 0, 0), (.istore 5, 2, 5, 0, 0), (.iload 5, 2, 5, 0, 0), (.aload_n 0, 1, 0, 0, 0), (.getfield 64, 3, 4, 2, 0), (.if_icmp .gt 21, 3, 93, 0, 0), (.iload 5, 2, 5, 0, 0), (.aload_n 0, 1, 0, 0, 0), (.getfield 64, 3, 4, 2, 0), (.if_icmp .ne 24, 3, 105, 0, 0), (.iload 4, 2, 4, 0, 0), (.aload_n 0, 1, 0, 0, 0), (.getfield 61, 3, 4, 1, 0), (.if_icmp .ge 15, 3, 105, 0, 0)], 93),
  (93, [(.aload_n 0, 1, 0, 0, 0), (.iload 4, 2, 4, 0, 0), (.putfield 61, 3, 4, 1, 0), (.aload_n 0, 1, 0, 0, 0), (.iload 5, 2, 5, 0, 0), (.putfield 64, 3, 4, 2, 0)], 105),
  (105, [(.iinc 4 1, 3, 4, 0, 1), (.goto (-103), 3, 5, 0, 0)], 111),
  (111, [(.return_, 1, 0, 0, 0)], 112)]
set_option maxRecDepth 100000 in
theorem ok_X4_findTwinApart : pm_oks 4 false 6 none cX4_findTwinApart bk_X4_findTwinApart = true := by decide +kernel
set_option maxRecDepth 100000 in
theorem me_X4_findTwinApart : pm_me 140 = (yX4_findTwinApart, cX4_findTwinApart, 6, none, 2, 0) := rfl
theorem mt_X4_findTwinApart {l : Launch} {g : pm_G} {d mc ms : Nat} {as : List Value} {A : pm_H} {Q : Option Value → pm_H → Prop} (hca : pm_cat 6 as = true) (body : ∀ J : pm_J, pm_Cl l g (fun _ => none) d mc ms (pm_Rq mc ms Q) bk_X4_findTwinApart J → J 0 (pm_l0 6 as) [] A 0 0) : pm_Mt l g 140 d mc ms as A Q := pm_Mt_of (isI := false) 4 bk_X4_findTwinApart me_X4_findTwinApart (plainFor_of_name (by decide +kernel)) (by decide +kernel) (fun h => by cases h) ok_X4_findTwinApart hca body
def bk_X3_init : pm_B := [(0, [(.aload_n 0, 1, 0, 0, 0), (.invokespecial 3, 3, 0, 0, 0), (.aload_n 0, 1, 0, 0, 0), (.bipush 9, 2, 0, 0, 9), (.sipush 161, 3, 0, 0, 161), (.multianewarray 9 2, 4, 9, 161, 0), (.putfield 11, 3, 3, 0, 1), (.return_, 1, 0, 0, 0)], 18)]
set_option maxRecDepth 100000 in
theorem ok_X3_init : pm_oks 3 true 1 none cX3_init bk_X3_init = true := by decide +kernel
set_option maxRecDepth 100000 in
theorem me_X3_init : pm_me 10 = (yX3_init, cX3_init, 1, none, 0, 2) := rfl
theorem mt_X3_init {l : Launch} {g : pm_G} {d mc ms : Nat} {as : List Value} {A : pm_H} {Q : Option Value → pm_H → Prop} (hca : pm_cat 1 as = true) (body : ∀ J : pm_J, pm_Cl l g (fun _ => none) d mc ms (pm_Rq mc ms Q) bk_X3_init J → J 0 (pm_l0 1 as) [] A 0 0) : pm_Mt l g 10 d mc ms as A Q := pm_Mt_of (isI := true) 3 bk_X3_init me_X3_init (plainFor_of_name (by decide +kernel)) (by decide +kernel) (fun _ => by decide +kernel) ok_X3_init hca body
def bk_X3_greedy : pm_B := [(0, [(.aload_n 2, 1, 2, 0, 0), (.invokevirtual 16, 3, 56, 0, 2), (.iconst 0, 1, 0, 0, 0), (.istore 5, 2, 5, 0, 0), (.iconst 0, 1, 0, 0, 0), (.istore 6, 2, 6, 0, 0)], 10),
  (10, [(.iload 6, 2, 6, 0, 0), (.aload_n 1, 1, 1, 0, 0), (.getfield 21, 3, 7, 3, 0), (.if_icmp .ge 58, 3, 74, 0, 0), (.aload_n 2, 1, 2, 0, 0), (.aload_n 1, 1, 1, 0, 0), (.getfield 27, 3, 7, 0, 0), (.iload 6, 2, 6, 0, 0), (.iaload, 1, 0, 0, 0), (.invokevirtual 31, 3, 57, 1, 2), (.aload_n 2, 1, 2, 0, 0), (.getfield 35, 3, 2, 3, 0), (.iload_n 3, 1, 3, 0, 0), (.if_icmp .le 33, 3, 68, 0, 0), (.iload 5, 2, 5, 0, 0), (.iload 4, 2, 4, 0, 0), (.if_icmp .ne 8, 3, 50, 0, 0), (.iload 6, 2, 6, 0, 0), (.iconst 1, 1, 0, 0, 1), (.isub, 1, 0, 0, 0), (.ireturn, 1, 0, 0, 0)], 50),
  (50, [(.iinc 5 1, 3, 5, 0, 1), (.aload_n 2, 1, 2, 0, 0), (.invokevirtual 16, 3, 56, 0, 2), (.aload_n 2, 1, 2, 0, 0), (.aload_n 1, 1, 1, 0, 0), (.getfield 27, 3, 7, 0, 0), (.iload 6, 2, 6, 0, 0), (.iaload, 1, 0, 0, 0), (.invokevirtual 31, 3, 57, 1, 2)], 68),
  (68, [(.iinc 6 1, 3, 6, 0, 1), (.goto (-61), 3, 10, 0, 0)], 74),
  (74, [(.iload 4, 2, 4, 0, 0), (.iconst (-1), 1, 0, 0, -1), (.if_icmp .ne 19, 3, 96, 0, 0), (.aload_n 1, 1, 1, 0, 0), (.getfield 21, 3, 7, 3, 0), (.ifCond .ne 7, 3, 91, 0, 0), (.iconst 0, 1, 0, 0, 0), (.goto 7, 3, 95, 0, 0)], 91),
  (91, [(.iload 5, 2, 5, 0, 0), (.iconst 1, 1, 0, 0, 1), (.iadd, 1, 0, 0, 0)], 95),
  (95, [(.ireturn, 1, 0, 0, 0)], 96),
  (96, [(.iload 5, 2, 5, 0, 0), (.iload 4, 2, 4, 0, 0), (.if_icmp .ne 12, 3, 112, 0, 0), (.aload_n 1, 1, 1, 0, 0), (.getfield 21, 3, 7, 3, 0), (.iconst 1, 1, 0, 0, 1), (.isub, 1, 0, 0, 0), (.goto 4, 3, 113, 0, 0)], 112),
  (112, [(.iconst (-1), 1, 0, 0, -1)], 113),
  (113, [(.ireturn, 1, 0, 0, 0)], 114)]
set_option maxRecDepth 100000 in
theorem ok_X3_greedy : pm_oks 3 false 7 (some .int) cX3_greedy bk_X3_greedy = true := by decide +kernel
set_option maxRecDepth 100000 in
theorem me_X3_greedy : pm_me 142 = (yX3_greedy, cX3_greedy, 7, (some .int), 4, 0) := rfl
theorem mt_X3_greedy {l : Launch} {g : pm_G} {d mc ms : Nat} {as : List Value} {A : pm_H} {Q : Option Value → pm_H → Prop} (hca : pm_cat 7 as = true) (body : ∀ J : pm_J, pm_Cl l g (fun _ => none) d mc ms (pm_Rq mc ms Q) bk_X3_greedy J → J 0 (pm_l0 7 as) [] A 0 0) : pm_Mt l g 142 d mc ms as A Q := pm_Mt_of (isI := false) 3 bk_X3_greedy me_X3_greedy (plainFor_of_name (by decide +kernel)) (by decide +kernel) (fun h => by cases h) ok_X3_greedy hca body
def bk_X3_weighUp : pm_B := [(0, [(.iconst 0, 1, 0, 0, 0), (.istore 4, 2, 4, 0, 0)], 3),
  (3, [(.iload 4, 2, 4, 0, 0), (.iload_n 3, 1, 3, 0, 0), (.if_icmp .gt 20, 3, 26, 0, 0), (.aload_n 0, 1, 0, 0, 0), (.getfield 11, 3, 3, 0, 0), (.iload 4, 2, 4, 0, 0), (.aaload, 1, 0, 0, 0), (.iconst (-1), 1, 0, 0, -1), (.invokestatic 38, 3, 4, 2, 0), (.iinc 4 1, 3, 4, 0, 1), (.goto (-20), 3, 3, 0, 0)], 26),
  (26, [(.aload_n 0, 1, 0, 0, 0), (.getfield 11, 3, 3, 0, 0), (.iconst 0, 1, 0, 0, 0), (.aaload, 1, 0, 0, 0), (.aload_n 1, 1, 1, 0, 0), (.getfield 21, 3, 7, 3, 0), (.iconst 0, 1, 0, 0, 0), (.iastore, 1, 0, 0, 0), (.aload_n 1, 1, 1, 0, 0), (.getfield 21, 3, 7, 3, 0), (.iconst 1, 1, 0, 0, 1), (.isub, 1, 0, 0, 0), (.istore 4, 2, 4, 0, 0)], 46),
  (46, [(.iload 4, 2, 4, 0, 0), (.ifCond .lt 110, 3, 158, 0, 0), (.aload_n 2, 1, 2, 0, 0), (.invokevirtual 16, 3, 56, 0, 2), (.iload 4, 2, 4, 0, 0), (.istore 5, 2, 5, 0, 0)], 59),
  (59, [(.iload 5, 2, 5, 0, 0), (.aload_n 1, 1, 1, 0, 0), (.getfield 21, 3, 7, 3, 0), (.if_icmp .ge 87, 3, 152, 0, 0), (.aload_n 2, 1, 2, 0, 0), (.aload_n 1, 1, 1, 0, 0), (.getfield 27, 3, 7, 0, 0), (.iload 5, 2, 5, 0, 0), (.iaload, 1, 0, 0, 0), (.invokevirtual 31, 3, 57, 1, 2), (.iconst 1, 1, 0, 0, 1), (.istore 6, 2, 6, 0, 0)], 82),
  (82, [(.iload 6, 2, 6, 0, 0), (.iload_n 3, 1, 3, 0, 0), (.if_icmp .gt 61, 3, 146, 0, 0), (.aload_n 0, 1, 0, 0, 0), (.getfield 11, 3, 3, 0, 0), (.iload 6, 2, 6, 0, 0), (.iconst 1, 1, 0, 0, 1), (.isub, 1, 0, 0, 0), (.aaload, 1, 0, 0, 0), (.iload 5, 2, 5, 0, 0), (.iconst 1, 1, 0, 0, 1), (.iadd, 1, 0, 0, 0), (.iaload, 1, 0, 0, 0), (.istore 7, 2, 7, 0, 0), (.iload 7, 2, 7, 0, 0), (.iconst (-1), 1, 0, 0, -1), (.if_icmp .eq 33, 3, 140, 0, 0), (.aload_n 0, 1, 0, 0, 0), (.getfield 11, 3, 3, 0, 0), (.iload 6, 2, 6, 0, 0), (.aaload, 1, 0, 0, 0), (.iload 4, 2, 4, 0, 0), (.aload_n 0, 1, 0, 0, 0), (.getfield 11, 3, 3, 0, 0), (.iload 6, 2, 6, 0, 0), (.aaload, 1, 0, 0, 0), (.iload 4, 2, 4, 0, 0), (.iaload, 1, 0, 0, 0), (.aload_n 2, 1, 2, 0, 0), (.getfield 35, 3, 2, 3, 0), (.iload 7, 2, 7, 0, 0), (.iadd, 1, 0, 0, 0), (.invokestatic 44, 3, 51, 2, 0), (.iastore, 1, 0, 0, 0)], 140),
  (140, [(.iinc 6 1, 3, 6, 0, 1), (.goto (-61), 3, 82, 0, 0)], 146),
  (146, [(.iinc 5 1, 3, 5, 0, 1), (.goto (-90), 3, 59, 0, 0)], 152),
  (152, [(.iinc 4 (-1), 3, 4, 0, -1), (.goto (-109), 3, 46, 0, 0)], 158),
  (158, [(.return_, 1, 0, 0, 0)], 159)]
set_option maxRecDepth 100000 in
theorem ok_X3_weighUp : pm_oks 3 false 8 none cX3_weighUp bk_X3_weighUp = true := by decide +kernel
set_option maxRecDepth 100000 in
theorem me_X3_weighUp : pm_me 144 = (yX3_weighUp, cX3_weighUp, 8, none, 3, 0) := rfl
theorem mt_X3_weighUp {l : Launch} {g : pm_G} {d mc ms : Nat} {as : List Value} {A : pm_H} {Q : Option Value → pm_H → Prop} (hca : pm_cat 8 as = true) (body : ∀ J : pm_J, pm_Cl l g (fun _ => none) d mc ms (pm_Rq mc ms Q) bk_X3_weighUp J → J 0 (pm_l0 8 as) [] A 0 0) : pm_Mt l g 144 d mc ms as A Q := pm_Mt_of (isI := false) 3 bk_X3_weighUp me_X3_weighUp (plainFor_of_name (by decide +kernel)) (by decide +kernel) (fun h => by cases h) ok_X3_weighUp hca body
def bk_X3_worthOf : pm_B := [(0, [(.iload_n 1, 1, 1, 0, 0), (.ifCond .lt 24, 3, 25, 0, 0), (.iload_n 1, 1, 1, 0, 0), (.bipush 8, 2, 0, 0, 8), (.if_icmp .gt 18, 3, 25, 0, 0), (.iload_n 2, 1, 2, 0, 0), (.ifCond .lt 14, 3, 25, 0, 0), (.iload_n 2, 1, 2, 0, 0), (.sipush 160, 3, 0, 0, 160), (.if_icmp .gt 7, 3, 25, 0, 0), (.iconst 1, 1, 0, 0, 1), (.goto 4, 3, 26, 0, 0)], 25),
  (25, [(.iconst 0, 1, 0, 0, 0)], 26),
  (26, [(.istore_n 3, 1, 3, 0, 0), (.iload_n 3, 1, 3, 0, 0), (.ifCond .eq 14, 3, 42, 0, 0), (.aload_n 0, 1, 0, 0, 0), (.getfield 11, 3, 3, 0, 0), (.iload_n 1, 1, 1, 0, 0), (.aaload, 1, 0, 0, 0), (.iload_n 2, 1, 2, 0, 0), (.iaload, 1, 0, 0, 0), (.goto 4, 3, 43, 0, 0)], 42),
  (42, [(.iconst (-1), 1, 0, 0, -1)], 43),
  (43, [(.ireturn, 1, 0, 0, 0)], 44)]
set_option maxRecDepth 100000 in
theorem ok_X3_worthOf : pm_oks 3 false 4 (some .int) cX3_worthOf bk_X3_worthOf = true := by decide +kernel
set_option maxRecDepth 100000 in
theorem me_X3_worthOf : pm_me 145 = (yX3_worthOf, cX3_worthOf, 4, (some .int), 2, 0) := rfl
theorem mt_X3_worthOf {l : Launch} {g : pm_G} {d mc ms : Nat} {as : List Value} {A : pm_H} {Q : Option Value → pm_H → Prop} (hca : pm_cat 4 as = true) (body : ∀ J : pm_J, pm_Cl l g (fun _ => none) d mc ms (pm_Rq mc ms Q) bk_X3_worthOf J → J 0 (pm_l0 4 as) [] A 0 0) : pm_Mt l g 145 d mc ms as A Q := pm_Mt_of (isI := false) 3 bk_X3_worthOf me_X3_worthOf (plainFor_of_name (by decide +kernel)) (by decide +kernel) (fun h => by cases h) ok_X3_worthOf hca body
def bk_X3_lastPlaceOf : pm_B := [(0, [(.iconst (-1), 1, 0, 0, -1), (.istore 5, 2, 5, 0, 0), (.iconst 0, 1, 0, 0, 0), (.istore 6, 2, 6, 0, 0)], 6),
  (6, [(.iload 6, 2, 6, 0, 0), (.iload 4, 2, 4, 0, 0), (.if_icmp .gt 25, 3, 35, 0, 0), (.aload_n 0, 1, 0, 0, 0), (.aload_n 1, 1, 1, 0, 0), (.aload_n 2, 1, 2, 0, 0), (.iload 5, 2, 5, 0, 0), (.iconst 1, 1, 0, 0, 1), (.iadd, 1, 0, 0, 0), (.iload_n 3, 1, 3, 0, 0), (.iload 6, 2, 6, 0, 0), (.isub, 1, 0, 0, 0), (.invokevirtual 50, 3, 147, 4, 3), (.istore 5, 2, 5, 0, 0), (.iinc 6 1, 3, 6, 0, 1), (.goto (-26), 3, 6, 0, 0)], 35),
  (35, [(.iload 5, 2, 5, 0, 0), (.ireturn, 1, 0, 0, 0)], 38)]
set_option maxRecDepth 100000 in
theorem ok_X3_lastPlaceOf : pm_oks 3 false 7 (some .int) cX3_lastPlaceOf bk_X3_lastPlaceOf = true := by decide +kernel
set_option maxRecDepth 100000 in
theorem me_X3_lastPlaceOf : pm_me 146 = (yX3_lastPlaceOf, cX3_lastPlaceOf, 7, (some .int), 4, 0) := rfl
theorem mt_X3_lastPlaceOf {l : Launch} {g : pm_G} {d mc ms : Nat} {as : List Value} {A : pm_H} {Q : Option Value → pm_H → Prop} (hca : pm_cat 7 as = true) (body : ∀ J : pm_J, pm_Cl l g (fun _ => none) d mc ms (pm_Rq mc ms Q) bk_X3_lastPlaceOf J → J 0 (pm_l0 7 as) [] A 0 0) : pm_Mt l g 146 d mc ms as A Q := pm_Mt_of (isI := false) 3 bk_X3_lastPlaceOf me_X3_lastPlaceOf (plainFor_of_name (by decide +kernel)) (by decide +kernel) (fun h => by cases h) ok_X3_lastPlaceOf hca body
def bk_X3_shortestBestEnd : pm_B := [(0, [(.aload_n 2, 1, 2, 0, 0), (.invokevirtual 16, 3, 56, 0, 2), (.iload_n 3, 1, 3, 0, 0), (.istore 5, 2, 5, 0, 0)], 7),
  (7, [(.iload 5, 2, 5, 0, 0), (.aload_n 1, 1, 1, 0, 0), (.getfield 21, 3, 7, 3, 0), (.if_icmp .ge 60, 3, 73, 0, 0), (.aload_n 2, 1, 2, 0, 0), (.aload_n 1, 1, 1, 0, 0), (.getfield 27, 3, 7, 0, 0), (.iload 5, 2, 5, 0, 0), (.iaload, 1, 0, 0, 0), (.invokevirtual 31, 3, 57, 1, 2), (.aload_n 0, 1, 0, 0, 0), (.iload 4, 2, 4, 0, 0), (.iconst 1, 1, 0, 0, 1), (.isub, 1, 0, 0, 0), (.iload 5, 2, 5, 0, 0), (.iconst 1, 1, 0, 0, 1), (.iadd, 1, 0, 0, 0), (.invokevirtual 54, 3, 145, 2, 3), (.istore 6, 2, 6, 0, 0), (.iload 6, 2, 6, 0, 0), (.iconst (-1), 1, 0, 0, -1), (.if_icmp .eq 23, 3, 67, 0, 0), (.aload_n 2, 1, 2, 0, 0), (.getfield 35, 3, 2, 3, 0), (.iload 6, 2, 6, 0, 0), (.iadd, 1, 0, 0, 0), (.aload_n 0, 1, 0, 0, 0), (.iload 4, 2, 4, 0, 0), (.iload_n 3, 1, 3, 0, 0), (.invokevirtual 54, 3, 145, 2, 3), (.if_icmp .ne 6, 3, 67, 0, 0), (.iload 5, 2, 5, 0, 0), (.ireturn, 1, 0, 0, 0)], 67),
  (67, [(.iinc 5 1, 3, 5, 0, 1), (.goto (-63), 3, 7, 0, 0)], 73),
  (73, [(.iconst (-1), 1, 0, 0, -1), (.ireturn, 1, 0, 0, 0)], 75)]
set_option maxRecDepth 100000 in
theorem ok_X3_shortestBestEnd : pm_oks 3 false 7 (some .int) cX3_shortestBestEnd bk_X3_shortestBestEnd = true := by decide +kernel
set_option maxRecDepth 100000 in
theorem me_X3_shortestBestEnd : pm_me 147 = (yX3_shortestBestEnd, cX3_shortestBestEnd, 7, (some .int), 4, 0) := rfl
theorem mt_X3_shortestBestEnd {l : Launch} {g : pm_G} {d mc ms : Nat} {as : List Value} {A : pm_H} {Q : Option Value → pm_H → Prop} (hca : pm_cat 7 as = true) (body : ∀ J : pm_J, pm_Cl l g (fun _ => none) d mc ms (pm_Rq mc ms Q) bk_X3_shortestBestEnd J → J 0 (pm_l0 7 as) [] A 0 0) : pm_Mt l g 147 d mc ms as A Q := pm_Mt_of (isI := false) 3 bk_X3_shortestBestEnd me_X3_shortestBestEnd (plainFor_of_name (by decide +kernel)) (by decide +kernel) (fun h => by cases h) ok_X3_shortestBestEnd hca body
def bk_X5_init : pm_B := [(0, [(.aload_n 0, 1, 0, 0, 0), (.invokespecial 3, 3, 0, 0, 0), (.aload_n 0, 1, 0, 0, 0), (.bipush 30, 2, 0, 0, 30), (.newarray .int, 2, 30, 0, 0), (.putfield 9, 3, 5, 0, 1), (.aload_n 0, 1, 0, 0, 0), (.bipush 30, 2, 0, 0, 30), (.newarray .int, 2, 30, 0, 0), (.putfield 15, 3, 5, 1, 1), (.aload_n 0, 1, 0, 0, 0), (.bipush 30, 2, 0, 0, 30), (.newarray .int, 2, 30, 0, 0), (.putfield 18, 3, 5, 2, 1), (.aload_n 0, 1, 0, 0, 0), (.bipush 30, 2, 0, 0, 30), (.newarray .int, 2, 30, 0, 0), (.putfield 21, 3, 5, 3, 1), (.aload_n 0, 1, 0, 0, 0), (.bipush 30, 2, 0, 0, 30), (.newarray .int, 2, 30, 0, 0), (.putfield 24, 3, 5, 4, 1), (.return_, 1, 0, 0, 0)], 45)]
set_option maxRecDepth 100000 in
theorem ok_X5_init : pm_oks 5 true 1 none cX5_init bk_X5_init = true := by decide +kernel
set_option maxRecDepth 100000 in
theorem me_X5_init : pm_me 11 = (yX5_init, cX5_init, 1, none, 0, 2) := rfl
theorem mt_X5_init {l : Launch} {g : pm_G} {d mc ms : Nat} {as : List Value} {A : pm_H} {Q : Option Value → pm_H → Prop} (hca : pm_cat 1 as = true) (body : ∀ J : pm_J, pm_Cl l g (fun _ => none) d mc ms (pm_Rq mc ms Q) bk_X5_init J → J 0 (pm_l0 1 as) [] A 0 0) : pm_Mt l g 11 d mc ms as A Q := pm_Mt_of (isI := true) 5 bk_X5_init me_X5_init (plainFor_of_name (by decide +kernel)) (by decide +kernel) (fun _ => by decide +kernel) ok_X5_init hca body
end
section
/-! blocks, by a program -/
def bk_X5_add : pm_B := [(0, [(.aload_n 0, 1, 0, 0, 0), (.getfield 27, 3, 5, 5, 0), (.ifCond .lt 12, 3, 16, 0, 0), (.aload_n 0, 1, 0, 0, 0), (.getfield 27, 3, 5, 5, 0), (.bipush 30, 2, 0, 0, 30), (.if_icmp .lt 5, 3, 18, 0, 0)], 16),
  (16, [(.iconst (-1), 1, 0, 0, -1), (.ireturn, 1, 0, 0, 0)], 18),
  (18, [(.aload_n 0, 1, 0, 0, 0), (.getfield 27, 3, 5, 5, 0), (.istore 4, 2, 4, 0, 0), (.aload_n 0, 1, 0, 0, 0), (.getfield 9, 3, 5, 0, 0), (.iload 4, 2, 4, 0, 0), (.iload_n 2, 1, 2, 0, 0), (.iastore, 1, 0, 0, 0), (.aload_n 0, 1, 0, 0, 0), (.getfield 15, 3, 5, 1, 0), (.iload 4, 2, 4, 0, 0), (.iload_n 3, 1, 3, 0, 0), (.iastore, 1, 0, 0, 0), (.aload_n 0, 1, 0, 0, 0), (.getfield 24, 3, 5, 4, 0), (.iload 4, 2, 4, 0, 0), (.iload_n 1, 1, 1, 0, 0), (.iastore, 1, 0, 0, 0), (.aload_n 0, 1, 0, 0, 0), (.getfield 18, 3, 5, 2, 0), (.iload 4, 2, 4, 0, 0), (.iconst (-1), 1, 0, 0, -1), (.iastore, 1, 0, 0, 0), (.aload_n 0, 1, 0, 0, 0), (.getfield 21, 3, 5, 3, 0), (.iload 4, 2, 4, 0, 0), (.iconst (-1), 1, 0, 0, -1), (.iastore, 1, 0, 0, 0), (.aload_n 0, 1, 0, 0, 0), (.dup, 1, 0, 0, 0), (.getfield 27, 3, 5, 5, 0), (.iconst 1, 1, 0, 0, 1), (.iadd, 1, 0, 0, 0), (.putfield 27, 3, 5, 5, 0), (.iload 4, 2, 4, 0, 0), (.ireturn, 1, 0, 0, 0)], 77)]
set_option maxRecDepth 100000 in
theorem ok_X5_add : pm_oks 5 false 5 (some .int) cX5_add bk_X5_add = true := by decide +kernel
set_option maxRecDepth 100000 in
theorem me_X5_add : pm_me 159 = (yX5_add, cX5_add, 5, (some .int), 3, 0) := rfl
theorem mt_X5_add {l : Launch} {g : pm_G} {d mc ms : Nat} {as : List Value} {A : pm_H} {Q : Option Value → pm_H → Prop} (hca : pm_cat 5 as = true) (body : ∀ J : pm_J, pm_Cl l g (fun _ => none) d mc ms (pm_Rq mc ms Q) bk_X5_add J → J 0 (pm_l0 5 as) [] A 0 0) : pm_Mt l g 159 d mc ms as A Q := pm_Mt_of (isI := false) 5 bk_X5_add me_X5_add (plainFor_of_name (by decide +kernel)) (by decide +kernel) (fun h => by cases h) ok_X5_add hca body
def bk_X5_answer : pm_B := [(0, [(.aload_n 0, 1, 0, 0, 0), (.getfield 18, 3, 5, 2, 0), (.iload_n 1, 1, 1, 0, 0), (.iconst (-1), 1, 0, 0, -1), (.iastore, 1, 0, 0, 0), (.aload_n 0, 1, 0, 0, 0), (.getfield 21, 3, 5, 3, 0), (.iload_n 1, 1, 1, 0, 0), (.iconst (-1), 1, 0, 0, -1), (.iastore, 1, 0, 0, 0), (.aload_n 2, 1, 2, 0, 0), (.ifnonnull 5, 3, 20, 0, 0), (.iconst 0, 1, 0, 0, 0), (.ireturn, 1, 1, 0, 0)], 20),
  (20, [(.aload_n 2, 1, 2, 0, 0), (.aload_n 0, 1, 0, 0, 0), (.getfield 9, 3, 5, 0, 0), (.iload_n 1, 1, 1, 0, 0), (.iaload, 1, 0, 0, 0), (.invokevirtual 31, 3, 46, 1, 7), (.istore 4, 2, 4, 0, 0), (.aload_n 2, 1, 2, 0, 0), (.aload_n 0, 1, 0, 0, 0), (.getfield 15, 3, 5, 1, 0), (.iload_n 1, 1, 1, 0, 0), (.iaload, 1, 0, 0, 0), (.invokevirtual 31, 3, 46, 1, 7), (.istore 5, 2, 5, 0, 0), (.iload 4, 2, 4, 0, 0), (.iconst (-1), 1, 0, 0, -1), (.if_icmp .eq 9, 3, 56, 0, 0), (.iload 5, 2, 5, 0, 0), (.iconst (-1), 1, 0, 0, -1), (.if_icmp .ne 5, 3, 58, 0, 0)], 56),
  (56, [(.iconst 0, 1, 0, 0, 0), (.ireturn, 1, 1, 0, 0)], 58),
  (58, [(.aload_n 3, 1, 3, 0, 0), (.aload_n 2, 1, 2, 0, 0), (.iload 4, 2, 4, 0, 0), (.iload 5, 2, 5, 0, 0), (.invokestatic 37, 3, 87, 2, 0), (.iload 4, 2, 4, 0, 0), (.iload 5, 2, 5, 0, 0), (.invokestatic 43, 3, 51, 2, 0), (.invokevirtual 46, 3, 55, 3, 2), (.aload_n 0, 1, 0, 0, 0), (.getfield 18, 3, 5, 2, 0), (.iload_n 1, 1, 1, 0, 0), (.aload_n 3, 1, 3, 0, 0), (.getfield 52, 3, 2, 3, 0), (.iastore, 1, 0, 0, 0), (.aload_n 0, 1, 0, 0, 0), (.getfield 21, 3, 5, 3, 0), (.iload_n 1, 1, 1, 0, 0), (.aload_n 3, 1, 3, 0, 0), (.getfield 54, 3, 2, 5, 0), (.iastore, 1, 0, 0, 0), (.iconst 1, 1, 0, 0, 1), (.ireturn, 1, 1, 0, 0)], 99)]
set_option maxRecDepth 100000 in
theorem ok_X5_answer : pm_oks 5 false 6 (some .boolean) cX5_answer bk_X5_answer = true := by decide +kernel
set_option maxRecDepth 100000 in
theorem me_X5_answer : pm_me 162 = (yX5_answer, cX5_answer, 6, (some .boolean), 3, 0) := rfl
theorem mt_X5_answer {l : Launch} {g : pm_G} {d mc ms : Nat} {as : List Value} {A : pm_H} {Q : Option Value → pm_H → Prop} (hca : pm_cat 6 as = true) (body : ∀ J : pm_J, pm_Cl l g (fun _ => none) d mc ms (pm_Rq mc ms Q) bk_X5_answer J → J 0 (pm_l0 6 as) [] A 0 0) : pm_Mt l g 162 d mc ms as A Q := pm_Mt_of (isI := false) 5 bk_X5_answer me_X5_answer (plainFor_of_name (by decide +kernel)) (by decide +kernel) (fun h => by cases h) ok_X5_answer hca body
def bk_X5_tell : pm_B := [(0, [(.iload_n 1, 1, 1, 0, 0), (.ifCond .lt 11, 3, 12, 0, 0), (.iload_n 1, 1, 1, 0, 0), (.aload_n 0, 1, 0, 0, 0), (.getfield 27, 3, 5, 5, 0), (.if_icmp .lt 5, 3, 14, 0, 0)], 12),
  (12, [(.iconst (-1), 1, 0, 0, -1), (.ireturn, 1, 0, 0, 0)], 14),
  (14, [(.iload_n 2, 1, 2, 0, 0), (.tableswitch 68 0 4 #[33, 40, 47, 54, 61], 33, 15, 0, 0)], 48),
  (48, [(.aload_n 0, 1, 0, 0, 0), (.getfield 18, 3, 5, 2, 0), (.iload_n 1, 1, 1, 0, 0), (.iaload, 1, 0, 0, 0), (.ireturn, 1, 0, 0, 0)], 55),
  (55, [(.aload_n 0, 1, 0, 0, 0), (.getfield 21, 3, 5, 3, 0), (.iload_n 1, 1, 1, 0, 0), (.iaload, 1, 0, 0, 0), (.ireturn, 1, 0, 0, 0)], 62),
  (62, [(.aload_n 0, 1, 0, 0, 0), (.getfield 9, 3, 5, 0, 0), (.iload_n 1, 1, 1, 0, 0), (.iaload, 1, 0, 0, 0), (.ireturn, 1, 0, 0, 0)], 69),
  (69, [(.aload_n 0, 1, 0, 0, 0), (.getfield 15, 3, 5, 1, 0), (.iload_n 1, 1, 1, 0, 0), (.iaload, 1, 0, 0, 0), (.ireturn, 1, 0, 0, 0)], 76),
  (76, [(.aload_n 0, 1, 0, 0, 0), (.getfield 24, 3, 5, 4, 0), (.iload_n 1, 1, 1, 0, 0), (.iaload, 1, 0, 0, 0), (.ireturn, 1, 0, 0, 0)], 83),
  (83, [(.iconst (-1), 1, 0, 0, -1), (.ireturn, 1, 0, 0, 0)], 85)]
set_option maxRecDepth 100000 in
theorem ok_X5_tell : pm_oks 5 false 3 (some .int) cX5_tell bk_X5_tell = true := by decide +kernel
set_option maxRecDepth 100000 in
theorem me_X5_tell : pm_me 164 = (yX5_tell, cX5_tell, 3, (some .int), 2, 0) := rfl
theorem mt_X5_tell {l : Launch} {g : pm_G} {d mc ms : Nat} {as : List Value} {A : pm_H} {Q : Option Value → pm_H → Prop} (hca : pm_cat 3 as = true) (body : ∀ J : pm_J, pm_Cl l g (fun _ => none) d mc ms (pm_Rq mc ms Q) bk_X5_tell J → J 0 (pm_l0 3 as) [] A 0 0) : pm_Mt l g 164 d mc ms as A Q := pm_Mt_of (isI := false) 5 bk_X5_tell me_X5_tell (plainFor_of_name (by decide +kernel)) (by decide +kernel) (fun h => by cases h) ok_X5_tell hca body
def bk_J9_floorMod_7cf53 : pm_B := [(0, [(.iload_n 0, 1, 0, 0, 0), (.iload_n 1, 1, 1, 0, 0), (.irem, 1, 0, 0, 0), (.istore_n 2, 1, 2, 0, 0), (.iload_n 0, 1, 0, 0, 0), (.iload_n 1, 1, 1, 0, 0), (.ixor, 1, 0, 0, 0), (.ifCond .ge 11, 3, 18, 0, 0), (.iload_n 2, 1, 2, 0, 0), (.ifCond .eq 7, 3, 18, 0, 0), (.iload_n 2, 1, 2, 0, 0), (.iload_n 1, 1, 1, 0, 0), (.iadd, 1, 0, 0, 0), (.ireturn, 1, 0, 0, 0)], 18),
  (18, [(.iload_n 2, 1, 2, 0, 0), (.ireturn, 1, 0, 0, 0)], 20)]
set_option maxRecDepth 100000 in
theorem ok_J9_floorMod_7cf53 : pm_oks 14 false 3 (some .int) cJ9_floorMod_7cf53 bk_J9_floorMod_7cf53 = true := by decide +kernel
set_option maxRecDepth 100000 in
theorem me_J9_floorMod_7cf53 : pm_me 17 = (yJ9_floorMod_7cf53, cJ9_floorMod_7cf53, 3, (some .int), 2, 1) := rfl
theorem mt_J9_floorMod_7cf53 {l : Launch} {g : pm_G} {d mc ms : Nat} {as : List Value} {A : pm_H} {Q : Option Value → pm_H → Prop} (hca : pm_cat 3 as = true) (body : ∀ J : pm_J, pm_Cl l g (fun _ => none) d mc ms (pm_Rq mc ms Q) bk_J9_floorMod_7cf53 J → J 0 (pm_l0 3 as) [] A 0 0) : pm_Mt l g 17 d mc ms as A Q := pm_Mt_of (isI := false) 14 bk_J9_floorMod_7cf53 me_J9_floorMod_7cf53 (Jvm.Free.JP.mathPlain rfl (by decide +kernel)) (by decide +kernel) (fun h => by cases h) ok_J9_floorMod_7cf53 hca body
def bk_J9_max_7cf53 : pm_B := [(0, [(.iload_n 0, 1, 0, 0, 0), (.iload_n 1, 1, 1, 0, 0), (.if_icmp .lt 7, 3, 9, 0, 0), (.iload_n 0, 1, 0, 0, 0), (.goto 4, 3, 10, 0, 0)], 9),
  (9, [(.iload_n 1, 1, 1, 0, 0)], 10),
  (10, [(.ireturn, 1, 0, 0, 0)], 11)]
set_option maxRecDepth 100000 in
theorem ok_J9_max_7cf53 : pm_oks 14 false 2 (some .int) cJ9_max_7cf53 bk_J9_max_7cf53 = true := by decide +kernel
set_option maxRecDepth 100000 in
theorem me_J9_max_7cf53 : pm_me 51 = (yJ9_max_7cf53, cJ9_max_7cf53, 2, (some .int), 2, 1) := rfl
theorem mt_J9_max_7cf53 {l : Launch} {g : pm_G} {d mc ms : Nat} {as : List Value} {A : pm_H} {Q : Option Value → pm_H → Prop} (hca : pm_cat 2 as = true) (body : ∀ J : pm_J, pm_Cl l g (fun _ => none) d mc ms (pm_Rq mc ms Q) bk_J9_max_7cf53 J → J 0 (pm_l0 2 as) [] A 0 0) : pm_Mt l g 51 d mc ms as A Q := pm_Mt_of (isI := false) 14 bk_J9_max_7cf53 me_J9_max_7cf53 (Jvm.Free.JP.mathPlain rfl (by decide +kernel)) (by decide +kernel) (fun h => by cases h) ok_J9_max_7cf53 hca body
def bk_J9_abs_0f7a4 : pm_B := [(0, [(.iload_n 0, 1, 0, 0, 0), (.ifCond .ge 8, 3, 9, 0, 0), (.iload_n 0, 1, 0, 0, 0), (.ineg, 1, 0, 0, 0), (.goto 4, 3, 10, 0, 0)], 9),
  (9, [(.iload_n 0, 1, 0, 0, 0)], 10),
  (10, [(.ireturn, 1, 0, 0, 0)], 11)]
set_option maxRecDepth 100000 in
theorem ok_J9_abs_0f7a4 : pm_oks 14 false 1 (some .int) cJ9_abs_0f7a4 bk_J9_abs_0f7a4 = true := by decide +kernel
set_option maxRecDepth 100000 in
theorem me_J9_abs_0f7a4 : pm_me 70 = (yJ9_abs_0f7a4, cJ9_abs_0f7a4, 1, (some .int), 1, 1) := rfl
theorem mt_J9_abs_0f7a4 {l : Launch} {g : pm_G} {d mc ms : Nat} {as : List Value} {A : pm_H} {Q : Option Value → pm_H → Prop} (hca : pm_cat 1 as = true) (body : ∀ J : pm_J, pm_Cl l g (fun _ => none) d mc ms (pm_Rq mc ms Q) bk_J9_abs_0f7a4 J → J 0 (pm_l0 1 as) [] A 0 0) : pm_Mt l g 70 d mc ms as A Q := pm_Mt_of (isI := false) 14 bk_J9_abs_0f7a4 me_J9_abs_0f7a4 (Jvm.Free.JP.mathPlain rfl (by decide +kernel)) (by decide +kernel) (fun h => by cases h) ok_J9_abs_0f7a4 hca body
def bk_J9_min_7cf53 : pm_B := [(0, [(.iload_n 0, 1, 0, 0, 0), (.iload_n 1, 1, 1, 0, 0), (.if_icmp .gt 7, 3, 9, 0, 0), (.iload_n 0, 1, 0, 0, 0), (.goto 4, 3, 10, 0, 0)], 9),
  (9, [(.iload_n 1, 1, 1, 0, 0)], 10),
  (10, [(.ireturn, 1, 0, 0, 0)], 11)]
set_option maxRecDepth 100000 in
theorem ok_J9_min_7cf53 : pm_oks 14 false 2 (some .int) cJ9_min_7cf53 bk_J9_min_7cf53 = true := by decide +kernel
set_option maxRecDepth 100000 in
theorem me_J9_min_7cf53 : pm_me 87 = (yJ9_min_7cf53, cJ9_min_7cf53, 2, (some .int), 2, 1) := rfl
theorem mt_J9_min_7cf53 {l : Launch} {g : pm_G} {d mc ms : Nat} {as : List Value} {A : pm_H} {Q : Option Value → pm_H → Prop} (hca : pm_cat 2 as = true) (body : ∀ J : pm_J, pm_Cl l g (fun _ => none) d mc ms (pm_Rq mc ms Q) bk_J9_min_7cf53 J → J 0 (pm_l0 2 as) [] A 0 0) : pm_Mt l g 87 d mc ms as A Q := pm_Mt_of (isI := false) 14 bk_J9_min_7cf53 me_J9_min_7cf53 (Jvm.Free.JP.mathPlain rfl (by decide +kernel)) (by decide +kernel) (fun h => by cases h) ok_J9_min_7cf53 hca body
def bk_J6_bitCount_0f7a4 : pm_B := [(0, [(.iload_n 0, 1, 0, 0, 0), (.iload_n 0, 1, 0, 0, 0), (.iconst 1, 1, 0, 0, 1), (.iushr, 1, 0, 0, 0), (.ldc_w 265, 3, 0, 0, 1431655765), (.iand, 1, 0, 0, 0), (.isub, 1, 0, 0, 0), (.istore_n 0, 1, 0, 0, 0), (.iload_n 0, 1, 0, 0, 0), (.ldc_w 266, 3, 0, 0, 858993459), (.iand, 1, 0, 0, 0), (.iload_n 0, 1, 0, 0, 0), (.iconst 2, 1, 0, 0, 2), (.iushr, 1, 0, 0, 0), (.ldc_w 266, 3, 0, 0, 858993459), (.iand, 1, 0, 0, 0), (.iadd, 1, 0, 0, 0), (.istore_n 0, 1, 0, 0, 0), (.iload_n 0, 1, 0, 0, 0), (.iload_n 0, 1, 0, 0, 0), (.iconst 4, 1, 0, 0, 4), (.iushr, 1, 0, 0, 0), (.iadd, 1, 0, 0, 0), (.ldc_w 267, 3, 0, 0, 252645135), (.iand, 1, 0, 0, 0), (.istore_n 0, 1, 0, 0, 0), (.iload_n 0, 1, 0, 0, 0), (.iload_n 0, 1, 0, 0, 0), (.bipush 8, 2, 0, 0, 8), (.iushr, 1, 0, 0, 0), (.iadd, 1, 0, 0, 0), (.istore_n 0, 1, 0, 0, 0), (.iload_n 0, 1, 0, 0, 0), (.iload_n 0, 1, 0, 0, 0), (.bipush 16, 2, 0, 0, 16), (.iushr, 1, 0, 0, 0), (.iadd, 1, 0, 0, 0), (.istore_n 0, 1, 0, 0, 0), (.iload_n 0, 1, 0, 0, 0), (.bipush 63, 2, 0, 0, 63), (.iand, 1, 0, 0, 0), (.ireturn, 1, 0, 0, 0)], 53)]
set_option maxRecDepth 100000 in
theorem ok_J6_bitCount_0f7a4 : pm_oks 13 false 1 (some .int) cJ6_bitCount_0f7a4 bk_J6_bitCount_0f7a4 = true := by decide +kernel
set_option maxRecDepth 100000 in
theorem me_J6_bitCount_0f7a4 : pm_me 75 = (yJ6_bitCount_0f7a4, cJ6_bitCount_0f7a4, 1, (some .int), 1, 1) := rfl
theorem mt_J6_bitCount_0f7a4 {l : Launch} {g : pm_G} {d mc ms : Nat} {as : List Value} {A : pm_H} {Q : Option Value → pm_H → Prop} (hca : pm_cat 1 as = true) (body : ∀ J : pm_J, pm_Cl l g (fun _ => none) d mc ms (pm_Rq mc ms Q) bk_J6_bitCount_0f7a4 J → J 0 (pm_l0 1 as) [] A 0 0) : pm_Mt l g 75 d mc ms as A Q := pm_Mt_of (isI := false) 13 bk_J6_bitCount_0f7a4 me_J6_bitCount_0f7a4 (plainFor_of_name (by decide +kernel)) (by decide +kernel) (fun h => by cases h) ok_J6_bitCount_0f7a4 hca body
def bk_X11_init : pm_B := [(0, [(.aload_n 0, 1, 0, 0, 0), (.invokespecial 1, 3, 0, 0, 0), (.aload_n 0, 1, 0, 0, 0), (.sipush 160, 3, 0, 0, 160), (.newarray .int, 2, 160, 0, 0), (.putfield 7, 3, 11, 0, 1), (.aload_n 0, 1, 0, 0, 0), (.sipush 160, 3, 0, 0, 160), (.newarray .int, 2, 160, 0, 0), (.putfield 13, 3, 11, 1, 1), (.aload_n 0, 1, 0, 0, 0), (.bipush 24, 2, 0, 0, 24), (.newarray .int, 2, 24, 0, 0), (.putfield 16, 3, 11, 2, 1), (.aload_n 0, 1, 0, 0, 0), (.sipush 160, 3, 0, 0, 160), (.newarray .int, 2, 160, 0, 0), (.putfield 19, 3, 11, 3, 1), (.aload_n 0, 1, 0, 0, 0), (.sipush 160, 3, 0, 0, 160), (.newarray .int, 2, 160, 0, 0), (.putfield 22, 3, 11, 4, 1), (.aload_n 0, 1, 0, 0, 0), (.sipush 160, 3, 0, 0, 160), (.newarray .int, 2, 160, 0, 0), (.putfield 25, 3, 11, 5, 1), (.aload_n 0, 1, 0, 0, 0), (.sipush 160, 3, 0, 0, 160), (.newarray .int, 2, 160, 0, 0), (.putfield 28, 3, 11, 6, 1), (.aload_n 0, 1, 0, 0, 0), (.bipush 30, 2, 0, 0, 30), (.newarray .int, 2, 30, 0, 0), (.putfield 31, 3, 11, 13, 1), (.aload_n 0, 1, 0, 0, 0), (.bipush 30, 2, 0, 0, 30), (.newarray .int, 2, 30, 0, 0), (.putfield 34, 3, 11, 14, 1), (.aload_n 0, 1, 0, 0, 0), (.bipush 30, 2, 0, 0, 30), (.newarray .int, 2, 30, 0, 0), (.putfield 37, 3, 11, 15, 1), (.aload_n 0, 1, 0, 0, 0), (.bipush 30, 2, 0, 0, 30), (.newarray .int, 2, 30, 0, 0), (.putfield 40, 3, 11, 16, 1), (.aload_n 0, 1, 0, 0, 0), (.bipush 30, 2, 0, 0, 30), (.newarray .int, 2, 30, 0, 0), (.putfield 43, 3, 11, 18, 1), (.aload_n 0, 1, 0, 0, 0), (.sipush 6400, 3, 0, 0, 6400), (.newarray .int, 2, 6400, 0, 0), (.putfield 46, 3, 11, 19, 1), (.aload_n 0, 1, 0, 0, 0), (.sipush 6400, 3, 0, 0, 6400), (.newarray .int, 2, 6400, 0, 0), (.putfield 49, 3, 11, 20, 1), (.aload_n 0, 1, 0, 0, 0), (.bipush 40, 2, 0, 0, 40), (.newarray .int, 2, 40, 0, 0), (.putfield 52, 3, 11, 21, 1), (.aload_n 0, 1, 0, 0, 0), (.bipush 40, 2, 0, 0, 40), (.newarray .int, 2, 40, 0, 0), (.putfield 55, 3, 11, 22, 1), (.aload_n 0, 1, 0, 0, 0), (.bipush 24, 2, 0, 0, 24), (.newarray .int, 2, 24, 0, 0), (.putfield 58, 3, 11, 23, 1), (.aload_n 0, 1, 0, 0, 0), (.sipush 160, 3, 0, 0, 160), (.newarray .int, 2, 160, 0, 0), (.putfield 61, 3, 11, 25, 1), (.aload_n 0, 1, 0, 0, 0), (.sipush 1449, 3, 0, 0, 1449), (.newarray .int, 2, 1449, 0, 0), (.putfield 64, 3, 11, 26, 1), (.aload_n 0, 1, 0, 0, 0), (.sipush 1449, 3, 0, 0, 1449), (.newarray .int, 2, 1449, 0, 0), (.putfield 67, 3, 11, 27, 1), (.iconst 0, 1, 0, 0, 0), (.istore_n 1, 1, 1, 0, 0)], 177),
  (177, [(.iload_n 1, 1, 1, 0, 0), (.bipush 24, 2, 0, 0, 24), (.if_icmp .ge 16, 3, 196, 0, 0), (.aload_n 0, 1, 0, 0, 0), (.getfield 16, 3, 11, 2, 0), (.iload_n 1, 1, 1, 0, 0), (.iconst 1, 1, 0, 0, 1), (.iastore, 1, 0, 0, 0), (.iinc 1 1, 3, 1, 0, 1), (.goto (-16), 3, 177, 0, 0)], 196),
  (196, [(.return_, 1, 0, 0, 0)], 197)]
set_option maxRecDepth 100000 in
theorem ok_X11_init : pm_oks 11 true 2 none cX11_init bk_X11_init = true := by decide +kernel
set_option maxRecDepth 100000 in
theorem me_X11_init : pm_me 166 = (yX11_init, cX11_init, 2, none, 0, 2) := rfl
theorem mt_X11_init {l : Launch} {g : pm_G} {d mc ms : Nat} {as : List Value} {A : pm_H} {Q : Option Value → pm_H → Prop} (hca : pm_cat 2 as = true) (body : ∀ J : pm_J, pm_Cl l g (fun _ => none) d mc ms (pm_Rq mc ms Q) bk_X11_init J → J 0 (pm_l0 2 as) [] A 0 0) : pm_Mt l g 166 d mc ms as A Q := pm_Mt_of (isI := true) 11 bk_X11_init me_X11_init (plainFor_of_name (by decide +kernel)) (by decide +kernel) (fun _ => by decide +kernel) ok_X11_init hca body
def bk_X11_put : pm_B := [(0, [(.aload_n 0, 1, 0, 0, 0), (.iload_n 1, 1, 1, 0, 0), (.invokevirtual 119, 3, 168, 1, 11), (.ifCond .eq 22, 3, 27, 0, 0), (.iload_n 2, 1, 2, 0, 0), (.invokestatic 122, 3, 170, 1, 0), (.ifCond .eq 15, 3, 27, 0, 0), (.aload_n 0, 1, 0, 0, 0), (.iload_n 1, 1, 1, 0, 0), (.iload_n 1, 1, 1, 0, 0), (.iconst (-1), 1, 0, 0, -1), (.iload_n 2, 1, 2, 0, 0), (.iconst 0, 1, 0, 0, 0), (.invokevirtual 125, 3, 171, 5, 11), (.goto 4, 3, 28, 0, 0)], 27),
  (27, [(.iconst (-1), 1, 0, 0, -1)], 28),
  (28, [(.ireturn, 1, 0, 0, 0)], 29)]
set_option maxRecDepth 100000 in
theorem ok_X11_put : pm_oks 11 false 3 (some .int) cX11_put bk_X11_put = true := by decide +kernel
set_option maxRecDepth 100000 in
theorem me_X11_put : pm_me 167 = (yX11_put, cX11_put, 3, (some .int), 2, 0) := rfl
theorem mt_X11_put {l : Launch} {g : pm_G} {d mc ms : Nat} {as : List Value} {A : pm_H} {Q : Option Value → pm_H → Prop} (hca : pm_cat 3 as = true) (body : ∀ J : pm_J, pm_Cl l g (fun _ => none) d mc ms (pm_Rq mc ms Q) bk_X11_put J → J 0 (pm_l0 3 as) [] A 0 0) : pm_Mt l g 167 d mc ms as A Q := pm_Mt_of (isI := false) 11 bk_X11_put me_X11_put (plainFor_of_name (by decide +kernel)) (by decide +kernel) (fun h => by cases h) ok_X11_put hca body
def bk_X11_isPlace : pm_B := [(0, [(.iload_n 1, 1, 1, 0, 0), (.iconst 0, 1, 0, 0, 0), (.aload_n 0, 1, 0, 0, 0), (.getfield 70, 3, 11, 7, 0), (.iconst 1, 1, 0, 0, 1), (.isub, 1, 0, 0, 0), (.invokestatic 74, 3, 169, 3, 0), (.ireturn, 1, 1, 0, 0)], 12)]
set_option maxRecDepth 100000 in
theorem ok_X11_isPlace : pm_oks 11 false 2 (some .boolean) cX11_isPlace bk_X11_isPlace = true := by decide +kernel
set_option maxRecDepth 100000 in
theorem me_X11_isPlace : pm_me 168 = (yX11_isPlace, cX11_isPlace, 2, (some .boolean), 1, 0) := rfl
theorem mt_X11_isPlace {l : Launch} {g : pm_G} {d mc ms : Nat} {as : List Value} {A : pm_H} {Q : Option Value → pm_H → Prop} (hca : pm_cat 2 as = true) (body : ∀ J : pm_J, pm_Cl l g (fun _ => none) d mc ms (pm_Rq mc ms Q) bk_X11_isPlace J → J 0 (pm_l0 2 as) [] A 0 0) : pm_Mt l g 168 d mc ms as A Q := pm_Mt_of (isI := false) 11 bk_X11_isPlace me_X11_isPlace (plainFor_of_name (by decide +kernel)) (by decide +kernel) (fun h => by cases h) ok_X11_isPlace hca body
def bk_X11_isIn : pm_B := [(0, [(.iload_n 0, 1, 0, 0, 0), (.iload_n 1, 1, 1, 0, 0), (.if_icmp .lt 12, 3, 14, 0, 0), (.iload_n 0, 1, 0, 0, 0), (.iload_n 2, 1, 2, 0, 0), (.if_icmp .gt 7, 3, 14, 0, 0), (.iconst 1, 1, 0, 0, 1), (.goto 4, 3, 15, 0, 0)], 14),
  (14, [(.iconst 0, 1, 0, 0, 0)], 15),
  (15, [(.ireturn, 1, 1, 0, 0)], 16)]
set_option maxRecDepth 100000 in
theorem ok_X11_isIn : pm_oks 11 false 3 (some .boolean) cX11_isIn bk_X11_isIn = true := by decide +kernel
set_option maxRecDepth 100000 in
theorem me_X11_isIn : pm_me 169 = (yX11_isIn, cX11_isIn, 3, (some .boolean), 3, 1) := rfl
theorem mt_X11_isIn {l : Launch} {g : pm_G} {d mc ms : Nat} {as : List Value} {A : pm_H} {Q : Option Value → pm_H → Prop} (hca : pm_cat 3 as = true) (body : ∀ J : pm_J, pm_Cl l g (fun _ => none) d mc ms (pm_Rq mc ms Q) bk_X11_isIn J → J 0 (pm_l0 3 as) [] A 0 0) : pm_Mt l g 169 d mc ms as A Q := pm_Mt_of (isI := false) 11 bk_X11_isIn me_X11_isIn (plainFor_of_name (by decide +kernel)) (by decide +kernel) (fun h => by cases h) ok_X11_isIn hca body
def bk_X11_isColour : pm_B := [(0, [(.iload_n 0, 1, 0, 0, 0), (.iconst 0, 1, 0, 0, 0), (.bipush 23, 2, 0, 0, 23), (.invokestatic 74, 3, 169, 3, 0), (.ireturn, 1, 1, 0, 0)], 8)]
set_option maxRecDepth 100000 in
theorem ok_X11_isColour : pm_oks 11 false 1 (some .boolean) cX11_isColour bk_X11_isColour = true := by decide +kernel
set_option maxRecDepth 100000 in
theorem me_X11_isColour : pm_me 170 = (yX11_isColour, cX11_isColour, 1, (some .boolean), 1, 1) := rfl
theorem mt_X11_isColour {l : Launch} {g : pm_G} {d mc ms : Nat} {as : List Value} {A : pm_H} {Q : Option Value → pm_H → Prop} (hca : pm_cat 1 as = true) (body : ∀ J : pm_J, pm_Cl l g (fun _ => none) d mc ms (pm_Rq mc ms Q) bk_X11_isColour J → J 0 (pm_l0 1 as) [] A 0 0) : pm_Mt l g 170 d mc ms as A Q := pm_Mt_of (isI := false) 11 bk_X11_isColour me_X11_isColour (plainFor_of_name (by decide +kernel)) (by decide +kernel) (fun h => by cases h) ok_X11_isColour hca body
def bk_X11_recolours : pm_B := [(0, [(.aload_n 0, 1, 0, 0, 0), (.invokevirtual 112, 3, 172, 0, 11), (.iconst 0, 1, 0, 0, 0), (.istore 6, 2, 6, 0, 0)], 7),
  (7, [(.iload 6, 2, 6, 0, 0), (.aload_n 0, 1, 0, 0, 0), (.getfield 70, 3, 11, 7, 0), (.if_icmp .ge 86, 3, 99, 0, 0), (.aload_n 0, 1, 0, 0, 0), (.getfield 7, 3, 11, 0, 0), (.iload 6, 2, 6, 0, 0), (.iaload, 1, 0, 0, 0), (.istore 7, 2, 7, 0, 0), (.iload 6, 2, 6, 0, 0), (.iload_n 1, 1, 1, 0, 0), (.iload_n 2, 1, 2, 0, 0), (.invokestatic 74, 3, 169, 3, 0), (.istore 8, 2, 8, 0, 0), (.iload 8, 2, 8, 0, 0), (.ifCond .ne 8, 3, 44, 0, 0), (.iload 7, 2, 7, 0, 0), (.goto 37, 3, 78, 0, 0)], 44),
  (44, [(.iload_n 3, 1, 3, 0, 0), (.iconst (-1), 1, 0, 0, -1), (.if_icmp .eq 9, 3, 55, 0, 0), (.iload 7, 2, 7, 0, 0), (.iload_n 3, 1, 3, 0, 0), (.if_icmp .ne 8, 3, 60, 0, 0)], 55),
  (55, [(.iload 4, 2, 4, 0, 0), (.goto 21, 3, 78, 0, 0)], 60),
  (60, [(.iload 5, 2, 5, 0, 0), (.ifCond .eq 14, 3, 76, 0, 0), (.iload 7, 2, 7, 0, 0), (.iload 4, 2, 4, 0, 0), (.if_icmp .ne 7, 3, 76, 0, 0), (.iload_n 3, 1, 3, 0, 0), (.goto 5, 3, 78, 0, 0)], 76),
  (76, [(.iload 7, 2, 7, 0, 0)], 78),
  (78, [(.istore 9, 2, 9, 0, 0), (.aload_n 0, 1, 0, 0, 0), (.iload 9, 2, 9, 0, 0), (.aload_n 0, 1, 0, 0, 0), (.getfield 13, 3, 11, 1, 0), (.iload 6, 2, 6, 0, 0), (.iaload, 1, 0, 0, 0), (.invokevirtual 91, 3, 175, 2, 11), (.iinc 6 1, 3, 6, 0, 1), (.goto (-89), 3, 7, 0, 0)], 99),
  (99, [(.aload_n 0, 1, 0, 0, 0), (.invokevirtual 115, 3, 176, 0, 11), (.ireturn, 1, 0, 0, 0)], 104)]
set_option maxRecDepth 100000 in
theorem ok_X11_recolours : pm_oks 11 false 10 (some .int) cX11_recolours bk_X11_recolours = true := by decide +kernel
set_option maxRecDepth 100000 in
theorem me_X11_recolours : pm_me 171 = (yX11_recolours, cX11_recolours, 10, (some .int), 5, 0) := rfl
theorem mt_X11_recolours {l : Launch} {g : pm_G} {d mc ms : Nat} {as : List Value} {A : pm_H} {Q : Option Value → pm_H → Prop} (hca : pm_cat 10 as = true) (body : ∀ J : pm_J, pm_Cl l g (fun _ => none) d mc ms (pm_Rq mc ms Q) bk_X11_recolours J → J 0 (pm_l0 10 as) [] A 0 0) : pm_Mt l g 171 d mc ms as A Q := pm_Mt_of (isI := false) 11 bk_X11_recolours me_X11_recolours (plainFor_of_name (by decide +kernel)) (by decide +kernel) (fun h => by cases h) ok_X11_recolours hca body
def bk_X11_begins : pm_B := [(0, [(.aload_n 0, 1, 0, 0, 0), (.aload_n 0, 1, 0, 0, 0), (.getfield 70, 3, 11, 7, 0), (.putfield 82, 3, 11, 8, 0), (.iconst 0, 1, 0, 0, 0), (.istore_n 1, 1, 1, 0, 0)], 10),
  (10, [(.iload_n 1, 1, 1, 0, 0), (.aload_n 0, 1, 0, 0, 0), (.getfield 70, 3, 11, 7, 0), (.if_icmp .ge 32, 3, 47, 0, 0), (.aload_n 0, 1, 0, 0, 0), (.getfield 19, 3, 11, 3, 0), (.iload_n 1, 1, 1, 0, 0), (.aload_n 0, 1, 0, 0, 0), (.getfield 13, 3, 11, 1, 0), (.iload_n 1, 1, 1, 0, 0), (.iaload, 1, 0, 0, 0), (.iastore, 1, 0, 0, 0), (.aload_n 0, 1, 0, 0, 0), (.getfield 22, 3, 11, 4, 0), (.iload_n 1, 1, 1, 0, 0), (.aload_n 0, 1, 0, 0, 0), (.iload_n 1, 1, 1, 0, 0), (.invokevirtual 85, 3, 173, 1, 11), (.iastore, 1, 0, 0, 0), (.iinc 1 1, 3, 1, 0, 1), (.goto (-34), 3, 10, 0, 0)], 47),
  (47, [(.aload_n 0, 1, 0, 0, 0), (.iconst 0, 1, 0, 0, 0), (.putfield 88, 3, 11, 9, 0), (.return_, 1, 0, 0, 0)], 53)]
set_option maxRecDepth 100000 in
theorem ok_X11_begins : pm_oks 11 false 2 none cX11_begins bk_X11_begins = true := by decide +kernel
set_option maxRecDepth 100000 in
theorem me_X11_begins : pm_me 172 = (yX11_begins, cX11_begins, 2, none, 0, 0) := rfl
theorem mt_X11_begins {l : Launch} {g : pm_G} {d mc ms : Nat} {as : List Value} {A : pm_H} {Q : Option Value → pm_H → Prop} (hca : pm_cat 2 as = true) (body : ∀ J : pm_J, pm_Cl l g (fun _ => none) d mc ms (pm_Rq mc ms Q) bk_X11_begins J → J 0 (pm_l0 2 as) [] A 0 0) : pm_Mt l g 172 d mc ms as A Q := pm_Mt_of (isI := false) 11 bk_X11_begins me_X11_begins (plainFor_of_name (by decide +kernel)) (by decide +kernel) (fun h => by cases h) ok_X11_begins hca body
def bk_X11_bondOf : pm_B := [(0, [(.aload_n 0, 1, 0, 0, 0), (.iload_n 1, 1, 1, 0, 0), (.invokevirtual 78, 3, 174, 1, 11), (.ifCond .ge 7, 3, 12, 0, 0), (.iconst (-1), 1, 0, 0, -1), (.goto 13, 3, 22, 0, 0)], 12),
  (12, [(.aload_n 0, 1, 0, 0, 0), (.getfield 13, 3, 11, 1, 0), (.aload_n 0, 1, 0, 0, 0), (.iload_n 1, 1, 1, 0, 0), (.invokevirtual 78, 3, 174, 1, 11), (.iaload, 1, 0, 0, 0)], 22),
  (22, [(.ireturn, 1, 0, 0, 0)], 23)]
set_option maxRecDepth 100000 in
theorem ok_X11_bondOf : pm_oks 11 false 2 (some .int) cX11_bondOf bk_X11_bondOf = true := by decide +kernel
set_option maxRecDepth 100000 in
theorem me_X11_bondOf : pm_me 173 = (yX11_bondOf, cX11_bondOf, 2, (some .int), 1, 0) := rfl
theorem mt_X11_bondOf {l : Launch} {g : pm_G} {d mc ms : Nat} {as : List Value} {A : pm_H} {Q : Option Value → pm_H → Prop} (hca : pm_cat 2 as = true) (body : ∀ J : pm_J, pm_Cl l g (fun _ => none) d mc ms (pm_Rq mc ms Q) bk_X11_bondOf J → J 0 (pm_l0 2 as) [] A 0 0) : pm_Mt l g 173 d mc ms as A Q := pm_Mt_of (isI := false) 11 bk_X11_bondOf me_X11_bondOf (plainFor_of_name (by decide +kernel)) (by decide +kernel) (fun h => by cases h) ok_X11_bondOf hca body
def bk_X11_ahead : pm_B := [(0, [(.iload_n 1, 1, 1, 0, 0), (.iconst 1, 1, 0, 0, 1), (.isub, 1, 0, 0, 0), (.istore_n 2, 1, 2, 0, 0)], 4),
  (4, [(.iload_n 2, 1, 2, 0, 0), (.ifCond .lt 26, 3, 31, 0, 0), (.aload_n 0, 1, 0, 0, 0), (.getfield 7, 3, 11, 0, 0), (.iload_n 2, 1, 2, 0, 0), (.iaload, 1, 0, 0, 0), (.aload_n 0, 1, 0, 0, 0), (.getfield 7, 3, 11, 0, 0), (.iload_n 1, 1, 1, 0, 0), (.iaload, 1, 0, 0, 0), (.if_icmp .ne 5, 3, 25, 0, 0), (.iload_n 2, 1, 2, 0, 0), (.ireturn, 1, 0, 0, 0)], 25),
  (25, [(.iinc 2 (-1), 3, 2, 0, -1), (.goto (-24), 3, 4, 0, 0)], 31),
  (31, [(.iconst (-1), 1, 0, 0, -1), (.ireturn, 1, 0, 0, 0)], 33)]
set_option maxRecDepth 100000 in
theorem ok_X11_ahead : pm_oks 11 false 3 (some .int) cX11_ahead bk_X11_ahead = true := by decide +kernel
set_option maxRecDepth 100000 in
theorem me_X11_ahead : pm_me 174 = (yX11_ahead, cX11_ahead, 3, (some .int), 1, 0) := rfl
theorem mt_X11_ahead {l : Launch} {g : pm_G} {d mc ms : Nat} {as : List Value} {A : pm_H} {Q : Option Value → pm_H → Prop} (hca : pm_cat 3 as = true) (body : ∀ J : pm_J, pm_Cl l g (fun _ => none) d mc ms (pm_Rq mc ms Q) bk_X11_ahead J → J 0 (pm_l0 3 as) [] A 0 0) : pm_Mt l g 174 d mc ms as A Q := pm_Mt_of (isI := false) 11 bk_X11_ahead me_X11_ahead (plainFor_of_name (by decide +kernel)) (by decide +kernel) (fun h => by cases h) ok_X11_ahead hca body
def bk_X11_lays : pm_B := [(0, [(.aload_n 0, 1, 0, 0, 0), (.getfield 25, 3, 11, 5, 0), (.aload_n 0, 1, 0, 0, 0), (.getfield 88, 3, 11, 9, 0), (.iload_n 1, 1, 1, 0, 0), (.iastore, 1, 0, 0, 0), (.aload_n 0, 1, 0, 0, 0), (.getfield 28, 3, 11, 6, 0), (.aload_n 0, 1, 0, 0, 0), (.getfield 88, 3, 11, 9, 0), (.iload_n 2, 1, 2, 0, 0), (.iastore, 1, 0, 0, 0), (.aload_n 0, 1, 0, 0, 0), (.dup, 1, 0, 0, 0), (.getfield 88, 3, 11, 9, 0), (.iconst 1, 1, 0, 0, 1), (.iadd, 1, 0, 0, 0), (.putfield 88, 3, 11, 9, 0), (.return_, 1, 0, 0, 0)], 31)]
set_option maxRecDepth 100000 in
theorem ok_X11_lays : pm_oks 11 false 3 none cX11_lays bk_X11_lays = true := by decide +kernel
set_option maxRecDepth 100000 in
theorem me_X11_lays : pm_me 175 = (yX11_lays, cX11_lays, 3, none, 2, 0) := rfl
theorem mt_X11_lays {l : Launch} {g : pm_G} {d mc ms : Nat} {as : List Value} {A : pm_H} {Q : Option Value → pm_H → Prop} (hca : pm_cat 3 as = true) (body : ∀ J : pm_J, pm_Cl l g (fun _ => none) d mc ms (pm_Rq mc ms Q) bk_X11_lays J → J 0 (pm_l0 3 as) [] A 0 0) : pm_Mt l g 175 d mc ms as A Q := pm_Mt_of (isI := false) 11 bk_X11_lays me_X11_lays (plainFor_of_name (by decide +kernel)) (by decide +kernel) (fun h => by cases h) ok_X11_lays hca body
def bk_X11_ends : pm_B := [(0, [(.aload_n 0, 1, 0, 0, 0), (.aload_n 0, 1, 0, 0, 0), (.getfield 88, 3, 11, 9, 0), (.putfield 70, 3, 11, 7, 0), (.iconst 0, 1, 0, 0, 0), (.istore_n 1, 1, 1, 0, 0)], 10),
  (10, [(.iload_n 1, 1, 1, 0, 0), (.aload_n 0, 1, 0, 0, 0), (.getfield 70, 3, 11, 7, 0), (.if_icmp .ge 33, 3, 48, 0, 0), (.aload_n 0, 1, 0, 0, 0), (.getfield 7, 3, 11, 0, 0), (.iload_n 1, 1, 1, 0, 0), (.aload_n 0, 1, 0, 0, 0), (.getfield 25, 3, 11, 5, 0), (.iload_n 1, 1, 1, 0, 0), (.iaload, 1, 0, 0, 0), (.iastore, 1, 0, 0, 0), (.aload_n 0, 1, 0, 0, 0), (.getfield 13, 3, 11, 1, 0), (.iload_n 1, 1, 1, 0, 0), (.aload_n 0, 1, 0, 0, 0), (.getfield 28, 3, 11, 6, 0), (.iload_n 1, 1, 1, 0, 0), (.iaload, 1, 0, 0, 0), (.iastore, 1, 0, 0, 0), (.iinc 1 1, 3, 1, 0, 1), (.goto (-35), 3, 10, 0, 0)], 48),
  (48, [(.iconst 0, 1, 0, 0, 0), (.istore_n 1, 1, 1, 0, 0), (.iconst 0, 1, 0, 0, 0), (.istore_n 2, 1, 2, 0, 0)], 52),
  (52, [(.iload_n 2, 1, 2, 0, 0), (.aload_n 0, 1, 0, 0, 0), (.getfield 70, 3, 11, 7, 0), (.if_icmp .ge 25, 3, 82, 0, 0), (.iload_n 1, 1, 1, 0, 0), (.aload_n 0, 1, 0, 0, 0), (.iload_n 2, 1, 2, 0, 0), (.invokevirtual 98, 3, 177, 1, 11), (.ifCond .eq 7, 3, 73, 0, 0), (.iconst 1, 1, 0, 0, 1), (.goto 4, 3, 74, 0, 0)], 73),
  (73, [(.iconst 0, 1, 0, 0, 0)], 74),
  (74, [(.iadd, 1, 0, 0, 0), (.istore_n 1, 1, 1, 0, 0), (.iinc 2 1, 3, 2, 0, 1), (.goto (-27), 3, 52, 0, 0)], 82),
  (82, [(.aload_n 0, 1, 0, 0, 0), (.dup, 1, 0, 0, 0), (.getfield 102, 3, 11, 11, 0), (.iconst 1, 1, 0, 0, 1), (.iadd, 1, 0, 0, 0), (.putfield 102, 3, 11, 11, 0), (.aload_n 0, 1, 0, 0, 0), (.dup, 1, 0, 0, 0), (.getfield 105, 3, 11, 12, 0), (.iload_n 1, 1, 1, 0, 0), (.iadd, 1, 0, 0, 0), (.putfield 105, 3, 11, 12, 0), (.aload_n 0, 1, 0, 0, 0), (.iload_n 1, 1, 1, 0, 0), (.invokevirtual 108, 3, 178, 1, 11), (.iload_n 1, 1, 1, 0, 0), (.ireturn, 1, 0, 0, 0)], 109)]
set_option maxRecDepth 100000 in
theorem ok_X11_ends : pm_oks 11 false 3 (some .int) cX11_ends bk_X11_ends = true := by decide +kernel
set_option maxRecDepth 100000 in
theorem me_X11_ends : pm_me 176 = (yX11_ends, cX11_ends, 3, (some .int), 0, 0) := rfl
theorem mt_X11_ends {l : Launch} {g : pm_G} {d mc ms : Nat} {as : List Value} {A : pm_H} {Q : Option Value → pm_H → Prop} (hca : pm_cat 3 as = true) (body : ∀ J : pm_J, pm_Cl l g (fun _ => none) d mc ms (pm_Rq mc ms Q) bk_X11_ends J → J 0 (pm_l0 3 as) [] A 0 0) : pm_Mt l g 176 d mc ms as A Q := pm_Mt_of (isI := false) 11 bk_X11_ends me_X11_ends (plainFor_of_name (by decide +kernel)) (by decide +kernel) (fun h => by cases h) ok_X11_ends hca body
def bk_X11_isTouched : pm_B := [(0, [(.iconst 0, 1, 0, 0, 0), (.istore_n 2, 1, 2, 0, 0)], 2),
  (2, [(.iload_n 2, 1, 2, 0, 0), (.aload_n 0, 1, 0, 0, 0), (.getfield 82, 3, 11, 8, 0), (.if_icmp .ge 44, 3, 51, 0, 0), (.aload_n 0, 1, 0, 0, 0), (.getfield 19, 3, 11, 3, 0), (.iload_n 2, 1, 2, 0, 0), (.iaload, 1, 0, 0, 0), (.aload_n 0, 1, 0, 0, 0), (.getfield 13, 3, 11, 1, 0), (.iload_n 1, 1, 1, 0, 0), (.iaload, 1, 0, 0, 0), (.if_icmp .ne 23, 3, 45, 0, 0), (.aload_n 0, 1, 0, 0, 0), (.getfield 22, 3, 11, 4, 0), (.iload_n 2, 1, 2, 0, 0), (.iaload, 1, 0, 0, 0), (.aload_n 0, 1, 0, 0, 0), (.iload_n 1, 1, 1, 0, 0), (.invokevirtual 85, 3, 173, 1, 11), (.if_icmp .eq 7, 3, 43, 0, 0), (.iconst 1, 1, 0, 0, 1), (.goto 4, 3, 44, 0, 0)], 43),
  (43, [(.iconst 0, 1, 0, 0, 0)], 44),
  (44, [(.ireturn, 1, 1, 0, 0)], 45),
  (45, [(.iinc 2 1, 3, 2, 0, 1), (.goto (-46), 3, 2, 0, 0)], 51),
  (51, [(.iconst 0, 1, 0, 0, 0), (.ireturn, 1, 1, 0, 0)], 53)]
set_option maxRecDepth 100000 in
theorem ok_X11_isTouched : pm_oks 11 false 3 (some .boolean) cX11_isTouched bk_X11_isTouched = true := by decide +kernel
set_option maxRecDepth 100000 in
theorem me_X11_isTouched : pm_me 177 = (yX11_isTouched, cX11_isTouched, 3, (some .boolean), 1, 0) := rfl
theorem mt_X11_isTouched {l : Launch} {g : pm_G} {d mc ms : Nat} {as : List Value} {A : pm_H} {Q : Option Value → pm_H → Prop} (hca : pm_cat 3 as = true) (body : ∀ J : pm_J, pm_Cl l g (fun _ => none) d mc ms (pm_Rq mc ms Q) bk_X11_isTouched J → J 0 (pm_l0 3 as) [] A 0 0) : pm_Mt l g 177 d mc ms as A Q := pm_Mt_of (isI := false) 11 bk_X11_isTouched me_X11_isTouched (plainFor_of_name (by decide +kernel)) (by decide +kernel) (fun h => by cases h) ok_X11_isTouched hca body
def bk_X11_keepsRow : pm_B := [(0, [(.aload_n 0, 1, 0, 0, 0), (.getfield 102, 3, 11, 11, 0), (.bipush 40, 2, 0, 0, 40), (.irem, 1, 0, 0, 0), (.istore_n 2, 1, 2, 0, 0), (.aload_n 0, 1, 0, 0, 0), (.getfield 52, 3, 11, 21, 0), (.iload_n 2, 1, 2, 0, 0), (.aload_n 0, 1, 0, 0, 0), (.getfield 70, 3, 11, 7, 0), (.iastore, 1, 0, 0, 0), (.aload_n 0, 1, 0, 0, 0), (.getfield 55, 3, 11, 22, 0), (.iload_n 2, 1, 2, 0, 0), (.iload_n 1, 1, 1, 0, 0), (.iastore, 1, 0, 0, 0), (.iconst 0, 1, 0, 0, 0), (.istore_n 3, 1, 3, 0, 0)], 27),
  (27, [(.iload_n 3, 1, 3, 0, 0), (.aload_n 0, 1, 0, 0, 0), (.getfield 70, 3, 11, 7, 0), (.if_icmp .ge 45, 3, 77, 0, 0), (.aload_n 0, 1, 0, 0, 0), (.getfield 46, 3, 11, 19, 0), (.sipush 160, 3, 0, 0, 160), (.iload_n 2, 1, 2, 0, 0), (.imul, 1, 0, 0, 0), (.iload_n 3, 1, 3, 0, 0), (.iadd, 1, 0, 0, 0), (.aload_n 0, 1, 0, 0, 0), (.getfield 7, 3, 11, 0, 0), (.iload_n 3, 1, 3, 0, 0), (.iaload, 1, 0, 0, 0), (.iastore, 1, 0, 0, 0), (.aload_n 0, 1, 0, 0, 0), (.getfield 49, 3, 11, 20, 0), (.sipush 160, 3, 0, 0, 160), (.iload_n 2, 1, 2, 0, 0), (.imul, 1, 0, 0, 0), (.iload_n 3, 1, 3, 0, 0), (.iadd, 1, 0, 0, 0), (.aload_n 0, 1, 0, 0, 0), (.getfield 13, 3, 11, 1, 0), (.iload_n 3, 1, 3, 0, 0), (.iaload, 1, 0, 0, 0), (.iastore, 1, 0, 0, 0), (.iinc 3 1, 3, 3, 0, 1), (.goto (-47), 3, 27, 0, 0)], 77),
  (77, [(.return_, 1, 0, 0, 0)], 78)]
set_option maxRecDepth 100000 in
theorem ok_X11_keepsRow : pm_oks 11 false 4 none cX11_keepsRow bk_X11_keepsRow = true := by decide +kernel
set_option maxRecDepth 100000 in
theorem me_X11_keepsRow : pm_me 178 = (yX11_keepsRow, cX11_keepsRow, 4, none, 1, 0) := rfl
theorem mt_X11_keepsRow {l : Launch} {g : pm_G} {d mc ms : Nat} {as : List Value} {A : pm_H} {Q : Option Value → pm_H → Prop} (hca : pm_cat 4 as = true) (body : ∀ J : pm_J, pm_Cl l g (fun _ => none) d mc ms (pm_Rq mc ms Q) bk_X11_keepsRow J → J 0 (pm_l0 4 as) [] A 0 0) : pm_Mt l g 178 d mc ms as A Q := pm_Mt_of (isI := false) 11 bk_X11_keepsRow me_X11_keepsRow (plainFor_of_name (by decide +kernel)) (by decide +kernel) (fun h => by cases h) ok_X11_keepsRow hca body
def bk_X11_paint : pm_B := [(0, [(.aload_n 0, 1, 0, 0, 0), (.iload_n 1, 1, 1, 0, 0), (.iload_n 2, 1, 2, 0, 0), (.invokevirtual 129, 3, 180, 2, 11), (.ifCond .eq 22, 3, 28, 0, 0), (.iload_n 3, 1, 3, 0, 0), (.invokestatic 122, 3, 170, 1, 0), (.ifCond .eq 15, 3, 28, 0, 0), (.aload_n 0, 1, 0, 0, 0), (.iload_n 1, 1, 1, 0, 0), (.iload_n 2, 1, 2, 0, 0), (.iconst (-1), 1, 0, 0, -1), (.iload_n 3, 1, 3, 0, 0), (.iconst 0, 1, 0, 0, 0), (.invokevirtual 125, 3, 171, 5, 11), (.goto 4, 3, 29, 0, 0)], 28),
  (28, [(.iconst (-1), 1, 0, 0, -1)], 29),
  (29, [(.ireturn, 1, 0, 0, 0)], 30)]
set_option maxRecDepth 100000 in
theorem ok_X11_paint : pm_oks 11 false 4 (some .int) cX11_paint bk_X11_paint = true := by decide +kernel
set_option maxRecDepth 100000 in
theorem me_X11_paint : pm_me 179 = (yX11_paint, cX11_paint, 4, (some .int), 3, 0) := rfl
theorem mt_X11_paint {l : Launch} {g : pm_G} {d mc ms : Nat} {as : List Value} {A : pm_H} {Q : Option Value → pm_H → Prop} (hca : pm_cat 4 as = true) (body : ∀ J : pm_J, pm_Cl l g (fun _ => none) d mc ms (pm_Rq mc ms Q) bk_X11_paint J → J 0 (pm_l0 4 as) [] A 0 0) : pm_Mt l g 179 d mc ms as A Q := pm_Mt_of (isI := false) 11 bk_X11_paint me_X11_paint (plainFor_of_name (by decide +kernel)) (by decide +kernel) (fun h => by cases h) ok_X11_paint hca body
def bk_X11_isSpan : pm_B := [(0, [(.iload_n 1, 1, 1, 0, 0), (.ifCond .lt 20, 3, 21, 0, 0), (.iload_n 1, 1, 1, 0, 0), (.iload_n 2, 1, 2, 0, 0), (.if_icmp .gt 15, 3, 21, 0, 0), (.iload_n 2, 1, 2, 0, 0), (.aload_n 0, 1, 0, 0, 0), (.getfield 70, 3, 11, 7, 0), (.if_icmp .ge 7, 3, 21, 0, 0), (.iconst 1, 1, 0, 0, 1), (.goto 4, 3, 22, 0, 0)], 21),
  (21, [(.iconst 0, 1, 0, 0, 0)], 22),
  (22, [(.ireturn, 1, 1, 0, 0)], 23)]
set_option maxRecDepth 100000 in
theorem ok_X11_isSpan : pm_oks 11 false 3 (some .boolean) cX11_isSpan bk_X11_isSpan = true := by decide +kernel
set_option maxRecDepth 100000 in
theorem me_X11_isSpan : pm_me 180 = (yX11_isSpan, cX11_isSpan, 3, (some .boolean), 2, 0) := rfl
theorem mt_X11_isSpan {l : Launch} {g : pm_G} {d mc ms : Nat} {as : List Value} {A : pm_H} {Q : Option Value → pm_H → Prop} (hca : pm_cat 3 as = true) (body : ∀ J : pm_J, pm_Cl l g (fun _ => none) d mc ms (pm_Rq mc ms Q) bk_X11_isSpan J → J 0 (pm_l0 3 as) [] A 0 0) : pm_Mt l g 180 d mc ms as A Q := pm_Mt_of (isI := false) 11 bk_X11_isSpan me_X11_isSpan (plainFor_of_name (by decide +kernel)) (by decide +kernel) (fun h => by cases h) ok_X11_isSpan hca body
def bk_X11_merge : pm_B := [(0, [(.iload_n 1, 1, 1, 0, 0), (.invokestatic 122, 3, 170, 1, 0), (.ifCond .eq 32, 3, 36, 0, 0), (.iload_n 2, 1, 2, 0, 0), (.invokestatic 122, 3, 170, 1, 0), (.ifCond .eq 25, 3, 36, 0, 0), (.iload_n 1, 1, 1, 0, 0), (.iload_n 2, 1, 2, 0, 0), (.if_icmp .eq 20, 3, 36, 0, 0), (.aload_n 0, 1, 0, 0, 0), (.iconst 0, 1, 0, 0, 0), (.aload_n 0, 1, 0, 0, 0), (.getfield 70, 3, 11, 7, 0), (.iconst 1, 1, 0, 0, 1), (.isub, 1, 0, 0, 0), (.iload_n 1, 1, 1, 0, 0), (.iload_n 2, 1, 2, 0, 0), (.iconst 0, 1, 0, 0, 0), (.invokevirtual 125, 3, 171, 5, 11), (.goto 4, 3, 37, 0, 0)], 36),
  (36, [(.iconst (-1), 1, 0, 0, -1)], 37),
  (37, [(.ireturn, 1, 0, 0, 0)], 38)]
set_option maxRecDepth 100000 in
theorem ok_X11_merge : pm_oks 11 false 3 (some .int) cX11_merge bk_X11_merge = true := by decide +kernel
set_option maxRecDepth 100000 in
theorem me_X11_merge : pm_me 181 = (yX11_merge, cX11_merge, 3, (some .int), 2, 0) := rfl
theorem mt_X11_merge {l : Launch} {g : pm_G} {d mc ms : Nat} {as : List Value} {A : pm_H} {Q : Option Value → pm_H → Prop} (hca : pm_cat 3 as = true) (body : ∀ J : pm_J, pm_Cl l g (fun _ => none) d mc ms (pm_Rq mc ms Q) bk_X11_merge J → J 0 (pm_l0 3 as) [] A 0 0) : pm_Mt l g 181 d mc ms as A Q := pm_Mt_of (isI := false) 11 bk_X11_merge me_X11_merge (plainFor_of_name (by decide +kernel)) (by decide +kernel) (fun h => by cases h) ok_X11_merge hca body
def bk_X11_exchange : pm_B := [(0, [(.iload_n 1, 1, 1, 0, 0), (.invokestatic 122, 3, 170, 1, 0), (.ifCond .eq 32, 3, 36, 0, 0), (.iload_n 2, 1, 2, 0, 0), (.invokestatic 122, 3, 170, 1, 0), (.ifCond .eq 25, 3, 36, 0, 0), (.iload_n 1, 1, 1, 0, 0), (.iload_n 2, 1, 2, 0, 0), (.if_icmp .eq 20, 3, 36, 0, 0), (.aload_n 0, 1, 0, 0, 0), (.iconst 0, 1, 0, 0, 0), (.aload_n 0, 1, 0, 0, 0), (.getfield 70, 3, 11, 7, 0), (.iconst 1, 1, 0, 0, 1), (.isub, 1, 0, 0, 0), (.iload_n 1, 1, 1, 0, 0), (.iload_n 2, 1, 2, 0, 0), (.iconst 1, 1, 0, 0, 1), (.invokevirtual 125, 3, 171, 5, 11), (.goto 4, 3, 37, 0, 0)], 36),
  (36, [(.iconst (-1), 1, 0, 0, -1)], 37),
  (37, [(.ireturn, 1, 0, 0, 0)], 38)]
set_option maxRecDepth 100000 in
theorem ok_X11_exchange : pm_oks 11 false 3 (some .int) cX11_exchange bk_X11_exchange = true := by decide +kernel
set_option maxRecDepth 100000 in
theorem me_X11_exchange : pm_me 182 = (yX11_exchange, cX11_exchange, 3, (some .int), 2, 0) := rfl
theorem mt_X11_exchange {l : Launch} {g : pm_G} {d mc ms : Nat} {as : List Value} {A : pm_H} {Q : Option Value → pm_H → Prop} (hca : pm_cat 3 as = true) (body : ∀ J : pm_J, pm_Cl l g (fun _ => none) d mc ms (pm_Rq mc ms Q) bk_X11_exchange J → J 0 (pm_l0 3 as) [] A 0 0) : pm_Mt l g 182 d mc ms as A Q := pm_Mt_of (isI := false) 11 bk_X11_exchange me_X11_exchange (plainFor_of_name (by decide +kernel)) (by decide +kernel) (fun h => by cases h) ok_X11_exchange hca body
def bk_X11_insert : pm_B := [(0, [(.iload_n 1, 1, 1, 0, 0), (.iconst 0, 1, 0, 0, 0), (.aload_n 0, 1, 0, 0, 0), (.getfield 70, 3, 11, 7, 0), (.invokestatic 74, 3, 169, 3, 0), (.ifCond .eq 18, 3, 27, 0, 0), (.iload_n 2, 1, 2, 0, 0), (.invokestatic 122, 3, 170, 1, 0), (.ifCond .eq 11, 3, 27, 0, 0), (.aload_n 0, 1, 0, 0, 0), (.iconst 1, 1, 0, 0, 1), (.invokevirtual 133, 3, 184, 1, 11), (.ifCond .ne 5, 3, 29, 0, 0)], 27),
  (27, [(.iconst (-1), 1, 0, 0, -1), (.ireturn, 1, 0, 0, 0)], 29),
  (29, [(.aload_n 0, 1, 0, 0, 0), (.invokevirtual 112, 3, 172, 0, 11), (.aload_n 0, 1, 0, 0, 0), (.iconst 0, 1, 0, 0, 0), (.iload_n 1, 1, 1, 0, 0), (.invokevirtual 136, 3, 185, 2, 11), (.aload_n 0, 1, 0, 0, 0), (.iload_n 2, 1, 2, 0, 0), (.invokevirtual 139, 3, 186, 1, 11), (.aload_n 0, 1, 0, 0, 0), (.iload_n 1, 1, 1, 0, 0), (.aload_n 0, 1, 0, 0, 0), (.getfield 70, 3, 11, 7, 0), (.invokevirtual 136, 3, 185, 2, 11), (.aload_n 0, 1, 0, 0, 0), (.invokevirtual 115, 3, 176, 0, 11), (.ireturn, 1, 0, 0, 0)], 58)]
set_option maxRecDepth 100000 in
theorem ok_X11_insert : pm_oks 11 false 3 (some .int) cX11_insert bk_X11_insert = true := by decide +kernel
set_option maxRecDepth 100000 in
theorem me_X11_insert : pm_me 183 = (yX11_insert, cX11_insert, 3, (some .int), 2, 0) := rfl
theorem mt_X11_insert {l : Launch} {g : pm_G} {d mc ms : Nat} {as : List Value} {A : pm_H} {Q : Option Value → pm_H → Prop} (hca : pm_cat 3 as = true) (body : ∀ J : pm_J, pm_Cl l g (fun _ => none) d mc ms (pm_Rq mc ms Q) bk_X11_insert J → J 0 (pm_l0 3 as) [] A 0 0) : pm_Mt l g 183 d mc ms as A Q := pm_Mt_of (isI := false) 11 bk_X11_insert me_X11_insert (plainFor_of_name (by decide +kernel)) (by decide +kernel) (fun h => by cases h) ok_X11_insert hca body
def bk_X11_hasRoom : pm_B := [(0, [(.aload_n 0, 1, 0, 0, 0), (.getfield 70, 3, 11, 7, 0), (.iload_n 1, 1, 1, 0, 0), (.iadd, 1, 0, 0, 0), (.sipush 160, 3, 0, 0, 160), (.if_icmp .gt 19, 3, 28, 0, 0), (.aload_n 0, 1, 0, 0, 0), (.getfield 95, 3, 11, 10, 0), (.iload_n 1, 1, 1, 0, 0), (.iadd, 1, 0, 0, 0), (.sipush 10000, 3, 0, 0, 10000), (.if_icmp .gt 7, 3, 28, 0, 0), (.iconst 1, 1, 0, 0, 1), (.goto 4, 3, 29, 0, 0)], 28),
  (28, [(.iconst 0, 1, 0, 0, 0)], 29),
  (29, [(.ireturn, 1, 1, 0, 0)], 30)]
set_option maxRecDepth 100000 in
theorem ok_X11_hasRoom : pm_oks 11 false 2 (some .boolean) cX11_hasRoom bk_X11_hasRoom = true := by decide +kernel
set_option maxRecDepth 100000 in
theorem me_X11_hasRoom : pm_me 184 = (yX11_hasRoom, cX11_hasRoom, 2, (some .boolean), 1, 0) := rfl
theorem mt_X11_hasRoom {l : Launch} {g : pm_G} {d mc ms : Nat} {as : List Value} {A : pm_H} {Q : Option Value → pm_H → Prop} (hca : pm_cat 2 as = true) (body : ∀ J : pm_J, pm_Cl l g (fun _ => none) d mc ms (pm_Rq mc ms Q) bk_X11_hasRoom J → J 0 (pm_l0 2 as) [] A 0 0) : pm_Mt l g 184 d mc ms as A Q := pm_Mt_of (isI := false) 11 bk_X11_hasRoom me_X11_hasRoom (plainFor_of_name (by decide +kernel)) (by decide +kernel) (fun h => by cases h) ok_X11_hasRoom hca body
def bk_X11_laysFrom : pm_B := [(0, [(.iload_n 1, 1, 1, 0, 0), (.istore_n 3, 1, 3, 0, 0)], 2),
  (2, [(.iload_n 3, 1, 3, 0, 0), (.iload_n 2, 1, 2, 0, 0), (.if_icmp .ge 25, 3, 29, 0, 0), (.aload_n 0, 1, 0, 0, 0), (.aload_n 0, 1, 0, 0, 0), (.getfield 7, 3, 11, 0, 0), (.iload_n 3, 1, 3, 0, 0), (.iaload, 1, 0, 0, 0), (.aload_n 0, 1, 0, 0, 0), (.getfield 13, 3, 11, 1, 0), (.iload_n 3, 1, 3, 0, 0), (.iaload, 1, 0, 0, 0), (.invokevirtual 91, 3, 175, 2, 11), (.iinc 3 1, 3, 3, 0, 1), (.goto (-24), 3, 2, 0, 0)], 29),
  (29, [(.return_, 1, 0, 0, 0)], 30)]
set_option maxRecDepth 100000 in
theorem ok_X11_laysFrom : pm_oks 11 false 4 none cX11_laysFrom bk_X11_laysFrom = true := by decide +kernel
set_option maxRecDepth 100000 in
theorem me_X11_laysFrom : pm_me 185 = (yX11_laysFrom, cX11_laysFrom, 4, none, 2, 0) := rfl
theorem mt_X11_laysFrom {l : Launch} {g : pm_G} {d mc ms : Nat} {as : List Value} {A : pm_H} {Q : Option Value → pm_H → Prop} (hca : pm_cat 4 as = true) (body : ∀ J : pm_J, pm_Cl l g (fun _ => none) d mc ms (pm_Rq mc ms Q) bk_X11_laysFrom J → J 0 (pm_l0 4 as) [] A 0 0) : pm_Mt l g 185 d mc ms as A Q := pm_Mt_of (isI := false) 11 bk_X11_laysFrom me_X11_laysFrom (plainFor_of_name (by decide +kernel)) (by decide +kernel) (fun h => by cases h) ok_X11_laysFrom hca body
def bk_X11_laysNew : pm_B := [(0, [(.aload_n 0, 1, 0, 0, 0), (.iload_n 1, 1, 1, 0, 0), (.aload_n 0, 1, 0, 0, 0), (.getfield 95, 3, 11, 10, 0), (.invokevirtual 91, 3, 175, 2, 11), (.aload_n 0, 1, 0, 0, 0), (.dup, 1, 0, 0, 0), (.getfield 95, 3, 11, 10, 0), (.iconst 1, 1, 0, 0, 1), (.iadd, 1, 0, 0, 0), (.putfield 95, 3, 11, 10, 0), (.return_, 1, 0, 0, 0)], 20)]
set_option maxRecDepth 100000 in
theorem ok_X11_laysNew : pm_oks 11 false 2 none cX11_laysNew bk_X11_laysNew = true := by decide +kernel
set_option maxRecDepth 100000 in
theorem me_X11_laysNew : pm_me 186 = (yX11_laysNew, cX11_laysNew, 2, none, 1, 0) := rfl
theorem mt_X11_laysNew {l : Launch} {g : pm_G} {d mc ms : Nat} {as : List Value} {A : pm_H} {Q : Option Value → pm_H → Prop} (hca : pm_cat 2 as = true) (body : ∀ J : pm_J, pm_Cl l g (fun _ => none) d mc ms (pm_Rq mc ms Q) bk_X11_laysNew J → J 0 (pm_l0 2 as) [] A 0 0) : pm_Mt l g 186 d mc ms as A Q := pm_Mt_of (isI := false) 11 bk_X11_laysNew me_X11_laysNew (plainFor_of_name (by decide +kernel)) (by decide +kernel) (fun h => by cases h) ok_X11_laysNew hca body
def bk_X11_cut : pm_B := [(0, [(.aload_n 0, 1, 0, 0, 0), (.iload_n 1, 1, 1, 0, 0), (.iload_n 2, 1, 2, 0, 0), (.invokevirtual 129, 3, 180, 2, 11), (.ifCond .ne 5, 3, 11, 0, 0), (.iconst (-1), 1, 0, 0, -1), (.ireturn, 1, 0, 0, 0)], 11),
  (11, [(.aload_n 0, 1, 0, 0, 0), (.invokevirtual 112, 3, 172, 0, 11), (.aload_n 0, 1, 0, 0, 0), (.iconst 0, 1, 0, 0, 0), (.iload_n 1, 1, 1, 0, 0), (.invokevirtual 136, 3, 185, 2, 11), (.aload_n 0, 1, 0, 0, 0), (.iload_n 2, 1, 2, 0, 0), (.iconst 1, 1, 0, 0, 1), (.iadd, 1, 0, 0, 0), (.aload_n 0, 1, 0, 0, 0), (.getfield 70, 3, 11, 7, 0), (.invokevirtual 136, 3, 185, 2, 11), (.aload_n 0, 1, 0, 0, 0), (.invokevirtual 115, 3, 176, 0, 11), (.ireturn, 1, 0, 0, 0)], 37)]
set_option maxRecDepth 100000 in
theorem ok_X11_cut : pm_oks 11 false 3 (some .int) cX11_cut bk_X11_cut = true := by decide +kernel
set_option maxRecDepth 100000 in
theorem me_X11_cut : pm_me 187 = (yX11_cut, cX11_cut, 3, (some .int), 2, 0) := rfl
theorem mt_X11_cut {l : Launch} {g : pm_G} {d mc ms : Nat} {as : List Value} {A : pm_H} {Q : Option Value → pm_H → Prop} (hca : pm_cat 3 as = true) (body : ∀ J : pm_J, pm_Cl l g (fun _ => none) d mc ms (pm_Rq mc ms Q) bk_X11_cut J → J 0 (pm_l0 3 as) [] A 0 0) : pm_Mt l g 187 d mc ms as A Q := pm_Mt_of (isI := false) 11 bk_X11_cut me_X11_cut (plainFor_of_name (by decide +kernel)) (by decide +kernel) (fun h => by cases h) ok_X11_cut hca body
def bk_X11_turn : pm_B := [(0, [(.aload_n 0, 1, 0, 0, 0), (.iload_n 1, 1, 1, 0, 0), (.iload_n 2, 1, 2, 0, 0), (.invokevirtual 129, 3, 180, 2, 11), (.ifCond .ne 5, 3, 11, 0, 0), (.iconst (-1), 1, 0, 0, -1), (.ireturn, 1, 0, 0, 0)], 11),
  (11, [(.aload_n 0, 1, 0, 0, 0), (.invokevirtual 112, 3, 172, 0, 11), (.aload_n 0, 1, 0, 0, 0), (.iconst 0, 1, 0, 0, 0), (.iload_n 1, 1, 1, 0, 0), (.invokevirtual 136, 3, 185, 2, 11), (.iload_n 2, 1, 2, 0, 0), (.istore_n 3, 1, 3, 0, 0)], 23),
  (23, [(.iload_n 3, 1, 3, 0, 0), (.iload_n 1, 1, 1, 0, 0), (.if_icmp .lt 25, 3, 50, 0, 0), (.aload_n 0, 1, 0, 0, 0), (.aload_n 0, 1, 0, 0, 0), (.getfield 7, 3, 11, 0, 0), (.iload_n 3, 1, 3, 0, 0), (.iaload, 1, 0, 0, 0), (.aload_n 0, 1, 0, 0, 0), (.getfield 13, 3, 11, 1, 0), (.iload_n 3, 1, 3, 0, 0), (.iaload, 1, 0, 0, 0), (.invokevirtual 91, 3, 175, 2, 11), (.iinc 3 (-1), 3, 3, 0, -1), (.goto (-24), 3, 23, 0, 0)], 50),
  (50, [(.aload_n 0, 1, 0, 0, 0), (.iload_n 2, 1, 2, 0, 0), (.iconst 1, 1, 0, 0, 1), (.iadd, 1, 0, 0, 0), (.aload_n 0, 1, 0, 0, 0), (.getfield 70, 3, 11, 7, 0), (.invokevirtual 136, 3, 185, 2, 11), (.aload_n 0, 1, 0, 0, 0), (.invokevirtual 115, 3, 176, 0, 11), (.ireturn, 1, 0, 0, 0)], 66)]
set_option maxRecDepth 100000 in
theorem ok_X11_turn : pm_oks 11 false 4 (some .int) cX11_turn bk_X11_turn = true := by decide +kernel
set_option maxRecDepth 100000 in
theorem me_X11_turn : pm_me 188 = (yX11_turn, cX11_turn, 4, (some .int), 2, 0) := rfl
theorem mt_X11_turn {l : Launch} {g : pm_G} {d mc ms : Nat} {as : List Value} {A : pm_H} {Q : Option Value → pm_H → Prop} (hca : pm_cat 4 as = true) (body : ∀ J : pm_J, pm_Cl l g (fun _ => none) d mc ms (pm_Rq mc ms Q) bk_X11_turn J → J 0 (pm_l0 4 as) [] A 0 0) : pm_Mt l g 188 d mc ms as A Q := pm_Mt_of (isI := false) 11 bk_X11_turn me_X11_turn (plainFor_of_name (by decide +kernel)) (by decide +kernel) (fun h => by cases h) ok_X11_turn hca body
def bk_X11_shift : pm_B := [(0, [(.aload_n 0, 1, 0, 0, 0), (.iload_n 1, 1, 1, 0, 0), (.iload_n 2, 1, 2, 0, 0), (.invokevirtual 129, 3, 180, 2, 11), (.ifCond .eq 16, 3, 22, 0, 0), (.iload_n 3, 1, 3, 0, 0), (.iconst 0, 1, 0, 0, 0), (.iload_n 2, 1, 2, 0, 0), (.iload_n 1, 1, 1, 0, 0), (.isub, 1, 0, 0, 0), (.iconst 1, 1, 0, 0, 1), (.iadd, 1, 0, 0, 0), (.invokestatic 74, 3, 169, 3, 0), (.ifCond .ne 5, 3, 24, 0, 0)], 22),
  (22, [(.iconst (-1), 1, 0, 0, -1), (.ireturn, 1, 0, 0, 0)], 24),
  (24, [(.aload_n 0, 1, 0, 0, 0), (.invokevirtual 112, 3, 172, 0, 11), (.aload_n 0, 1, 0, 0, 0), (.iconst 0, 1, 0, 0, 0), (.iload_n 1, 1, 1, 0, 0), (.invokevirtual 136, 3, 185, 2, 11), (.aload_n 0, 1, 0, 0, 0), (.iload_n 1, 1, 1, 0, 0), (.iload_n 3, 1, 3, 0, 0), (.iadd, 1, 0, 0, 0), (.iload_n 2, 1, 2, 0, 0), (.iconst 1, 1, 0, 0, 1), (.iadd, 1, 0, 0, 0), (.invokevirtual 136, 3, 185, 2, 11), (.aload_n 0, 1, 0, 0, 0), (.iload_n 1, 1, 1, 0, 0), (.iload_n 1, 1, 1, 0, 0), (.iload_n 3, 1, 3, 0, 0), (.iadd, 1, 0, 0, 0), (.invokevirtual 136, 3, 185, 2, 11), (.aload_n 0, 1, 0, 0, 0), (.iload_n 2, 1, 2, 0, 0), (.iconst 1, 1, 0, 0, 1), (.iadd, 1, 0, 0, 0), (.aload_n 0, 1, 0, 0, 0), (.getfield 70, 3, 11, 7, 0), (.invokevirtual 136, 3, 185, 2, 11), (.aload_n 0, 1, 0, 0, 0), (.invokevirtual 115, 3, 176, 0, 11), (.ireturn, 1, 0, 0, 0)], 68)]
set_option maxRecDepth 100000 in
theorem ok_X11_shift : pm_oks 11 false 4 (some .int) cX11_shift bk_X11_shift = true := by decide +kernel
set_option maxRecDepth 100000 in
theorem me_X11_shift : pm_me 189 = (yX11_shift, cX11_shift, 4, (some .int), 3, 0) := rfl
theorem mt_X11_shift {l : Launch} {g : pm_G} {d mc ms : Nat} {as : List Value} {A : pm_H} {Q : Option Value → pm_H → Prop} (hca : pm_cat 4 as = true) (body : ∀ J : pm_J, pm_Cl l g (fun _ => none) d mc ms (pm_Rq mc ms Q) bk_X11_shift J → J 0 (pm_l0 4 as) [] A 0 0) : pm_Mt l g 189 d mc ms as A Q := pm_Mt_of (isI := false) 11 bk_X11_shift me_X11_shift (plainFor_of_name (by decide +kernel)) (by decide +kernel) (fun h => by cases h) ok_X11_shift hca body
end
section
/-! blocks, by a program -/
def bk_X11_sort : pm_B := [(0, [(.aload_n 0, 1, 0, 0, 0), (.iload_n 1, 1, 1, 0, 0), (.iload_n 2, 1, 2, 0, 0), (.invokevirtual 129, 3, 180, 2, 11), (.ifCond .ne 5, 3, 11, 0, 0), (.iconst (-1), 1, 0, 0, -1), (.ireturn, 1, 0, 0, 0)], 11),
  (11, [(.aload_n 0, 1, 0, 0, 0), (.invokevirtual 112, 3, 172, 0, 11), (.aload_n 0, 1, 0, 0, 0), (.iconst 0, 1, 0, 0, 0), (.iload_n 1, 1, 1, 0, 0), (.invokevirtual 136, 3, 185, 2, 11), (.iconst 0, 1, 0, 0, 0), (.istore_n 3, 1, 3, 0, 0)], 23),
  (23, [(.iload_n 3, 1, 3, 0, 0), (.bipush 24, 2, 0, 0, 24), (.if_icmp .ge 47, 3, 73, 0, 0), (.iload_n 1, 1, 1, 0, 0), (.istore 4, 2, 4, 0, 0)], 32),
  (32, [(.iload 4, 2, 4, 0, 0), (.iload_n 2, 1, 2, 0, 0), (.if_icmp .gt 32, 3, 67, 0, 0), (.aload_n 0, 1, 0, 0, 0), (.getfield 7, 3, 11, 0, 0), (.iload 4, 2, 4, 0, 0), (.iaload, 1, 0, 0, 0), (.iload_n 3, 1, 3, 0, 0), (.if_icmp .ne 15, 3, 61, 0, 0), (.aload_n 0, 1, 0, 0, 0), (.iload_n 3, 1, 3, 0, 0), (.aload_n 0, 1, 0, 0, 0), (.getfield 13, 3, 11, 1, 0), (.iload 4, 2, 4, 0, 0), (.iaload, 1, 0, 0, 0), (.invokevirtual 91, 3, 175, 2, 11)], 61),
  (61, [(.iinc 4 1, 3, 4, 0, 1), (.goto (-32), 3, 32, 0, 0)], 67),
  (67, [(.iinc 3 1, 3, 3, 0, 1), (.goto (-47), 3, 23, 0, 0)], 73),
  (73, [(.aload_n 0, 1, 0, 0, 0), (.iload_n 2, 1, 2, 0, 0), (.iconst 1, 1, 0, 0, 1), (.iadd, 1, 0, 0, 0), (.aload_n 0, 1, 0, 0, 0), (.getfield 70, 3, 11, 7, 0), (.invokevirtual 136, 3, 185, 2, 11), (.aload_n 0, 1, 0, 0, 0), (.invokevirtual 115, 3, 176, 0, 11), (.ireturn, 1, 0, 0, 0)], 89)]
set_option maxRecDepth 100000 in
theorem ok_X11_sort : pm_oks 11 false 5 (some .int) cX11_sort bk_X11_sort = true := by decide +kernel
set_option maxRecDepth 100000 in
theorem me_X11_sort : pm_me 190 = (yX11_sort, cX11_sort, 5, (some .int), 2, 0) := rfl
theorem mt_X11_sort {l : Launch} {g : pm_G} {d mc ms : Nat} {as : List Value} {A : pm_H} {Q : Option Value → pm_H → Prop} (hca : pm_cat 5 as = true) (body : ∀ J : pm_J, pm_Cl l g (fun _ => none) d mc ms (pm_Rq mc ms Q) bk_X11_sort J → J 0 (pm_l0 5 as) [] A 0 0) : pm_Mt l g 190 d mc ms as A Q := pm_Mt_of (isI := false) 11 bk_X11_sort me_X11_sort (plainFor_of_name (by decide +kernel)) (by decide +kernel) (fun h => by cases h) ok_X11_sort hca body
def bk_X11_swap : pm_B := [(0, [(.aload_n 0, 1, 0, 0, 0), (.iload_n 1, 1, 1, 0, 0), (.iload_n 2, 1, 2, 0, 0), (.invokevirtual 129, 3, 180, 2, 11), (.ifCond .eq 24, 3, 30, 0, 0), (.aload_n 0, 1, 0, 0, 0), (.iload_n 3, 1, 3, 0, 0), (.iload 4, 2, 4, 0, 0), (.invokevirtual 129, 3, 180, 2, 11), (.ifCond .eq 14, 3, 30, 0, 0), (.iload_n 1, 1, 1, 0, 0), (.iload 4, 2, 4, 0, 0), (.if_icmp .gt 10, 3, 32, 0, 0), (.iload_n 3, 1, 3, 0, 0), (.iload_n 2, 1, 2, 0, 0), (.if_icmp .gt 5, 3, 32, 0, 0)], 30),
  (30, [(.iconst (-1), 1, 0, 0, -1), (.ireturn, 1, 0, 0, 0)], 32),
  (32, [(.iload_n 1, 1, 1, 0, 0), (.iload_n 3, 1, 3, 0, 0), (.if_icmp .ge 7, 3, 41, 0, 0), (.iconst 1, 1, 0, 0, 1), (.goto 4, 3, 42, 0, 0)], 41),
  (41, [(.iconst 0, 1, 0, 0, 0)], 42),
  (42, [(.istore 5, 2, 5, 0, 0), (.iload 5, 2, 5, 0, 0), (.ifCond .eq 7, 3, 53, 0, 0), (.iload_n 1, 1, 1, 0, 0), (.goto 4, 3, 54, 0, 0)], 53),
  (53, [(.iload_n 3, 1, 3, 0, 0)], 54),
  (54, [(.istore 6, 2, 6, 0, 0), (.iload 5, 2, 5, 0, 0), (.ifCond .eq 7, 3, 65, 0, 0), (.iload_n 2, 1, 2, 0, 0), (.goto 5, 3, 67, 0, 0)], 65),
  (65, [(.iload 4, 2, 4, 0, 0)], 67),
  (67, [(.istore 7, 2, 7, 0, 0), (.iload 5, 2, 5, 0, 0), (.ifCond .eq 7, 3, 78, 0, 0), (.iload_n 3, 1, 3, 0, 0), (.goto 4, 3, 79, 0, 0)], 78),
  (78, [(.iload_n 1, 1, 1, 0, 0)], 79),
  (79, [(.istore 8, 2, 8, 0, 0), (.iload 5, 2, 5, 0, 0), (.ifCond .eq 8, 3, 91, 0, 0), (.iload 4, 2, 4, 0, 0), (.goto 4, 3, 92, 0, 0)], 91),
  (91, [(.iload_n 2, 1, 2, 0, 0)], 92),
  (92, [(.istore 9, 2, 9, 0, 0), (.aload_n 0, 1, 0, 0, 0), (.invokevirtual 112, 3, 172, 0, 11), (.aload_n 0, 1, 0, 0, 0), (.iconst 0, 1, 0, 0, 0), (.iload 6, 2, 6, 0, 0), (.invokevirtual 136, 3, 185, 2, 11), (.aload_n 0, 1, 0, 0, 0), (.iload 8, 2, 8, 0, 0), (.iload 9, 2, 9, 0, 0), (.iconst 1, 1, 0, 0, 1), (.iadd, 1, 0, 0, 0), (.invokevirtual 136, 3, 185, 2, 11), (.aload_n 0, 1, 0, 0, 0), (.iload 7, 2, 7, 0, 0), (.iconst 1, 1, 0, 0, 1), (.iadd, 1, 0, 0, 0), (.iload 8, 2, 8, 0, 0), (.invokevirtual 136, 3, 185, 2, 11), (.aload_n 0, 1, 0, 0, 0), (.iload 6, 2, 6, 0, 0), (.iload 7, 2, 7, 0, 0), (.iconst 1, 1, 0, 0, 1), (.iadd, 1, 0, 0, 0), (.invokevirtual 136, 3, 185, 2, 11), (.aload_n 0, 1, 0, 0, 0), (.iload 9, 2, 9, 0, 0), (.iconst 1, 1, 0, 0, 1), (.iadd, 1, 0, 0, 0), (.aload_n 0, 1, 0, 0, 0), (.getfield 70, 3, 11, 7, 0), (.invokevirtual 136, 3, 185, 2, 11), (.aload_n 0, 1, 0, 0, 0), (.invokevirtual 115, 3, 176, 0, 11), (.ireturn, 1, 0, 0, 0)], 152)]
set_option maxRecDepth 100000 in
theorem ok_X11_swap : pm_oks 11 false 10 (some .int) cX11_swap bk_X11_swap = true := by decide +kernel
set_option maxRecDepth 100000 in
theorem me_X11_swap : pm_me 191 = (yX11_swap, cX11_swap, 10, (some .int), 4, 0) := rfl
theorem mt_X11_swap {l : Launch} {g : pm_G} {d mc ms : Nat} {as : List Value} {A : pm_H} {Q : Option Value → pm_H → Prop} (hca : pm_cat 10 as = true) (body : ∀ J : pm_J, pm_Cl l g (fun _ => none) d mc ms (pm_Rq mc ms Q) bk_X11_swap J → J 0 (pm_l0 10 as) [] A 0 0) : pm_Mt l g 191 d mc ms as A Q := pm_Mt_of (isI := false) 11 bk_X11_swap me_X11_swap (plainFor_of_name (by decide +kernel)) (by decide +kernel) (fun h => by cases h) ok_X11_swap hca body
def bk_X11_copy : pm_B := [(0, [(.aload_n 0, 1, 0, 0, 0), (.iload_n 1, 1, 1, 0, 0), (.iload_n 2, 1, 2, 0, 0), (.invokevirtual 129, 3, 180, 2, 11), (.ifCond .eq 27, 3, 33, 0, 0), (.iload_n 3, 1, 3, 0, 0), (.iconst 0, 1, 0, 0, 0), (.aload_n 0, 1, 0, 0, 0), (.getfield 70, 3, 11, 7, 0), (.invokestatic 74, 3, 169, 3, 0), (.ifCond .eq 15, 3, 33, 0, 0), (.aload_n 0, 1, 0, 0, 0), (.iload_n 2, 1, 2, 0, 0), (.iload_n 1, 1, 1, 0, 0), (.isub, 1, 0, 0, 0), (.iconst 1, 1, 0, 0, 1), (.iadd, 1, 0, 0, 0), (.invokevirtual 133, 3, 184, 1, 11), (.ifCond .ne 5, 3, 35, 0, 0)], 33),
  (33, [(.iconst (-1), 1, 0, 0, -1), (.ireturn, 1, 0, 0, 0)], 35),
  (35, [(.aload_n 0, 1, 0, 0, 0), (.invokevirtual 112, 3, 172, 0, 11), (.aload_n 0, 1, 0, 0, 0), (.iconst 0, 1, 0, 0, 0), (.iload_n 3, 1, 3, 0, 0), (.invokevirtual 136, 3, 185, 2, 11), (.iload_n 1, 1, 1, 0, 0), (.istore 4, 2, 4, 0, 0)], 48),
  (48, [(.iload 4, 2, 4, 0, 0), (.iload_n 2, 1, 2, 0, 0), (.if_icmp .gt 20, 3, 71, 0, 0), (.aload_n 0, 1, 0, 0, 0), (.aload_n 0, 1, 0, 0, 0), (.getfield 7, 3, 11, 0, 0), (.iload 4, 2, 4, 0, 0), (.iaload, 1, 0, 0, 0), (.invokevirtual 139, 3, 186, 1, 11), (.iinc 4 1, 3, 4, 0, 1), (.goto (-20), 3, 48, 0, 0)], 71),
  (71, [(.aload_n 0, 1, 0, 0, 0), (.iload_n 3, 1, 3, 0, 0), (.aload_n 0, 1, 0, 0, 0), (.getfield 70, 3, 11, 7, 0), (.invokevirtual 136, 3, 185, 2, 11), (.aload_n 0, 1, 0, 0, 0), (.invokevirtual 115, 3, 176, 0, 11), (.ireturn, 1, 0, 0, 0)], 85)]
set_option maxRecDepth 100000 in
theorem ok_X11_copy : pm_oks 11 false 5 (some .int) cX11_copy bk_X11_copy = true := by decide +kernel
set_option maxRecDepth 100000 in
theorem me_X11_copy : pm_me 192 = (yX11_copy, cX11_copy, 5, (some .int), 3, 0) := rfl
theorem mt_X11_copy {l : Launch} {g : pm_G} {d mc ms : Nat} {as : List Value} {A : pm_H} {Q : Option Value → pm_H → Prop} (hca : pm_cat 5 as = true) (body : ∀ J : pm_J, pm_Cl l g (fun _ => none) d mc ms (pm_Rq mc ms Q) bk_X11_copy J → J 0 (pm_l0 5 as) [] A 0 0) : pm_Mt l g 192 d mc ms as A Q := pm_Mt_of (isI := false) 11 bk_X11_copy me_X11_copy (plainFor_of_name (by decide +kernel)) (by decide +kernel) (fun h => by cases h) ok_X11_copy hca body
def bk_X11_draw : pm_B := [(0, [(.iload_n 1, 1, 1, 0, 0), (.iconst 0, 1, 0, 0, 0), (.sipush 9999, 3, 0, 0, 9999), (.invokestatic 74, 3, 169, 3, 0), (.ifCond .eq 32, 3, 40, 0, 0), (.iload_n 2, 1, 2, 0, 0), (.iconst 1, 1, 0, 0, 1), (.sipush 160, 3, 0, 0, 160), (.invokestatic 74, 3, 169, 3, 0), (.ifCond .eq 21, 3, 40, 0, 0), (.iload_n 3, 1, 3, 0, 0), (.iconst 1, 1, 0, 0, 1), (.bipush 24, 2, 0, 0, 24), (.invokestatic 74, 3, 169, 3, 0), (.ifCond .eq 11, 3, 40, 0, 0), (.aload_n 0, 1, 0, 0, 0), (.iload_n 2, 1, 2, 0, 0), (.invokevirtual 133, 3, 184, 1, 11), (.ifCond .ne 5, 3, 42, 0, 0)], 40),
  (40, [(.iconst (-1), 1, 0, 0, -1), (.ireturn, 1, 0, 0, 0)], 42),
  (42, [(.aload_n 0, 1, 0, 0, 0), (.invokevirtual 112, 3, 172, 0, 11), (.aload_n 0, 1, 0, 0, 0), (.iconst 0, 1, 0, 0, 0), (.aload_n 0, 1, 0, 0, 0), (.getfield 70, 3, 11, 7, 0), (.invokevirtual 136, 3, 185, 2, 11), (.iload_n 1, 1, 1, 0, 0), (.istore 4, 2, 4, 0, 0), (.iconst 0, 1, 0, 0, 0), (.istore 5, 2, 5, 0, 0)], 61),
  (61, [(.iload 5, 2, 5, 0, 0), (.iload_n 2, 1, 2, 0, 0), (.if_icmp .ge 32, 3, 96, 0, 0), (.sipush 137, 3, 0, 0, 137), (.iload 4, 2, 4, 0, 0), (.imul, 1, 0, 0, 0), (.bipush 71, 2, 0, 0, 71), (.iadd, 1, 0, 0, 0), (.sipush 10007, 3, 0, 0, 10007), (.irem, 1, 0, 0, 0), (.istore 4, 2, 4, 0, 0), (.aload_n 0, 1, 0, 0, 0), (.iload 4, 2, 4, 0, 0), (.iload_n 3, 1, 3, 0, 0), (.irem, 1, 0, 0, 0), (.invokevirtual 139, 3, 186, 1, 11), (.iinc 5 1, 3, 5, 0, 1), (.goto (-32), 3, 61, 0, 0)], 96),
  (96, [(.aload_n 0, 1, 0, 0, 0), (.invokevirtual 115, 3, 176, 0, 11), (.ireturn, 1, 0, 0, 0)], 101)]
set_option maxRecDepth 100000 in
theorem ok_X11_draw : pm_oks 11 false 6 (some .int) cX11_draw bk_X11_draw = true := by decide +kernel
set_option maxRecDepth 100000 in
theorem me_X11_draw : pm_me 193 = (yX11_draw, cX11_draw, 6, (some .int), 3, 0) := rfl
theorem mt_X11_draw {l : Launch} {g : pm_G} {d mc ms : Nat} {as : List Value} {A : pm_H} {Q : Option Value → pm_H → Prop} (hca : pm_cat 6 as = true) (body : ∀ J : pm_J, pm_Cl l g (fun _ => none) d mc ms (pm_Rq mc ms Q) bk_X11_draw J → J 0 (pm_l0 6 as) [] A 0 0) : pm_Mt l g 193 d mc ms as A Q := pm_Mt_of (isI := false) 11 bk_X11_draw me_X11_draw (plainFor_of_name (by decide +kernel)) (by decide +kernel) (fun h => by cases h) ok_X11_draw hca body
def bk_X11_weigh : pm_B := [(0, [(.iload_n 1, 1, 1, 0, 0), (.invokestatic 122, 3, 170, 1, 0), (.ifCond .eq 14, 3, 18, 0, 0), (.iload_n 2, 1, 2, 0, 0), (.iconst 0, 1, 0, 0, 0), (.sipush 999, 3, 0, 0, 999), (.invokestatic 74, 3, 169, 3, 0), (.ifCond .ne 5, 3, 20, 0, 0)], 18),
  (18, [(.iconst (-1), 1, 0, 0, -1), (.ireturn, 1, 0, 0, 0)], 20),
  (20, [(.aload_n 0, 1, 0, 0, 0), (.getfield 16, 3, 11, 2, 0), (.iload_n 1, 1, 1, 0, 0), (.iaload, 1, 0, 0, 0), (.istore_n 3, 1, 3, 0, 0), (.aload_n 0, 1, 0, 0, 0), (.getfield 16, 3, 11, 2, 0), (.iload_n 1, 1, 1, 0, 0), (.iload_n 2, 1, 2, 0, 0), (.iastore, 1, 0, 0, 0), (.iload_n 3, 1, 3, 0, 0), (.ireturn, 1, 0, 0, 0)], 36)]
set_option maxRecDepth 100000 in
theorem ok_X11_weigh : pm_oks 11 false 4 (some .int) cX11_weigh bk_X11_weigh = true := by decide +kernel
set_option maxRecDepth 100000 in
theorem me_X11_weigh : pm_me 194 = (yX11_weigh, cX11_weigh, 4, (some .int), 2, 0) := rfl
theorem mt_X11_weigh {l : Launch} {g : pm_G} {d mc ms : Nat} {as : List Value} {A : pm_H} {Q : Option Value → pm_H → Prop} (hca : pm_cat 4 as = true) (body : ∀ J : pm_J, pm_Cl l g (fun _ => none) d mc ms (pm_Rq mc ms Q) bk_X11_weigh J → J 0 (pm_l0 4 as) [] A 0 0) : pm_Mt l g 194 d mc ms as A Q := pm_Mt_of (isI := false) 11 bk_X11_weigh me_X11_weigh (plainFor_of_name (by decide +kernel)) (by decide +kernel) (fun h => by cases h) ok_X11_weigh hca body
def bk_X11_at : pm_B := [(0, [(.aload_n 0, 1, 0, 0, 0), (.iload_n 1, 1, 1, 0, 0), (.invokevirtual 119, 3, 168, 1, 11), (.ifCond .ne 5, 3, 10, 0, 0), (.iconst (-1), 1, 0, 0, -1), (.ireturn, 1, 0, 0, 0)], 10),
  (10, [(.iload_n 2, 1, 2, 0, 0), (.tableswitch 72 0 3 #[29, 36, 43, 49], 29, 11, 0, 0)], 40),
  (40, [(.aload_n 0, 1, 0, 0, 0), (.getfield 7, 3, 11, 0, 0), (.iload_n 1, 1, 1, 0, 0), (.iaload, 1, 0, 0, 0), (.ireturn, 1, 0, 0, 0)], 47),
  (47, [(.aload_n 0, 1, 0, 0, 0), (.getfield 13, 3, 11, 1, 0), (.iload_n 1, 1, 1, 0, 0), (.iaload, 1, 0, 0, 0), (.ireturn, 1, 0, 0, 0)], 54),
  (54, [(.aload_n 0, 1, 0, 0, 0), (.iload_n 1, 1, 1, 0, 0), (.invokevirtual 85, 3, 173, 1, 11), (.ireturn, 1, 0, 0, 0)], 60),
  (60, [(.aload_n 0, 1, 0, 0, 0), (.iload_n 1, 1, 1, 0, 0), (.invokevirtual 142, 3, 196, 1, 11), (.ifCond .ge 7, 3, 72, 0, 0), (.iconst (-1), 1, 0, 0, -1), (.goto 13, 3, 82, 0, 0)], 72),
  (72, [(.aload_n 0, 1, 0, 0, 0), (.getfield 13, 3, 11, 1, 0), (.aload_n 0, 1, 0, 0, 0), (.iload_n 1, 1, 1, 0, 0), (.invokevirtual 142, 3, 196, 1, 11), (.iaload, 1, 0, 0, 0)], 82),
  (82, [(.ireturn, 1, 0, 0, 0)], 83),
  (83, [(.iconst (-1), 1, 0, 0, -1), (.ireturn, 1, 0, 0, 0)], 85)]
set_option maxRecDepth 100000 in
theorem ok_X11_at : pm_oks 11 false 3 (some .int) cX11_at bk_X11_at = true := by decide +kernel
set_option maxRecDepth 100000 in
theorem me_X11_at : pm_me 195 = (yX11_at, cX11_at, 3, (some .int), 2, 0) := rfl
theorem mt_X11_at {l : Launch} {g : pm_G} {d mc ms : Nat} {as : List Value} {A : pm_H} {Q : Option Value → pm_H → Prop} (hca : pm_cat 3 as = true) (body : ∀ J : pm_J, pm_Cl l g (fun _ => none) d mc ms (pm_Rq mc ms Q) bk_X11_at J → J 0 (pm_l0 3 as) [] A 0 0) : pm_Mt l g 195 d mc ms as A Q := pm_Mt_of (isI := false) 11 bk_X11_at me_X11_at (plainFor_of_name (by decide +kernel)) (by decide +kernel) (fun h => by cases h) ok_X11_at hca body
def bk_X11_behind : pm_B := [(0, [(.iload_n 1, 1, 1, 0, 0), (.iconst 1, 1, 0, 0, 1), (.iadd, 1, 0, 0, 0), (.istore_n 2, 1, 2, 0, 0)], 4),
  (4, [(.iload_n 2, 1, 2, 0, 0), (.aload_n 0, 1, 0, 0, 0), (.getfield 70, 3, 11, 7, 0), (.if_icmp .ge 26, 3, 35, 0, 0), (.aload_n 0, 1, 0, 0, 0), (.getfield 7, 3, 11, 0, 0), (.iload_n 2, 1, 2, 0, 0), (.iaload, 1, 0, 0, 0), (.aload_n 0, 1, 0, 0, 0), (.getfield 7, 3, 11, 0, 0), (.iload_n 1, 1, 1, 0, 0), (.iaload, 1, 0, 0, 0), (.if_icmp .ne 5, 3, 29, 0, 0), (.iload_n 2, 1, 2, 0, 0), (.ireturn, 1, 0, 0, 0)], 29),
  (29, [(.iinc 2 1, 3, 2, 0, 1), (.goto (-28), 3, 4, 0, 0)], 35),
  (35, [(.iconst (-1), 1, 0, 0, -1), (.ireturn, 1, 0, 0, 0)], 37)]
set_option maxRecDepth 100000 in
theorem ok_X11_behind : pm_oks 11 false 3 (some .int) cX11_behind bk_X11_behind = true := by decide +kernel
set_option maxRecDepth 100000 in
theorem me_X11_behind : pm_me 196 = (yX11_behind, cX11_behind, 3, (some .int), 1, 0) := rfl
theorem mt_X11_behind {l : Launch} {g : pm_G} {d mc ms : Nat} {as : List Value} {A : pm_H} {Q : Option Value → pm_H → Prop} (hca : pm_cat 3 as = true) (body : ∀ J : pm_J, pm_Cl l g (fun _ => none) d mc ms (pm_Rq mc ms Q) bk_X11_behind J → J 0 (pm_l0 3 as) [] A 0 0) : pm_Mt l g 196 d mc ms as A Q := pm_Mt_of (isI := false) 11 bk_X11_behind me_X11_behind (plainFor_of_name (by decide +kernel)) (by decide +kernel) (fun h => by cases h) ok_X11_behind hca body
def bk_X11_place : pm_B := [(0, [(.iload_n 1, 1, 1, 0, 0), (.ifCond .ge 7, 3, 8, 0, 0), (.iconst (-1), 1, 0, 0, -1), (.goto 8, 3, 13, 0, 0)], 8),
  (8, [(.aload_n 0, 1, 0, 0, 0), (.iload_n 1, 1, 1, 0, 0), (.invokevirtual 145, 3, 198, 1, 11)], 13),
  (13, [(.ireturn, 1, 0, 0, 0)], 14)]
set_option maxRecDepth 100000 in
theorem ok_X11_place : pm_oks 11 false 2 (some .int) cX11_place bk_X11_place = true := by decide +kernel
set_option maxRecDepth 100000 in
theorem me_X11_place : pm_me 197 = (yX11_place, cX11_place, 2, (some .int), 1, 0) := rfl
theorem mt_X11_place {l : Launch} {g : pm_G} {d mc ms : Nat} {as : List Value} {A : pm_H} {Q : Option Value → pm_H → Prop} (hca : pm_cat 2 as = true) (body : ∀ J : pm_J, pm_Cl l g (fun _ => none) d mc ms (pm_Rq mc ms Q) bk_X11_place J → J 0 (pm_l0 2 as) [] A 0 0) : pm_Mt l g 197 d mc ms as A Q := pm_Mt_of (isI := false) 11 bk_X11_place me_X11_place (plainFor_of_name (by decide +kernel)) (by decide +kernel) (fun h => by cases h) ok_X11_place hca body
def bk_X11_placeOf : pm_B := [(0, [(.iconst 0, 1, 0, 0, 0), (.istore_n 2, 1, 2, 0, 0)], 2),
  (2, [(.iload_n 2, 1, 2, 0, 0), (.aload_n 0, 1, 0, 0, 0), (.getfield 70, 3, 11, 7, 0), (.if_icmp .ge 21, 3, 28, 0, 0), (.aload_n 0, 1, 0, 0, 0), (.getfield 13, 3, 11, 1, 0), (.iload_n 2, 1, 2, 0, 0), (.iaload, 1, 0, 0, 0), (.iload_n 1, 1, 1, 0, 0), (.if_icmp .ne 5, 3, 22, 0, 0), (.iload_n 2, 1, 2, 0, 0), (.ireturn, 1, 0, 0, 0)], 22),
  (22, [(.iinc 2 1, 3, 2, 0, 1), (.goto (-23), 3, 2, 0, 0)], 28),
  (28, [(.iconst (-1), 1, 0, 0, -1), (.ireturn, 1, 0, 0, 0)], 30)]
set_option maxRecDepth 100000 in
theorem ok_X11_placeOf : pm_oks 11 false 3 (some .int) cX11_placeOf bk_X11_placeOf = true := by decide +kernel
set_option maxRecDepth 100000 in
theorem me_X11_placeOf : pm_me 198 = (yX11_placeOf, cX11_placeOf, 3, (some .int), 1, 0) := rfl
theorem mt_X11_placeOf {l : Launch} {g : pm_G} {d mc ms : Nat} {as : List Value} {A : pm_H} {Q : Option Value → pm_H → Prop} (hca : pm_cat 3 as = true) (body : ∀ J : pm_J, pm_Cl l g (fun _ => none) d mc ms (pm_Rq mc ms Q) bk_X11_placeOf J → J 0 (pm_l0 3 as) [] A 0 0) : pm_Mt l g 198 d mc ms as A Q := pm_Mt_of (isI := false) 11 bk_X11_placeOf me_X11_placeOf (plainFor_of_name (by decide +kernel)) (by decide +kernel) (fun h => by cases h) ok_X11_placeOf hca body
def bk_X11_colour : pm_B := [(0, [(.iload_n 1, 1, 1, 0, 0), (.invokestatic 122, 3, 170, 1, 0), (.ifCond .ne 5, 3, 9, 0, 0), (.iconst (-1), 1, 0, 0, -1), (.ireturn, 1, 0, 0, 0)], 9),
  (9, [(.iload_n 2, 1, 2, 0, 0), (.tableswitch 72 0 4 #[34, 47, 54, 60, 66], 34, 10, 0, 0)], 44),
  (44, [(.aload_n 0, 1, 0, 0, 0), (.iconst 0, 1, 0, 0, 0), (.aload_n 0, 1, 0, 0, 0), (.getfield 70, 3, 11, 7, 0), (.iconst 1, 1, 0, 0, 1), (.isub, 1, 0, 0, 0), (.iload_n 1, 1, 1, 0, 0), (.invokevirtual 148, 3, 200, 3, 11), (.ireturn, 1, 0, 0, 0)], 57),
  (57, [(.aload_n 0, 1, 0, 0, 0), (.getfield 16, 3, 11, 2, 0), (.iload_n 1, 1, 1, 0, 0), (.iaload, 1, 0, 0, 0), (.ireturn, 1, 0, 0, 0)], 64),
  (64, [(.aload_n 0, 1, 0, 0, 0), (.iload_n 1, 1, 1, 0, 0), (.invokevirtual 152, 3, 201, 1, 11), (.ireturn, 1, 0, 0, 0)], 70),
  (70, [(.aload_n 0, 1, 0, 0, 0), (.iload_n 1, 1, 1, 0, 0), (.invokevirtual 155, 3, 202, 1, 11), (.ireturn, 1, 0, 0, 0)], 76),
  (76, [(.aload_n 0, 1, 0, 0, 0), (.iload_n 1, 1, 1, 0, 0), (.invokevirtual 158, 3, 203, 1, 11), (.ireturn, 1, 0, 0, 0)], 82),
  (82, [(.iconst (-1), 1, 0, 0, -1), (.ireturn, 1, 0, 0, 0)], 84)]
set_option maxRecDepth 100000 in
theorem ok_X11_colour : pm_oks 11 false 3 (some .int) cX11_colour bk_X11_colour = true := by decide +kernel
set_option maxRecDepth 100000 in
theorem me_X11_colour : pm_me 199 = (yX11_colour, cX11_colour, 3, (some .int), 2, 0) := rfl
theorem mt_X11_colour {l : Launch} {g : pm_G} {d mc ms : Nat} {as : List Value} {A : pm_H} {Q : Option Value → pm_H → Prop} (hca : pm_cat 3 as = true) (body : ∀ J : pm_J, pm_Cl l g (fun _ => none) d mc ms (pm_Rq mc ms Q) bk_X11_colour J → J 0 (pm_l0 3 as) [] A 0 0) : pm_Mt l g 199 d mc ms as A Q := pm_Mt_of (isI := false) 11 bk_X11_colour me_X11_colour (plainFor_of_name (by decide +kernel)) (by decide +kernel) (fun h => by cases h) ok_X11_colour hca body
def bk_X11_timesIn : pm_B := [(0, [(.iconst 0, 1, 0, 0, 0), (.istore 4, 2, 4, 0, 0), (.iload_n 1, 1, 1, 0, 0), (.istore 5, 2, 5, 0, 0)], 6),
  (6, [(.iload 5, 2, 5, 0, 0), (.iload_n 2, 1, 2, 0, 0), (.if_icmp .gt 30, 3, 39, 0, 0), (.iload 4, 2, 4, 0, 0), (.aload_n 0, 1, 0, 0, 0), (.getfield 7, 3, 11, 0, 0), (.iload 5, 2, 5, 0, 0), (.iaload, 1, 0, 0, 0), (.iload_n 3, 1, 3, 0, 0), (.if_icmp .ne 7, 3, 29, 0, 0), (.iconst 1, 1, 0, 0, 1), (.goto 4, 3, 30, 0, 0)], 29),
  (29, [(.iconst 0, 1, 0, 0, 0)], 30),
  (30, [(.iadd, 1, 0, 0, 0), (.istore 4, 2, 4, 0, 0), (.iinc 5 1, 3, 5, 0, 1), (.goto (-30), 3, 6, 0, 0)], 39),
  (39, [(.iload 4, 2, 4, 0, 0), (.ireturn, 1, 0, 0, 0)], 42)]
set_option maxRecDepth 100000 in
theorem ok_X11_timesIn : pm_oks 11 false 6 (some .int) cX11_timesIn bk_X11_timesIn = true := by decide +kernel
set_option maxRecDepth 100000 in
theorem me_X11_timesIn : pm_me 200 = (yX11_timesIn, cX11_timesIn, 6, (some .int), 3, 0) := rfl
theorem mt_X11_timesIn {l : Launch} {g : pm_G} {d mc ms : Nat} {as : List Value} {A : pm_H} {Q : Option Value → pm_H → Prop} (hca : pm_cat 6 as = true) (body : ∀ J : pm_J, pm_Cl l g (fun _ => none) d mc ms (pm_Rq mc ms Q) bk_X11_timesIn J → J 0 (pm_l0 6 as) [] A 0 0) : pm_Mt l g 200 d mc ms as A Q := pm_Mt_of (isI := false) 11 bk_X11_timesIn me_X11_timesIn (plainFor_of_name (by decide +kernel)) (by decide +kernel) (fun h => by cases h) ok_X11_timesIn hca body
def bk_X11_first : pm_B := [(0, [(.iconst 0, 1, 0, 0, 0), (.istore_n 2, 1, 2, 0, 0)], 2),
  (2, [(.iload_n 2, 1, 2, 0, 0), (.aload_n 0, 1, 0, 0, 0), (.getfield 70, 3, 11, 7, 0), (.if_icmp .ge 21, 3, 28, 0, 0), (.aload_n 0, 1, 0, 0, 0), (.getfield 7, 3, 11, 0, 0), (.iload_n 2, 1, 2, 0, 0), (.iaload, 1, 0, 0, 0), (.iload_n 1, 1, 1, 0, 0), (.if_icmp .ne 5, 3, 22, 0, 0), (.iload_n 2, 1, 2, 0, 0), (.ireturn, 1, 0, 0, 0)], 22),
  (22, [(.iinc 2 1, 3, 2, 0, 1), (.goto (-23), 3, 2, 0, 0)], 28),
  (28, [(.iconst (-1), 1, 0, 0, -1), (.ireturn, 1, 0, 0, 0)], 30)]
set_option maxRecDepth 100000 in
theorem ok_X11_first : pm_oks 11 false 3 (some .int) cX11_first bk_X11_first = true := by decide +kernel
set_option maxRecDepth 100000 in
theorem me_X11_first : pm_me 201 = (yX11_first, cX11_first, 3, (some .int), 1, 0) := rfl
theorem mt_X11_first {l : Launch} {g : pm_G} {d mc ms : Nat} {as : List Value} {A : pm_H} {Q : Option Value → pm_H → Prop} (hca : pm_cat 3 as = true) (body : ∀ J : pm_J, pm_Cl l g (fun _ => none) d mc ms (pm_Rq mc ms Q) bk_X11_first J → J 0 (pm_l0 3 as) [] A 0 0) : pm_Mt l g 201 d mc ms as A Q := pm_Mt_of (isI := false) 11 bk_X11_first me_X11_first (plainFor_of_name (by decide +kernel)) (by decide +kernel) (fun h => by cases h) ok_X11_first hca body
def bk_X11_last : pm_B := [(0, [(.aload_n 0, 1, 0, 0, 0), (.getfield 70, 3, 11, 7, 0), (.iconst 1, 1, 0, 0, 1), (.isub, 1, 0, 0, 0), (.istore_n 2, 1, 2, 0, 0)], 7),
  (7, [(.iload_n 2, 1, 2, 0, 0), (.ifCond .lt 21, 3, 29, 0, 0), (.aload_n 0, 1, 0, 0, 0), (.getfield 7, 3, 11, 0, 0), (.iload_n 2, 1, 2, 0, 0), (.iaload, 1, 0, 0, 0), (.iload_n 1, 1, 1, 0, 0), (.if_icmp .ne 5, 3, 23, 0, 0), (.iload_n 2, 1, 2, 0, 0), (.ireturn, 1, 0, 0, 0)], 23),
  (23, [(.iinc 2 (-1), 3, 2, 0, -1), (.goto (-19), 3, 7, 0, 0)], 29),
  (29, [(.iconst (-1), 1, 0, 0, -1), (.ireturn, 1, 0, 0, 0)], 31)]
set_option maxRecDepth 100000 in
theorem ok_X11_last : pm_oks 11 false 3 (some .int) cX11_last bk_X11_last = true := by decide +kernel
set_option maxRecDepth 100000 in
theorem me_X11_last : pm_me 202 = (yX11_last, cX11_last, 3, (some .int), 1, 0) := rfl
theorem mt_X11_last {l : Launch} {g : pm_G} {d mc ms : Nat} {as : List Value} {A : pm_H} {Q : Option Value → pm_H → Prop} (hca : pm_cat 3 as = true) (body : ∀ J : pm_J, pm_Cl l g (fun _ => none) d mc ms (pm_Rq mc ms Q) bk_X11_last J → J 0 (pm_l0 3 as) [] A 0 0) : pm_Mt l g 202 d mc ms as A Q := pm_Mt_of (isI := false) 11 bk_X11_last me_X11_last (plainFor_of_name (by decide +kernel)) (by decide +kernel) (fun h => by cases h) ok_X11_last hca body
def bk_X11_widest : pm_B := [(0, [(.iconst (-1), 1, 0, 0, -1), (.istore_n 2, 1, 2, 0, 0), (.iconst 0, 1, 0, 0, 0), (.istore_n 3, 1, 3, 0, 0)], 4),
  (4, [(.iload_n 3, 1, 3, 0, 0), (.aload_n 0, 1, 0, 0, 0), (.getfield 70, 3, 11, 7, 0), (.if_icmp .ge 50, 3, 59, 0, 0), (.aload_n 0, 1, 0, 0, 0), (.getfield 7, 3, 11, 0, 0), (.iload_n 3, 1, 3, 0, 0), (.iaload, 1, 0, 0, 0), (.iload_n 1, 1, 1, 0, 0), (.if_icmp .ne 34, 3, 53, 0, 0), (.aload_n 0, 1, 0, 0, 0), (.iload_n 3, 1, 3, 0, 0), (.invokevirtual 78, 3, 174, 1, 11), (.ifCond .lt 26, 3, 53, 0, 0), (.iload_n 3, 1, 3, 0, 0), (.aload_n 0, 1, 0, 0, 0), (.iload_n 3, 1, 3, 0, 0), (.invokevirtual 78, 3, 174, 1, 11), (.isub, 1, 0, 0, 0), (.iconst 1, 1, 0, 0, 1), (.isub, 1, 0, 0, 0), (.iload_n 2, 1, 2, 0, 0), (.if_icmp .le 13, 3, 53, 0, 0), (.iload_n 3, 1, 3, 0, 0), (.aload_n 0, 1, 0, 0, 0), (.iload_n 3, 1, 3, 0, 0), (.invokevirtual 78, 3, 174, 1, 11), (.isub, 1, 0, 0, 0), (.iconst 1, 1, 0, 0, 1), (.isub, 1, 0, 0, 0), (.istore_n 2, 1, 2, 0, 0)], 53),
  (53, [(.iinc 3 1, 3, 3, 0, 1), (.goto (-52), 3, 4, 0, 0)], 59),
  (59, [(.iload_n 2, 1, 2, 0, 0), (.ireturn, 1, 0, 0, 0)], 61)]
set_option maxRecDepth 100000 in
theorem ok_X11_widest : pm_oks 11 false 4 (some .int) cX11_widest bk_X11_widest = true := by decide +kernel
set_option maxRecDepth 100000 in
theorem me_X11_widest : pm_me 203 = (yX11_widest, cX11_widest, 4, (some .int), 1, 0) := rfl
theorem mt_X11_widest {l : Launch} {g : pm_G} {d mc ms : Nat} {as : List Value} {A : pm_H} {Q : Option Value → pm_H → Prop} (hca : pm_cat 4 as = true) (body : ∀ J : pm_J, pm_Cl l g (fun _ => none) d mc ms (pm_Rq mc ms Q) bk_X11_widest J → J 0 (pm_l0 4 as) [] A 0 0) : pm_Mt l g 203 d mc ms as A Q := pm_Mt_of (isI := false) 11 bk_X11_widest me_X11_widest (plainFor_of_name (by decide +kernel)) (by decide +kernel) (fun h => by cases h) ok_X11_widest hca body
def bk_X11_nth : pm_B := [(0, [(.iload_n 2, 1, 2, 0, 0), (.istore_n 3, 1, 3, 0, 0), (.iconst 0, 1, 0, 0, 0), (.istore 4, 2, 4, 0, 0)], 5),
  (5, [(.iload 4, 2, 4, 0, 0), (.aload_n 0, 1, 0, 0, 0), (.getfield 70, 3, 11, 7, 0), (.if_icmp .ge 37, 3, 48, 0, 0), (.iload_n 2, 1, 2, 0, 0), (.ifCond .lt 33, 3, 48, 0, 0), (.aload_n 0, 1, 0, 0, 0), (.getfield 7, 3, 11, 0, 0), (.iload 4, 2, 4, 0, 0), (.iaload, 1, 0, 0, 0), (.iload_n 1, 1, 1, 0, 0), (.if_icmp .eq 6, 3, 32, 0, 0), (.goto 13, 3, 42, 0, 0)], 32),
  (32, [(.iload_n 3, 1, 3, 0, 0), (.ifCond .ne 6, 3, 39, 0, 0), (.iload 4, 2, 4, 0, 0), (.ireturn, 1, 0, 0, 0)], 39),
  (39, [(.iinc 3 (-1), 3, 3, 0, -1)], 42),
  (42, [(.iinc 4 1, 3, 4, 0, 1), (.goto (-40), 3, 5, 0, 0)], 48),
  (48, [(.iconst (-1), 1, 0, 0, -1), (.ireturn, 1, 0, 0, 0)], 50)]
set_option maxRecDepth 100000 in
theorem ok_X11_nth : pm_oks 11 false 5 (some .int) cX11_nth bk_X11_nth = true := by decide +kernel
set_option maxRecDepth 100000 in
theorem me_X11_nth : pm_me 204 = (yX11_nth, cX11_nth, 5, (some .int), 2, 0) := rfl
theorem mt_X11_nth {l : Launch} {g : pm_G} {d mc ms : Nat} {as : List Value} {A : pm_H} {Q : Option Value → pm_H → Prop} (hca : pm_cat 5 as = true) (body : ∀ J : pm_J, pm_Cl l g (fun _ => none) d mc ms (pm_Rq mc ms Q) bk_X11_nth J → J 0 (pm_l0 5 as) [] A 0 0) : pm_Mt l g 204 d mc ms as A Q := pm_Mt_of (isI := false) 11 bk_X11_nth me_X11_nth (plainFor_of_name (by decide +kernel)) (by decide +kernel) (fun h => by cases h) ok_X11_nth hca body
def bk_X11_about : pm_B := [(0, [(.iload_n 1, 1, 1, 0, 0), (.tableswitch 79 0 5 #[39, 44, 59, 64, 69, 74], 39, 1, 0, 0)], 40),
  (40, [(.aload_n 0, 1, 0, 0, 0), (.getfield 70, 3, 11, 7, 0), (.ireturn, 1, 0, 0, 0)], 45),
  (45, [(.aload_n 0, 1, 0, 0, 0), (.iconst 0, 1, 0, 0, 0), (.aload_n 0, 1, 0, 0, 0), (.getfield 70, 3, 11, 7, 0), (.iconst 1, 1, 0, 0, 1), (.isub, 1, 0, 0, 0), (.invokevirtual 161, 3, 206, 2, 11), (.invokestatic 165, 3, 207, 1, 0), (.ireturn, 1, 0, 0, 0)], 60),
  (60, [(.aload_n 0, 1, 0, 0, 0), (.getfield 95, 3, 11, 10, 0), (.ireturn, 1, 0, 0, 0)], 65),
  (65, [(.aload_n 0, 1, 0, 0, 0), (.getfield 102, 3, 11, 11, 0), (.ireturn, 1, 0, 0, 0)], 70),
  (70, [(.aload_n 0, 1, 0, 0, 0), (.getfield 105, 3, 11, 12, 0), (.ireturn, 1, 0, 0, 0)], 75),
  (75, [(.aload_n 0, 1, 0, 0, 0), (.getfield 168, 3, 11, 17, 0), (.ireturn, 1, 0, 0, 0)], 80),
  (80, [(.iconst (-1), 1, 0, 0, -1), (.ireturn, 1, 0, 0, 0)], 82)]
set_option maxRecDepth 100000 in
theorem ok_X11_about : pm_oks 11 false 2 (some .int) cX11_about bk_X11_about = true := by decide +kernel
set_option maxRecDepth 100000 in
theorem me_X11_about : pm_me 205 = (yX11_about, cX11_about, 2, (some .int), 1, 0) := rfl
theorem mt_X11_about {l : Launch} {g : pm_G} {d mc ms : Nat} {as : List Value} {A : pm_H} {Q : Option Value → pm_H → Prop} (hca : pm_cat 2 as = true) (body : ∀ J : pm_J, pm_Cl l g (fun _ => none) d mc ms (pm_Rq mc ms Q) bk_X11_about J → J 0 (pm_l0 2 as) [] A 0 0) : pm_Mt l g 205 d mc ms as A Q := pm_Mt_of (isI := false) 11 bk_X11_about me_X11_about (plainFor_of_name (by decide +kernel)) (by decide +kernel) (fun h => by cases h) ok_X11_about hca body
def bk_X11_setOf : pm_B := [(0, [(.iconst 0, 1, 0, 0, 0), (.istore_n 3, 1, 3, 0, 0), (.iload_n 1, 1, 1, 0, 0), (.istore 4, 2, 4, 0, 0)], 5),
  (5, [(.iload 4, 2, 4, 0, 0), (.iload_n 2, 1, 2, 0, 0), (.if_icmp .gt 21, 3, 29, 0, 0), (.iload_n 3, 1, 3, 0, 0), (.iconst 1, 1, 0, 0, 1), (.aload_n 0, 1, 0, 0, 0), (.getfield 7, 3, 11, 0, 0), (.iload 4, 2, 4, 0, 0), (.iaload, 1, 0, 0, 0), (.ishl, 1, 0, 0, 0), (.ior, 1, 0, 0, 0), (.istore_n 3, 1, 3, 0, 0), (.iinc 4 1, 3, 4, 0, 1), (.goto (-21), 3, 5, 0, 0)], 29),
  (29, [(.iload_n 3, 1, 3, 0, 0), (.ireturn, 1, 0, 0, 0)], 31)]
set_option maxRecDepth 100000 in
theorem ok_X11_setOf : pm_oks 11 false 5 (some .int) cX11_setOf bk_X11_setOf = true := by decide +kernel
set_option maxRecDepth 100000 in
theorem me_X11_setOf : pm_me 206 = (yX11_setOf, cX11_setOf, 5, (some .int), 2, 0) := rfl
theorem mt_X11_setOf {l : Launch} {g : pm_G} {d mc ms : Nat} {as : List Value} {A : pm_H} {Q : Option Value → pm_H → Prop} (hca : pm_cat 5 as = true) (body : ∀ J : pm_J, pm_Cl l g (fun _ => none) d mc ms (pm_Rq mc ms Q) bk_X11_setOf J → J 0 (pm_l0 5 as) [] A 0 0) : pm_Mt l g 206 d mc ms as A Q := pm_Mt_of (isI := false) 11 bk_X11_setOf me_X11_setOf (plainFor_of_name (by decide +kernel)) (by decide +kernel) (fun h => by cases h) ok_X11_setOf hca body
def bk_X11_bits : pm_B := [(0, [(.iconst 0, 1, 0, 0, 0), (.istore_n 1, 1, 1, 0, 0), (.iload_n 0, 1, 0, 0, 0), (.istore_n 2, 1, 2, 0, 0)], 4),
  (4, [(.iload_n 2, 1, 2, 0, 0), (.ifCond .eq 15, 3, 20, 0, 0), (.iinc 1 1, 3, 1, 0, 1), (.iload_n 2, 1, 2, 0, 0), (.iload_n 2, 1, 2, 0, 0), (.iconst 1, 1, 0, 0, 1), (.isub, 1, 0, 0, 0), (.iand, 1, 0, 0, 0), (.istore_n 2, 1, 2, 0, 0), (.goto (-13), 3, 4, 0, 0)], 20),
  (20, [(.iload_n 1, 1, 1, 0, 0), (.ireturn, 1, 0, 0, 0)], 22)]
set_option maxRecDepth 100000 in
theorem ok_X11_bits : pm_oks 11 false 3 (some .int) cX11_bits bk_X11_bits = true := by decide +kernel
set_option maxRecDepth 100000 in
theorem me_X11_bits : pm_me 207 = (yX11_bits, cX11_bits, 3, (some .int), 1, 1) := rfl
theorem mt_X11_bits {l : Launch} {g : pm_G} {d mc ms : Nat} {as : List Value} {A : pm_H} {Q : Option Value → pm_H → Prop} (hca : pm_cat 3 as = true) (body : ∀ J : pm_J, pm_Cl l g (fun _ => none) d mc ms (pm_Rq mc ms Q) bk_X11_bits J → J 0 (pm_l0 3 as) [] A 0 0) : pm_Mt l g 207 d mc ms as A Q := pm_Mt_of (isI := false) 11 bk_X11_bits me_X11_bits (plainFor_of_name (by decide +kernel)) (by decide +kernel) (fun h => by cases h) ok_X11_bits hca body
def bk_X11_count : pm_B := [(0, [(.aload_n 0, 1, 0, 0, 0), (.iload_n 1, 1, 1, 0, 0), (.iload_n 2, 1, 2, 0, 0), (.invokevirtual 129, 3, 180, 2, 11), (.ifCond .eq 12, 3, 18, 0, 0), (.aload_n 0, 1, 0, 0, 0), (.iload_n 1, 1, 1, 0, 0), (.iload_n 2, 1, 2, 0, 0), (.invokevirtual 171, 3, 209, 2, 11), (.goto 4, 3, 19, 0, 0)], 18),
  (18, [(.iconst (-1), 1, 0, 0, -1)], 19),
  (19, [(.ireturn, 1, 0, 0, 0)], 20)]
set_option maxRecDepth 100000 in
theorem ok_X11_count : pm_oks 11 false 3 (some .int) cX11_count bk_X11_count = true := by decide +kernel
set_option maxRecDepth 100000 in
theorem me_X11_count : pm_me 208 = (yX11_count, cX11_count, 3, (some .int), 2, 0) := rfl
theorem mt_X11_count {l : Launch} {g : pm_G} {d mc ms : Nat} {as : List Value} {A : pm_H} {Q : Option Value → pm_H → Prop} (hca : pm_cat 3 as = true) (body : ∀ J : pm_J, pm_Cl l g (fun _ => none) d mc ms (pm_Rq mc ms Q) bk_X11_count J → J 0 (pm_l0 3 as) [] A 0 0) : pm_Mt l g 208 d mc ms as A Q := pm_Mt_of (isI := false) 11 bk_X11_count me_X11_count (plainFor_of_name (by decide +kernel)) (by decide +kernel) (fun h => by cases h) ok_X11_count hca body
def bk_X11_countOf : pm_B := [(0, [(.aload_n 0, 1, 0, 0, 0), (.iload_n 1, 1, 1, 0, 0), (.iload_n 2, 1, 2, 0, 0), (.invokevirtual 161, 3, 206, 2, 11), (.invokestatic 165, 3, 207, 1, 0), (.ireturn, 1, 0, 0, 0)], 10)]
set_option maxRecDepth 100000 in
theorem ok_X11_countOf : pm_oks 11 false 3 (some .int) cX11_countOf bk_X11_countOf = true := by decide +kernel
set_option maxRecDepth 100000 in
theorem me_X11_countOf : pm_me 209 = (yX11_countOf, cX11_countOf, 3, (some .int), 2, 0) := rfl
theorem mt_X11_countOf {l : Launch} {g : pm_G} {d mc ms : Nat} {as : List Value} {A : pm_H} {Q : Option Value → pm_H → Prop} (hca : pm_cat 3 as = true) (body : ∀ J : pm_J, pm_Cl l g (fun _ => none) d mc ms (pm_Rq mc ms Q) bk_X11_countOf J → J 0 (pm_l0 3 as) [] A 0 0) : pm_Mt l g 209 d mc ms as A Q := pm_Mt_of (isI := false) 11 bk_X11_countOf me_X11_countOf (plainFor_of_name (by decide +kernel)) (by decide +kernel) (fun h => by cases h) ok_X11_countOf hca body
def bk_X11_weight : pm_B := [(0, [(.aload_n 0, 1, 0, 0, 0), (.iload_n 1, 1, 1, 0, 0), (.iload_n 2, 1, 2, 0, 0), (.invokevirtual 129, 3, 180, 2, 11), (.ifCond .eq 16, 3, 22, 0, 0), (.aload_n 0, 1, 0, 0, 0), (.aload_n 0, 1, 0, 0, 0), (.iload_n 1, 1, 1, 0, 0), (.iload_n 2, 1, 2, 0, 0), (.invokevirtual 161, 3, 206, 2, 11), (.invokevirtual 174, 3, 211, 1, 11), (.goto 4, 3, 23, 0, 0)], 22),
  (22, [(.iconst (-1), 1, 0, 0, -1)], 23),
  (23, [(.ireturn, 1, 0, 0, 0)], 24)]
set_option maxRecDepth 100000 in
theorem ok_X11_weight : pm_oks 11 false 3 (some .int) cX11_weight bk_X11_weight = true := by decide +kernel
set_option maxRecDepth 100000 in
theorem me_X11_weight : pm_me 210 = (yX11_weight, cX11_weight, 3, (some .int), 2, 0) := rfl
theorem mt_X11_weight {l : Launch} {g : pm_G} {d mc ms : Nat} {as : List Value} {A : pm_H} {Q : Option Value → pm_H → Prop} (hca : pm_cat 3 as = true) (body : ∀ J : pm_J, pm_Cl l g (fun _ => none) d mc ms (pm_Rq mc ms Q) bk_X11_weight J → J 0 (pm_l0 3 as) [] A 0 0) : pm_Mt l g 210 d mc ms as A Q := pm_Mt_of (isI := false) 11 bk_X11_weight me_X11_weight (plainFor_of_name (by decide +kernel)) (by decide +kernel) (fun h => by cases h) ok_X11_weight hca body
def bk_X11_weightOf : pm_B := [(0, [(.iconst 0, 1, 0, 0, 0), (.istore_n 2, 1, 2, 0, 0), (.iconst 0, 1, 0, 0, 0), (.istore_n 3, 1, 3, 0, 0)], 4),
  (4, [(.iload_n 3, 1, 3, 0, 0), (.bipush 24, 2, 0, 0, 24), (.if_icmp .ge 31, 3, 38, 0, 0), (.iload_n 2, 1, 2, 0, 0), (.iload_n 1, 1, 1, 0, 0), (.iload_n 3, 1, 3, 0, 0), (.ishr, 1, 0, 0, 0), (.iconst 1, 1, 0, 0, 1), (.iand, 1, 0, 0, 0), (.iconst 1, 1, 0, 0, 1), (.if_icmp .ne 12, 3, 29, 0, 0), (.aload_n 0, 1, 0, 0, 0), (.getfield 16, 3, 11, 2, 0), (.iload_n 3, 1, 3, 0, 0), (.iaload, 1, 0, 0, 0), (.goto 4, 3, 30, 0, 0)], 29),
  (29, [(.iconst 0, 1, 0, 0, 0)], 30),
  (30, [(.iadd, 1, 0, 0, 0), (.istore_n 2, 1, 2, 0, 0), (.iinc 3 1, 3, 3, 0, 1), (.goto (-31), 3, 4, 0, 0)], 38),
  (38, [(.iload_n 2, 1, 2, 0, 0), (.ireturn, 1, 0, 0, 0)], 40)]
set_option maxRecDepth 100000 in
theorem ok_X11_weightOf : pm_oks 11 false 4 (some .int) cX11_weightOf bk_X11_weightOf = true := by decide +kernel
set_option maxRecDepth 100000 in
theorem me_X11_weightOf : pm_me 211 = (yX11_weightOf, cX11_weightOf, 4, (some .int), 1, 0) := rfl
theorem mt_X11_weightOf {l : Launch} {g : pm_G} {d mc ms : Nat} {as : List Value} {A : pm_H} {Q : Option Value → pm_H → Prop} (hca : pm_cat 4 as = true) (body : ∀ J : pm_J, pm_Cl l g (fun _ => none) d mc ms (pm_Rq mc ms Q) bk_X11_weightOf J → J 0 (pm_l0 4 as) [] A 0 0) : pm_Mt l g 211 d mc ms as A Q := pm_Mt_of (isI := false) 11 bk_X11_weightOf me_X11_weightOf (plainFor_of_name (by decide +kernel)) (by decide +kernel) (fun h => by cases h) ok_X11_weightOf hca body
def bk_X11_set : pm_B := [(0, [(.aload_n 0, 1, 0, 0, 0), (.iload_n 1, 1, 1, 0, 0), (.iload_n 2, 1, 2, 0, 0), (.invokevirtual 129, 3, 180, 2, 11), (.ifCond .eq 12, 3, 18, 0, 0), (.aload_n 0, 1, 0, 0, 0), (.iload_n 1, 1, 1, 0, 0), (.iload_n 2, 1, 2, 0, 0), (.invokevirtual 161, 3, 206, 2, 11), (.goto 4, 3, 19, 0, 0)], 18),
  (18, [(.iconst (-1), 1, 0, 0, -1)], 19),
  (19, [(.ireturn, 1, 0, 0, 0)], 20)]
set_option maxRecDepth 100000 in
theorem ok_X11_set : pm_oks 11 false 3 (some .int) cX11_set bk_X11_set = true := by decide +kernel
set_option maxRecDepth 100000 in
theorem me_X11_set : pm_me 212 = (yX11_set, cX11_set, 3, (some .int), 2, 0) := rfl
theorem mt_X11_set {l : Launch} {g : pm_G} {d mc ms : Nat} {as : List Value} {A : pm_H} {Q : Option Value → pm_H → Prop} (hca : pm_cat 3 as = true) (body : ∀ J : pm_J, pm_Cl l g (fun _ => none) d mc ms (pm_Rq mc ms Q) bk_X11_set J → J 0 (pm_l0 3 as) [] A 0 0) : pm_Mt l g 212 d mc ms as A Q := pm_Mt_of (isI := false) 11 bk_X11_set me_X11_set (plainFor_of_name (by decide +kernel)) (by decide +kernel) (fun h => by cases h) ok_X11_set hca body
def bk_X11_times : pm_B := [(0, [(.aload_n 0, 1, 0, 0, 0), (.iload_n 1, 1, 1, 0, 0), (.iload_n 2, 1, 2, 0, 0), (.invokevirtual 129, 3, 180, 2, 11), (.ifCond .eq 20, 3, 26, 0, 0), (.iload_n 3, 1, 3, 0, 0), (.invokestatic 122, 3, 170, 1, 0), (.ifCond .eq 13, 3, 26, 0, 0), (.aload_n 0, 1, 0, 0, 0), (.iload_n 1, 1, 1, 0, 0), (.iload_n 2, 1, 2, 0, 0), (.iload_n 3, 1, 3, 0, 0), (.invokevirtual 148, 3, 200, 3, 11), (.goto 4, 3, 27, 0, 0)], 26),
  (26, [(.iconst (-1), 1, 0, 0, -1)], 27),
  (27, [(.ireturn, 1, 0, 0, 0)], 28)]
set_option maxRecDepth 100000 in
theorem ok_X11_times : pm_oks 11 false 4 (some .int) cX11_times bk_X11_times = true := by decide +kernel
set_option maxRecDepth 100000 in
theorem me_X11_times : pm_me 213 = (yX11_times, cX11_times, 4, (some .int), 3, 0) := rfl
theorem mt_X11_times {l : Launch} {g : pm_G} {d mc ms : Nat} {as : List Value} {A : pm_H} {Q : Option Value → pm_H → Prop} (hca : pm_cat 4 as = true) (body : ∀ J : pm_J, pm_Cl l g (fun _ => none) d mc ms (pm_Rq mc ms Q) bk_X11_times J → J 0 (pm_l0 4 as) [] A 0 0) : pm_Mt l g 213 d mc ms as A Q := pm_Mt_of (isI := false) 11 bk_X11_times me_X11_times (plainFor_of_name (by decide +kernel)) (by decide +kernel) (fun h => by cases h) ok_X11_times hca body
def bk_X11_often : pm_B := [(0, [(.aload_n 0, 1, 0, 0, 0), (.iload_n 1, 1, 1, 0, 0), (.iload_n 2, 1, 2, 0, 0), (.invokevirtual 129, 3, 180, 2, 11), (.ifCond .eq 8, 3, 14, 0, 0), (.iload_n 3, 1, 3, 0, 0), (.iconst 1, 1, 0, 0, 1), (.if_icmp .ge 5, 3, 16, 0, 0)], 14),
  (14, [(.iconst (-1), 1, 0, 0, -1), (.ireturn, 1, 0, 0, 0)], 16),
  (16, [(.iconst 0, 1, 0, 0, 0), (.istore 4, 2, 4, 0, 0), (.iconst 0, 1, 0, 0, 0), (.istore 5, 2, 5, 0, 0)], 22),
  (22, [(.iload 5, 2, 5, 0, 0), (.bipush 24, 2, 0, 0, 24), (.if_icmp .ge 31, 3, 57, 0, 0), (.iload 4, 2, 4, 0, 0), (.aload_n 0, 1, 0, 0, 0), (.iload_n 1, 1, 1, 0, 0), (.iload_n 2, 1, 2, 0, 0), (.iload 5, 2, 5, 0, 0), (.invokevirtual 148, 3, 200, 3, 11), (.iload_n 3, 1, 3, 0, 0), (.if_icmp .lt 7, 3, 47, 0, 0), (.iconst 1, 1, 0, 0, 1), (.goto 4, 3, 48, 0, 0)], 47),
  (47, [(.iconst 0, 1, 0, 0, 0)], 48),
  (48, [(.iadd, 1, 0, 0, 0), (.istore 4, 2, 4, 0, 0), (.iinc 5 1, 3, 5, 0, 1), (.goto (-32), 3, 22, 0, 0)], 57),
  (57, [(.iload 4, 2, 4, 0, 0), (.ireturn, 1, 0, 0, 0)], 60)]
set_option maxRecDepth 100000 in
theorem ok_X11_often : pm_oks 11 false 6 (some .int) cX11_often bk_X11_often = true := by decide +kernel
set_option maxRecDepth 100000 in
theorem me_X11_often : pm_me 214 = (yX11_often, cX11_often, 6, (some .int), 3, 0) := rfl
theorem mt_X11_often {l : Launch} {g : pm_G} {d mc ms : Nat} {as : List Value} {A : pm_H} {Q : Option Value → pm_H → Prop} (hca : pm_cat 6 as = true) (body : ∀ J : pm_J, pm_Cl l g (fun _ => none) d mc ms (pm_Rq mc ms Q) bk_X11_often J → J 0 (pm_l0 6 as) [] A 0 0) : pm_Mt l g 214 d mc ms as A Q := pm_Mt_of (isI := false) 11 bk_X11_often me_X11_often (plainFor_of_name (by decide +kernel)) (by decide +kernel) (fun h => by cases h) ok_X11_often hca body
def bk_X11_tally : pm_B := [(0, [(.aload_n 0, 1, 0, 0, 0), (.iload_n 1, 1, 1, 0, 0), (.iload_n 2, 1, 2, 0, 0), (.invokevirtual 129, 3, 180, 2, 11), (.ifCond .eq 8, 3, 14, 0, 0), (.iload_n 3, 1, 3, 0, 0), (.iconst 1, 1, 0, 0, 1), (.if_icmp .ge 5, 3, 16, 0, 0)], 14),
  (14, [(.iconst (-1), 1, 0, 0, -1), (.ireturn, 1, 0, 0, 0)], 16),
  (16, [(.iconst 0, 1, 0, 0, 0), (.istore 4, 2, 4, 0, 0), (.iconst 0, 1, 0, 0, 0), (.istore 5, 2, 5, 0, 0)], 22),
  (22, [(.iload 5, 2, 5, 0, 0), (.bipush 24, 2, 0, 0, 24), (.if_icmp .ge 31, 3, 57, 0, 0), (.iload 4, 2, 4, 0, 0), (.aload_n 0, 1, 0, 0, 0), (.iload_n 1, 1, 1, 0, 0), (.iload_n 2, 1, 2, 0, 0), (.iload 5, 2, 5, 0, 0), (.invokevirtual 148, 3, 200, 3, 11), (.iload_n 3, 1, 3, 0, 0), (.if_icmp .ne 7, 3, 47, 0, 0), (.iconst 1, 1, 0, 0, 1), (.goto 4, 3, 48, 0, 0)], 47),
  (47, [(.iconst 0, 1, 0, 0, 0)], 48),
  (48, [(.iadd, 1, 0, 0, 0), (.istore 4, 2, 4, 0, 0), (.iinc 5 1, 3, 5, 0, 1), (.goto (-32), 3, 22, 0, 0)], 57),
  (57, [(.iload 4, 2, 4, 0, 0), (.ireturn, 1, 0, 0, 0)], 60)]
set_option maxRecDepth 100000 in
theorem ok_X11_tally : pm_oks 11 false 6 (some .int) cX11_tally bk_X11_tally = true := by decide +kernel
set_option maxRecDepth 100000 in
theorem me_X11_tally : pm_me 215 = (yX11_tally, cX11_tally, 6, (some .int), 3, 0) := rfl
theorem mt_X11_tally {l : Launch} {g : pm_G} {d mc ms : Nat} {as : List Value} {A : pm_H} {Q : Option Value → pm_H → Prop} (hca : pm_cat 6 as = true) (body : ∀ J : pm_J, pm_Cl l g (fun _ => none) d mc ms (pm_Rq mc ms Q) bk_X11_tally J → J 0 (pm_l0 6 as) [] A 0 0) : pm_Mt l g 215 d mc ms as A Q := pm_Mt_of (isI := false) 11 bk_X11_tally me_X11_tally (plainFor_of_name (by decide +kernel)) (by decide +kernel) (fun h => by cases h) ok_X11_tally hca body
def bk_X11_major : pm_B := [(0, [(.aload_n 0, 1, 0, 0, 0), (.iload_n 1, 1, 1, 0, 0), (.iload_n 2, 1, 2, 0, 0), (.invokevirtual 129, 3, 180, 2, 11), (.ifCond .ne 5, 3, 11, 0, 0), (.iconst (-1), 1, 0, 0, -1), (.ireturn, 1, 0, 0, 0)], 11),
  (11, [(.iconst 0, 1, 0, 0, 0), (.istore_n 3, 1, 3, 0, 0)], 13),
  (13, [(.iload_n 3, 1, 3, 0, 0), (.bipush 24, 2, 0, 0, 24), (.if_icmp .ge 28, 3, 44, 0, 0), (.iconst 2, 1, 0, 0, 2), (.aload_n 0, 1, 0, 0, 0), (.iload_n 1, 1, 1, 0, 0), (.iload_n 2, 1, 2, 0, 0), (.iload_n 3, 1, 3, 0, 0), (.invokevirtual 148, 3, 200, 3, 11), (.imul, 1, 0, 0, 0), (.iload_n 2, 1, 2, 0, 0), (.iload_n 1, 1, 1, 0, 0), (.isub, 1, 0, 0, 0), (.iconst 1, 1, 0, 0, 1), (.iadd, 1, 0, 0, 0), (.if_icmp .le 5, 3, 38, 0, 0), (.iload_n 3, 1, 3, 0, 0), (.ireturn, 1, 0, 0, 0)], 38),
  (38, [(.iinc 3 1, 3, 3, 0, 1), (.goto (-28), 3, 13, 0, 0)], 44),
  (44, [(.iconst (-1), 1, 0, 0, -1), (.ireturn, 1, 0, 0, 0)], 46)]
set_option maxRecDepth 100000 in
theorem ok_X11_major : pm_oks 11 false 4 (some .int) cX11_major bk_X11_major = true := by decide +kernel
set_option maxRecDepth 100000 in
theorem me_X11_major : pm_me 216 = (yX11_major, cX11_major, 4, (some .int), 2, 0) := rfl
theorem mt_X11_major {l : Launch} {g : pm_G} {d mc ms : Nat} {as : List Value} {A : pm_H} {Q : Option Value → pm_H → Prop} (hca : pm_cat 4 as = true) (body : ∀ J : pm_J, pm_Cl l g (fun _ => none) d mc ms (pm_Rq mc ms Q) bk_X11_major J → J 0 (pm_l0 4 as) [] A 0 0) : pm_Mt l g 216 d mc ms as A Q := pm_Mt_of (isI := false) 11 bk_X11_major me_X11_major (plainFor_of_name (by decide +kernel)) (by decide +kernel) (fun h => by cases h) ok_X11_major hca body
def bk_X11_report : pm_B := [(0, [(.aload_n 0, 1, 0, 0, 0), (.iload_n 1, 1, 1, 0, 0), (.iload_n 2, 1, 2, 0, 0), (.invokevirtual 129, 3, 180, 2, 11), (.ifCond .eq 23, 3, 29, 0, 0), (.iload_n 3, 1, 3, 0, 0), (.iconst 0, 1, 0, 0, 0), (.bipush 24, 2, 0, 0, 24), (.invokestatic 74, 3, 169, 3, 0), (.ifCond .eq 13, 3, 29, 0, 0), (.iload 4, 2, 4, 0, 0), (.iconst 0, 1, 0, 0, 0), (.iconst 2, 1, 0, 0, 2), (.invokestatic 74, 3, 169, 3, 0), (.ifCond .ne 5, 3, 31, 0, 0)], 29),
  (29, [(.iconst (-1), 1, 0, 0, -1), (.ireturn, 1, 0, 0, 0)], 31),
  (31, [(.aload_n 0, 1, 0, 0, 0), (.iload_n 1, 1, 1, 0, 0), (.iload_n 2, 1, 2, 0, 0), (.iload_n 3, 1, 3, 0, 0), (.invokevirtual 181, 3, 218, 3, 11), (.istore 5, 2, 5, 0, 0), (.iload 5, 2, 5, 0, 0), (.ifCond .ge 5, 3, 47, 0, 0), (.iconst (-1), 1, 0, 0, -1), (.ireturn, 1, 0, 0, 0)], 47),
  (47, [(.iload 4, 2, 4, 0, 0), (.ifCond .ne 8, 3, 57, 0, 0), (.iload 5, 2, 5, 0, 0), (.goto 25, 3, 79, 0, 0)], 57),
  (57, [(.iload 4, 2, 4, 0, 0), (.iconst 1, 1, 0, 0, 1), (.if_icmp .ne 13, 3, 73, 0, 0), (.aload_n 0, 1, 0, 0, 0), (.getfield 7, 3, 11, 0, 0), (.iload 5, 2, 5, 0, 0), (.iaload, 1, 0, 0, 0), (.goto 9, 3, 79, 0, 0)], 73),
  (73, [(.aload_n 0, 1, 0, 0, 0), (.iload 5, 2, 5, 0, 0), (.invokevirtual 85, 3, 173, 1, 11)], 79),
  (79, [(.ireturn, 1, 0, 0, 0)], 80)]
set_option maxRecDepth 100000 in
theorem ok_X11_report : pm_oks 11 false 6 (some .int) cX11_report bk_X11_report = true := by decide +kernel
set_option maxRecDepth 100000 in
theorem me_X11_report : pm_me 217 = (yX11_report, cX11_report, 6, (some .int), 4, 0) := rfl
theorem mt_X11_report {l : Launch} {g : pm_G} {d mc ms : Nat} {as : List Value} {A : pm_H} {Q : Option Value → pm_H → Prop} (hca : pm_cat 6 as = true) (body : ∀ J : pm_J, pm_Cl l g (fun _ => none) d mc ms (pm_Rq mc ms Q) bk_X11_report J → J 0 (pm_l0 6 as) [] A 0 0) : pm_Mt l g 217 d mc ms as A Q := pm_Mt_of (isI := false) 11 bk_X11_report me_X11_report (plainFor_of_name (by decide +kernel)) (by decide +kernel) (fun h => by cases h) ok_X11_report hca body
def bk_X11_reported : pm_B := [(0, [(.ldc 177, 2, 0, 0, -268435456), (.istore 4, 2, 4, 0, 0), (.iconst (-1), 1, 0, 0, -1), (.istore 5, 2, 5, 0, 0), (.iconst 0, 1, 0, 0, 0), (.istore 6, 2, 6, 0, 0)], 10),
  (10, [(.iload 6, 2, 6, 0, 0), (.iload_n 3, 1, 3, 0, 0), (.if_icmp .gt 91, 3, 104, 0, 0), (.iconst (-1), 1, 0, 0, -1), (.istore 7, 2, 7, 0, 0), (.iload_n 1, 1, 1, 0, 0), (.istore 8, 2, 8, 0, 0)], 22),
  (22, [(.iload 8, 2, 8, 0, 0), (.iload_n 2, 1, 2, 0, 0), (.if_icmp .gt 54, 3, 79, 0, 0), (.aload_n 0, 1, 0, 0, 0), (.iload 8, 2, 8, 0, 0), (.invokevirtual 78, 3, 174, 1, 11), (.iload_n 1, 1, 1, 0, 0), (.if_icmp .ge 38, 3, 73, 0, 0), (.aload_n 0, 1, 0, 0, 0), (.iload 8, 2, 8, 0, 0), (.invokevirtual 178, 3, 219, 1, 11), (.iload 4, 2, 4, 0, 0), (.if_icmp .le 27, 3, 73, 0, 0), (.iload 7, 2, 7, 0, 0), (.ifCond .lt 18, 3, 69, 0, 0), (.aload_n 0, 1, 0, 0, 0), (.iload 8, 2, 8, 0, 0), (.invokevirtual 178, 3, 219, 1, 11), (.aload_n 0, 1, 0, 0, 0), (.iload 7, 2, 7, 0, 0), (.invokevirtual 178, 3, 219, 1, 11), (.if_icmp .ge 7, 3, 73, 0, 0)], 69),
  (69, [(.iload 8, 2, 8, 0, 0), (.istore 7, 2, 7, 0, 0)], 73),
  (73, [(.iinc 8 1, 3, 8, 0, 1), (.goto (-54), 3, 22, 0, 0)], 79),
  (79, [(.iload 7, 2, 7, 0, 0), (.ifCond .ge 5, 3, 86, 0, 0), (.iconst (-1), 1, 0, 0, -1), (.ireturn, 1, 0, 0, 0)], 86),
  (86, [(.aload_n 0, 1, 0, 0, 0), (.iload 7, 2, 7, 0, 0), (.invokevirtual 178, 3, 219, 1, 11), (.istore 4, 2, 4, 0, 0), (.iload 7, 2, 7, 0, 0), (.istore 5, 2, 5, 0, 0), (.iinc 6 1, 3, 6, 0, 1), (.goto (-91), 3, 10, 0, 0)], 104),
  (104, [(.iload 5, 2, 5, 0, 0), (.ireturn, 1, 0, 0, 0)], 107)]
set_option maxRecDepth 100000 in
theorem ok_X11_reported : pm_oks 11 false 9 (some .int) cX11_reported bk_X11_reported = true := by decide +kernel
set_option maxRecDepth 100000 in
theorem me_X11_reported : pm_me 218 = (yX11_reported, cX11_reported, 9, (some .int), 3, 0) := rfl
theorem mt_X11_reported {l : Launch} {g : pm_G} {d mc ms : Nat} {as : List Value} {A : pm_H} {Q : Option Value → pm_H → Prop} (hca : pm_cat 9 as = true) (body : ∀ J : pm_J, pm_Cl l g (fun _ => none) d mc ms (pm_Rq mc ms Q) bk_X11_reported J → J 0 (pm_l0 9 as) [] A 0 0) : pm_Mt l g 218 d mc ms as A Q := pm_Mt_of (isI := false) 11 bk_X11_reported me_X11_reported (plainFor_of_name (by decide +kernel)) (by decide +kernel) (fun h => by cases h) ok_X11_reported hca body
def bk_X11_reportKey : pm_B := [(0, [(.aload_n 0, 1, 0, 0, 0), (.iload_n 1, 1, 1, 0, 0), (.invokevirtual 78, 3, 174, 1, 11), (.ifCond .ge 11, 3, 16, 0, 0), (.iload_n 1, 1, 1, 0, 0), (.sipush 160, 3, 0, 0, 160), (.isub, 1, 0, 0, 0), (.goto 8, 3, 21, 0, 0)], 16),
  (16, [(.aload_n 0, 1, 0, 0, 0), (.iload_n 1, 1, 1, 0, 0), (.invokevirtual 78, 3, 174, 1, 11)], 21),
  (21, [(.ireturn, 1, 0, 0, 0)], 22)]
set_option maxRecDepth 100000 in
theorem ok_X11_reportKey : pm_oks 11 false 2 (some .int) cX11_reportKey bk_X11_reportKey = true := by decide +kernel
set_option maxRecDepth 100000 in
theorem me_X11_reportKey : pm_me 219 = (yX11_reportKey, cX11_reportKey, 2, (some .int), 1, 0) := rfl
theorem mt_X11_reportKey {l : Launch} {g : pm_G} {d mc ms : Nat} {as : List Value} {A : pm_H} {Q : Option Value → pm_H → Prop} (hca : pm_cat 2 as = true) (body : ∀ J : pm_J, pm_Cl l g (fun _ => none) d mc ms (pm_Rq mc ms Q) bk_X11_reportKey J → J 0 (pm_l0 2 as) [] A 0 0) : pm_Mt l g 219 d mc ms as A Q := pm_Mt_of (isI := false) 11 bk_X11_reportKey me_X11_reportKey (plainFor_of_name (by decide +kernel)) (by decide +kernel) (fun h => by cases h) ok_X11_reportKey hca body
def bk_X11_kth : pm_B := [(0, [(.aload_n 0, 1, 0, 0, 0), (.iload_n 1, 1, 1, 0, 0), (.iload_n 2, 1, 2, 0, 0), (.invokevirtual 129, 3, 180, 2, 11), (.ifCond .eq 13, 3, 19, 0, 0), (.iload 4, 2, 4, 0, 0), (.iconst 0, 1, 0, 0, 0), (.iconst 4, 1, 0, 0, 4), (.invokestatic 74, 3, 169, 3, 0), (.ifCond .ne 5, 3, 21, 0, 0)], 19),
  (19, [(.iconst (-1), 1, 0, 0, -1), (.ireturn, 1, 0, 0, 0)], 21),
  (21, [(.aload_n 0, 1, 0, 0, 0), (.iload_n 1, 1, 1, 0, 0), (.iload_n 2, 1, 2, 0, 0), (.iload 4, 2, 4, 0, 0), (.invokevirtual 188, 3, 221, 3, 11), (.istore 5, 2, 5, 0, 0), (.iload_n 3, 1, 3, 0, 0), (.iconst 0, 1, 0, 0, 0), (.iload 5, 2, 5, 0, 0), (.iconst 1, 1, 0, 0, 1), (.isub, 1, 0, 0, 0), (.invokestatic 74, 3, 169, 3, 0), (.ifCond .eq 12, 3, 52, 0, 0), (.aload_n 0, 1, 0, 0, 0), (.getfield 58, 3, 11, 23, 0), (.iload_n 3, 1, 3, 0, 0), (.iaload, 1, 0, 0, 0), (.goto 4, 3, 53, 0, 0)], 52),
  (52, [(.iconst (-1), 1, 0, 0, -1)], 53),
  (53, [(.ireturn, 1, 0, 0, 0)], 54)]
set_option maxRecDepth 100000 in
theorem ok_X11_kth : pm_oks 11 false 6 (some .int) cX11_kth bk_X11_kth = true := by decide +kernel
set_option maxRecDepth 100000 in
theorem me_X11_kth : pm_me 220 = (yX11_kth, cX11_kth, 6, (some .int), 4, 0) := rfl
theorem mt_X11_kth {l : Launch} {g : pm_G} {d mc ms : Nat} {as : List Value} {A : pm_H} {Q : Option Value → pm_H → Prop} (hca : pm_cat 6 as = true) (body : ∀ J : pm_J, pm_Cl l g (fun _ => none) d mc ms (pm_Rq mc ms Q) bk_X11_kth J → J 0 (pm_l0 6 as) [] A 0 0) : pm_Mt l g 220 d mc ms as A Q := pm_Mt_of (isI := false) 11 bk_X11_kth me_X11_kth (plainFor_of_name (by decide +kernel)) (by decide +kernel) (fun h => by cases h) ok_X11_kth hca body
end
section
/-! blocks, by a program -/
def bk_X11_laysOrder : pm_B := [(0, [(.iconst 0, 1, 0, 0, 0), (.istore 4, 2, 4, 0, 0), (.iconst 0, 1, 0, 0, 0), (.istore 5, 2, 5, 0, 0), (.iconst 0, 1, 0, 0, 0), (.istore 6, 2, 6, 0, 0)], 9),
  (9, [(.iload 6, 2, 6, 0, 0), (.iload_n 2, 1, 2, 0, 0), (.iload_n 1, 1, 1, 0, 0), (.isub, 1, 0, 0, 0), (.if_icmp .gt 71, 3, 85, 0, 0), (.iload_n 3, 1, 3, 0, 0), (.iconst 2, 1, 0, 0, 2), (.if_icmp .ge 66, 3, 85, 0, 0), (.aload_n 0, 1, 0, 0, 0), (.getfield 7, 3, 11, 0, 0), (.iload_n 3, 1, 3, 0, 0), (.ifCond .ne 10, 3, 37, 0, 0), (.iload_n 1, 1, 1, 0, 0), (.iload 6, 2, 6, 0, 0), (.iadd, 1, 0, 0, 0), (.goto 7, 3, 41, 0, 0)], 37),
  (37, [(.iload_n 2, 1, 2, 0, 0), (.iload 6, 2, 6, 0, 0), (.isub, 1, 0, 0, 0)], 41),
  (41, [(.iaload, 1, 0, 0, 0), (.istore 7, 2, 7, 0, 0), (.iload 5, 2, 5, 0, 0), (.iload 7, 2, 7, 0, 0), (.ishr, 1, 0, 0, 0), (.iconst 1, 1, 0, 0, 1), (.iand, 1, 0, 0, 0), (.iconst 1, 1, 0, 0, 1), (.if_icmp .ne 6, 3, 58, 0, 0), (.goto 24, 3, 79, 0, 0)], 58),
  (58, [(.iload 5, 2, 5, 0, 0), (.iconst 1, 1, 0, 0, 1), (.iload 7, 2, 7, 0, 0), (.ishl, 1, 0, 0, 0), (.ior, 1, 0, 0, 0), (.istore 5, 2, 5, 0, 0), (.aload_n 0, 1, 0, 0, 0), (.getfield 58, 3, 11, 23, 0), (.iload 4, 2, 4, 0, 0), (.iload 7, 2, 7, 0, 0), (.iastore, 1, 0, 0, 0), (.iinc 4 1, 3, 4, 0, 1)], 79),
  (79, [(.iinc 6 1, 3, 6, 0, 1), (.goto (-73), 3, 9, 0, 0)], 85),
  (85, [(.iload_n 3, 1, 3, 0, 0), (.iconst 2, 1, 0, 0, 2), (.if_icmp .ge 6, 3, 93, 0, 0), (.iload 4, 2, 4, 0, 0), (.ireturn, 1, 0, 0, 0)], 93),
  (93, [(.aload_n 0, 1, 0, 0, 0), (.iload_n 1, 1, 1, 0, 0), (.iload_n 2, 1, 2, 0, 0), (.invokevirtual 161, 3, 206, 2, 11), (.istore 6, 2, 6, 0, 0), (.iconst 0, 1, 0, 0, 0), (.istore 7, 2, 7, 0, 0)], 104),
  (104, [(.iload 7, 2, 7, 0, 0), (.bipush 24, 2, 0, 0, 24), (.if_icmp .ge 86, 3, 194, 0, 0), (.iload 6, 2, 6, 0, 0), (.iload 7, 2, 7, 0, 0), (.ishr, 1, 0, 0, 0), (.iconst 1, 1, 0, 0, 1), (.iand, 1, 0, 0, 0), (.ifCond .ne 6, 3, 124, 0, 0), (.goto 67, 3, 188, 0, 0)], 124),
  (124, [(.iload 4, 2, 4, 0, 0), (.istore 8, 2, 8, 0, 0)], 128),
  (128, [(.iload 8, 2, 8, 0, 0), (.ifCond .le 46, 3, 176, 0, 0), (.aload_n 0, 1, 0, 0, 0), (.iload 7, 2, 7, 0, 0), (.aload_n 0, 1, 0, 0, 0), (.getfield 58, 3, 11, 23, 0), (.iload 8, 2, 8, 0, 0), (.iconst 1, 1, 0, 0, 1), (.isub, 1, 0, 0, 0), (.iaload, 1, 0, 0, 0), (.iload_n 1, 1, 1, 0, 0), (.iload_n 2, 1, 2, 0, 0), (.iload_n 3, 1, 3, 0, 0), (.invokevirtual 184, 3, 222, 5, 11), (.ifCond .eq 25, 3, 176, 0, 0), (.aload_n 0, 1, 0, 0, 0), (.getfield 58, 3, 11, 23, 0), (.iload 8, 2, 8, 0, 0), (.aload_n 0, 1, 0, 0, 0), (.getfield 58, 3, 11, 23, 0), (.iload 8, 2, 8, 0, 0), (.iconst 1, 1, 0, 0, 1), (.isub, 1, 0, 0, 0), (.iaload, 1, 0, 0, 0), (.iastore, 1, 0, 0, 0), (.iinc 8 (-1), 3, 8, 0, -1), (.goto (-45), 3, 128, 0, 0)], 176),
  (176, [(.aload_n 0, 1, 0, 0, 0), (.getfield 58, 3, 11, 23, 0), (.iload 8, 2, 8, 0, 0), (.iload 7, 2, 7, 0, 0), (.iastore, 1, 0, 0, 0), (.iinc 4 1, 3, 4, 0, 1)], 188),
  (188, [(.iinc 7 1, 3, 7, 0, 1), (.goto (-87), 3, 104, 0, 0)], 194),
  (194, [(.iload 4, 2, 4, 0, 0), (.ireturn, 1, 0, 0, 0)], 197)]
set_option maxRecDepth 100000 in
theorem ok_X11_laysOrder : pm_oks 11 false 9 (some .int) cX11_laysOrder bk_X11_laysOrder = true := by decide +kernel
set_option maxRecDepth 100000 in
theorem me_X11_laysOrder : pm_me 221 = (yX11_laysOrder, cX11_laysOrder, 9, (some .int), 3, 0) := rfl
theorem mt_X11_laysOrder {l : Launch} {g : pm_G} {d mc ms : Nat} {as : List Value} {A : pm_H} {Q : Option Value → pm_H → Prop} (hca : pm_cat 9 as = true) (body : ∀ J : pm_J, pm_Cl l g (fun _ => none) d mc ms (pm_Rq mc ms Q) bk_X11_laysOrder J → J 0 (pm_l0 9 as) [] A 0 0) : pm_Mt l g 221 d mc ms as A Q := pm_Mt_of (isI := false) 11 bk_X11_laysOrder me_X11_laysOrder (plainFor_of_name (by decide +kernel)) (by decide +kernel) (fun h => by cases h) ok_X11_laysOrder hca body
def bk_X11_isAhead : pm_B := [(0, [(.iload 5, 2, 5, 0, 0), (.iconst 3, 1, 0, 0, 3), (.if_icmp .ne 12, 3, 15, 0, 0), (.aload_n 0, 1, 0, 0, 0), (.getfield 16, 3, 11, 2, 0), (.iload_n 1, 1, 1, 0, 0), (.iaload, 1, 0, 0, 0), (.goto 21, 3, 33, 0, 0)], 15),
  (15, [(.iload 5, 2, 5, 0, 0), (.iconst 4, 1, 0, 0, 4), (.if_icmp .ne 14, 3, 32, 0, 0), (.aload_n 0, 1, 0, 0, 0), (.iload_n 3, 1, 3, 0, 0), (.iload 4, 2, 4, 0, 0), (.iload_n 1, 1, 1, 0, 0), (.invokevirtual 148, 3, 200, 3, 11), (.goto 4, 3, 33, 0, 0)], 32),
  (32, [(.iconst 0, 1, 0, 0, 0)], 33),
  (33, [(.istore 6, 2, 6, 0, 0), (.iload 5, 2, 5, 0, 0), (.iconst 3, 1, 0, 0, 3), (.if_icmp .ne 12, 3, 50, 0, 0), (.aload_n 0, 1, 0, 0, 0), (.getfield 16, 3, 11, 2, 0), (.iload_n 2, 1, 2, 0, 0), (.iaload, 1, 0, 0, 0), (.goto 21, 3, 68, 0, 0)], 50),
  (50, [(.iload 5, 2, 5, 0, 0), (.iconst 4, 1, 0, 0, 4), (.if_icmp .ne 14, 3, 67, 0, 0), (.aload_n 0, 1, 0, 0, 0), (.iload_n 3, 1, 3, 0, 0), (.iload 4, 2, 4, 0, 0), (.iload_n 2, 1, 2, 0, 0), (.invokevirtual 148, 3, 200, 3, 11), (.goto 4, 3, 68, 0, 0)], 67),
  (67, [(.iconst 0, 1, 0, 0, 0)], 68),
  (68, [(.istore 7, 2, 7, 0, 0), (.iload 6, 2, 6, 0, 0), (.iload 7, 2, 7, 0, 0), (.if_icmp .eq 18, 3, 92, 0, 0), (.iload 6, 2, 6, 0, 0), (.iload 7, 2, 7, 0, 0), (.if_icmp .le 7, 3, 88, 0, 0), (.iconst 1, 1, 0, 0, 1), (.goto 17, 3, 102, 0, 0)], 88),
  (88, [(.iconst 0, 1, 0, 0, 0), (.goto 13, 3, 102, 0, 0)], 92),
  (92, [(.iload_n 1, 1, 1, 0, 0), (.iload_n 2, 1, 2, 0, 0), (.if_icmp .ge 7, 3, 101, 0, 0), (.iconst 1, 1, 0, 0, 1), (.goto 4, 3, 102, 0, 0)], 101),
  (101, [(.iconst 0, 1, 0, 0, 0)], 102),
  (102, [(.ireturn, 1, 1, 0, 0)], 103)]
set_option maxRecDepth 100000 in
theorem ok_X11_isAhead : pm_oks 11 false 8 (some .boolean) cX11_isAhead bk_X11_isAhead = true := by decide +kernel
set_option maxRecDepth 100000 in
theorem me_X11_isAhead : pm_me 222 = (yX11_isAhead, cX11_isAhead, 8, (some .boolean), 5, 0) := rfl
theorem mt_X11_isAhead {l : Launch} {g : pm_G} {d mc ms : Nat} {as : List Value} {A : pm_H} {Q : Option Value → pm_H → Prop} (hca : pm_cat 8 as = true) (body : ∀ J : pm_J, pm_Cl l g (fun _ => none) d mc ms (pm_Rq mc ms Q) bk_X11_isAhead J → J 0 (pm_l0 8 as) [] A 0 0) : pm_Mt l g 222 d mc ms as A Q := pm_Mt_of (isI := false) 11 bk_X11_isAhead me_X11_isAhead (plainFor_of_name (by decide +kernel)) (by decide +kernel) (fun h => by cases h) ok_X11_isAhead hca body
def bk_X11_absent : pm_B := [(0, [(.aload_n 0, 1, 0, 0, 0), (.iload_n 1, 1, 1, 0, 0), (.iload_n 2, 1, 2, 0, 0), (.invokevirtual 129, 3, 180, 2, 11), (.ifCond .eq 7, 3, 13, 0, 0), (.iload_n 3, 1, 3, 0, 0), (.ifCond .ge 5, 3, 15, 0, 0)], 13),
  (13, [(.iconst (-1), 1, 0, 0, -1), (.ireturn, 1, 0, 0, 0)], 15),
  (15, [(.aload_n 0, 1, 0, 0, 0), (.iload_n 1, 1, 1, 0, 0), (.iload_n 2, 1, 2, 0, 0), (.invokevirtual 161, 3, 206, 2, 11), (.istore 4, 2, 4, 0, 0), (.iload_n 3, 1, 3, 0, 0), (.istore 5, 2, 5, 0, 0), (.iconst 0, 1, 0, 0, 0), (.istore 6, 2, 6, 0, 0)], 29),
  (29, [(.iload 6, 2, 6, 0, 0), (.bipush 24, 2, 0, 0, 24), (.if_icmp .ge 34, 3, 67, 0, 0), (.iload 4, 2, 4, 0, 0), (.iload 6, 2, 6, 0, 0), (.ishr, 1, 0, 0, 0), (.iconst 1, 1, 0, 0, 1), (.iand, 1, 0, 0, 0), (.iconst 1, 1, 0, 0, 1), (.if_icmp .ne 6, 3, 50, 0, 0), (.goto 14, 3, 61, 0, 0)], 50),
  (50, [(.iload 5, 2, 5, 0, 0), (.ifCond .ne 6, 3, 58, 0, 0), (.iload 6, 2, 6, 0, 0), (.ireturn, 1, 0, 0, 0)], 58),
  (58, [(.iinc 5 (-1), 3, 5, 0, -1)], 61),
  (61, [(.iinc 6 1, 3, 6, 0, 1), (.goto (-35), 3, 29, 0, 0)], 67),
  (67, [(.iconst (-1), 1, 0, 0, -1), (.ireturn, 1, 0, 0, 0)], 69)]
set_option maxRecDepth 100000 in
theorem ok_X11_absent : pm_oks 11 false 7 (some .int) cX11_absent bk_X11_absent = true := by decide +kernel
set_option maxRecDepth 100000 in
theorem me_X11_absent : pm_me 223 = (yX11_absent, cX11_absent, 7, (some .int), 3, 0) := rfl
theorem mt_X11_absent {l : Launch} {g : pm_G} {d mc ms : Nat} {as : List Value} {A : pm_H} {Q : Option Value → pm_H → Prop} (hca : pm_cat 7 as = true) (body : ∀ J : pm_J, pm_Cl l g (fun _ => none) d mc ms (pm_Rq mc ms Q) bk_X11_absent J → J 0 (pm_l0 7 as) [] A 0 0) : pm_Mt l g 223 d mc ms as A Q := pm_Mt_of (isI := false) 11 bk_X11_absent me_X11_absent (plainFor_of_name (by decide +kernel)) (by decide +kernel) (fun h => by cases h) ok_X11_absent hca body
def bk_X11_both : pm_B := [(0, [(.aload_n 0, 1, 0, 0, 0), (.iload_n 1, 1, 1, 0, 0), (.iload_n 2, 1, 2, 0, 0), (.invokevirtual 129, 3, 180, 2, 11), (.ifCond .eq 13, 3, 19, 0, 0), (.aload_n 0, 1, 0, 0, 0), (.iload_n 3, 1, 3, 0, 0), (.iload 4, 2, 4, 0, 0), (.invokevirtual 129, 3, 180, 2, 11), (.ifCond .ne 5, 3, 21, 0, 0)], 19),
  (19, [(.iconst (-1), 1, 0, 0, -1), (.ireturn, 1, 0, 0, 0)], 21),
  (21, [(.aload_n 0, 1, 0, 0, 0), (.iload_n 1, 1, 1, 0, 0), (.iload_n 2, 1, 2, 0, 0), (.invokevirtual 161, 3, 206, 2, 11), (.istore 6, 2, 6, 0, 0), (.aload_n 0, 1, 0, 0, 0), (.iload_n 3, 1, 3, 0, 0), (.iload 4, 2, 4, 0, 0), (.invokevirtual 161, 3, 206, 2, 11), (.istore 7, 2, 7, 0, 0), (.iload 5, 2, 5, 0, 0), (.ifCond .ne 14, 3, 54, 0, 0), (.iload 6, 2, 6, 0, 0), (.iload 7, 2, 7, 0, 0), (.iand, 1, 0, 0, 0), (.invokestatic 165, 3, 207, 1, 0), (.goto 40, 3, 91, 0, 0)], 54),
  (54, [(.iload 5, 2, 5, 0, 0), (.iconst 1, 1, 0, 0, 1), (.if_icmp .ne 16, 3, 73, 0, 0), (.iload 6, 2, 6, 0, 0), (.iload 7, 2, 7, 0, 0), (.iconst (-1), 1, 0, 0, -1), (.ixor, 1, 0, 0, 0), (.iand, 1, 0, 0, 0), (.invokestatic 165, 3, 207, 1, 0), (.goto 21, 3, 91, 0, 0)], 73),
  (73, [(.iload 5, 2, 5, 0, 0), (.iconst 2, 1, 0, 0, 2), (.if_icmp .ne 14, 3, 90, 0, 0), (.iload 6, 2, 6, 0, 0), (.iload 7, 2, 7, 0, 0), (.ior, 1, 0, 0, 0), (.invokestatic 165, 3, 207, 1, 0), (.goto 4, 3, 91, 0, 0)], 90),
  (90, [(.iconst (-1), 1, 0, 0, -1)], 91),
  (91, [(.ireturn, 1, 0, 0, 0)], 92)]
set_option maxRecDepth 100000 in
theorem ok_X11_both : pm_oks 11 false 8 (some .int) cX11_both bk_X11_both = true := by decide +kernel
set_option maxRecDepth 100000 in
theorem me_X11_both : pm_me 224 = (yX11_both, cX11_both, 8, (some .int), 5, 0) := rfl
theorem mt_X11_both {l : Launch} {g : pm_G} {d mc ms : Nat} {as : List Value} {A : pm_H} {Q : Option Value → pm_H → Prop} (hca : pm_cat 8 as = true) (body : ∀ J : pm_J, pm_Cl l g (fun _ => none) d mc ms (pm_Rq mc ms Q) bk_X11_both J → J 0 (pm_l0 8 as) [] A 0 0) : pm_Mt l g 224 d mc ms as A Q := pm_Mt_of (isI := false) 11 bk_X11_both me_X11_both (plainFor_of_name (by decide +kernel)) (by decide +kernel) (fun h => by cases h) ok_X11_both hca body
def bk_X11_close : pm_B := [(0, [(.aload_n 0, 1, 0, 0, 0), (.iload_n 1, 1, 1, 0, 0), (.iload_n 2, 1, 2, 0, 0), (.invokevirtual 129, 3, 180, 2, 11), (.ifCond .eq 12, 3, 18, 0, 0), (.iload_n 3, 1, 3, 0, 0), (.iconst 0, 1, 0, 0, 0), (.iconst 1, 1, 0, 0, 1), (.invokestatic 74, 3, 169, 3, 0), (.ifCond .ne 5, 3, 20, 0, 0)], 18),
  (18, [(.iconst (-1), 1, 0, 0, -1), (.ireturn, 1, 0, 0, 0)], 20),
  (20, [(.iconst (-1), 1, 0, 0, -1), (.istore 4, 2, 4, 0, 0), (.iload_n 1, 1, 1, 0, 0), (.istore 5, 2, 5, 0, 0)], 26),
  (26, [(.iload 5, 2, 5, 0, 0), (.iload_n 2, 1, 2, 0, 0), (.if_icmp .gt 49, 3, 78, 0, 0), (.aload_n 0, 1, 0, 0, 0), (.iload 5, 2, 5, 0, 0), (.invokevirtual 78, 3, 174, 1, 11), (.iload_n 1, 1, 1, 0, 0), (.if_icmp .lt 33, 3, 72, 0, 0), (.iload 4, 2, 4, 0, 0), (.ifCond .lt 24, 3, 68, 0, 0), (.iload 5, 2, 5, 0, 0), (.aload_n 0, 1, 0, 0, 0), (.iload 5, 2, 5, 0, 0), (.invokevirtual 78, 3, 174, 1, 11), (.isub, 1, 0, 0, 0), (.iload 4, 2, 4, 0, 0), (.aload_n 0, 1, 0, 0, 0), (.iload 4, 2, 4, 0, 0), (.invokevirtual 78, 3, 174, 1, 11), (.isub, 1, 0, 0, 0), (.if_icmp .ge 7, 3, 72, 0, 0)], 68),
  (68, [(.iload 5, 2, 5, 0, 0), (.istore 4, 2, 4, 0, 0)], 72),
  (72, [(.iinc 5 1, 3, 5, 0, 1), (.goto (-49), 3, 26, 0, 0)], 78),
  (78, [(.iload 4, 2, 4, 0, 0), (.ifCond .ge 7, 3, 87, 0, 0), (.iconst (-1), 1, 0, 0, -1), (.goto 25, 3, 109, 0, 0)], 87),
  (87, [(.iload_n 3, 1, 3, 0, 0), (.ifCond .ne 15, 3, 103, 0, 0), (.iload 4, 2, 4, 0, 0), (.aload_n 0, 1, 0, 0, 0), (.iload 4, 2, 4, 0, 0), (.invokevirtual 78, 3, 174, 1, 11), (.isub, 1, 0, 0, 0), (.goto 9, 3, 109, 0, 0)], 103),
  (103, [(.aload_n 0, 1, 0, 0, 0), (.iload 4, 2, 4, 0, 0), (.invokevirtual 78, 3, 174, 1, 11)], 109),
  (109, [(.ireturn, 1, 0, 0, 0)], 110)]
set_option maxRecDepth 100000 in
theorem ok_X11_close : pm_oks 11 false 6 (some .int) cX11_close bk_X11_close = true := by decide +kernel
set_option maxRecDepth 100000 in
theorem me_X11_close : pm_me 225 = (yX11_close, cX11_close, 6, (some .int), 3, 0) := rfl
theorem mt_X11_close {l : Launch} {g : pm_G} {d mc ms : Nat} {as : List Value} {A : pm_H} {Q : Option Value → pm_H → Prop} (hca : pm_cat 6 as = true) (body : ∀ J : pm_J, pm_Cl l g (fun _ => none) d mc ms (pm_Rq mc ms Q) bk_X11_close J → J 0 (pm_l0 6 as) [] A 0 0) : pm_Mt l g 225 d mc ms as A Q := pm_Mt_of (isI := false) 11 bk_X11_close me_X11_close (plainFor_of_name (by decide +kernel)) (by decide +kernel) (fun h => by cases h) ok_X11_close hca body
def bk_X11_was : pm_B := [(0, [(.aload_n 0, 1, 0, 0, 0), (.iload_n 1, 1, 1, 0, 0), (.invokevirtual 197, 3, 227, 1, 11), (.ifCond .ne 5, 3, 10, 0, 0), (.iconst (-1), 1, 0, 0, -1), (.ireturn, 1, 0, 0, 0)], 10),
  (10, [(.aload_n 0, 1, 0, 0, 0), (.getfield 52, 3, 11, 21, 0), (.iload_n 1, 1, 1, 0, 0), (.bipush 40, 2, 0, 0, 40), (.irem, 1, 0, 0, 0), (.iaload, 1, 0, 0, 0), (.istore 4, 2, 4, 0, 0), (.iload_n 2, 1, 2, 0, 0), (.iconst (-1), 1, 0, 0, -1), (.if_icmp .ne 6, 3, 29, 0, 0), (.iload 4, 2, 4, 0, 0), (.ireturn, 1, 0, 0, 0)], 29),
  (29, [(.iload_n 2, 1, 2, 0, 0), (.iconst 0, 1, 0, 0, 0), (.iload 4, 2, 4, 0, 0), (.iconst 1, 1, 0, 0, 1), (.isub, 1, 0, 0, 0), (.invokestatic 74, 3, 169, 3, 0), (.ifCond .ne 5, 3, 43, 0, 0), (.iconst (-1), 1, 0, 0, -1), (.ireturn, 1, 0, 0, 0)], 43),
  (43, [(.iload_n 3, 1, 3, 0, 0), (.ifCond .ne 12, 3, 56, 0, 0), (.aload_n 0, 1, 0, 0, 0), (.iload_n 1, 1, 1, 0, 0), (.iload_n 2, 1, 2, 0, 0), (.invokevirtual 191, 3, 228, 2, 11), (.goto 32, 3, 85, 0, 0)], 56),
  (56, [(.iload_n 3, 1, 3, 0, 0), (.iconst 1, 1, 0, 0, 1), (.if_icmp .ne 12, 3, 70, 0, 0), (.aload_n 0, 1, 0, 0, 0), (.iload_n 1, 1, 1, 0, 0), (.iload_n 2, 1, 2, 0, 0), (.invokevirtual 194, 3, 229, 2, 11), (.goto 18, 3, 85, 0, 0)], 70),
  (70, [(.iload_n 3, 1, 3, 0, 0), (.iconst 2, 1, 0, 0, 2), (.if_icmp .ne 12, 3, 84, 0, 0), (.aload_n 0, 1, 0, 0, 0), (.iload_n 1, 1, 1, 0, 0), (.iload_n 2, 1, 2, 0, 0), (.invokevirtual 200, 3, 230, 2, 11), (.goto 4, 3, 85, 0, 0)], 84),
  (84, [(.iconst (-1), 1, 0, 0, -1)], 85),
  (85, [(.ireturn, 1, 0, 0, 0)], 86)]
set_option maxRecDepth 100000 in
theorem ok_X11_was : pm_oks 11 false 5 (some .int) cX11_was bk_X11_was = true := by decide +kernel
set_option maxRecDepth 100000 in
theorem me_X11_was : pm_me 226 = (yX11_was, cX11_was, 5, (some .int), 3, 0) := rfl
theorem mt_X11_was {l : Launch} {g : pm_G} {d mc ms : Nat} {as : List Value} {A : pm_H} {Q : Option Value → pm_H → Prop} (hca : pm_cat 5 as = true) (body : ∀ J : pm_J, pm_Cl l g (fun _ => none) d mc ms (pm_Rq mc ms Q) bk_X11_was J → J 0 (pm_l0 5 as) [] A 0 0) : pm_Mt l g 226 d mc ms as A Q := pm_Mt_of (isI := false) 11 bk_X11_was me_X11_was (plainFor_of_name (by decide +kernel)) (by decide +kernel) (fun h => by cases h) ok_X11_was hca body
def bk_X11_isKnown : pm_B := [(0, [(.iload_n 1, 1, 1, 0, 0), (.ifCond .lt 26, 3, 27, 0, 0), (.iload_n 1, 1, 1, 0, 0), (.aload_n 0, 1, 0, 0, 0), (.getfield 102, 3, 11, 11, 0), (.if_icmp .gt 18, 3, 27, 0, 0), (.iload_n 1, 1, 1, 0, 0), (.aload_n 0, 1, 0, 0, 0), (.getfield 102, 3, 11, 11, 0), (.bipush 40, 2, 0, 0, 40), (.isub, 1, 0, 0, 0), (.if_icmp .le 7, 3, 27, 0, 0), (.iconst 1, 1, 0, 0, 1), (.goto 4, 3, 28, 0, 0)], 27),
  (27, [(.iconst 0, 1, 0, 0, 0)], 28),
  (28, [(.ireturn, 1, 1, 0, 0)], 29)]
set_option maxRecDepth 100000 in
theorem ok_X11_isKnown : pm_oks 11 false 2 (some .boolean) cX11_isKnown bk_X11_isKnown = true := by decide +kernel
set_option maxRecDepth 100000 in
theorem me_X11_isKnown : pm_me 227 = (yX11_isKnown, cX11_isKnown, 2, (some .boolean), 1, 0) := rfl
theorem mt_X11_isKnown {l : Launch} {g : pm_G} {d mc ms : Nat} {as : List Value} {A : pm_H} {Q : Option Value → pm_H → Prop} (hca : pm_cat 2 as = true) (body : ∀ J : pm_J, pm_Cl l g (fun _ => none) d mc ms (pm_Rq mc ms Q) bk_X11_isKnown J → J 0 (pm_l0 2 as) [] A 0 0) : pm_Mt l g 227 d mc ms as A Q := pm_Mt_of (isI := false) 11 bk_X11_isKnown me_X11_isKnown (plainFor_of_name (by decide +kernel)) (by decide +kernel) (fun h => by cases h) ok_X11_isKnown hca body
def bk_X11_wasColour : pm_B := [(0, [(.aload_n 0, 1, 0, 0, 0), (.getfield 46, 3, 11, 19, 0), (.sipush 160, 3, 0, 0, 160), (.iload_n 1, 1, 1, 0, 0), (.bipush 40, 2, 0, 0, 40), (.irem, 1, 0, 0, 0), (.imul, 1, 0, 0, 0), (.iload_n 2, 1, 2, 0, 0), (.iadd, 1, 0, 0, 0), (.iaload, 1, 0, 0, 0), (.ireturn, 1, 0, 0, 0)], 16)]
set_option maxRecDepth 100000 in
theorem ok_X11_wasColour : pm_oks 11 false 3 (some .int) cX11_wasColour bk_X11_wasColour = true := by decide +kernel
set_option maxRecDepth 100000 in
theorem me_X11_wasColour : pm_me 228 = (yX11_wasColour, cX11_wasColour, 3, (some .int), 2, 0) := rfl
theorem mt_X11_wasColour {l : Launch} {g : pm_G} {d mc ms : Nat} {as : List Value} {A : pm_H} {Q : Option Value → pm_H → Prop} (hca : pm_cat 3 as = true) (body : ∀ J : pm_J, pm_Cl l g (fun _ => none) d mc ms (pm_Rq mc ms Q) bk_X11_wasColour J → J 0 (pm_l0 3 as) [] A 0 0) : pm_Mt l g 228 d mc ms as A Q := pm_Mt_of (isI := false) 11 bk_X11_wasColour me_X11_wasColour (plainFor_of_name (by decide +kernel)) (by decide +kernel) (fun h => by cases h) ok_X11_wasColour hca body
def bk_X11_wasName : pm_B := [(0, [(.aload_n 0, 1, 0, 0, 0), (.getfield 49, 3, 11, 20, 0), (.sipush 160, 3, 0, 0, 160), (.iload_n 1, 1, 1, 0, 0), (.bipush 40, 2, 0, 0, 40), (.irem, 1, 0, 0, 0), (.imul, 1, 0, 0, 0), (.iload_n 2, 1, 2, 0, 0), (.iadd, 1, 0, 0, 0), (.iaload, 1, 0, 0, 0), (.ireturn, 1, 0, 0, 0)], 16)]
set_option maxRecDepth 100000 in
theorem ok_X11_wasName : pm_oks 11 false 3 (some .int) cX11_wasName bk_X11_wasName = true := by decide +kernel
set_option maxRecDepth 100000 in
theorem me_X11_wasName : pm_me 229 = (yX11_wasName, cX11_wasName, 3, (some .int), 2, 0) := rfl
theorem mt_X11_wasName {l : Launch} {g : pm_G} {d mc ms : Nat} {as : List Value} {A : pm_H} {Q : Option Value → pm_H → Prop} (hca : pm_cat 3 as = true) (body : ∀ J : pm_J, pm_Cl l g (fun _ => none) d mc ms (pm_Rq mc ms Q) bk_X11_wasName J → J 0 (pm_l0 3 as) [] A 0 0) : pm_Mt l g 229 d mc ms as A Q := pm_Mt_of (isI := false) 11 bk_X11_wasName me_X11_wasName (plainFor_of_name (by decide +kernel)) (by decide +kernel) (fun h => by cases h) ok_X11_wasName hca body
def bk_X11_wasBond : pm_B := [(0, [(.iload_n 2, 1, 2, 0, 0), (.iconst 1, 1, 0, 0, 1), (.isub, 1, 0, 0, 0), (.istore_n 3, 1, 3, 0, 0)], 4),
  (4, [(.iload_n 3, 1, 3, 0, 0), (.ifCond .lt 31, 3, 36, 0, 0), (.aload_n 0, 1, 0, 0, 0), (.iload_n 1, 1, 1, 0, 0), (.iload_n 3, 1, 3, 0, 0), (.invokevirtual 191, 3, 228, 2, 11), (.aload_n 0, 1, 0, 0, 0), (.iload_n 1, 1, 1, 0, 0), (.iload_n 2, 1, 2, 0, 0), (.invokevirtual 191, 3, 228, 2, 11), (.if_icmp .ne 10, 3, 30, 0, 0), (.aload_n 0, 1, 0, 0, 0), (.iload_n 1, 1, 1, 0, 0), (.iload_n 3, 1, 3, 0, 0), (.invokevirtual 194, 3, 229, 2, 11), (.ireturn, 1, 0, 0, 0)], 30),
  (30, [(.iinc 3 (-1), 3, 3, 0, -1), (.goto (-29), 3, 4, 0, 0)], 36),
  (36, [(.iconst (-1), 1, 0, 0, -1), (.ireturn, 1, 0, 0, 0)], 38)]
set_option maxRecDepth 100000 in
theorem ok_X11_wasBond : pm_oks 11 false 4 (some .int) cX11_wasBond bk_X11_wasBond = true := by decide +kernel
set_option maxRecDepth 100000 in
theorem me_X11_wasBond : pm_me 230 = (yX11_wasBond, cX11_wasBond, 4, (some .int), 2, 0) := rfl
theorem mt_X11_wasBond {l : Launch} {g : pm_G} {d mc ms : Nat} {as : List Value} {A : pm_H} {Q : Option Value → pm_H → Prop} (hca : pm_cat 4 as = true) (body : ∀ J : pm_J, pm_Cl l g (fun _ => none) d mc ms (pm_Rq mc ms Q) bk_X11_wasBond J → J 0 (pm_l0 4 as) [] A 0 0) : pm_Mt l g 230 d mc ms as A Q := pm_Mt_of (isI := false) 11 bk_X11_wasBond me_X11_wasBond (plainFor_of_name (by decide +kernel)) (by decide +kernel) (fun h => by cases h) ok_X11_wasBond hca body
def bk_X11_counted : pm_B := [(0, [(.aload_n 0, 1, 0, 0, 0), (.iload_n 1, 1, 1, 0, 0), (.invokevirtual 197, 3, 227, 1, 11), (.ifCond .eq 38, 3, 43, 0, 0), (.iload_n 2, 1, 2, 0, 0), (.ifCond .lt 34, 3, 43, 0, 0), (.iload_n 2, 1, 2, 0, 0), (.iload_n 3, 1, 3, 0, 0), (.if_icmp .gt 29, 3, 43, 0, 0), (.iload_n 3, 1, 3, 0, 0), (.aload_n 0, 1, 0, 0, 0), (.getfield 52, 3, 11, 21, 0), (.iload_n 1, 1, 1, 0, 0), (.bipush 40, 2, 0, 0, 40), (.irem, 1, 0, 0, 0), (.iaload, 1, 0, 0, 0), (.if_icmp .ge 16, 3, 43, 0, 0), (.aload_n 0, 1, 0, 0, 0), (.iload_n 1, 1, 1, 0, 0), (.iload_n 2, 1, 2, 0, 0), (.iload_n 3, 1, 3, 0, 0), (.invokevirtual 203, 3, 232, 3, 11), (.invokestatic 165, 3, 207, 1, 0), (.goto 4, 3, 44, 0, 0)], 43),
  (43, [(.iconst (-1), 1, 0, 0, -1)], 44),
  (44, [(.ireturn, 1, 0, 0, 0)], 45)]
set_option maxRecDepth 100000 in
theorem ok_X11_counted : pm_oks 11 false 4 (some .int) cX11_counted bk_X11_counted = true := by decide +kernel
set_option maxRecDepth 100000 in
theorem me_X11_counted : pm_me 231 = (yX11_counted, cX11_counted, 4, (some .int), 3, 0) := rfl
theorem mt_X11_counted {l : Launch} {g : pm_G} {d mc ms : Nat} {as : List Value} {A : pm_H} {Q : Option Value → pm_H → Prop} (hca : pm_cat 4 as = true) (body : ∀ J : pm_J, pm_Cl l g (fun _ => none) d mc ms (pm_Rq mc ms Q) bk_X11_counted J → J 0 (pm_l0 4 as) [] A 0 0) : pm_Mt l g 231 d mc ms as A Q := pm_Mt_of (isI := false) 11 bk_X11_counted me_X11_counted (plainFor_of_name (by decide +kernel)) (by decide +kernel) (fun h => by cases h) ok_X11_counted hca body
def bk_X11_wasSet : pm_B := [(0, [(.iconst 0, 1, 0, 0, 0), (.istore 4, 2, 4, 0, 0), (.iload_n 2, 1, 2, 0, 0), (.istore 5, 2, 5, 0, 0)], 6),
  (6, [(.iload 5, 2, 5, 0, 0), (.iload_n 3, 1, 3, 0, 0), (.if_icmp .gt 23, 3, 32, 0, 0), (.iload 4, 2, 4, 0, 0), (.iconst 1, 1, 0, 0, 1), (.aload_n 0, 1, 0, 0, 0), (.iload_n 1, 1, 1, 0, 0), (.iload 5, 2, 5, 0, 0), (.invokevirtual 191, 3, 228, 2, 11), (.ishl, 1, 0, 0, 0), (.ior, 1, 0, 0, 0), (.istore 4, 2, 4, 0, 0), (.iinc 5 1, 3, 5, 0, 1), (.goto (-23), 3, 6, 0, 0)], 32),
  (32, [(.iload 4, 2, 4, 0, 0), (.ireturn, 1, 0, 0, 0)], 35)]
set_option maxRecDepth 100000 in
theorem ok_X11_wasSet : pm_oks 11 false 6 (some .int) cX11_wasSet bk_X11_wasSet = true := by decide +kernel
set_option maxRecDepth 100000 in
theorem me_X11_wasSet : pm_me 232 = (yX11_wasSet, cX11_wasSet, 6, (some .int), 3, 0) := rfl
theorem mt_X11_wasSet {l : Launch} {g : pm_G} {d mc ms : Nat} {as : List Value} {A : pm_H} {Q : Option Value → pm_H → Prop} (hca : pm_cat 6 as = true) (body : ∀ J : pm_J, pm_Cl l g (fun _ => none) d mc ms (pm_Rq mc ms Q) bk_X11_wasSet J → J 0 (pm_l0 6 as) [] A 0 0) : pm_Mt l g 232 d mc ms as A Q := pm_Mt_of (isI := false) 11 bk_X11_wasSet me_X11_wasSet (plainFor_of_name (by decide +kernel)) (by decide +kernel) (fun h => by cases h) ok_X11_wasSet hca body
def bk_X11_touched : pm_B := [(0, [(.iload_n 1, 1, 1, 0, 0), (.ifCond .le 23, 3, 24, 0, 0), (.aload_n 0, 1, 0, 0, 0), (.iload_n 1, 1, 1, 0, 0), (.invokevirtual 197, 3, 227, 1, 11), (.ifCond .eq 15, 3, 24, 0, 0), (.aload_n 0, 1, 0, 0, 0), (.getfield 55, 3, 11, 22, 0), (.iload_n 1, 1, 1, 0, 0), (.bipush 40, 2, 0, 0, 40), (.irem, 1, 0, 0, 0), (.iaload, 1, 0, 0, 0), (.goto 4, 3, 25, 0, 0)], 24),
  (24, [(.iconst (-1), 1, 0, 0, -1)], 25),
  (25, [(.ireturn, 1, 0, 0, 0)], 26)]
set_option maxRecDepth 100000 in
theorem ok_X11_touched : pm_oks 11 false 2 (some .int) cX11_touched bk_X11_touched = true := by decide +kernel
set_option maxRecDepth 100000 in
theorem me_X11_touched : pm_me 233 = (yX11_touched, cX11_touched, 2, (some .int), 1, 0) := rfl
theorem mt_X11_touched {l : Launch} {g : pm_G} {d mc ms : Nat} {as : List Value} {A : pm_H} {Q : Option Value → pm_H → Prop} (hca : pm_cat 2 as = true) (body : ∀ J : pm_J, pm_Cl l g (fun _ => none) d mc ms (pm_Rq mc ms Q) bk_X11_touched J → J 0 (pm_l0 2 as) [] A 0 0) : pm_Mt l g 233 d mc ms as A Q := pm_Mt_of (isI := false) 11 bk_X11_touched me_X11_touched (plainFor_of_name (by decide +kernel)) (by decide +kernel) (fun h => by cases h) ok_X11_touched hca body
def bk_X11_since : pm_B := [(0, [(.aload_n 0, 1, 0, 0, 0), (.iload_n 1, 1, 1, 0, 0), (.invokevirtual 206, 3, 197, 1, 11), (.istore_n 2, 1, 2, 0, 0), (.iload_n 2, 1, 2, 0, 0), (.ifCond .ge 5, 3, 12, 0, 0), (.iconst (-1), 1, 0, 0, -1), (.ireturn, 1, 0, 0, 0)], 12),
  (12, [(.aload_n 0, 1, 0, 0, 0), (.iload_n 2, 1, 2, 0, 0), (.invokevirtual 85, 3, 173, 1, 11), (.istore_n 3, 1, 3, 0, 0), (.aload_n 0, 1, 0, 0, 0), (.getfield 102, 3, 11, 11, 0), (.istore 4, 2, 4, 0, 0)], 24),
  (24, [(.aload_n 0, 1, 0, 0, 0), (.iload 4, 2, 4, 0, 0), (.iconst 1, 1, 0, 0, 1), (.isub, 1, 0, 0, 0), (.invokevirtual 197, 3, 227, 1, 11), (.ifCond .eq 22, 3, 54, 0, 0), (.aload_n 0, 1, 0, 0, 0), (.iload 4, 2, 4, 0, 0), (.iconst 1, 1, 0, 0, 1), (.isub, 1, 0, 0, 0), (.iload_n 1, 1, 1, 0, 0), (.iload_n 3, 1, 3, 0, 0), (.invokevirtual 209, 3, 235, 3, 11), (.ifCond .eq 9, 3, 54, 0, 0), (.iinc 4 (-1), 3, 4, 0, -1), (.goto (-27), 3, 24, 0, 0)], 54),
  (54, [(.iload 4, 2, 4, 0, 0), (.ireturn, 1, 0, 0, 0)], 57)]
set_option maxRecDepth 100000 in
theorem ok_X11_since : pm_oks 11 false 5 (some .int) cX11_since bk_X11_since = true := by decide +kernel
set_option maxRecDepth 100000 in
theorem me_X11_since : pm_me 234 = (yX11_since, cX11_since, 5, (some .int), 1, 0) := rfl
theorem mt_X11_since {l : Launch} {g : pm_G} {d mc ms : Nat} {as : List Value} {A : pm_H} {Q : Option Value → pm_H → Prop} (hca : pm_cat 5 as = true) (body : ∀ J : pm_J, pm_Cl l g (fun _ => none) d mc ms (pm_Rq mc ms Q) bk_X11_since J → J 0 (pm_l0 5 as) [] A 0 0) : pm_Mt l g 234 d mc ms as A Q := pm_Mt_of (isI := false) 11 bk_X11_since me_X11_since (plainFor_of_name (by decide +kernel)) (by decide +kernel) (fun h => by cases h) ok_X11_since hca body
def bk_X11_hadBond : pm_B := [(0, [(.aload_n 0, 1, 0, 0, 0), (.iload_n 1, 1, 1, 0, 0), (.iload_n 2, 1, 2, 0, 0), (.invokevirtual 212, 3, 236, 2, 11), (.istore 4, 2, 4, 0, 0), (.iload 4, 2, 4, 0, 0), (.ifCond .lt 18, 3, 28, 0, 0), (.aload_n 0, 1, 0, 0, 0), (.iload_n 1, 1, 1, 0, 0), (.iload 4, 2, 4, 0, 0), (.invokevirtual 200, 3, 230, 2, 11), (.iload_n 3, 1, 3, 0, 0), (.if_icmp .ne 7, 3, 28, 0, 0), (.iconst 1, 1, 0, 0, 1), (.goto 4, 3, 29, 0, 0)], 28),
  (28, [(.iconst 0, 1, 0, 0, 0)], 29),
  (29, [(.ireturn, 1, 1, 0, 0)], 30)]
set_option maxRecDepth 100000 in
theorem ok_X11_hadBond : pm_oks 11 false 5 (some .boolean) cX11_hadBond bk_X11_hadBond = true := by decide +kernel
set_option maxRecDepth 100000 in
theorem me_X11_hadBond : pm_me 235 = (yX11_hadBond, cX11_hadBond, 5, (some .boolean), 3, 0) := rfl
theorem mt_X11_hadBond {l : Launch} {g : pm_G} {d mc ms : Nat} {as : List Value} {A : pm_H} {Q : Option Value → pm_H → Prop} (hca : pm_cat 5 as = true) (body : ∀ J : pm_J, pm_Cl l g (fun _ => none) d mc ms (pm_Rq mc ms Q) bk_X11_hadBond J → J 0 (pm_l0 5 as) [] A 0 0) : pm_Mt l g 235 d mc ms as A Q := pm_Mt_of (isI := false) 11 bk_X11_hadBond me_X11_hadBond (plainFor_of_name (by decide +kernel)) (by decide +kernel) (fun h => by cases h) ok_X11_hadBond hca body
def bk_X11_wasPlace : pm_B := [(0, [(.iconst 0, 1, 0, 0, 0), (.istore_n 3, 1, 3, 0, 0)], 2),
  (2, [(.iload_n 3, 1, 3, 0, 0), (.aload_n 0, 1, 0, 0, 0), (.getfield 52, 3, 11, 21, 0), (.iload_n 1, 1, 1, 0, 0), (.bipush 40, 2, 0, 0, 40), (.irem, 1, 0, 0, 0), (.iaload, 1, 0, 0, 0), (.if_icmp .ge 21, 3, 33, 0, 0), (.aload_n 0, 1, 0, 0, 0), (.iload_n 1, 1, 1, 0, 0), (.iload_n 3, 1, 3, 0, 0), (.invokevirtual 194, 3, 229, 2, 11), (.iload_n 2, 1, 2, 0, 0), (.if_icmp .ne 5, 3, 27, 0, 0), (.iload_n 3, 1, 3, 0, 0), (.ireturn, 1, 0, 0, 0)], 27),
  (27, [(.iinc 3 1, 3, 3, 0, 1), (.goto (-28), 3, 2, 0, 0)], 33),
  (33, [(.iconst (-1), 1, 0, 0, -1), (.ireturn, 1, 0, 0, 0)], 35)]
set_option maxRecDepth 100000 in
theorem ok_X11_wasPlace : pm_oks 11 false 4 (some .int) cX11_wasPlace bk_X11_wasPlace = true := by decide +kernel
set_option maxRecDepth 100000 in
theorem me_X11_wasPlace : pm_me 236 = (yX11_wasPlace, cX11_wasPlace, 4, (some .int), 2, 0) := rfl
theorem mt_X11_wasPlace {l : Launch} {g : pm_G} {d mc ms : Nat} {as : List Value} {A : pm_H} {Q : Option Value → pm_H → Prop} (hca : pm_cat 4 as = true) (body : ∀ J : pm_J, pm_Cl l g (fun _ => none) d mc ms (pm_Rq mc ms Q) bk_X11_wasPlace J → J 0 (pm_l0 4 as) [] A 0 0) : pm_Mt l g 236 d mc ms as A Q := pm_Mt_of (isI := false) 11 bk_X11_wasPlace me_X11_wasPlace (plainFor_of_name (by decide +kernel)) (by decide +kernel) (fun h => by cases h) ok_X11_wasPlace hca body
def bk_X11_changed : pm_B := [(0, [(.aload_n 0, 1, 0, 0, 0), (.iload_n 1, 1, 1, 0, 0), (.invokevirtual 197, 3, 227, 1, 11), (.ifCond .eq 12, 3, 17, 0, 0), (.iload_n 2, 1, 2, 0, 0), (.iconst 0, 1, 0, 0, 0), (.iconst 3, 1, 0, 0, 3), (.invokestatic 74, 3, 169, 3, 0), (.ifCond .ne 5, 3, 19, 0, 0)], 17),
  (17, [(.iconst (-1), 1, 0, 0, -1), (.ireturn, 1, 0, 0, 0)], 19),
  (19, [(.iconst 0, 1, 0, 0, 0), (.istore_n 3, 1, 3, 0, 0), (.iconst 0, 1, 0, 0, 0), (.istore 4, 2, 4, 0, 0)], 24),
  (24, [(.iload 4, 2, 4, 0, 0), (.aload_n 0, 1, 0, 0, 0), (.getfield 70, 3, 11, 7, 0), (.if_icmp .ge 110, 3, 140, 0, 0), (.aload_n 0, 1, 0, 0, 0), (.iload_n 1, 1, 1, 0, 0), (.aload_n 0, 1, 0, 0, 0), (.getfield 13, 3, 11, 1, 0), (.iload 4, 2, 4, 0, 0), (.iaload, 1, 0, 0, 0), (.invokevirtual 212, 3, 236, 2, 11), (.istore 5, 2, 5, 0, 0), (.iload 5, 2, 5, 0, 0), (.ifCond .ge 6, 3, 55, 0, 0), (.goto 82, 3, 134, 0, 0)], 55),
  (55, [(.iload_n 2, 1, 2, 0, 0), (.ifCond .eq 58, 3, 114, 0, 0), (.iload_n 2, 1, 2, 0, 0), (.iconst 1, 1, 0, 0, 1), (.if_icmp .ne 10, 3, 71, 0, 0), (.iload 4, 2, 4, 0, 0), (.iload 5, 2, 5, 0, 0), (.if_icmp .ne 46, 3, 114, 0, 0)], 71),
  (71, [(.iload_n 2, 1, 2, 0, 0), (.iconst 2, 1, 0, 0, 2), (.if_icmp .ne 20, 3, 93, 0, 0), (.aload_n 0, 1, 0, 0, 0), (.getfield 7, 3, 11, 0, 0), (.iload 4, 2, 4, 0, 0), (.iaload, 1, 0, 0, 0), (.aload_n 0, 1, 0, 0, 0), (.iload_n 1, 1, 1, 0, 0), (.iload 5, 2, 5, 0, 0), (.invokevirtual 191, 3, 228, 2, 11), (.if_icmp .ne 24, 3, 114, 0, 0)], 93),
  (93, [(.iload_n 2, 1, 2, 0, 0), (.iconst 3, 1, 0, 0, 3), (.if_icmp .ne 23, 3, 118, 0, 0), (.aload_n 0, 1, 0, 0, 0), (.iload 4, 2, 4, 0, 0), (.invokevirtual 85, 3, 173, 1, 11), (.aload_n 0, 1, 0, 0, 0), (.iload_n 1, 1, 1, 0, 0), (.iload 5, 2, 5, 0, 0), (.invokevirtual 200, 3, 230, 2, 11), (.if_icmp .eq 7, 3, 118, 0, 0)], 114),
  (114, [(.iconst 1, 1, 0, 0, 1), (.goto 4, 3, 119, 0, 0)], 118),
  (118, [(.iconst 0, 1, 0, 0, 0)], 119),
  (119, [(.istore 6, 2, 6, 0, 0), (.iload_n 3, 1, 3, 0, 0), (.iload 6, 2, 6, 0, 0), (.ifCond .eq 7, 3, 131, 0, 0), (.iconst 1, 1, 0, 0, 1), (.goto 4, 3, 132, 0, 0)], 131),
  (131, [(.iconst 0, 1, 0, 0, 0)], 132),
  (132, [(.iadd, 1, 0, 0, 0), (.istore_n 3, 1, 3, 0, 0)], 134),
  (134, [(.iinc 4 1, 3, 4, 0, 1), (.goto (-113), 3, 24, 0, 0)], 140),
  (140, [(.iload_n 3, 1, 3, 0, 0), (.ireturn, 1, 0, 0, 0)], 142)]
set_option maxRecDepth 100000 in
theorem ok_X11_changed : pm_oks 11 false 7 (some .int) cX11_changed bk_X11_changed = true := by decide +kernel
set_option maxRecDepth 100000 in
theorem me_X11_changed : pm_me 237 = (yX11_changed, cX11_changed, 7, (some .int), 2, 0) := rfl
theorem mt_X11_changed {l : Launch} {g : pm_G} {d mc ms : Nat} {as : List Value} {A : pm_H} {Q : Option Value → pm_H → Prop} (hca : pm_cat 7 as = true) (body : ∀ J : pm_J, pm_Cl l g (fun _ => none) d mc ms (pm_Rq mc ms Q) bk_X11_changed J → J 0 (pm_l0 7 as) [] A 0 0) : pm_Mt l g 237 d mc ms as A Q := pm_Mt_of (isI := false) 11 bk_X11_changed me_X11_changed (plainFor_of_name (by decide +kernel)) (by decide +kernel) (fun h => by cases h) ok_X11_changed hca body
def bk_X11_sides : pm_B := [(0, [(.aload_n 0, 1, 0, 0, 0), (.iload_n 1, 1, 1, 0, 0), (.iload_n 2, 1, 2, 0, 0), (.invokevirtual 129, 3, 180, 2, 11), (.ifCond .ne 5, 3, 11, 0, 0), (.iconst (-1), 1, 0, 0, -1), (.ireturn, 1, 0, 0, 0)], 11),
  (11, [(.iconst 0, 1, 0, 0, 0), (.istore_n 3, 1, 3, 0, 0), (.iload_n 1, 1, 1, 0, 0), (.iconst 1, 1, 0, 0, 1), (.iadd, 1, 0, 0, 0), (.istore 4, 2, 4, 0, 0)], 18),
  (18, [(.iload 4, 2, 4, 0, 0), (.iload_n 2, 1, 2, 0, 0), (.if_icmp .gt 41, 3, 62, 0, 0), (.aload_n 0, 1, 0, 0, 0), (.getfield 7, 3, 11, 0, 0), (.iload 4, 2, 4, 0, 0), (.iaload, 1, 0, 0, 0), (.aload_n 0, 1, 0, 0, 0), (.getfield 7, 3, 11, 0, 0), (.iload 4, 2, 4, 0, 0), (.iconst 1, 1, 0, 0, 1), (.isub, 1, 0, 0, 0), (.iaload, 1, 0, 0, 0), (.if_icmp .eq 16, 3, 56, 0, 0), (.aload_n 0, 1, 0, 0, 0), (.iload_n 1, 1, 1, 0, 0), (.iload 4, 2, 4, 0, 0), (.invokevirtual 215, 3, 239, 2, 11), (.ifCond .eq 6, 3, 56, 0, 0), (.iinc 3 1, 3, 3, 0, 1)], 56),
  (56, [(.iinc 4 1, 3, 4, 0, 1), (.goto (-41), 3, 18, 0, 0)], 62),
  (62, [(.iload_n 3, 1, 3, 0, 0), (.ireturn, 1, 0, 0, 0)], 64)]
set_option maxRecDepth 100000 in
theorem ok_X11_sides : pm_oks 11 false 5 (some .int) cX11_sides bk_X11_sides = true := by decide +kernel
set_option maxRecDepth 100000 in
theorem me_X11_sides : pm_me 238 = (yX11_sides, cX11_sides, 5, (some .int), 2, 0) := rfl
theorem mt_X11_sides {l : Launch} {g : pm_G} {d mc ms : Nat} {as : List Value} {A : pm_H} {Q : Option Value → pm_H → Prop} (hca : pm_cat 5 as = true) (body : ∀ J : pm_J, pm_Cl l g (fun _ => none) d mc ms (pm_Rq mc ms Q) bk_X11_sides J → J 0 (pm_l0 5 as) [] A 0 0) : pm_Mt l g 238 d mc ms as A Q := pm_Mt_of (isI := false) 11 bk_X11_sides me_X11_sides (plainFor_of_name (by decide +kernel)) (by decide +kernel) (fun h => by cases h) ok_X11_sides hca body
def bk_X11_isNewSide : pm_B := [(0, [(.iload_n 1, 1, 1, 0, 0), (.iconst 1, 1, 0, 0, 1), (.iadd, 1, 0, 0, 0), (.istore_n 3, 1, 3, 0, 0)], 4),
  (4, [(.iload_n 3, 1, 3, 0, 0), (.iload_n 2, 1, 2, 0, 0), (.if_icmp .ge 103, 3, 109, 0, 0), (.aload_n 0, 1, 0, 0, 0), (.getfield 7, 3, 11, 0, 0), (.iload_n 3, 1, 3, 0, 0), (.iaload, 1, 0, 0, 0), (.aload_n 0, 1, 0, 0, 0), (.getfield 7, 3, 11, 0, 0), (.iload_n 2, 1, 2, 0, 0), (.iaload, 1, 0, 0, 0), (.if_icmp .ne 26, 3, 47, 0, 0), (.aload_n 0, 1, 0, 0, 0), (.getfield 7, 3, 11, 0, 0), (.iload_n 3, 1, 3, 0, 0), (.iconst 1, 1, 0, 0, 1), (.isub, 1, 0, 0, 0), (.iaload, 1, 0, 0, 0), (.aload_n 0, 1, 0, 0, 0), (.getfield 7, 3, 11, 0, 0), (.iload_n 2, 1, 2, 0, 0), (.iconst 1, 1, 0, 0, 1), (.isub, 1, 0, 0, 0), (.iaload, 1, 0, 0, 0), (.if_icmp .ne 7, 3, 47, 0, 0), (.iconst 1, 1, 0, 0, 1), (.goto 4, 3, 48, 0, 0)], 47),
  (47, [(.iconst 0, 1, 0, 0, 0)], 48),
  (48, [(.istore 4, 2, 4, 0, 0), (.aload_n 0, 1, 0, 0, 0), (.getfield 7, 3, 11, 0, 0), (.iload_n 3, 1, 3, 0, 0), (.iaload, 1, 0, 0, 0), (.aload_n 0, 1, 0, 0, 0), (.getfield 7, 3, 11, 0, 0), (.iload_n 2, 1, 2, 0, 0), (.iconst 1, 1, 0, 0, 1), (.isub, 1, 0, 0, 0), (.iaload, 1, 0, 0, 0), (.if_icmp .ne 24, 3, 88, 0, 0), (.aload_n 0, 1, 0, 0, 0), (.getfield 7, 3, 11, 0, 0), (.iload_n 3, 1, 3, 0, 0), (.iconst 1, 1, 0, 0, 1), (.isub, 1, 0, 0, 0), (.iaload, 1, 0, 0, 0), (.aload_n 0, 1, 0, 0, 0), (.getfield 7, 3, 11, 0, 0), (.iload_n 2, 1, 2, 0, 0), (.iaload, 1, 0, 0, 0), (.if_icmp .ne 7, 3, 88, 0, 0), (.iconst 1, 1, 0, 0, 1), (.goto 4, 3, 89, 0, 0)], 88),
  (88, [(.iconst 0, 1, 0, 0, 0)], 89),
  (89, [(.istore 5, 2, 5, 0, 0), (.iload 4, 2, 4, 0, 0), (.ifCond .ne 8, 3, 101, 0, 0), (.iload 5, 2, 5, 0, 0), (.ifCond .eq 5, 3, 103, 0, 0)], 101),
  (101, [(.iconst 0, 1, 0, 0, 0), (.ireturn, 1, 1, 0, 0)], 103),
  (103, [(.iinc 3 1, 3, 3, 0, 1), (.goto (-102), 3, 4, 0, 0)], 109),
  (109, [(.iconst 1, 1, 0, 0, 1), (.ireturn, 1, 1, 0, 0)], 111)]
set_option maxRecDepth 100000 in
theorem ok_X11_isNewSide : pm_oks 11 false 6 (some .boolean) cX11_isNewSide bk_X11_isNewSide = true := by decide +kernel
set_option maxRecDepth 100000 in
theorem me_X11_isNewSide : pm_me 239 = (yX11_isNewSide, cX11_isNewSide, 6, (some .boolean), 2, 0) := rfl
theorem mt_X11_isNewSide {l : Launch} {g : pm_G} {d mc ms : Nat} {as : List Value} {A : pm_H} {Q : Option Value → pm_H → Prop} (hca : pm_cat 6 as = true) (body : ∀ J : pm_J, pm_Cl l g (fun _ => none) d mc ms (pm_Rq mc ms Q) bk_X11_isNewSide J → J 0 (pm_l0 6 as) [] A 0 0) : pm_Mt l g 239 d mc ms as A Q := pm_Mt_of (isI := false) 11 bk_X11_isNewSide me_X11_isNewSide (plainFor_of_name (by decide +kernel)) (by decide +kernel) (fun h => by cases h) ok_X11_isNewSide hca body
def bk_X11_cover : pm_B := [(0, [(.aload_n 0, 1, 0, 0, 0), (.iload_n 1, 1, 1, 0, 0), (.iload_n 2, 1, 2, 0, 0), (.invokevirtual 129, 3, 180, 2, 11), (.ifCond .ne 5, 3, 11, 0, 0), (.iconst (-1), 1, 0, 0, -1), (.ireturn, 1, 0, 0, 0)], 11),
  (11, [(.aload_n 0, 1, 0, 0, 0), (.iload_n 1, 1, 1, 0, 0), (.iload_n 2, 1, 2, 0, 0), (.invokevirtual 161, 3, 206, 2, 11), (.istore_n 3, 1, 3, 0, 0), (.iconst 1, 1, 0, 0, 1), (.istore 4, 2, 4, 0, 0)], 21),
  (21, [(.aload_n 0, 1, 0, 0, 0), (.iload_n 1, 1, 1, 0, 0), (.iload_n 2, 1, 2, 0, 0), (.iload 4, 2, 4, 0, 0), (.iload_n 3, 1, 3, 0, 0), (.invokevirtual 218, 3, 241, 4, 11), (.ifCond .ne 9, 3, 39, 0, 0), (.iinc 4 1, 3, 4, 0, 1), (.goto (-15), 3, 21, 0, 0)], 39),
  (39, [(.iload 4, 2, 4, 0, 0), (.ireturn, 1, 0, 0, 0)], 42)]
set_option maxRecDepth 100000 in
theorem ok_X11_cover : pm_oks 11 false 5 (some .int) cX11_cover bk_X11_cover = true := by decide +kernel
set_option maxRecDepth 100000 in
theorem me_X11_cover : pm_me 240 = (yX11_cover, cX11_cover, 5, (some .int), 2, 0) := rfl
theorem mt_X11_cover {l : Launch} {g : pm_G} {d mc ms : Nat} {as : List Value} {A : pm_H} {Q : Option Value → pm_H → Prop} (hca : pm_cat 5 as = true) (body : ∀ J : pm_J, pm_Cl l g (fun _ => none) d mc ms (pm_Rq mc ms Q) bk_X11_cover J → J 0 (pm_l0 5 as) [] A 0 0) : pm_Mt l g 240 d mc ms as A Q := pm_Mt_of (isI := false) 11 bk_X11_cover me_X11_cover (plainFor_of_name (by decide +kernel)) (by decide +kernel) (fun h => by cases h) ok_X11_cover hca body
def bk_X11_haveAll : pm_B := [(0, [(.iload_n 1, 1, 1, 0, 0), (.istore 5, 2, 5, 0, 0)], 3),
  (3, [(.iload 5, 2, 5, 0, 0), (.iload_n 3, 1, 3, 0, 0), (.iadd, 1, 0, 0, 0), (.iconst 1, 1, 0, 0, 1), (.isub, 1, 0, 0, 0), (.iload_n 2, 1, 2, 0, 0), (.if_icmp .gt 28, 3, 38, 0, 0), (.aload_n 0, 1, 0, 0, 0), (.iload 5, 2, 5, 0, 0), (.iload 5, 2, 5, 0, 0), (.iload_n 3, 1, 3, 0, 0), (.iadd, 1, 0, 0, 0), (.iconst 1, 1, 0, 0, 1), (.isub, 1, 0, 0, 0), (.invokevirtual 161, 3, 206, 2, 11), (.iload 4, 2, 4, 0, 0), (.if_icmp .eq 5, 3, 32, 0, 0), (.iconst 0, 1, 0, 0, 0), (.ireturn, 1, 1, 0, 0)], 32),
  (32, [(.iinc 5 1, 3, 5, 0, 1), (.goto (-32), 3, 3, 0, 0)], 38),
  (38, [(.iconst 1, 1, 0, 0, 1), (.ireturn, 1, 1, 0, 0)], 40)]
set_option maxRecDepth 100000 in
theorem ok_X11_haveAll : pm_oks 11 false 6 (some .boolean) cX11_haveAll bk_X11_haveAll = true := by decide +kernel
set_option maxRecDepth 100000 in
theorem me_X11_haveAll : pm_me 241 = (yX11_haveAll, cX11_haveAll, 6, (some .boolean), 4, 0) := rfl
theorem mt_X11_haveAll {l : Launch} {g : pm_G} {d mc ms : Nat} {as : List Value} {A : pm_H} {Q : Option Value → pm_H → Prop} (hca : pm_cat 6 as = true) (body : ∀ J : pm_J, pm_Cl l g (fun _ => none) d mc ms (pm_Rq mc ms Q) bk_X11_haveAll J → J 0 (pm_l0 6 as) [] A 0 0) : pm_Mt l g 241 d mc ms as A Q := pm_Mt_of (isI := false) 11 bk_X11_haveAll me_X11_haveAll (plainFor_of_name (by decide +kernel)) (by decide +kernel) (fun h => by cases h) ok_X11_haveAll hca body
def bk_X11_least : pm_B := [(0, [(.aload_n 0, 1, 0, 0, 0), (.iload_n 1, 1, 1, 0, 0), (.iload_n 2, 1, 2, 0, 0), (.invokevirtual 129, 3, 180, 2, 11), (.ifCond .eq 8, 3, 14, 0, 0), (.iload_n 3, 1, 3, 0, 0), (.iconst 1, 1, 0, 0, 1), (.if_icmp .ge 5, 3, 16, 0, 0)], 14),
  (14, [(.iconst (-1), 1, 0, 0, -1), (.ireturn, 1, 0, 0, 0)], 16),
  (16, [(.aload_n 0, 1, 0, 0, 0), (.iload_n 1, 1, 1, 0, 0), (.iload_n 2, 1, 2, 0, 0), (.iconst 4, 1, 0, 0, 4), (.invokevirtual 188, 3, 221, 3, 11), (.istore 4, 2, 4, 0, 0), (.iconst 0, 1, 0, 0, 0), (.istore 5, 2, 5, 0, 0), (.iload_n 3, 1, 3, 0, 0), (.istore 6, 2, 6, 0, 0)], 31),
  (31, [(.iload 6, 2, 6, 0, 0), (.iload 4, 2, 4, 0, 0), (.if_icmp .ge 27, 3, 62, 0, 0), (.iload 5, 2, 5, 0, 0), (.aload_n 0, 1, 0, 0, 0), (.iload_n 1, 1, 1, 0, 0), (.iload_n 2, 1, 2, 0, 0), (.aload_n 0, 1, 0, 0, 0), (.getfield 58, 3, 11, 23, 0), (.iload 6, 2, 6, 0, 0), (.iaload, 1, 0, 0, 0), (.invokevirtual 148, 3, 200, 3, 11), (.iadd, 1, 0, 0, 0), (.istore 5, 2, 5, 0, 0), (.iinc 6 1, 3, 6, 0, 1), (.goto (-28), 3, 31, 0, 0)], 62),
  (62, [(.iload 5, 2, 5, 0, 0), (.ireturn, 1, 0, 0, 0)], 65)]
set_option maxRecDepth 100000 in
theorem ok_X11_least : pm_oks 11 false 7 (some .int) cX11_least bk_X11_least = true := by decide +kernel
set_option maxRecDepth 100000 in
theorem me_X11_least : pm_me 242 = (yX11_least, cX11_least, 7, (some .int), 3, 0) := rfl
theorem mt_X11_least {l : Launch} {g : pm_G} {d mc ms : Nat} {as : List Value} {A : pm_H} {Q : Option Value → pm_H → Prop} (hca : pm_cat 7 as = true) (body : ∀ J : pm_J, pm_Cl l g (fun _ => none) d mc ms (pm_Rq mc ms Q) bk_X11_least J → J 0 (pm_l0 7 as) [] A 0 0) : pm_Mt l g 242 d mc ms as A Q := pm_Mt_of (isI := false) 11 bk_X11_least me_X11_least (plainFor_of_name (by decide +kernel)) (by decide +kernel) (fun h => by cases h) ok_X11_least hca body
def bk_X11_fair : pm_B := [(0, [(.aload_n 0, 1, 0, 0, 0), (.iload_n 1, 1, 1, 0, 0), (.iload_n 2, 1, 2, 0, 0), (.invokevirtual 129, 3, 180, 2, 11), (.ifCond .eq 8, 3, 14, 0, 0), (.iload_n 3, 1, 3, 0, 0), (.iconst 1, 1, 0, 0, 1), (.if_icmp .ge 5, 3, 16, 0, 0)], 14),
  (14, [(.iconst (-1), 1, 0, 0, -1), (.ireturn, 1, 0, 0, 0)], 16),
  (16, [(.iconst 0, 1, 0, 0, 0), (.istore 4, 2, 4, 0, 0), (.iconst 0, 1, 0, 0, 0), (.istore 5, 2, 5, 0, 0)], 22),
  (22, [(.iload 5, 2, 5, 0, 0), (.bipush 24, 2, 0, 0, 24), (.if_icmp .ge 44, 3, 70, 0, 0), (.iload 4, 2, 4, 0, 0), (.aload_n 0, 1, 0, 0, 0), (.iload_n 1, 1, 1, 0, 0), (.iload_n 2, 1, 2, 0, 0), (.iload 5, 2, 5, 0, 0), (.invokevirtual 148, 3, 200, 3, 11), (.i2l, 1, 0, 0, 0), (.iload_n 3, 1, 3, 0, 0), (.i2l, 1, 0, 0, 0), (.lmul, 1, 0, 0, 0), (.iload_n 2, 1, 2, 0, 0), (.iload_n 1, 1, 1, 0, 0), (.isub, 1, 0, 0, 0), (.iconst 1, 1, 0, 0, 1), (.iadd, 1, 0, 0, 0), (.i2l, 1, 0, 0, 0), (.lcmp, 1, 0, 0, 0), (.ifCond .le 10, 3, 60, 0, 0), (.iconst 1, 1, 0, 0, 1), (.iload 5, 2, 5, 0, 0), (.ishl, 1, 0, 0, 0), (.goto 4, 3, 61, 0, 0)], 60),
  (60, [(.iconst 0, 1, 0, 0, 0)], 61),
  (61, [(.ior, 1, 0, 0, 0), (.istore 4, 2, 4, 0, 0), (.iinc 5 1, 3, 5, 0, 1), (.goto (-45), 3, 22, 0, 0)], 70),
  (70, [(.iload 4, 2, 4, 0, 0), (.ireturn, 1, 0, 0, 0)], 73)]
set_option maxRecDepth 100000 in
theorem ok_X11_fair : pm_oks 11 false 6 (some .int) cX11_fair bk_X11_fair = true := by decide +kernel
set_option maxRecDepth 100000 in
theorem me_X11_fair : pm_me 243 = (yX11_fair, cX11_fair, 6, (some .int), 3, 0) := rfl
theorem mt_X11_fair {l : Launch} {g : pm_G} {d mc ms : Nat} {as : List Value} {A : pm_H} {Q : Option Value → pm_H → Prop} (hca : pm_cat 6 as = true) (body : ∀ J : pm_J, pm_Cl l g (fun _ => none) d mc ms (pm_Rq mc ms Q) bk_X11_fair J → J 0 (pm_l0 6 as) [] A 0 0) : pm_Mt l g 243 d mc ms as A Q := pm_Mt_of (isI := false) 11 bk_X11_fair me_X11_fair (plainFor_of_name (by decide +kernel)) (by decide +kernel) (fun h => by cases h) ok_X11_fair hca body
end
section
/-! blocks, by a program -/
def bk_X11_alike : pm_B := [(0, [(.aload_n 0, 1, 0, 0, 0), (.iload_n 1, 1, 1, 0, 0), (.iload_n 2, 1, 2, 0, 0), (.invokevirtual 129, 3, 180, 2, 11), (.ifCond .ne 5, 3, 11, 0, 0), (.iconst (-1), 1, 0, 0, -1), (.ireturn, 1, 0, 0, 0)], 11),
  (11, [(.iconst 0, 1, 0, 0, 0), (.istore_n 3, 1, 3, 0, 0), (.iload_n 1, 1, 1, 0, 0), (.istore 4, 2, 4, 0, 0)], 16),
  (16, [(.iload 4, 2, 4, 0, 0), (.iload_n 2, 1, 2, 0, 0), (.if_icmp .gt 28, 3, 47, 0, 0), (.iload_n 3, 1, 3, 0, 0), (.aload_n 0, 1, 0, 0, 0), (.iload_n 1, 1, 1, 0, 0), (.iload 4, 2, 4, 0, 0), (.iconst 1, 1, 0, 0, 1), (.isub, 1, 0, 0, 0), (.aload_n 0, 1, 0, 0, 0), (.getfield 7, 3, 11, 0, 0), (.iload 4, 2, 4, 0, 0), (.iaload, 1, 0, 0, 0), (.invokevirtual 148, 3, 200, 3, 11), (.iadd, 1, 0, 0, 0), (.istore_n 3, 1, 3, 0, 0), (.iinc 4 1, 3, 4, 0, 1), (.goto (-28), 3, 16, 0, 0)], 47),
  (47, [(.iload_n 3, 1, 3, 0, 0), (.ireturn, 1, 0, 0, 0)], 49)]
set_option maxRecDepth 100000 in
theorem ok_X11_alike : pm_oks 11 false 5 (some .int) cX11_alike bk_X11_alike = true := by decide +kernel
set_option maxRecDepth 100000 in
theorem me_X11_alike : pm_me 244 = (yX11_alike, cX11_alike, 5, (some .int), 2, 0) := rfl
theorem mt_X11_alike {l : Launch} {g : pm_G} {d mc ms : Nat} {as : List Value} {A : pm_H} {Q : Option Value → pm_H → Prop} (hca : pm_cat 5 as = true) (body : ∀ J : pm_J, pm_Cl l g (fun _ => none) d mc ms (pm_Rq mc ms Q) bk_X11_alike J → J 0 (pm_l0 5 as) [] A 0 0) : pm_Mt l g 244 d mc ms as A Q := pm_Mt_of (isI := false) 11 bk_X11_alike me_X11_alike (plainFor_of_name (by decide +kernel)) (by decide +kernel) (fun h => by cases h) ok_X11_alike hca body
def bk_X11_even : pm_B := [(0, [(.aload_n 0, 1, 0, 0, 0), (.iload_n 1, 1, 1, 0, 0), (.iload_n 2, 1, 2, 0, 0), (.invokevirtual 129, 3, 180, 2, 11), (.ifCond .ne 5, 3, 11, 0, 0), (.iconst (-1), 1, 0, 0, -1), (.ireturn, 1, 0, 0, 0)], 11),
  (11, [(.iconst (-1), 1, 0, 0, -1), (.istore_n 3, 1, 3, 0, 0), (.ldc 222, 2, 0, 0, 268435456), (.istore 4, 2, 4, 0, 0), (.iload_n 1, 1, 1, 0, 0), (.istore 5, 2, 5, 0, 0)], 20),
  (20, [(.iload 5, 2, 5, 0, 0), (.iload_n 2, 1, 2, 0, 0), (.if_icmp .ge 60, 3, 83, 0, 0), (.aload_n 0, 1, 0, 0, 0), (.iload_n 1, 1, 1, 0, 0), (.iload 5, 2, 5, 0, 0), (.invokevirtual 171, 3, 209, 2, 11), (.aload_n 0, 1, 0, 0, 0), (.iload 5, 2, 5, 0, 0), (.iconst 1, 1, 0, 0, 1), (.iadd, 1, 0, 0, 0), (.iload_n 2, 1, 2, 0, 0), (.invokevirtual 171, 3, 209, 2, 11), (.isub, 1, 0, 0, 0), (.istore 6, 2, 6, 0, 0), (.iload 6, 2, 6, 0, 0), (.ifCond .ge 9, 3, 56, 0, 0), (.iload 6, 2, 6, 0, 0), (.ineg, 1, 0, 0, 0), (.goto 5, 3, 58, 0, 0)], 56),
  (56, [(.iload 6, 2, 6, 0, 0)], 58),
  (58, [(.istore 7, 2, 7, 0, 0), (.iload 7, 2, 7, 0, 0), (.iload 4, 2, 4, 0, 0), (.if_icmp .lt 6, 3, 70, 0, 0), (.goto 10, 3, 77, 0, 0)], 70),
  (70, [(.iload 5, 2, 5, 0, 0), (.istore_n 3, 1, 3, 0, 0), (.iload 7, 2, 7, 0, 0), (.istore 4, 2, 4, 0, 0)], 77),
  (77, [(.iinc 5 1, 3, 5, 0, 1), (.goto (-60), 3, 20, 0, 0)], 83),
  (83, [(.iload_n 3, 1, 3, 0, 0), (.ireturn, 1, 0, 0, 0)], 85)]
set_option maxRecDepth 100000 in
theorem ok_X11_even : pm_oks 11 false 8 (some .int) cX11_even bk_X11_even = true := by decide +kernel
set_option maxRecDepth 100000 in
theorem me_X11_even : pm_me 245 = (yX11_even, cX11_even, 8, (some .int), 2, 0) := rfl
theorem mt_X11_even {l : Launch} {g : pm_G} {d mc ms : Nat} {as : List Value} {A : pm_H} {Q : Option Value → pm_H → Prop} (hca : pm_cat 8 as = true) (body : ∀ J : pm_J, pm_Cl l g (fun _ => none) d mc ms (pm_Rq mc ms Q) bk_X11_even J → J 0 (pm_l0 8 as) [] A 0 0) : pm_Mt l g 245 d mc ms as A Q := pm_Mt_of (isI := false) 11 bk_X11_even me_X11_even (plainFor_of_name (by decide +kernel)) (by decide +kernel) (fun h => by cases h) ok_X11_even hca body
def bk_X11_apart : pm_B := [(0, [(.iload_n 1, 1, 1, 0, 0), (.invokestatic 122, 3, 170, 1, 0), (.ifCond .eq 24, 3, 28, 0, 0), (.iload_n 2, 1, 2, 0, 0), (.invokestatic 122, 3, 170, 1, 0), (.ifCond .eq 17, 3, 28, 0, 0), (.iload_n 1, 1, 1, 0, 0), (.iload_n 2, 1, 2, 0, 0), (.if_icmp .eq 12, 3, 28, 0, 0), (.iload_n 3, 1, 3, 0, 0), (.iconst 0, 1, 0, 0, 0), (.iconst 1, 1, 0, 0, 1), (.invokestatic 74, 3, 169, 3, 0), (.ifCond .ne 5, 3, 30, 0, 0)], 28),
  (28, [(.iconst (-1), 1, 0, 0, -1), (.ireturn, 1, 0, 0, 0)], 30),
  (30, [(.iconst (-1), 1, 0, 0, -1), (.istore 4, 2, 4, 0, 0), (.ldc 222, 2, 0, 0, 268435456), (.istore 5, 2, 5, 0, 0), (.iconst 0, 1, 0, 0, 0), (.istore 6, 2, 6, 0, 0)], 40),
  (40, [(.iload 6, 2, 6, 0, 0), (.aload_n 0, 1, 0, 0, 0), (.getfield 70, 3, 11, 7, 0), (.if_icmp .ge 89, 3, 135, 0, 0), (.aload_n 0, 1, 0, 0, 0), (.getfield 7, 3, 11, 0, 0), (.iload 6, 2, 6, 0, 0), (.iaload, 1, 0, 0, 0), (.iload_n 1, 1, 1, 0, 0), (.if_icmp .eq 17, 3, 74, 0, 0), (.aload_n 0, 1, 0, 0, 0), (.getfield 7, 3, 11, 0, 0), (.iload 6, 2, 6, 0, 0), (.iaload, 1, 0, 0, 0), (.iload_n 2, 1, 2, 0, 0), (.if_icmp .eq 6, 3, 74, 0, 0), (.goto 58, 3, 129, 0, 0)], 74),
  (74, [(.aload_n 0, 1, 0, 0, 0), (.aload_n 0, 1, 0, 0, 0), (.getfield 7, 3, 11, 0, 0), (.iload 6, 2, 6, 0, 0), (.iaload, 1, 0, 0, 0), (.iload_n 1, 1, 1, 0, 0), (.if_icmp .ne 7, 3, 90, 0, 0), (.iload_n 2, 1, 2, 0, 0), (.goto 4, 3, 91, 0, 0)], 90),
  (90, [(.iload_n 1, 1, 1, 0, 0)], 91),
  (91, [(.iload 6, 2, 6, 0, 0), (.invokevirtual 223, 3, 247, 2, 11), (.istore 7, 2, 7, 0, 0), (.iload 7, 2, 7, 0, 0), (.iload 6, 2, 6, 0, 0), (.isub, 1, 0, 0, 0), (.iload 5, 2, 5, 0, 0), (.if_icmp .ge 24, 3, 129, 0, 0), (.iload 7, 2, 7, 0, 0), (.ldc 222, 2, 0, 0, 268435456), (.if_icmp .ne 6, 3, 118, 0, 0), (.goto 14, 3, 129, 0, 0)], 118),
  (118, [(.iload 6, 2, 6, 0, 0), (.istore 4, 2, 4, 0, 0), (.iload 7, 2, 7, 0, 0), (.iload 6, 2, 6, 0, 0), (.isub, 1, 0, 0, 0), (.istore 5, 2, 5, 0, 0)], 129),
  (129, [(.iinc 6 1, 3, 6, 0, 1), (.goto (-92), 3, 40, 0, 0)], 135),
  (135, [(.iload 4, 2, 4, 0, 0), (.ifCond .lt 8, 3, 145, 0, 0), (.iload_n 3, 1, 3, 0, 0), (.iconst 1, 1, 0, 0, 1), (.if_icmp .ne 8, 3, 150, 0, 0)], 145),
  (145, [(.iload 4, 2, 4, 0, 0), (.goto 5, 3, 152, 0, 0)], 150),
  (150, [(.iload 5, 2, 5, 0, 0)], 152),
  (152, [(.ireturn, 1, 0, 0, 0)], 153)]
set_option maxRecDepth 100000 in
theorem ok_X11_apart : pm_oks 11 false 8 (some .int) cX11_apart bk_X11_apart = true := by decide +kernel
set_option maxRecDepth 100000 in
theorem me_X11_apart : pm_me 246 = (yX11_apart, cX11_apart, 8, (some .int), 3, 0) := rfl
theorem mt_X11_apart {l : Launch} {g : pm_G} {d mc ms : Nat} {as : List Value} {A : pm_H} {Q : Option Value → pm_H → Prop} (hca : pm_cat 8 as = true) (body : ∀ J : pm_J, pm_Cl l g (fun _ => none) d mc ms (pm_Rq mc ms Q) bk_X11_apart J → J 0 (pm_l0 8 as) [] A 0 0) : pm_Mt l g 246 d mc ms as A Q := pm_Mt_of (isI := false) 11 bk_X11_apart me_X11_apart (plainFor_of_name (by decide +kernel)) (by decide +kernel) (fun h => by cases h) ok_X11_apart hca body
def bk_X11_nextBehind : pm_B := [(0, [(.iload_n 2, 1, 2, 0, 0), (.iconst 1, 1, 0, 0, 1), (.iadd, 1, 0, 0, 0), (.istore_n 3, 1, 3, 0, 0)], 4),
  (4, [(.iload_n 3, 1, 3, 0, 0), (.aload_n 0, 1, 0, 0, 0), (.getfield 70, 3, 11, 7, 0), (.if_icmp .ge 21, 3, 30, 0, 0), (.aload_n 0, 1, 0, 0, 0), (.getfield 7, 3, 11, 0, 0), (.iload_n 3, 1, 3, 0, 0), (.iaload, 1, 0, 0, 0), (.iload_n 1, 1, 1, 0, 0), (.if_icmp .ne 5, 3, 24, 0, 0), (.iload_n 3, 1, 3, 0, 0), (.ireturn, 1, 0, 0, 0)], 24),
  (24, [(.iinc 3 1, 3, 3, 0, 1), (.goto (-23), 3, 4, 0, 0)], 30),
  (30, [(.ldc 222, 2, 0, 0, 268435456), (.ireturn, 1, 0, 0, 0)], 33)]
set_option maxRecDepth 100000 in
theorem ok_X11_nextBehind : pm_oks 11 false 4 (some .int) cX11_nextBehind bk_X11_nextBehind = true := by decide +kernel
set_option maxRecDepth 100000 in
theorem me_X11_nextBehind : pm_me 247 = (yX11_nextBehind, cX11_nextBehind, 4, (some .int), 2, 0) := rfl
theorem mt_X11_nextBehind {l : Launch} {g : pm_G} {d mc ms : Nat} {as : List Value} {A : pm_H} {Q : Option Value → pm_H → Prop} (hca : pm_cat 4 as = true) (body : ∀ J : pm_J, pm_Cl l g (fun _ => none) d mc ms (pm_Rq mc ms Q) bk_X11_nextBehind J → J 0 (pm_l0 4 as) [] A 0 0) : pm_Mt l g 247 d mc ms as A Q := pm_Mt_of (isI := false) 11 bk_X11_nextBehind me_X11_nextBehind (plainFor_of_name (by decide +kernel)) (by decide +kernel) (fun h => by cases h) ok_X11_nextBehind hca body
def bk_X11_reach : pm_B := [(0, [(.aload_n 0, 1, 0, 0, 0), (.iload_n 1, 1, 1, 0, 0), (.invokevirtual 119, 3, 168, 1, 11), (.ifCond .eq 8, 3, 13, 0, 0), (.iload_n 2, 1, 2, 0, 0), (.iconst 1, 1, 0, 0, 1), (.if_icmp .ge 5, 3, 15, 0, 0)], 13),
  (13, [(.iconst (-1), 1, 0, 0, -1), (.ireturn, 1, 0, 0, 0)], 15),
  (15, [(.iload_n 1, 1, 1, 0, 0), (.istore_n 3, 1, 3, 0, 0)], 17),
  (17, [(.iload_n 3, 1, 3, 0, 0), (.aload_n 0, 1, 0, 0, 0), (.getfield 70, 3, 11, 7, 0), (.if_icmp .ge 21, 3, 43, 0, 0), (.aload_n 0, 1, 0, 0, 0), (.iload_n 1, 1, 1, 0, 0), (.iload_n 3, 1, 3, 0, 0), (.invokevirtual 171, 3, 209, 2, 11), (.iload_n 2, 1, 2, 0, 0), (.if_icmp .lt 5, 3, 37, 0, 0), (.iload_n 3, 1, 3, 0, 0), (.ireturn, 1, 0, 0, 0)], 37),
  (37, [(.iinc 3 1, 3, 3, 0, 1), (.goto (-23), 3, 17, 0, 0)], 43),
  (43, [(.iconst (-1), 1, 0, 0, -1), (.ireturn, 1, 0, 0, 0)], 45)]
set_option maxRecDepth 100000 in
theorem ok_X11_reach : pm_oks 11 false 4 (some .int) cX11_reach bk_X11_reach = true := by decide +kernel
set_option maxRecDepth 100000 in
theorem me_X11_reach : pm_me 248 = (yX11_reach, cX11_reach, 4, (some .int), 2, 0) := rfl
theorem mt_X11_reach {l : Launch} {g : pm_G} {d mc ms : Nat} {as : List Value} {A : pm_H} {Q : Option Value → pm_H → Prop} (hca : pm_cat 4 as = true) (body : ∀ J : pm_J, pm_Cl l g (fun _ => none) d mc ms (pm_Rq mc ms Q) bk_X11_reach J → J 0 (pm_l0 4 as) [] A 0 0) : pm_Mt l g 248 d mc ms as A Q := pm_Mt_of (isI := false) 11 bk_X11_reach me_X11_reach (plainFor_of_name (by decide +kernel)) (by decide +kernel) (fun h => by cases h) ok_X11_reach hca body
def bk_X11_reachBack : pm_B := [(0, [(.aload_n 0, 1, 0, 0, 0), (.iload_n 1, 1, 1, 0, 0), (.invokevirtual 119, 3, 168, 1, 11), (.ifCond .eq 8, 3, 13, 0, 0), (.iload_n 2, 1, 2, 0, 0), (.iconst 1, 1, 0, 0, 1), (.if_icmp .ge 5, 3, 15, 0, 0)], 13),
  (13, [(.iconst (-1), 1, 0, 0, -1), (.ireturn, 1, 0, 0, 0)], 15),
  (15, [(.iload_n 1, 1, 1, 0, 0), (.istore_n 3, 1, 3, 0, 0)], 17),
  (17, [(.iload_n 3, 1, 3, 0, 0), (.ifCond .lt 21, 3, 39, 0, 0), (.aload_n 0, 1, 0, 0, 0), (.iload_n 3, 1, 3, 0, 0), (.iload_n 1, 1, 1, 0, 0), (.invokevirtual 171, 3, 209, 2, 11), (.iload_n 2, 1, 2, 0, 0), (.if_icmp .lt 5, 3, 33, 0, 0), (.iload_n 3, 1, 3, 0, 0), (.ireturn, 1, 0, 0, 0)], 33),
  (33, [(.iinc 3 (-1), 3, 3, 0, -1), (.goto (-19), 3, 17, 0, 0)], 39),
  (39, [(.iconst (-1), 1, 0, 0, -1), (.ireturn, 1, 0, 0, 0)], 41)]
set_option maxRecDepth 100000 in
theorem ok_X11_reachBack : pm_oks 11 false 4 (some .int) cX11_reachBack bk_X11_reachBack = true := by decide +kernel
set_option maxRecDepth 100000 in
theorem me_X11_reachBack : pm_me 249 = (yX11_reachBack, cX11_reachBack, 4, (some .int), 2, 0) := rfl
theorem mt_X11_reachBack {l : Launch} {g : pm_G} {d mc ms : Nat} {as : List Value} {A : pm_H} {Q : Option Value → pm_H → Prop} (hca : pm_cat 4 as = true) (body : ∀ J : pm_J, pm_Cl l g (fun _ => none) d mc ms (pm_Rq mc ms Q) bk_X11_reachBack J → J 0 (pm_l0 4 as) [] A 0 0) : pm_Mt l g 249 d mc ms as A Q := pm_Mt_of (isI := false) 11 bk_X11_reachBack me_X11_reachBack (plainFor_of_name (by decide +kernel)) (by decide +kernel) (fun h => by cases h) ok_X11_reachBack hca body
def bk_X11_load : pm_B := [(0, [(.aload_n 0, 1, 0, 0, 0), (.iload_n 1, 1, 1, 0, 0), (.invokevirtual 119, 3, 168, 1, 11), (.ifCond .eq 8, 3, 13, 0, 0), (.iload_n 2, 1, 2, 0, 0), (.iconst 1, 1, 0, 0, 1), (.if_icmp .ge 5, 3, 15, 0, 0)], 13),
  (13, [(.iconst (-1), 1, 0, 0, -1), (.ireturn, 1, 0, 0, 0)], 15),
  (15, [(.iload_n 1, 1, 1, 0, 0), (.istore_n 3, 1, 3, 0, 0)], 17),
  (17, [(.iload_n 3, 1, 3, 0, 0), (.aload_n 0, 1, 0, 0, 0), (.getfield 70, 3, 11, 7, 0), (.if_icmp .ge 25, 3, 47, 0, 0), (.aload_n 0, 1, 0, 0, 0), (.aload_n 0, 1, 0, 0, 0), (.iload_n 1, 1, 1, 0, 0), (.iload_n 3, 1, 3, 0, 0), (.invokevirtual 161, 3, 206, 2, 11), (.invokevirtual 174, 3, 211, 1, 11), (.iload_n 2, 1, 2, 0, 0), (.if_icmp .lt 5, 3, 41, 0, 0), (.iload_n 3, 1, 3, 0, 0), (.ireturn, 1, 0, 0, 0)], 41),
  (41, [(.iinc 3 1, 3, 3, 0, 1), (.goto (-27), 3, 17, 0, 0)], 47),
  (47, [(.iconst (-1), 1, 0, 0, -1), (.ireturn, 1, 0, 0, 0)], 49)]
set_option maxRecDepth 100000 in
theorem ok_X11_load : pm_oks 11 false 4 (some .int) cX11_load bk_X11_load = true := by decide +kernel
set_option maxRecDepth 100000 in
theorem me_X11_load : pm_me 250 = (yX11_load, cX11_load, 4, (some .int), 2, 0) := rfl
theorem mt_X11_load {l : Launch} {g : pm_G} {d mc ms : Nat} {as : List Value} {A : pm_H} {Q : Option Value → pm_H → Prop} (hca : pm_cat 4 as = true) (body : ∀ J : pm_J, pm_Cl l g (fun _ => none) d mc ms (pm_Rq mc ms Q) bk_X11_load J → J 0 (pm_l0 4 as) [] A 0 0) : pm_Mt l g 250 d mc ms as A Q := pm_Mt_of (isI := false) 11 bk_X11_load me_X11_load (plainFor_of_name (by decide +kernel)) (by decide +kernel) (fun h => by cases h) ok_X11_load hca body
def bk_X11_window : pm_B := [(0, [(.iload_n 1, 1, 1, 0, 0), (.iconst 1, 1, 0, 0, 1), (.ldc 226, 2, 0, 0, 16777215), (.invokestatic 74, 3, 169, 3, 0), (.ifCond .eq 12, 3, 19, 0, 0), (.iload_n 2, 1, 2, 0, 0), (.iconst 0, 1, 0, 0, 0), (.iconst 2, 1, 0, 0, 2), (.invokestatic 74, 3, 169, 3, 0), (.ifCond .ne 5, 3, 21, 0, 0)], 19),
  (19, [(.iconst (-1), 1, 0, 0, -1), (.ireturn, 1, 0, 0, 0)], 21),
  (21, [(.iconst 0, 1, 0, 0, 0), (.istore_n 3, 1, 3, 0, 0), (.iconst (-1), 1, 0, 0, -1), (.istore 4, 2, 4, 0, 0), (.iconst 0, 1, 0, 0, 0), (.istore 5, 2, 5, 0, 0), (.iconst 0, 1, 0, 0, 0), (.istore 6, 2, 6, 0, 0)], 32),
  (32, [(.iload 6, 2, 6, 0, 0), (.aload_n 0, 1, 0, 0, 0), (.getfield 70, 3, 11, 7, 0), (.if_icmp .ge 114, 3, 152, 0, 0), (.iconst 0, 1, 0, 0, 0), (.istore 7, 2, 7, 0, 0), (.iload 6, 2, 6, 0, 0), (.istore 8, 2, 8, 0, 0)], 48),
  (48, [(.iload 8, 2, 8, 0, 0), (.aload_n 0, 1, 0, 0, 0), (.getfield 70, 3, 11, 7, 0), (.if_icmp .ge 41, 3, 95, 0, 0), (.iload 7, 2, 7, 0, 0), (.iconst 1, 1, 0, 0, 1), (.aload_n 0, 1, 0, 0, 0), (.getfield 7, 3, 11, 0, 0), (.iload 8, 2, 8, 0, 0), (.iaload, 1, 0, 0, 0), (.ishl, 1, 0, 0, 0), (.ior, 1, 0, 0, 0), (.iload_n 1, 1, 1, 0, 0), (.iand, 1, 0, 0, 0), (.iload_n 1, 1, 1, 0, 0), (.if_icmp .eq 23, 3, 95, 0, 0), (.iload 7, 2, 7, 0, 0), (.iconst 1, 1, 0, 0, 1), (.aload_n 0, 1, 0, 0, 0), (.getfield 7, 3, 11, 0, 0), (.iload 8, 2, 8, 0, 0), (.iaload, 1, 0, 0, 0), (.ishl, 1, 0, 0, 0), (.ior, 1, 0, 0, 0), (.istore 7, 2, 7, 0, 0), (.iinc 8 1, 3, 8, 0, 1), (.goto (-44), 3, 48, 0, 0)], 95),
  (95, [(.iload 8, 2, 8, 0, 0), (.aload_n 0, 1, 0, 0, 0), (.getfield 70, 3, 11, 7, 0), (.if_icmp .ne 6, 3, 107, 0, 0), (.goto 42, 3, 146, 0, 0)], 107),
  (107, [(.iload_n 3, 1, 3, 0, 0), (.aload_n 0, 1, 0, 0, 0), (.getfield 70, 3, 11, 7, 0), (.iload 8, 2, 8, 0, 0), (.isub, 1, 0, 0, 0), (.iadd, 1, 0, 0, 0), (.istore_n 3, 1, 3, 0, 0), (.iload 4, 2, 4, 0, 0), (.ifCond .lt 19, 3, 138, 0, 0), (.iload 8, 2, 8, 0, 0), (.iload 6, 2, 6, 0, 0), (.isub, 1, 0, 0, 0), (.iload 5, 2, 5, 0, 0), (.iload 4, 2, 4, 0, 0), (.isub, 1, 0, 0, 0), (.if_icmp .lt 6, 3, 138, 0, 0), (.goto 11, 3, 146, 0, 0)], 138),
  (138, [(.iload 6, 2, 6, 0, 0), (.istore 4, 2, 4, 0, 0), (.iload 8, 2, 8, 0, 0), (.istore 5, 2, 5, 0, 0)], 146),
  (146, [(.iinc 6 1, 3, 6, 0, 1), (.goto (-117), 3, 32, 0, 0)], 152),
  (152, [(.iload_n 2, 1, 2, 0, 0), (.iconst 2, 1, 0, 0, 2), (.if_icmp .ne 7, 3, 161, 0, 0), (.iload_n 3, 1, 3, 0, 0), (.goto 23, 3, 181, 0, 0)], 161),
  (161, [(.iload 4, 2, 4, 0, 0), (.ifCond .ge 7, 3, 170, 0, 0), (.iconst (-1), 1, 0, 0, -1), (.goto 14, 3, 181, 0, 0)], 170),
  (170, [(.iload_n 2, 1, 2, 0, 0), (.ifCond .ne 8, 3, 179, 0, 0), (.iload 4, 2, 4, 0, 0), (.goto 5, 3, 181, 0, 0)], 179),
  (179, [(.iload 5, 2, 5, 0, 0)], 181),
  (181, [(.ireturn, 1, 0, 0, 0)], 182)]
set_option maxRecDepth 100000 in
theorem ok_X11_window : pm_oks 11 false 9 (some .int) cX11_window bk_X11_window = true := by decide +kernel
set_option maxRecDepth 100000 in
theorem me_X11_window : pm_me 251 = (yX11_window, cX11_window, 9, (some .int), 2, 0) := rfl
theorem mt_X11_window {l : Launch} {g : pm_G} {d mc ms : Nat} {as : List Value} {A : pm_H} {Q : Option Value → pm_H → Prop} (hca : pm_cat 9 as = true) (body : ∀ J : pm_J, pm_Cl l g (fun _ => none) d mc ms (pm_Rq mc ms Q) bk_X11_window J → J 0 (pm_l0 9 as) [] A 0 0) : pm_Mt l g 251 d mc ms as A Q := pm_Mt_of (isI := false) 11 bk_X11_window me_X11_window (plainFor_of_name (by decide +kernel)) (by decide +kernel) (fun h => by cases h) ok_X11_window hca body
def bk_X11_longest : pm_B := [(0, [(.iload_n 1, 1, 1, 0, 0), (.iconst 1, 1, 0, 0, 1), (.if_icmp .lt 19, 3, 21, 0, 0), (.aload_n 0, 1, 0, 0, 0), (.getfield 70, 3, 11, 7, 0), (.ifCond .eq 12, 3, 21, 0, 0), (.iload_n 2, 1, 2, 0, 0), (.iconst 0, 1, 0, 0, 0), (.iconst 1, 1, 0, 0, 1), (.invokestatic 74, 3, 169, 3, 0), (.ifCond .ne 5, 3, 23, 0, 0)], 21),
  (21, [(.iconst (-1), 1, 0, 0, -1), (.ireturn, 1, 0, 0, 0)], 23),
  (23, [(.iconst 0, 1, 0, 0, 0), (.istore_n 3, 1, 3, 0, 0), (.iconst (-1), 1, 0, 0, -1), (.istore 4, 2, 4, 0, 0), (.iconst 0, 1, 0, 0, 0), (.istore 5, 2, 5, 0, 0)], 31),
  (31, [(.iload 5, 2, 5, 0, 0), (.aload_n 0, 1, 0, 0, 0), (.getfield 70, 3, 11, 7, 0), (.if_icmp .ge 40, 3, 77, 0, 0), (.aload_n 0, 1, 0, 0, 0), (.iload 5, 2, 5, 0, 0), (.iload_n 1, 1, 1, 0, 0), (.invokevirtual 227, 3, 253, 2, 11), (.istore 6, 2, 6, 0, 0), (.iload 6, 2, 6, 0, 0), (.iload 5, 2, 5, 0, 0), (.isub, 1, 0, 0, 0), (.iload 4, 2, 4, 0, 0), (.iload_n 3, 1, 3, 0, 0), (.isub, 1, 0, 0, 0), (.if_icmp .gt 6, 3, 64, 0, 0), (.goto 10, 3, 71, 0, 0)], 64),
  (64, [(.iload 5, 2, 5, 0, 0), (.istore_n 3, 1, 3, 0, 0), (.iload 6, 2, 6, 0, 0), (.istore 4, 2, 4, 0, 0)], 71),
  (71, [(.iinc 5 1, 3, 5, 0, 1), (.goto (-43), 3, 31, 0, 0)], 77),
  (77, [(.iload_n 2, 1, 2, 0, 0), (.ifCond .ne 7, 3, 85, 0, 0), (.iload_n 3, 1, 3, 0, 0), (.goto 5, 3, 87, 0, 0)], 85),
  (85, [(.iload 4, 2, 4, 0, 0)], 87),
  (87, [(.ireturn, 1, 0, 0, 0)], 88)]
set_option maxRecDepth 100000 in
theorem ok_X11_longest : pm_oks 11 false 7 (some .int) cX11_longest bk_X11_longest = true := by decide +kernel
set_option maxRecDepth 100000 in
theorem me_X11_longest : pm_me 252 = (yX11_longest, cX11_longest, 7, (some .int), 2, 0) := rfl
theorem mt_X11_longest {l : Launch} {g : pm_G} {d mc ms : Nat} {as : List Value} {A : pm_H} {Q : Option Value → pm_H → Prop} (hca : pm_cat 7 as = true) (body : ∀ J : pm_J, pm_Cl l g (fun _ => none) d mc ms (pm_Rq mc ms Q) bk_X11_longest J → J 0 (pm_l0 7 as) [] A 0 0) : pm_Mt l g 252 d mc ms as A Q := pm_Mt_of (isI := false) 11 bk_X11_longest me_X11_longest (plainFor_of_name (by decide +kernel)) (by decide +kernel) (fun h => by cases h) ok_X11_longest hca body
def bk_X11_farthest : pm_B := [(0, [(.iconst 0, 1, 0, 0, 0), (.istore_n 3, 1, 3, 0, 0), (.iload_n 1, 1, 1, 0, 0), (.istore 4, 2, 4, 0, 0)], 5),
  (5, [(.iload 4, 2, 4, 0, 0), (.aload_n 0, 1, 0, 0, 0), (.getfield 70, 3, 11, 7, 0), (.if_icmp .ge 39, 3, 50, 0, 0), (.iload_n 3, 1, 3, 0, 0), (.iconst 1, 1, 0, 0, 1), (.aload_n 0, 1, 0, 0, 0), (.getfield 7, 3, 11, 0, 0), (.iload 4, 2, 4, 0, 0), (.iaload, 1, 0, 0, 0), (.ishl, 1, 0, 0, 0), (.ior, 1, 0, 0, 0), (.invokestatic 165, 3, 207, 1, 0), (.iload_n 2, 1, 2, 0, 0), (.if_icmp .gt 21, 3, 50, 0, 0), (.iload_n 3, 1, 3, 0, 0), (.iconst 1, 1, 0, 0, 1), (.aload_n 0, 1, 0, 0, 0), (.getfield 7, 3, 11, 0, 0), (.iload 4, 2, 4, 0, 0), (.iaload, 1, 0, 0, 0), (.ishl, 1, 0, 0, 0), (.ior, 1, 0, 0, 0), (.istore_n 3, 1, 3, 0, 0), (.iinc 4 1, 3, 4, 0, 1), (.goto (-42), 3, 5, 0, 0)], 50),
  (50, [(.iload 4, 2, 4, 0, 0), (.iconst 1, 1, 0, 0, 1), (.isub, 1, 0, 0, 0), (.ireturn, 1, 0, 0, 0)], 55)]
set_option maxRecDepth 100000 in
theorem ok_X11_farthest : pm_oks 11 false 5 (some .int) cX11_farthest bk_X11_farthest = true := by decide +kernel
set_option maxRecDepth 100000 in
theorem me_X11_farthest : pm_me 253 = (yX11_farthest, cX11_farthest, 5, (some .int), 2, 0) := rfl
theorem mt_X11_farthest {l : Launch} {g : pm_G} {d mc ms : Nat} {as : List Value} {A : pm_H} {Q : Option Value → pm_H → Prop} (hca : pm_cat 5 as = true) (body : ∀ J : pm_J, pm_Cl l g (fun _ => none) d mc ms (pm_Rq mc ms Q) bk_X11_farthest J → J 0 (pm_l0 5 as) [] A 0 0) : pm_Mt l g 253 d mc ms as A Q := pm_Mt_of (isI := false) 11 bk_X11_farthest me_X11_farthest (plainFor_of_name (by decide +kernel)) (by decide +kernel) (fun h => by cases h) ok_X11_farthest hca body
def bk_X11_unlike : pm_B := [(0, [(.aload_n 0, 1, 0, 0, 0), (.getfield 70, 3, 11, 7, 0), (.ifCond .eq 12, 3, 16, 0, 0), (.iload_n 1, 1, 1, 0, 0), (.iconst 0, 1, 0, 0, 0), (.iconst 1, 1, 0, 0, 1), (.invokestatic 74, 3, 169, 3, 0), (.ifCond .ne 5, 3, 18, 0, 0)], 16),
  (16, [(.iconst (-1), 1, 0, 0, -1), (.ireturn, 1, 0, 0, 0)], 18),
  (18, [(.iconst 0, 1, 0, 0, 0), (.istore_n 2, 1, 2, 0, 0), (.iconst (-1), 1, 0, 0, -1), (.istore_n 3, 1, 3, 0, 0), (.iconst 0, 1, 0, 0, 0), (.istore 4, 2, 4, 0, 0)], 25),
  (25, [(.iload 4, 2, 4, 0, 0), (.aload_n 0, 1, 0, 0, 0), (.getfield 70, 3, 11, 7, 0), (.if_icmp .ge 63, 3, 94, 0, 0), (.iload 4, 2, 4, 0, 0), (.istore 5, 2, 5, 0, 0)], 38),
  (38, [(.iload 5, 2, 5, 0, 0), (.iconst 1, 1, 0, 0, 1), (.iadd, 1, 0, 0, 0), (.aload_n 0, 1, 0, 0, 0), (.getfield 70, 3, 11, 7, 0), (.if_icmp .ge 22, 3, 68, 0, 0), (.aload_n 0, 1, 0, 0, 0), (.iload 5, 2, 5, 0, 0), (.iconst 1, 1, 0, 0, 1), (.iadd, 1, 0, 0, 0), (.invokevirtual 78, 3, 174, 1, 11), (.iload 4, 2, 4, 0, 0), (.if_icmp .ge 9, 3, 68, 0, 0), (.iinc 5 1, 3, 5, 0, 1), (.goto (-27), 3, 38, 0, 0)], 68),
  (68, [(.iload 5, 2, 5, 0, 0), (.iload 4, 2, 4, 0, 0), (.isub, 1, 0, 0, 0), (.iload_n 3, 1, 3, 0, 0), (.iload_n 2, 1, 2, 0, 0), (.isub, 1, 0, 0, 0), (.if_icmp .gt 6, 3, 82, 0, 0), (.goto 9, 3, 88, 0, 0)], 82),
  (82, [(.iload 4, 2, 4, 0, 0), (.istore_n 2, 1, 2, 0, 0), (.iload 5, 2, 5, 0, 0), (.istore_n 3, 1, 3, 0, 0)], 88),
  (88, [(.iinc 4 1, 3, 4, 0, 1), (.goto (-66), 3, 25, 0, 0)], 94),
  (94, [(.iload_n 1, 1, 1, 0, 0), (.ifCond .ne 7, 3, 102, 0, 0), (.iload_n 2, 1, 2, 0, 0), (.goto 4, 3, 103, 0, 0)], 102),
  (102, [(.iload_n 3, 1, 3, 0, 0)], 103),
  (103, [(.ireturn, 1, 0, 0, 0)], 104)]
set_option maxRecDepth 100000 in
theorem ok_X11_unlike : pm_oks 11 false 6 (some .int) cX11_unlike bk_X11_unlike = true := by decide +kernel
set_option maxRecDepth 100000 in
theorem me_X11_unlike : pm_me 254 = (yX11_unlike, cX11_unlike, 6, (some .int), 1, 0) := rfl
theorem mt_X11_unlike {l : Launch} {g : pm_G} {d mc ms : Nat} {as : List Value} {A : pm_H} {Q : Option Value → pm_H → Prop} (hca : pm_cat 6 as = true) (body : ∀ J : pm_J, pm_Cl l g (fun _ => none) d mc ms (pm_Rq mc ms Q) bk_X11_unlike J → J 0 (pm_l0 6 as) [] A 0 0) : pm_Mt l g 254 d mc ms as A Q := pm_Mt_of (isI := false) 11 bk_X11_unlike me_X11_unlike (plainFor_of_name (by decide +kernel)) (by decide +kernel) (fun h => by cases h) ok_X11_unlike hca body
def bk_X11_heaviest : pm_B := [(0, [(.iload_n 1, 1, 1, 0, 0), (.iconst 1, 1, 0, 0, 1), (.aload_n 0, 1, 0, 0, 0), (.getfield 70, 3, 11, 7, 0), (.invokestatic 74, 3, 169, 3, 0), (.ifCond .eq 12, 3, 21, 0, 0), (.iload_n 2, 1, 2, 0, 0), (.iconst 0, 1, 0, 0, 0), (.iconst 1, 1, 0, 0, 1), (.invokestatic 74, 3, 169, 3, 0), (.ifCond .ne 5, 3, 23, 0, 0)], 21),
  (21, [(.iconst (-1), 1, 0, 0, -1), (.ireturn, 1, 0, 0, 0)], 23),
  (23, [(.iconst (-1), 1, 0, 0, -1), (.istore_n 3, 1, 3, 0, 0), (.iconst (-1), 1, 0, 0, -1), (.istore 4, 2, 4, 0, 0), (.iconst 0, 1, 0, 0, 0), (.istore 5, 2, 5, 0, 0)], 31),
  (31, [(.iload 5, 2, 5, 0, 0), (.iload_n 1, 1, 1, 0, 0), (.iadd, 1, 0, 0, 0), (.aload_n 0, 1, 0, 0, 0), (.getfield 70, 3, 11, 7, 0), (.if_icmp .gt 44, 3, 83, 0, 0), (.aload_n 0, 1, 0, 0, 0), (.aload_n 0, 1, 0, 0, 0), (.iload 5, 2, 5, 0, 0), (.iload 5, 2, 5, 0, 0), (.iload_n 1, 1, 1, 0, 0), (.iadd, 1, 0, 0, 0), (.iconst 1, 1, 0, 0, 1), (.isub, 1, 0, 0, 0), (.invokevirtual 161, 3, 206, 2, 11), (.invokevirtual 174, 3, 211, 1, 11), (.istore 6, 2, 6, 0, 0), (.iload 6, 2, 6, 0, 0), (.iload 4, 2, 4, 0, 0), (.if_icmp .gt 6, 3, 70, 0, 0), (.goto 10, 3, 77, 0, 0)], 70),
  (70, [(.iload 5, 2, 5, 0, 0), (.istore_n 3, 1, 3, 0, 0), (.iload 6, 2, 6, 0, 0), (.istore 4, 2, 4, 0, 0)], 77),
  (77, [(.iinc 5 1, 3, 5, 0, 1), (.goto (-49), 3, 31, 0, 0)], 83),
  (83, [(.iload_n 2, 1, 2, 0, 0), (.ifCond .ne 7, 3, 91, 0, 0), (.iload_n 3, 1, 3, 0, 0), (.goto 5, 3, 93, 0, 0)], 91),
  (91, [(.iload 4, 2, 4, 0, 0)], 93),
  (93, [(.ireturn, 1, 0, 0, 0)], 94)]
set_option maxRecDepth 100000 in
theorem ok_X11_heaviest : pm_oks 11 false 7 (some .int) cX11_heaviest bk_X11_heaviest = true := by decide +kernel
set_option maxRecDepth 100000 in
theorem me_X11_heaviest : pm_me 255 = (yX11_heaviest, cX11_heaviest, 7, (some .int), 2, 0) := rfl
theorem mt_X11_heaviest {l : Launch} {g : pm_G} {d mc ms : Nat} {as : List Value} {A : pm_H} {Q : Option Value → pm_H → Prop} (hca : pm_cat 7 as = true) (body : ∀ J : pm_J, pm_Cl l g (fun _ => none) d mc ms (pm_Rq mc ms Q) bk_X11_heaviest J → J 0 (pm_l0 7 as) [] A 0 0) : pm_Mt l g 255 d mc ms as A Q := pm_Mt_of (isI := false) 11 bk_X11_heaviest me_X11_heaviest (plainFor_of_name (by decide +kernel)) (by decide +kernel) (fun h => by cases h) ok_X11_heaviest hca body
def bk_X11_distance : pm_B := [(0, [(.aload_n 0, 1, 0, 0, 0), (.iload_n 1, 1, 1, 0, 0), (.invokevirtual 119, 3, 168, 1, 11), (.ifCond .eq 31, 3, 36, 0, 0), (.aload_n 0, 1, 0, 0, 0), (.iload_n 1, 1, 1, 0, 0), (.invokevirtual 78, 3, 174, 1, 11), (.ifCond .lt 23, 3, 36, 0, 0), (.aload_n 0, 1, 0, 0, 0), (.aload_n 0, 1, 0, 0, 0), (.iload_n 1, 1, 1, 0, 0), (.invokevirtual 78, 3, 174, 1, 11), (.iconst 1, 1, 0, 0, 1), (.iadd, 1, 0, 0, 0), (.iload_n 1, 1, 1, 0, 0), (.iconst 1, 1, 0, 0, 1), (.isub, 1, 0, 0, 0), (.invokevirtual 161, 3, 206, 2, 11), (.invokestatic 165, 3, 207, 1, 0), (.goto 4, 3, 37, 0, 0)], 36),
  (36, [(.iconst (-1), 1, 0, 0, -1)], 37),
  (37, [(.ireturn, 1, 0, 0, 0)], 38)]
set_option maxRecDepth 100000 in
theorem ok_X11_distance : pm_oks 11 false 2 (some .int) cX11_distance bk_X11_distance = true := by decide +kernel
set_option maxRecDepth 100000 in
theorem me_X11_distance : pm_me 256 = (yX11_distance, cX11_distance, 2, (some .int), 1, 0) := rfl
theorem mt_X11_distance {l : Launch} {g : pm_G} {d mc ms : Nat} {as : List Value} {A : pm_H} {Q : Option Value → pm_H → Prop} (hca : pm_cat 2 as = true) (body : ∀ J : pm_J, pm_Cl l g (fun _ => none) d mc ms (pm_Rq mc ms Q) bk_X11_distance J → J 0 (pm_l0 2 as) [] A 0 0) : pm_Mt l g 256 d mc ms as A Q := pm_Mt_of (isI := false) 11 bk_X11_distance me_X11_distance (plainFor_of_name (by decide +kernel)) (by decide +kernel) (fun h => by cases h) ok_X11_distance hca body
def bk_X11_misses : pm_B := [(0, [(.iload_n 1, 1, 1, 0, 0), (.iload_n 2, 1, 2, 0, 0), (.invokestatic 239, 3, 258, 2, 0), (.ifCond .eq 18, 3, 23, 0, 0), (.aload_n 0, 1, 0, 0, 0), (.aload_n 0, 1, 0, 0, 0), (.getfield 70, 3, 11, 7, 0), (.iconst 1, 1, 0, 0, 1), (.isub, 1, 0, 0, 0), (.iload_n 1, 1, 1, 0, 0), (.iload_n 2, 1, 2, 0, 0), (.invokevirtual 242, 3, 259, 3, 11), (.goto 4, 3, 24, 0, 0)], 23),
  (23, [(.iconst (-1), 1, 0, 0, -1)], 24),
  (24, [(.ireturn, 1, 0, 0, 0)], 25)]
set_option maxRecDepth 100000 in
theorem ok_X11_misses : pm_oks 11 false 3 (some .int) cX11_misses bk_X11_misses = true := by decide +kernel
set_option maxRecDepth 100000 in
theorem me_X11_misses : pm_me 257 = (yX11_misses, cX11_misses, 3, (some .int), 2, 0) := rfl
theorem mt_X11_misses {l : Launch} {g : pm_G} {d mc ms : Nat} {as : List Value} {A : pm_H} {Q : Option Value → pm_H → Prop} (hca : pm_cat 3 as = true) (body : ∀ J : pm_J, pm_Cl l g (fun _ => none) d mc ms (pm_Rq mc ms Q) bk_X11_misses J → J 0 (pm_l0 3 as) [] A 0 0) : pm_Mt l g 257 d mc ms as A Q := pm_Mt_of (isI := false) 11 bk_X11_misses me_X11_misses (plainFor_of_name (by decide +kernel)) (by decide +kernel) (fun h => by cases h) ok_X11_misses hca body
def bk_X11_isShelf : pm_B := [(0, [(.iload_n 0, 1, 0, 0, 0), (.iconst 1, 1, 0, 0, 1), (.bipush 24, 2, 0, 0, 24), (.invokestatic 74, 3, 169, 3, 0), (.ifCond .eq 16, 3, 23, 0, 0), (.iload_n 1, 1, 1, 0, 0), (.iconst 0, 1, 0, 0, 0), (.iconst 1, 1, 0, 0, 1), (.invokestatic 74, 3, 169, 3, 0), (.ifCond .eq 7, 3, 23, 0, 0), (.iconst 1, 1, 0, 0, 1), (.goto 4, 3, 24, 0, 0)], 23),
  (23, [(.iconst 0, 1, 0, 0, 0)], 24),
  (24, [(.ireturn, 1, 1, 0, 0)], 25)]
set_option maxRecDepth 100000 in
theorem ok_X11_isShelf : pm_oks 11 false 2 (some .boolean) cX11_isShelf bk_X11_isShelf = true := by decide +kernel
set_option maxRecDepth 100000 in
theorem me_X11_isShelf : pm_me 258 = (yX11_isShelf, cX11_isShelf, 2, (some .boolean), 2, 1) := rfl
theorem mt_X11_isShelf {l : Launch} {g : pm_G} {d mc ms : Nat} {as : List Value} {A : pm_H} {Q : Option Value → pm_H → Prop} (hca : pm_cat 2 as = true) (body : ∀ J : pm_J, pm_Cl l g (fun _ => none) d mc ms (pm_Rq mc ms Q) bk_X11_isShelf J → J 0 (pm_l0 2 as) [] A 0 0) : pm_Mt l g 258 d mc ms as A Q := pm_Mt_of (isI := false) 11 bk_X11_isShelf me_X11_isShelf (plainFor_of_name (by decide +kernel)) (by decide +kernel) (fun h => by cases h) ok_X11_isShelf hca body
def bk_X11_goOver : pm_B := [(0, [(.iconst 0, 1, 0, 0, 0), (.istore 4, 2, 4, 0, 0), (.aload_n 0, 1, 0, 0, 0), (.iconst 0, 1, 0, 0, 0), (.putfield 230, 3, 11, 24, 0), (.iconst 0, 1, 0, 0, 0), (.istore 5, 2, 5, 0, 0)], 11),
  (11, [(.iload 5, 2, 5, 0, 0), (.iload_n 1, 1, 1, 0, 0), (.if_icmp .gt 82, 3, 96, 0, 0), (.aload_n 0, 1, 0, 0, 0), (.getfield 230, 3, 11, 24, 0), (.aload_n 0, 1, 0, 0, 0), (.getfield 7, 3, 11, 0, 0), (.iload 5, 2, 5, 0, 0), (.iaload, 1, 0, 0, 0), (.ishr, 1, 0, 0, 0), (.iconst 1, 1, 0, 0, 1), (.iand, 1, 0, 0, 0), (.iconst 1, 1, 0, 0, 1), (.if_icmp .ne 6, 3, 38, 0, 0), (.goto 55, 3, 90, 0, 0)], 38),
  (38, [(.iinc 4 1, 3, 4, 0, 1), (.aload_n 0, 1, 0, 0, 0), (.getfield 230, 3, 11, 24, 0), (.invokestatic 165, 3, 207, 1, 0), (.iload_n 2, 1, 2, 0, 0), (.if_icmp .ne 23, 3, 72, 0, 0), (.aload_n 0, 1, 0, 0, 0), (.dup, 1, 0, 0, 0), (.getfield 230, 3, 11, 24, 0), (.iconst 1, 1, 0, 0, 1), (.aload_n 0, 1, 0, 0, 0), (.iload 5, 2, 5, 0, 0), (.iload_n 3, 1, 3, 0, 0), (.invokevirtual 236, 3, 260, 2, 11), (.ishl, 1, 0, 0, 0), (.iconst (-1), 1, 0, 0, -1), (.ixor, 1, 0, 0, 0), (.iand, 1, 0, 0, 0), (.putfield 230, 3, 11, 24, 0)], 72),
  (72, [(.aload_n 0, 1, 0, 0, 0), (.dup, 1, 0, 0, 0), (.getfield 230, 3, 11, 24, 0), (.iconst 1, 1, 0, 0, 1), (.aload_n 0, 1, 0, 0, 0), (.getfield 7, 3, 11, 0, 0), (.iload 5, 2, 5, 0, 0), (.iaload, 1, 0, 0, 0), (.ishl, 1, 0, 0, 0), (.ior, 1, 0, 0, 0), (.putfield 230, 3, 11, 24, 0)], 90),
  (90, [(.iinc 5 1, 3, 5, 0, 1), (.goto (-82), 3, 11, 0, 0)], 96),
  (96, [(.iload 4, 2, 4, 0, 0), (.ireturn, 1, 0, 0, 0)], 99)]
set_option maxRecDepth 100000 in
theorem ok_X11_goOver : pm_oks 11 false 6 (some .int) cX11_goOver bk_X11_goOver = true := by decide +kernel
set_option maxRecDepth 100000 in
theorem me_X11_goOver : pm_me 259 = (yX11_goOver, cX11_goOver, 6, (some .int), 3, 0) := rfl
theorem mt_X11_goOver {l : Launch} {g : pm_G} {d mc ms : Nat} {as : List Value} {A : pm_H} {Q : Option Value → pm_H → Prop} (hca : pm_cat 6 as = true) (body : ∀ J : pm_J, pm_Cl l g (fun _ => none) d mc ms (pm_Rq mc ms Q) bk_X11_goOver J → J 0 (pm_l0 6 as) [] A 0 0) : pm_Mt l g 259 d mc ms as A Q := pm_Mt_of (isI := false) 11 bk_X11_goOver me_X11_goOver (plainFor_of_name (by decide +kernel)) (by decide +kernel) (fun h => by cases h) ok_X11_goOver hca body
def bk_X11_goner : pm_B := [(0, [(.iconst (-1), 1, 0, 0, -1), (.istore_n 3, 1, 3, 0, 0), (.iconst (-1), 1, 0, 0, -1), (.istore 4, 2, 4, 0, 0), (.iconst 0, 1, 0, 0, 0), (.istore 5, 2, 5, 0, 0)], 8),
  (8, [(.iload 5, 2, 5, 0, 0), (.bipush 24, 2, 0, 0, 24), (.if_icmp .ge 66, 3, 78, 0, 0), (.aload_n 0, 1, 0, 0, 0), (.getfield 230, 3, 11, 24, 0), (.iload 5, 2, 5, 0, 0), (.ishr, 1, 0, 0, 0), (.iconst 1, 1, 0, 0, 1), (.iand, 1, 0, 0, 0), (.ifCond .ne 6, 3, 30, 0, 0), (.goto 45, 3, 72, 0, 0)], 30),
  (30, [(.iload_n 2, 1, 2, 0, 0), (.ifCond .ne 15, 3, 46, 0, 0), (.iload_n 1, 1, 1, 0, 0), (.aload_n 0, 1, 0, 0, 0), (.iload 5, 2, 5, 0, 0), (.iload_n 1, 1, 1, 0, 0), (.invokevirtual 233, 3, 261, 2, 11), (.isub, 1, 0, 0, 0), (.goto 10, 3, 53, 0, 0)], 46),
  (46, [(.aload_n 0, 1, 0, 0, 0), (.iload 5, 2, 5, 0, 0), (.iload_n 1, 1, 1, 0, 0), (.invokevirtual 223, 3, 247, 2, 11)], 53),
  (53, [(.istore 6, 2, 6, 0, 0), (.iload 6, 2, 6, 0, 0), (.iload 4, 2, 4, 0, 0), (.if_icmp .gt 6, 3, 65, 0, 0), (.goto 10, 3, 72, 0, 0)], 65),
  (65, [(.iload 5, 2, 5, 0, 0), (.istore_n 3, 1, 3, 0, 0), (.iload 6, 2, 6, 0, 0), (.istore 4, 2, 4, 0, 0)], 72),
  (72, [(.iinc 5 1, 3, 5, 0, 1), (.goto (-67), 3, 8, 0, 0)], 78),
  (78, [(.iload_n 3, 1, 3, 0, 0), (.ireturn, 1, 0, 0, 0)], 80)]
set_option maxRecDepth 100000 in
theorem ok_X11_goner : pm_oks 11 false 7 (some .int) cX11_goner bk_X11_goner = true := by decide +kernel
set_option maxRecDepth 100000 in
theorem me_X11_goner : pm_me 260 = (yX11_goner, cX11_goner, 7, (some .int), 2, 0) := rfl
theorem mt_X11_goner {l : Launch} {g : pm_G} {d mc ms : Nat} {as : List Value} {A : pm_H} {Q : Option Value → pm_H → Prop} (hca : pm_cat 7 as = true) (body : ∀ J : pm_J, pm_Cl l g (fun _ => none) d mc ms (pm_Rq mc ms Q) bk_X11_goner J → J 0 (pm_l0 7 as) [] A 0 0) : pm_Mt l g 260 d mc ms as A Q := pm_Mt_of (isI := false) 11 bk_X11_goner me_X11_goner (plainFor_of_name (by decide +kernel)) (by decide +kernel) (fun h => by cases h) ok_X11_goner hca body
def bk_X11_lastAhead : pm_B := [(0, [(.iload_n 2, 1, 2, 0, 0), (.iconst 1, 1, 0, 0, 1), (.isub, 1, 0, 0, 0), (.istore_n 3, 1, 3, 0, 0)], 4),
  (4, [(.aload_n 0, 1, 0, 0, 0), (.getfield 7, 3, 11, 0, 0), (.iload_n 3, 1, 3, 0, 0), (.iaload, 1, 0, 0, 0), (.iload_n 1, 1, 1, 0, 0), (.if_icmp .eq 9, 3, 20, 0, 0), (.iinc 3 (-1), 3, 3, 0, -1), (.goto (-13), 3, 4, 0, 0)], 20),
  (20, [(.iload_n 3, 1, 3, 0, 0), (.ireturn, 1, 0, 0, 0)], 22)]
set_option maxRecDepth 100000 in
theorem ok_X11_lastAhead : pm_oks 11 false 4 (some .int) cX11_lastAhead bk_X11_lastAhead = true := by decide +kernel
set_option maxRecDepth 100000 in
theorem me_X11_lastAhead : pm_me 261 = (yX11_lastAhead, cX11_lastAhead, 4, (some .int), 2, 0) := rfl
theorem mt_X11_lastAhead {l : Launch} {g : pm_G} {d mc ms : Nat} {as : List Value} {A : pm_H} {Q : Option Value → pm_H → Prop} (hca : pm_cat 4 as = true) (body : ∀ J : pm_J, pm_Cl l g (fun _ => none) d mc ms (pm_Rq mc ms Q) bk_X11_lastAhead J → J 0 (pm_l0 4 as) [] A 0 0) : pm_Mt l g 261 d mc ms as A Q := pm_Mt_of (isI := false) 11 bk_X11_lastAhead me_X11_lastAhead (plainFor_of_name (by decide +kernel)) (by decide +kernel) (fun h => by cases h) ok_X11_lastAhead hca body
def bk_X11_shelf : pm_B := [(0, [(.aload_n 0, 1, 0, 0, 0), (.iload_n 1, 1, 1, 0, 0), (.invokevirtual 119, 3, 168, 1, 11), (.ifCond .eq 11, 3, 16, 0, 0), (.iload_n 2, 1, 2, 0, 0), (.iload_n 3, 1, 3, 0, 0), (.invokestatic 239, 3, 258, 2, 0), (.ifCond .ne 5, 3, 18, 0, 0)], 16),
  (16, [(.iconst (-1), 1, 0, 0, -1), (.ireturn, 1, 0, 0, 0)], 18),
  (18, [(.aload_n 0, 1, 0, 0, 0), (.iload_n 1, 1, 1, 0, 0), (.iload_n 2, 1, 2, 0, 0), (.iload_n 3, 1, 3, 0, 0), (.invokevirtual 242, 3, 259, 3, 11), (.istore 4, 2, 4, 0, 0), (.iload 4, 2, 4, 0, 0), (.ifCond .ge 7, 3, 36, 0, 0), (.iconst (-1), 1, 0, 0, -1), (.goto 7, 3, 40, 0, 0)], 36),
  (36, [(.aload_n 0, 1, 0, 0, 0), (.getfield 230, 3, 11, 24, 0)], 40),
  (40, [(.ireturn, 1, 0, 0, 0)], 41)]
set_option maxRecDepth 100000 in
theorem ok_X11_shelf : pm_oks 11 false 5 (some .int) cX11_shelf bk_X11_shelf = true := by decide +kernel
set_option maxRecDepth 100000 in
theorem me_X11_shelf : pm_me 262 = (yX11_shelf, cX11_shelf, 5, (some .int), 3, 0) := rfl
theorem mt_X11_shelf {l : Launch} {g : pm_G} {d mc ms : Nat} {as : List Value} {A : pm_H} {Q : Option Value → pm_H → Prop} (hca : pm_cat 5 as = true) (body : ∀ J : pm_J, pm_Cl l g (fun _ => none) d mc ms (pm_Rq mc ms Q) bk_X11_shelf J → J 0 (pm_l0 5 as) [] A 0 0) : pm_Mt l g 262 d mc ms as A Q := pm_Mt_of (isI := false) 11 bk_X11_shelf me_X11_shelf (plainFor_of_name (by decide +kernel)) (by decide +kernel) (fun h => by cases h) ok_X11_shelf hca body
def bk_X11_suffices : pm_B := [(0, [(.iload_n 1, 1, 1, 0, 0), (.ifCond .lt 12, 3, 13, 0, 0), (.iload_n 2, 1, 2, 0, 0), (.iconst 0, 1, 0, 0, 0), (.iconst 1, 1, 0, 0, 1), (.invokestatic 74, 3, 169, 3, 0), (.ifCond .ne 5, 3, 15, 0, 0)], 13),
  (13, [(.iconst (-1), 1, 0, 0, -1), (.ireturn, 1, 0, 0, 0)], 15),
  (15, [(.iconst 1, 1, 0, 0, 1), (.istore_n 3, 1, 3, 0, 0)], 17),
  (17, [(.iload_n 3, 1, 3, 0, 0), (.bipush 24, 2, 0, 0, 24), (.if_icmp .gt 27, 3, 47, 0, 0), (.aload_n 0, 1, 0, 0, 0), (.aload_n 0, 1, 0, 0, 0), (.getfield 70, 3, 11, 7, 0), (.iconst 1, 1, 0, 0, 1), (.isub, 1, 0, 0, 0), (.iload_n 3, 1, 3, 0, 0), (.iload_n 2, 1, 2, 0, 0), (.invokevirtual 242, 3, 259, 3, 11), (.iload_n 1, 1, 1, 0, 0), (.if_icmp .gt 5, 3, 41, 0, 0), (.iload_n 3, 1, 3, 0, 0), (.ireturn, 1, 0, 0, 0)], 41),
  (41, [(.iinc 3 1, 3, 3, 0, 1), (.goto (-27), 3, 17, 0, 0)], 47),
  (47, [(.iconst (-1), 1, 0, 0, -1), (.ireturn, 1, 0, 0, 0)], 49)]
set_option maxRecDepth 100000 in
theorem ok_X11_suffices : pm_oks 11 false 4 (some .int) cX11_suffices bk_X11_suffices = true := by decide +kernel
set_option maxRecDepth 100000 in
theorem me_X11_suffices : pm_me 263 = (yX11_suffices, cX11_suffices, 4, (some .int), 2, 0) := rfl
theorem mt_X11_suffices {l : Launch} {g : pm_G} {d mc ms : Nat} {as : List Value} {A : pm_H} {Q : Option Value → pm_H → Prop} (hca : pm_cat 4 as = true) (body : ∀ J : pm_J, pm_Cl l g (fun _ => none) d mc ms (pm_Rq mc ms Q) bk_X11_suffices J → J 0 (pm_l0 4 as) [] A 0 0) : pm_Mt l g 263 d mc ms as A Q := pm_Mt_of (isI := false) 11 bk_X11_suffices me_X11_suffices (plainFor_of_name (by decide +kernel)) (by decide +kernel) (fun h => by cases h) ok_X11_suffices hca body
def bk_X11_just : pm_B := [(0, [(.iconst 0, 1, 0, 0, 0), (.istore_n 2, 1, 2, 0, 0), (.iconst 0, 1, 0, 0, 0), (.istore_n 3, 1, 3, 0, 0)], 4),
  (4, [(.iload_n 3, 1, 3, 0, 0), (.aload_n 0, 1, 0, 0, 0), (.getfield 70, 3, 11, 7, 0), (.if_icmp .ge 61, 3, 70, 0, 0), (.iconst 0, 1, 0, 0, 0), (.istore 4, 2, 4, 0, 0), (.iload_n 3, 1, 3, 0, 0), (.istore 5, 2, 5, 0, 0)], 18),
  (18, [(.iload 5, 2, 5, 0, 0), (.aload_n 0, 1, 0, 0, 0), (.getfield 70, 3, 11, 7, 0), (.if_icmp .ge 40, 3, 64, 0, 0), (.iload 4, 2, 4, 0, 0), (.iconst 1, 1, 0, 0, 1), (.aload_n 0, 1, 0, 0, 0), (.getfield 7, 3, 11, 0, 0), (.iload 5, 2, 5, 0, 0), (.iaload, 1, 0, 0, 0), (.ishl, 1, 0, 0, 0), (.ior, 1, 0, 0, 0), (.istore 4, 2, 4, 0, 0), (.iload_n 2, 1, 2, 0, 0), (.iload 4, 2, 4, 0, 0), (.invokestatic 165, 3, 207, 1, 0), (.iload_n 1, 1, 1, 0, 0), (.if_icmp .ne 7, 3, 55, 0, 0), (.iconst 1, 1, 0, 0, 1), (.goto 4, 3, 56, 0, 0)], 55),
  (55, [(.iconst 0, 1, 0, 0, 0)], 56),
  (56, [(.iadd, 1, 0, 0, 0), (.istore_n 2, 1, 2, 0, 0), (.iinc 5 1, 3, 5, 0, 1), (.goto (-43), 3, 18, 0, 0)], 64),
  (64, [(.iinc 3 1, 3, 3, 0, 1), (.goto (-63), 3, 4, 0, 0)], 70),
  (70, [(.iload_n 2, 1, 2, 0, 0), (.ireturn, 1, 0, 0, 0)], 72)]
set_option maxRecDepth 100000 in
theorem ok_X11_just : pm_oks 11 false 6 (some .int) cX11_just bk_X11_just = true := by decide +kernel
set_option maxRecDepth 100000 in
theorem me_X11_just : pm_me 264 = (yX11_just, cX11_just, 6, (some .int), 1, 0) := rfl
theorem mt_X11_just {l : Launch} {g : pm_G} {d mc ms : Nat} {as : List Value} {A : pm_H} {Q : Option Value → pm_H → Prop} (hca : pm_cat 6 as = true) (body : ∀ J : pm_J, pm_Cl l g (fun _ => none) d mc ms (pm_Rq mc ms Q) bk_X11_just J → J 0 (pm_l0 6 as) [] A 0 0) : pm_Mt l g 264 d mc ms as A Q := pm_Mt_of (isI := false) 11 bk_X11_just me_X11_just (plainFor_of_name (by decide +kernel)) (by decide +kernel) (fun h => by cases h) ok_X11_just hca body
def bk_X11_all : pm_B := [(0, [(.lconst 0, 1, 0, 0, 0), (.lstore_n 1, 1, 1, 0, 0), (.iconst 0, 1, 0, 0, 0), (.istore_n 3, 1, 3, 0, 0)], 4),
  (4, [(.iload_n 3, 1, 3, 0, 0), (.aload_n 0, 1, 0, 0, 0), (.getfield 70, 3, 11, 7, 0), (.if_icmp .ge 53, 3, 62, 0, 0), (.iconst 0, 1, 0, 0, 0), (.istore 4, 2, 4, 0, 0), (.iload_n 3, 1, 3, 0, 0), (.istore 5, 2, 5, 0, 0)], 18),
  (18, [(.iload 5, 2, 5, 0, 0), (.aload_n 0, 1, 0, 0, 0), (.getfield 70, 3, 11, 7, 0), (.if_icmp .ge 32, 3, 56, 0, 0), (.iload 4, 2, 4, 0, 0), (.iconst 1, 1, 0, 0, 1), (.aload_n 0, 1, 0, 0, 0), (.getfield 7, 3, 11, 0, 0), (.iload 5, 2, 5, 0, 0), (.iaload, 1, 0, 0, 0), (.ishl, 1, 0, 0, 0), (.ior, 1, 0, 0, 0), (.istore 4, 2, 4, 0, 0), (.lload_n 1, 1, 1, 0, 0), (.iload 4, 2, 4, 0, 0), (.invokestatic 165, 3, 207, 1, 0), (.i2l, 1, 0, 0, 0), (.ladd, 1, 0, 0, 0), (.lstore_n 1, 1, 1, 0, 0), (.iinc 5 1, 3, 5, 0, 1), (.goto (-35), 3, 18, 0, 0)], 56),
  (56, [(.iinc 3 1, 3, 3, 0, 1), (.goto (-55), 3, 4, 0, 0)], 62),
  (62, [(.lload_n 1, 1, 1, 0, 0), (.lreturn, 1, 0, 0, 0)], 64)]
set_option maxRecDepth 100000 in
theorem ok_X11_all : pm_oks 11 false 6 (some .long) cX11_all bk_X11_all = true := by decide +kernel
set_option maxRecDepth 100000 in
theorem me_X11_all : pm_me 265 = (yX11_all, cX11_all, 6, (some .long), 0, 0) := rfl
theorem mt_X11_all {l : Launch} {g : pm_G} {d mc ms : Nat} {as : List Value} {A : pm_H} {Q : Option Value → pm_H → Prop} (hca : pm_cat 6 as = true) (body : ∀ J : pm_J, pm_Cl l g (fun _ => none) d mc ms (pm_Rq mc ms Q) bk_X11_all J → J 0 (pm_l0 6 as) [] A 0 0) : pm_Mt l g 265 d mc ms as A Q := pm_Mt_of (isI := false) 11 bk_X11_all me_X11_all (plainFor_of_name (by decide +kernel)) (by decide +kernel) (fun h => by cases h) ok_X11_all hca body
end
section
/-! blocks, by a program -/
def bk_X11_sets : pm_B := [(0, [(.iload_n 1, 1, 1, 0, 0), (.iconst 1, 1, 0, 0, 1), (.aload_n 0, 1, 0, 0, 0), (.getfield 70, 3, 11, 7, 0), (.invokestatic 74, 3, 169, 3, 0), (.ifCond .ne 5, 3, 14, 0, 0), (.iconst 0, 1, 0, 0, 0), (.ireturn, 1, 0, 0, 0)], 14),
  (14, [(.iconst 0, 1, 0, 0, 0), (.istore_n 2, 1, 2, 0, 0), (.iconst 0, 1, 0, 0, 0), (.istore_n 3, 1, 3, 0, 0)], 18),
  (18, [(.iload_n 3, 1, 3, 0, 0), (.iload_n 1, 1, 1, 0, 0), (.iadd, 1, 0, 0, 0), (.aload_n 0, 1, 0, 0, 0), (.getfield 70, 3, 11, 7, 0), (.if_icmp .gt 77, 3, 102, 0, 0), (.iconst 1, 1, 0, 0, 1), (.istore 4, 2, 4, 0, 0), (.iconst 0, 1, 0, 0, 0), (.istore 5, 2, 5, 0, 0)], 34),
  (34, [(.iload 5, 2, 5, 0, 0), (.iload_n 3, 1, 3, 0, 0), (.if_icmp .ge 46, 3, 83, 0, 0), (.iload 4, 2, 4, 0, 0), (.ifCond .eq 41, 3, 83, 0, 0), (.aload_n 0, 1, 0, 0, 0), (.iload 5, 2, 5, 0, 0), (.iload 5, 2, 5, 0, 0), (.iload_n 1, 1, 1, 0, 0), (.iadd, 1, 0, 0, 0), (.iconst 1, 1, 0, 0, 1), (.isub, 1, 0, 0, 0), (.invokevirtual 161, 3, 206, 2, 11), (.aload_n 0, 1, 0, 0, 0), (.iload_n 3, 1, 3, 0, 0), (.iload_n 3, 1, 3, 0, 0), (.iload_n 1, 1, 1, 0, 0), (.iadd, 1, 0, 0, 0), (.iconst 1, 1, 0, 0, 1), (.isub, 1, 0, 0, 0), (.invokevirtual 161, 3, 206, 2, 11), (.if_icmp .eq 7, 3, 74, 0, 0), (.iconst 1, 1, 0, 0, 1), (.goto 4, 3, 75, 0, 0)], 74),
  (74, [(.iconst 0, 1, 0, 0, 0)], 75),
  (75, [(.istore 4, 2, 4, 0, 0), (.iinc 5 1, 3, 5, 0, 1), (.goto (-46), 3, 34, 0, 0)], 83),
  (83, [(.iload_n 2, 1, 2, 0, 0), (.iload 4, 2, 4, 0, 0), (.ifCond .eq 7, 3, 93, 0, 0), (.iconst 1, 1, 0, 0, 1), (.goto 4, 3, 94, 0, 0)], 93),
  (93, [(.iconst 0, 1, 0, 0, 0)], 94),
  (94, [(.iadd, 1, 0, 0, 0), (.istore_n 2, 1, 2, 0, 0), (.iinc 3 1, 3, 3, 0, 1), (.goto (-81), 3, 18, 0, 0)], 102),
  (102, [(.iload_n 2, 1, 2, 0, 0), (.ireturn, 1, 0, 0, 0)], 104)]
set_option maxRecDepth 100000 in
theorem ok_X11_sets : pm_oks 11 false 6 (some .int) cX11_sets bk_X11_sets = true := by decide +kernel
set_option maxRecDepth 100000 in
theorem me_X11_sets : pm_me 266 = (yX11_sets, cX11_sets, 6, (some .int), 1, 0) := rfl
theorem mt_X11_sets {l : Launch} {g : pm_G} {d mc ms : Nat} {as : List Value} {A : pm_H} {Q : Option Value → pm_H → Prop} (hca : pm_cat 6 as = true) (body : ∀ J : pm_J, pm_Cl l g (fun _ => none) d mc ms (pm_Rq mc ms Q) bk_X11_sets J → J 0 (pm_l0 6 as) [] A 0 0) : pm_Mt l g 266 d mc ms as A Q := pm_Mt_of (isI := false) 11 bk_X11_sets me_X11_sets (plainFor_of_name (by decide +kernel)) (by decide +kernel) (fun h => by cases h) ok_X11_sets hca body
def bk_X11_match : pm_B := [(0, [(.aload_n 0, 1, 0, 0, 0), (.iload_n 1, 1, 1, 0, 0), (.iload_n 2, 1, 2, 0, 0), (.invokevirtual 129, 3, 180, 2, 11), (.ifCond .eq 8, 3, 14, 0, 0), (.iload_n 3, 1, 3, 0, 0), (.iconst (-1), 1, 0, 0, -1), (.if_icmp .ge 5, 3, 16, 0, 0)], 14),
  (14, [(.iconst (-1), 1, 0, 0, -1), (.ireturn, 1, 0, 0, 0)], 16),
  (16, [(.aload_n 0, 1, 0, 0, 0), (.invokevirtual 245, 3, 268, 0, 11), (.iload_n 2, 1, 2, 0, 0), (.iload_n 1, 1, 1, 0, 0), (.isub, 1, 0, 0, 0), (.iconst 1, 1, 0, 0, 1), (.iadd, 1, 0, 0, 0), (.istore 4, 2, 4, 0, 0), (.iconst 0, 1, 0, 0, 0), (.istore 5, 2, 5, 0, 0), (.iconst 0, 1, 0, 0, 0), (.istore 6, 2, 6, 0, 0)], 33),
  (33, [(.iload 6, 2, 6, 0, 0), (.iload 4, 2, 4, 0, 0), (.iadd, 1, 0, 0, 0), (.aload_n 0, 1, 0, 0, 0), (.getfield 70, 3, 11, 7, 0), (.if_icmp .gt 38, 3, 80, 0, 0), (.aload_n 0, 1, 0, 0, 0), (.iload_n 1, 1, 1, 0, 0), (.iload 6, 2, 6, 0, 0), (.iload 4, 2, 4, 0, 0), (.invokevirtual 248, 3, 269, 3, 11), (.iload 4, 2, 4, 0, 0), (.if_icmp .ge 6, 3, 62, 0, 0), (.goto 15, 3, 74, 0, 0)], 62),
  (62, [(.iload 5, 2, 5, 0, 0), (.iload_n 3, 1, 3, 0, 0), (.if_icmp .ne 6, 3, 71, 0, 0), (.iload 6, 2, 6, 0, 0), (.ireturn, 1, 0, 0, 0)], 71),
  (71, [(.iinc 5 1, 3, 5, 0, 1)], 74),
  (74, [(.iinc 6 1, 3, 6, 0, 1), (.goto (-44), 3, 33, 0, 0)], 80),
  (80, [(.iload_n 3, 1, 3, 0, 0), (.iconst (-1), 1, 0, 0, -1), (.if_icmp .ne 8, 3, 90, 0, 0), (.iload 5, 2, 5, 0, 0), (.goto 4, 3, 91, 0, 0)], 90),
  (90, [(.iconst (-1), 1, 0, 0, -1)], 91),
  (91, [(.ireturn, 1, 0, 0, 0)], 92)]
set_option maxRecDepth 100000 in
theorem ok_X11_match : pm_oks 11 false 7 (some .int) cX11_match bk_X11_match = true := by decide +kernel
set_option maxRecDepth 100000 in
theorem me_X11_match : pm_me 267 = (yX11_match, cX11_match, 7, (some .int), 3, 0) := rfl
theorem mt_X11_match {l : Launch} {g : pm_G} {d mc ms : Nat} {as : List Value} {A : pm_H} {Q : Option Value → pm_H → Prop} (hca : pm_cat 7 as = true) (body : ∀ J : pm_J, pm_Cl l g (fun _ => none) d mc ms (pm_Rq mc ms Q) bk_X11_match J → J 0 (pm_l0 7 as) [] A 0 0) : pm_Mt l g 267 d mc ms as A Q := pm_Mt_of (isI := false) 11 bk_X11_match me_X11_match (plainFor_of_name (by decide +kernel)) (by decide +kernel) (fun h => by cases h) ok_X11_match hca body
def bk_X11_layGaps : pm_B := [(0, [(.iconst 0, 1, 0, 0, 0), (.istore_n 1, 1, 1, 0, 0)], 2),
  (2, [(.iload_n 1, 1, 1, 0, 0), (.aload_n 0, 1, 0, 0, 0), (.getfield 70, 3, 11, 7, 0), (.if_icmp .ge 35, 3, 42, 0, 0), (.aload_n 0, 1, 0, 0, 0), (.getfield 61, 3, 11, 25, 0), (.iload_n 1, 1, 1, 0, 0), (.aload_n 0, 1, 0, 0, 0), (.iload_n 1, 1, 1, 0, 0), (.invokevirtual 78, 3, 174, 1, 11), (.ifCond .ge 8, 3, 28, 0, 0), (.ldc 222, 2, 0, 0, 268435456), (.goto 10, 3, 35, 0, 0)], 28),
  (28, [(.iload_n 1, 1, 1, 0, 0), (.aload_n 0, 1, 0, 0, 0), (.iload_n 1, 1, 1, 0, 0), (.invokevirtual 78, 3, 174, 1, 11), (.isub, 1, 0, 0, 0)], 35),
  (35, [(.iastore, 1, 0, 0, 0), (.iinc 1 1, 3, 1, 0, 1), (.goto (-37), 3, 2, 0, 0)], 42),
  (42, [(.return_, 1, 0, 0, 0)], 43)]
set_option maxRecDepth 100000 in
theorem ok_X11_layGaps : pm_oks 11 false 2 none cX11_layGaps bk_X11_layGaps = true := by decide +kernel
set_option maxRecDepth 100000 in
theorem me_X11_layGaps : pm_me 268 = (yX11_layGaps, cX11_layGaps, 2, none, 0, 0) := rfl
theorem mt_X11_layGaps {l : Launch} {g : pm_G} {d mc ms : Nat} {as : List Value} {A : pm_H} {Q : Option Value → pm_H → Prop} (hca : pm_cat 2 as = true) (body : ∀ J : pm_J, pm_Cl l g (fun _ => none) d mc ms (pm_Rq mc ms Q) bk_X11_layGaps J → J 0 (pm_l0 2 as) [] A 0 0) : pm_Mt l g 268 d mc ms as A Q := pm_Mt_of (isI := false) 11 bk_X11_layGaps me_X11_layGaps (plainFor_of_name (by decide +kernel)) (by decide +kernel) (fun h => by cases h) ok_X11_layGaps hca body
def bk_X11_matched : pm_B := [(0, [(.iconst 0, 1, 0, 0, 0), (.istore 4, 2, 4, 0, 0)], 3),
  (3, [(.iload 4, 2, 4, 0, 0), (.iload_n 3, 1, 3, 0, 0), (.if_icmp .ge 88, 3, 94, 0, 0), (.iload_n 1, 1, 1, 0, 0), (.iload 4, 2, 4, 0, 0), (.iadd, 1, 0, 0, 0), (.aload_n 0, 1, 0, 0, 0), (.getfield 70, 3, 11, 7, 0), (.if_icmp .ge 77, 3, 94, 0, 0), (.iload_n 2, 1, 2, 0, 0), (.iload 4, 2, 4, 0, 0), (.iadd, 1, 0, 0, 0), (.aload_n 0, 1, 0, 0, 0), (.getfield 70, 3, 11, 7, 0), (.if_icmp .ge 66, 3, 94, 0, 0), (.aload_n 0, 1, 0, 0, 0), (.getfield 61, 3, 11, 25, 0), (.iload_n 1, 1, 1, 0, 0), (.iload 4, 2, 4, 0, 0), (.iadd, 1, 0, 0, 0), (.iaload, 1, 0, 0, 0), (.iload 4, 2, 4, 0, 0), (.if_icmp .le 7, 3, 49, 0, 0), (.iconst 0, 1, 0, 0, 0), (.goto 12, 3, 58, 0, 0)], 49),
  (49, [(.aload_n 0, 1, 0, 0, 0), (.getfield 61, 3, 11, 25, 0), (.iload_n 1, 1, 1, 0, 0), (.iload 4, 2, 4, 0, 0), (.iadd, 1, 0, 0, 0), (.iaload, 1, 0, 0, 0)], 58),
  (58, [(.aload_n 0, 1, 0, 0, 0), (.getfield 61, 3, 11, 25, 0), (.iload_n 2, 1, 2, 0, 0), (.iload 4, 2, 4, 0, 0), (.iadd, 1, 0, 0, 0), (.iaload, 1, 0, 0, 0), (.iload 4, 2, 4, 0, 0), (.if_icmp .le 7, 3, 76, 0, 0), (.iconst 0, 1, 0, 0, 0), (.goto 12, 3, 85, 0, 0)], 76),
  (76, [(.aload_n 0, 1, 0, 0, 0), (.getfield 61, 3, 11, 25, 0), (.iload_n 2, 1, 2, 0, 0), (.iload 4, 2, 4, 0, 0), (.iadd, 1, 0, 0, 0), (.iaload, 1, 0, 0, 0)], 85),
  (85, [(.if_icmp .ne 9, 3, 94, 0, 0), (.iinc 4 1, 3, 4, 0, 1), (.goto (-88), 3, 3, 0, 0)], 94),
  (94, [(.iload 4, 2, 4, 0, 0), (.ireturn, 1, 0, 0, 0)], 97)]
set_option maxRecDepth 100000 in
theorem ok_X11_matched : pm_oks 11 false 5 (some .int) cX11_matched bk_X11_matched = true := by decide +kernel
set_option maxRecDepth 100000 in
theorem me_X11_matched : pm_me 269 = (yX11_matched, cX11_matched, 5, (some .int), 3, 0) := rfl
theorem mt_X11_matched {l : Launch} {g : pm_G} {d mc ms : Nat} {as : List Value} {A : pm_H} {Q : Option Value → pm_H → Prop} (hca : pm_cat 5 as = true) (body : ∀ J : pm_J, pm_Cl l g (fun _ => none) d mc ms (pm_Rq mc ms Q) bk_X11_matched J → J 0 (pm_l0 5 as) [] A 0 0) : pm_Mt l g 269 d mc ms as A Q := pm_Mt_of (isI := false) 11 bk_X11_matched me_X11_matched (plainFor_of_name (by decide +kernel)) (by decide +kernel) (fun h => by cases h) ok_X11_matched hca body
def bk_X11_twin : pm_B := [(0, [(.iload_n 1, 1, 1, 0, 0), (.iconst 0, 1, 0, 0, 0), (.iconst 1, 1, 0, 0, 1), (.invokestatic 74, 3, 169, 3, 0), (.ifCond .ne 5, 3, 11, 0, 0), (.iconst (-1), 1, 0, 0, -1), (.ireturn, 1, 0, 0, 0)], 11),
  (11, [(.aload_n 0, 1, 0, 0, 0), (.invokevirtual 245, 3, 268, 0, 11), (.iconst (-1), 1, 0, 0, -1), (.istore_n 2, 1, 2, 0, 0), (.iconst 0, 1, 0, 0, 0), (.istore_n 3, 1, 3, 0, 0), (.iconst 0, 1, 0, 0, 0), (.istore 4, 2, 4, 0, 0)], 22),
  (22, [(.iload 4, 2, 4, 0, 0), (.aload_n 0, 1, 0, 0, 0), (.getfield 70, 3, 11, 7, 0), (.if_icmp .ge 58, 3, 86, 0, 0), (.iload 4, 2, 4, 0, 0), (.iconst 1, 1, 0, 0, 1), (.iadd, 1, 0, 0, 0), (.istore 5, 2, 5, 0, 0)], 37),
  (37, [(.iload 5, 2, 5, 0, 0), (.aload_n 0, 1, 0, 0, 0), (.getfield 70, 3, 11, 7, 0), (.if_icmp .ge 37, 3, 80, 0, 0), (.aload_n 0, 1, 0, 0, 0), (.iload 4, 2, 4, 0, 0), (.iload 5, 2, 5, 0, 0), (.sipush 160, 3, 0, 0, 160), (.invokevirtual 248, 3, 269, 3, 11), (.istore 6, 2, 6, 0, 0), (.iload 6, 2, 6, 0, 0), (.iload_n 3, 1, 3, 0, 0), (.if_icmp .gt 6, 3, 68, 0, 0), (.goto 9, 3, 74, 0, 0)], 68),
  (68, [(.iload 4, 2, 4, 0, 0), (.istore_n 2, 1, 2, 0, 0), (.iload 6, 2, 6, 0, 0), (.istore_n 3, 1, 3, 0, 0)], 74),
  (74, [(.iinc 5 1, 3, 5, 0, 1), (.goto (-40), 3, 37, 0, 0)], 80),
  (80, [(.iinc 4 1, 3, 4, 0, 1), (.goto (-61), 3, 22, 0, 0)], 86),
  (86, [(.iload_n 2, 1, 2, 0, 0), (.ifCond .lt 7, 3, 94, 0, 0), (.iload_n 1, 1, 1, 0, 0), (.ifCond .ne 7, 3, 98, 0, 0)], 94),
  (94, [(.iload_n 2, 1, 2, 0, 0), (.goto 4, 3, 99, 0, 0)], 98),
  (98, [(.iload_n 3, 1, 3, 0, 0)], 99),
  (99, [(.ireturn, 1, 0, 0, 0)], 100)]
set_option maxRecDepth 100000 in
theorem ok_X11_twin : pm_oks 11 false 7 (some .int) cX11_twin bk_X11_twin = true := by decide +kernel
set_option maxRecDepth 100000 in
theorem me_X11_twin : pm_me 270 = (yX11_twin, cX11_twin, 7, (some .int), 1, 0) := rfl
theorem mt_X11_twin {l : Launch} {g : pm_G} {d mc ms : Nat} {as : List Value} {A : pm_H} {Q : Option Value → pm_H → Prop} (hca : pm_cat 7 as = true) (body : ∀ J : pm_J, pm_Cl l g (fun _ => none) d mc ms (pm_Rq mc ms Q) bk_X11_twin J → J 0 (pm_l0 7 as) [] A 0 0) : pm_Mt l g 270 d mc ms as A Q := pm_Mt_of (isI := false) 11 bk_X11_twin me_X11_twin (plainFor_of_name (by decide +kernel)) (by decide +kernel) (fun h => by cases h) ok_X11_twin hca body
def bk_X11_parts : pm_B := [(0, [(.iload_n 1, 1, 1, 0, 0), (.iconst 1, 1, 0, 0, 1), (.if_icmp .lt 8, 3, 10, 0, 0), (.iload_n 2, 1, 2, 0, 0), (.iconst (-1), 1, 0, 0, -1), (.if_icmp .ge 5, 3, 12, 0, 0)], 10),
  (10, [(.iconst (-1), 1, 0, 0, -1), (.ireturn, 1, 0, 0, 0)], 12),
  (12, [(.iconst 0, 1, 0, 0, 0), (.istore_n 3, 1, 3, 0, 0), (.iconst 0, 1, 0, 0, 0), (.istore 4, 2, 4, 0, 0)], 17),
  (17, [(.iload 4, 2, 4, 0, 0), (.aload_n 0, 1, 0, 0, 0), (.getfield 70, 3, 11, 7, 0), (.if_icmp .ge 32, 3, 55, 0, 0), (.aload_n 0, 1, 0, 0, 0), (.iload 4, 2, 4, 0, 0), (.iload_n 1, 1, 1, 0, 0), (.invokevirtual 227, 3, 253, 2, 11), (.istore 5, 2, 5, 0, 0), (.iload_n 3, 1, 3, 0, 0), (.iload_n 2, 1, 2, 0, 0), (.if_icmp .ne 6, 3, 43, 0, 0), (.iload 5, 2, 5, 0, 0), (.ireturn, 1, 0, 0, 0)], 43),
  (43, [(.iinc 3 1, 3, 3, 0, 1), (.iload 5, 2, 5, 0, 0), (.iconst 1, 1, 0, 0, 1), (.iadd, 1, 0, 0, 0), (.istore 4, 2, 4, 0, 0), (.goto (-35), 3, 17, 0, 0)], 55),
  (55, [(.iload_n 2, 1, 2, 0, 0), (.iconst (-1), 1, 0, 0, -1), (.if_icmp .ne 7, 3, 64, 0, 0), (.iload_n 3, 1, 3, 0, 0), (.goto 4, 3, 65, 0, 0)], 64),
  (64, [(.iconst (-1), 1, 0, 0, -1)], 65),
  (65, [(.ireturn, 1, 0, 0, 0)], 66)]
set_option maxRecDepth 100000 in
theorem ok_X11_parts : pm_oks 11 false 6 (some .int) cX11_parts bk_X11_parts = true := by decide +kernel
set_option maxRecDepth 100000 in
theorem me_X11_parts : pm_me 271 = (yX11_parts, cX11_parts, 6, (some .int), 2, 0) := rfl
theorem mt_X11_parts {l : Launch} {g : pm_G} {d mc ms : Nat} {as : List Value} {A : pm_H} {Q : Option Value → pm_H → Prop} (hca : pm_cat 6 as = true) (body : ∀ J : pm_J, pm_Cl l g (fun _ => none) d mc ms (pm_Rq mc ms Q) bk_X11_parts J → J 0 (pm_l0 6 as) [] A 0 0) : pm_Mt l g 271 d mc ms as A Q := pm_Mt_of (isI := false) 11 bk_X11_parts me_X11_parts (plainFor_of_name (by decide +kernel)) (by decide +kernel) (fun h => by cases h) ok_X11_parts hca body
def bk_X11_best : pm_B := [(0, [(.iload_n 1, 1, 1, 0, 0), (.iconst 1, 1, 0, 0, 1), (.bipush 8, 2, 0, 0, 8), (.invokestatic 74, 3, 169, 3, 0), (.ifCond .eq 22, 3, 29, 0, 0), (.iload_n 1, 1, 1, 0, 0), (.aload_n 0, 1, 0, 0, 0), (.getfield 70, 3, 11, 7, 0), (.if_icmp .gt 14, 3, 29, 0, 0), (.iload_n 2, 1, 2, 0, 0), (.iconst (-1), 1, 0, 0, -1), (.iload_n 1, 1, 1, 0, 0), (.iconst 1, 1, 0, 0, 1), (.isub, 1, 0, 0, 0), (.invokestatic 74, 3, 169, 3, 0), (.ifCond .ne 5, 3, 31, 0, 0)], 29),
  (29, [(.iconst (-1), 1, 0, 0, -1), (.ireturn, 1, 0, 0, 0)], 31),
  (31, [(.aload_n 0, 1, 0, 0, 0), (.iload_n 1, 1, 1, 0, 0), (.invokevirtual 255, 3, 273, 1, 11), (.sipush 161, 3, 0, 0, 161), (.istore_n 3, 1, 3, 0, 0), (.iload_n 2, 1, 2, 0, 0), (.iconst (-1), 1, 0, 0, -1), (.if_icmp .ne 12, 3, 54, 0, 0), (.aload_n 0, 1, 0, 0, 0), (.getfield 64, 3, 11, 26, 0), (.iload_n 3, 1, 3, 0, 0), (.iload_n 1, 1, 1, 0, 0), (.imul, 1, 0, 0, 0), (.iaload, 1, 0, 0, 0), (.ireturn, 1, 0, 0, 0)], 54),
  (54, [(.iconst 0, 1, 0, 0, 0), (.istore 4, 2, 4, 0, 0), (.iload_n 1, 1, 1, 0, 0), (.istore 5, 2, 5, 0, 0)], 60),
  (60, [(.iload 5, 2, 5, 0, 0), (.iload_n 1, 1, 1, 0, 0), (.iload_n 2, 1, 2, 0, 0), (.isub, 1, 0, 0, 0), (.if_icmp .le 25, 3, 90, 0, 0), (.aload_n 0, 1, 0, 0, 0), (.getfield 67, 3, 11, 27, 0), (.iload_n 3, 1, 3, 0, 0), (.iload 5, 2, 5, 0, 0), (.imul, 1, 0, 0, 0), (.iload 4, 2, 4, 0, 0), (.iadd, 1, 0, 0, 0), (.iaload, 1, 0, 0, 0), (.iconst 1, 1, 0, 0, 1), (.iadd, 1, 0, 0, 0), (.istore 4, 2, 4, 0, 0), (.iinc 5 (-1), 3, 5, 0, -1), (.goto (-27), 3, 60, 0, 0)], 90),
  (90, [(.aload_n 0, 1, 0, 0, 0), (.getfield 67, 3, 11, 27, 0), (.iload_n 3, 1, 3, 0, 0), (.iload_n 1, 1, 1, 0, 0), (.iload_n 2, 1, 2, 0, 0), (.isub, 1, 0, 0, 0), (.imul, 1, 0, 0, 0), (.iload 4, 2, 4, 0, 0), (.iadd, 1, 0, 0, 0), (.iaload, 1, 0, 0, 0), (.ireturn, 1, 0, 0, 0)], 104)]
set_option maxRecDepth 100000 in
theorem ok_X11_best : pm_oks 11 false 6 (some .int) cX11_best bk_X11_best = true := by decide +kernel
set_option maxRecDepth 100000 in
theorem me_X11_best : pm_me 272 = (yX11_best, cX11_best, 6, (some .int), 2, 0) := rfl
theorem mt_X11_best {l : Launch} {g : pm_G} {d mc ms : Nat} {as : List Value} {A : pm_H} {Q : Option Value → pm_H → Prop} (hca : pm_cat 6 as = true) (body : ∀ J : pm_J, pm_Cl l g (fun _ => none) d mc ms (pm_Rq mc ms Q) bk_X11_best J → J 0 (pm_l0 6 as) [] A 0 0) : pm_Mt l g 272 d mc ms as A Q := pm_Mt_of (isI := false) 11 bk_X11_best me_X11_best (plainFor_of_name (by decide +kernel)) (by decide +kernel) (fun h => by cases h) ok_X11_best hca body
def bk_X11_layBest : pm_B := [(0, [(.sipush 161, 3, 0, 0, 161), (.istore_n 2, 1, 2, 0, 0), (.iconst 0, 1, 0, 0, 0), (.istore_n 3, 1, 3, 0, 0)], 6),
  (6, [(.iload_n 3, 1, 3, 0, 0), (.iload_n 1, 1, 1, 0, 0), (.if_icmp .gt 77, 3, 85, 0, 0), (.aload_n 0, 1, 0, 0, 0), (.getfield 70, 3, 11, 7, 0), (.istore 4, 2, 4, 0, 0)], 17),
  (17, [(.iload 4, 2, 4, 0, 0), (.ifCond .lt 60, 3, 79, 0, 0), (.aload_n 0, 1, 0, 0, 0), (.getfield 64, 3, 11, 26, 0), (.iload_n 2, 1, 2, 0, 0), (.iload_n 3, 1, 3, 0, 0), (.imul, 1, 0, 0, 0), (.iload 4, 2, 4, 0, 0), (.iadd, 1, 0, 0, 0), (.iload_n 3, 1, 3, 0, 0), (.ifCond .ne 16, 3, 49, 0, 0), (.iload 4, 2, 4, 0, 0), (.aload_n 0, 1, 0, 0, 0), (.getfield 70, 3, 11, 7, 0), (.if_icmp .ne 7, 3, 49, 0, 0), (.iconst 0, 1, 0, 0, 0), (.goto 5, 3, 51, 0, 0)], 49),
  (49, [(.ldc 177, 2, 0, 0, -268435456)], 51),
  (51, [(.iastore, 1, 0, 0, 0), (.iload_n 3, 1, 3, 0, 0), (.ifCond .le 20, 3, 73, 0, 0), (.iload 4, 2, 4, 0, 0), (.aload_n 0, 1, 0, 0, 0), (.getfield 70, 3, 11, 7, 0), (.if_icmp .ge 11, 3, 73, 0, 0), (.aload_n 0, 1, 0, 0, 0), (.iload_n 3, 1, 3, 0, 0), (.iload 4, 2, 4, 0, 0), (.iload_n 2, 1, 2, 0, 0), (.invokevirtual 251, 3, 274, 3, 11)], 73),
  (73, [(.iinc 4 (-1), 3, 4, 0, -1), (.goto (-59), 3, 17, 0, 0)], 79),
  (79, [(.iinc 3 1, 3, 3, 0, 1), (.goto (-76), 3, 6, 0, 0)], 85),
  (85, [(.return_, 1, 0, 0, 0)], 86)]
set_option maxRecDepth 100000 in
theorem ok_X11_layBest : pm_oks 11 false 5 none cX11_layBest bk_X11_layBest = true := by decide +kernel
set_option maxRecDepth 100000 in
theorem me_X11_layBest : pm_me 273 = (yX11_layBest, cX11_layBest, 5, none, 1, 0) := rfl
theorem mt_X11_layBest {l : Launch} {g : pm_G} {d mc ms : Nat} {as : List Value} {A : pm_H} {Q : Option Value → pm_H → Prop} (hca : pm_cat 5 as = true) (body : ∀ J : pm_J, pm_Cl l g (fun _ => none) d mc ms (pm_Rq mc ms Q) bk_X11_layBest J → J 0 (pm_l0 5 as) [] A 0 0) : pm_Mt l g 273 d mc ms as A Q := pm_Mt_of (isI := false) 11 bk_X11_layBest me_X11_layBest (plainFor_of_name (by decide +kernel)) (by decide +kernel) (fun h => by cases h) ok_X11_layBest hca body
def bk_X11_layPart : pm_B := [(0, [(.iconst 0, 1, 0, 0, 0), (.istore 4, 2, 4, 0, 0), (.iload_n 2, 1, 2, 0, 0), (.istore 5, 2, 5, 0, 0)], 6),
  (6, [(.iload 5, 2, 5, 0, 0), (.aload_n 0, 1, 0, 0, 0), (.getfield 70, 3, 11, 7, 0), (.if_icmp .ge 93, 3, 105, 0, 0), (.iload 4, 2, 4, 0, 0), (.iconst 1, 1, 0, 0, 1), (.aload_n 0, 1, 0, 0, 0), (.getfield 7, 3, 11, 0, 0), (.iload 5, 2, 5, 0, 0), (.iaload, 1, 0, 0, 0), (.ishl, 1, 0, 0, 0), (.ior, 1, 0, 0, 0), (.istore 4, 2, 4, 0, 0), (.iload 4, 2, 4, 0, 0), (.invokestatic 165, 3, 207, 1, 0), (.aload_n 0, 1, 0, 0, 0), (.getfield 64, 3, 11, 26, 0), (.iload_n 3, 1, 3, 0, 0), (.iload_n 1, 1, 1, 0, 0), (.iconst 1, 1, 0, 0, 1), (.isub, 1, 0, 0, 0), (.imul, 1, 0, 0, 0), (.iload 5, 2, 5, 0, 0), (.iadd, 1, 0, 0, 0), (.iconst 1, 1, 0, 0, 1), (.iadd, 1, 0, 0, 0), (.iaload, 1, 0, 0, 0), (.iadd, 1, 0, 0, 0), (.istore 6, 2, 6, 0, 0), (.iload 6, 2, 6, 0, 0), (.aload_n 0, 1, 0, 0, 0), (.getfield 64, 3, 11, 26, 0), (.iload_n 3, 1, 3, 0, 0), (.iload_n 1, 1, 1, 0, 0), (.imul, 1, 0, 0, 0), (.iload_n 2, 1, 2, 0, 0), (.iadd, 1, 0, 0, 0), (.iaload, 1, 0, 0, 0), (.if_icmp .le 35, 3, 99, 0, 0), (.iload 6, 2, 6, 0, 0), (.ifCond .ge 6, 3, 75, 0, 0), (.goto 27, 3, 99, 0, 0)], 75),
  (75, [(.aload_n 0, 1, 0, 0, 0), (.getfield 64, 3, 11, 26, 0), (.iload_n 3, 1, 3, 0, 0), (.iload_n 1, 1, 1, 0, 0), (.imul, 1, 0, 0, 0), (.iload_n 2, 1, 2, 0, 0), (.iadd, 1, 0, 0, 0), (.iload 6, 2, 6, 0, 0), (.iastore, 1, 0, 0, 0), (.aload_n 0, 1, 0, 0, 0), (.getfield 67, 3, 11, 27, 0), (.iload_n 3, 1, 3, 0, 0), (.iload_n 1, 1, 1, 0, 0), (.imul, 1, 0, 0, 0), (.iload_n 2, 1, 2, 0, 0), (.iadd, 1, 0, 0, 0), (.iload 5, 2, 5, 0, 0), (.iastore, 1, 0, 0, 0)], 99),
  (99, [(.iinc 5 1, 3, 5, 0, 1), (.goto (-96), 3, 6, 0, 0)], 105),
  (105, [(.return_, 1, 0, 0, 0)], 106)]
set_option maxRecDepth 100000 in
theorem ok_X11_layPart : pm_oks 11 false 7 none cX11_layPart bk_X11_layPart = true := by decide +kernel
set_option maxRecDepth 100000 in
theorem me_X11_layPart : pm_me 274 = (yX11_layPart, cX11_layPart, 7, none, 3, 0) := rfl
theorem mt_X11_layPart {l : Launch} {g : pm_G} {d mc ms : Nat} {as : List Value} {A : pm_H} {Q : Option Value → pm_H → Prop} (hca : pm_cat 7 as = true) (body : ∀ J : pm_J, pm_Cl l g (fun _ => none) d mc ms (pm_Rq mc ms Q) bk_X11_layPart J → J 0 (pm_l0 7 as) [] A 0 0) : pm_Mt l g 274 d mc ms as A Q := pm_Mt_of (isI := false) 11 bk_X11_layPart me_X11_layPart (plainFor_of_name (by decide +kernel)) (by decide +kernel) (fun h => by cases h) ok_X11_layPart hca body
def bk_X11_ask : pm_B := [(0, [(.aload_n 0, 1, 0, 0, 0), (.getfield 168, 3, 11, 17, 0), (.bipush 30, 2, 0, 0, 30), (.if_icmp .ge 29, 3, 35, 0, 0), (.aload_n 0, 1, 0, 0, 0), (.iload_n 1, 1, 1, 0, 0), (.invokevirtual 206, 3, 197, 1, 11), (.ifCond .lt 21, 3, 35, 0, 0), (.aload_n 0, 1, 0, 0, 0), (.iload_n 2, 1, 2, 0, 0), (.invokevirtual 206, 3, 197, 1, 11), (.ifCond .lt 13, 3, 35, 0, 0), (.aload_n 0, 1, 0, 0, 0), (.iconst (-1), 1, 0, 0, -1), (.iload_n 1, 1, 1, 0, 0), (.iload_n 2, 1, 2, 0, 0), (.invokevirtual 258, 3, 276, 3, 11), (.goto 4, 3, 36, 0, 0)], 35),
  (35, [(.iconst (-1), 1, 0, 0, -1)], 36),
  (36, [(.ireturn, 1, 0, 0, 0)], 37)]
set_option maxRecDepth 100000 in
theorem ok_X11_ask : pm_oks 11 false 3 (some .int) cX11_ask bk_X11_ask = true := by decide +kernel
set_option maxRecDepth 100000 in
theorem me_X11_ask : pm_me 275 = (yX11_ask, cX11_ask, 3, (some .int), 2, 0) := rfl
theorem mt_X11_ask {l : Launch} {g : pm_G} {d mc ms : Nat} {as : List Value} {A : pm_H} {Q : Option Value → pm_H → Prop} (hca : pm_cat 3 as = true) (body : ∀ J : pm_J, pm_Cl l g (fun _ => none) d mc ms (pm_Rq mc ms Q) bk_X11_ask J → J 0 (pm_l0 3 as) [] A 0 0) : pm_Mt l g 275 d mc ms as A Q := pm_Mt_of (isI := false) 11 bk_X11_ask me_X11_ask (plainFor_of_name (by decide +kernel)) (by decide +kernel) (fun h => by cases h) ok_X11_ask hca body
def bk_X11_asks : pm_B := [(0, [(.aload_n 0, 1, 0, 0, 0), (.getfield 31, 3, 11, 13, 0), (.aload_n 0, 1, 0, 0, 0), (.getfield 168, 3, 11, 17, 0), (.iload_n 2, 1, 2, 0, 0), (.iastore, 1, 0, 0, 0), (.aload_n 0, 1, 0, 0, 0), (.getfield 34, 3, 11, 14, 0), (.aload_n 0, 1, 0, 0, 0), (.getfield 168, 3, 11, 17, 0), (.iload_n 3, 1, 3, 0, 0), (.iastore, 1, 0, 0, 0), (.aload_n 0, 1, 0, 0, 0), (.getfield 43, 3, 11, 18, 0), (.aload_n 0, 1, 0, 0, 0), (.getfield 168, 3, 11, 17, 0), (.iload_n 1, 1, 1, 0, 0), (.iastore, 1, 0, 0, 0), (.aload_n 0, 1, 0, 0, 0), (.getfield 37, 3, 11, 15, 0), (.aload_n 0, 1, 0, 0, 0), (.getfield 168, 3, 11, 17, 0), (.iconst (-1), 1, 0, 0, -1), (.iastore, 1, 0, 0, 0), (.aload_n 0, 1, 0, 0, 0), (.getfield 40, 3, 11, 16, 0), (.aload_n 0, 1, 0, 0, 0), (.getfield 168, 3, 11, 17, 0), (.iconst (-1), 1, 0, 0, -1), (.iastore, 1, 0, 0, 0), (.aload_n 0, 1, 0, 0, 0), (.dup, 1, 0, 0, 0), (.getfield 168, 3, 11, 17, 0), (.iconst 1, 1, 0, 0, 1), (.iadd, 1, 0, 0, 0), (.putfield 168, 3, 11, 17, 0), (.aload_n 0, 1, 0, 0, 0), (.getfield 168, 3, 11, 17, 0), (.iconst 1, 1, 0, 0, 1), (.isub, 1, 0, 0, 0), (.ireturn, 1, 0, 0, 0)], 67)]
set_option maxRecDepth 100000 in
theorem ok_X11_asks : pm_oks 11 false 4 (some .int) cX11_asks bk_X11_asks = true := by decide +kernel
set_option maxRecDepth 100000 in
theorem me_X11_asks : pm_me 276 = (yX11_asks, cX11_asks, 4, (some .int), 3, 0) := rfl
theorem mt_X11_asks {l : Launch} {g : pm_G} {d mc ms : Nat} {as : List Value} {A : pm_H} {Q : Option Value → pm_H → Prop} (hca : pm_cat 4 as = true) (body : ∀ J : pm_J, pm_Cl l g (fun _ => none) d mc ms (pm_Rq mc ms Q) bk_X11_asks J → J 0 (pm_l0 4 as) [] A 0 0) : pm_Mt l g 276 d mc ms as A Q := pm_Mt_of (isI := false) 11 bk_X11_asks me_X11_asks (plainFor_of_name (by decide +kernel)) (by decide +kernel) (fun h => by cases h) ok_X11_asks hca body
def bk_X11_askOf : pm_B := [(0, [(.aload_n 0, 1, 0, 0, 0), (.getfield 168, 3, 11, 17, 0), (.bipush 30, 2, 0, 0, 30), (.if_icmp .eq 37, 3, 43, 0, 0), (.aload_n 0, 1, 0, 0, 0), (.iload_n 1, 1, 1, 0, 0), (.invokevirtual 197, 3, 227, 1, 11), (.ifCond .eq 29, 3, 43, 0, 0), (.iload_n 2, 1, 2, 0, 0), (.ifCond .lt 25, 3, 43, 0, 0), (.iload_n 3, 1, 3, 0, 0), (.ifCond .lt 21, 3, 43, 0, 0), (.aload_n 0, 1, 0, 0, 0), (.iload_n 1, 1, 1, 0, 0), (.iload_n 2, 1, 2, 0, 0), (.invokevirtual 212, 3, 236, 2, 11), (.ifCond .lt 12, 3, 43, 0, 0), (.aload_n 0, 1, 0, 0, 0), (.iload_n 1, 1, 1, 0, 0), (.iload_n 3, 1, 3, 0, 0), (.invokevirtual 212, 3, 236, 2, 11), (.ifCond .ge 5, 3, 45, 0, 0)], 43),
  (43, [(.iconst (-1), 1, 0, 0, -1), (.ireturn, 1, 0, 0, 0)], 45),
  (45, [(.aload_n 0, 1, 0, 0, 0), (.iload_n 1, 1, 1, 0, 0), (.iload_n 2, 1, 2, 0, 0), (.iload_n 3, 1, 3, 0, 0), (.invokevirtual 258, 3, 276, 3, 11), (.ireturn, 1, 0, 0, 0)], 53)]
set_option maxRecDepth 100000 in
theorem ok_X11_askOf : pm_oks 11 false 4 (some .int) cX11_askOf bk_X11_askOf = true := by decide +kernel
set_option maxRecDepth 100000 in
theorem me_X11_askOf : pm_me 277 = (yX11_askOf, cX11_askOf, 4, (some .int), 3, 0) := rfl
theorem mt_X11_askOf {l : Launch} {g : pm_G} {d mc ms : Nat} {as : List Value} {A : pm_H} {Q : Option Value → pm_H → Prop} (hca : pm_cat 4 as = true) (body : ∀ J : pm_J, pm_Cl l g (fun _ => none) d mc ms (pm_Rq mc ms Q) bk_X11_askOf J → J 0 (pm_l0 4 as) [] A 0 0) : pm_Mt l g 277 d mc ms as A Q := pm_Mt_of (isI := false) 11 bk_X11_askOf me_X11_askOf (plainFor_of_name (by decide +kernel)) (by decide +kernel) (fun h => by cases h) ok_X11_askOf hca body
def bk_X11_solve : pm_B := [(0, [(.iconst 0, 1, 0, 0, 0), (.istore_n 1, 1, 1, 0, 0), (.iconst 0, 1, 0, 0, 0), (.istore_n 2, 1, 2, 0, 0)], 4),
  (4, [(.iload_n 2, 1, 2, 0, 0), (.aload_n 0, 1, 0, 0, 0), (.getfield 168, 3, 11, 17, 0), (.if_icmp .ge 160, 3, 169, 0, 0), (.aload_n 0, 1, 0, 0, 0), (.aload_n 0, 1, 0, 0, 0), (.getfield 43, 3, 11, 18, 0), (.iload_n 2, 1, 2, 0, 0), (.iaload, 1, 0, 0, 0), (.aload_n 0, 1, 0, 0, 0), (.getfield 31, 3, 11, 13, 0), (.iload_n 2, 1, 2, 0, 0), (.iaload, 1, 0, 0, 0), (.invokevirtual 261, 3, 279, 2, 11), (.istore_n 3, 1, 3, 0, 0), (.aload_n 0, 1, 0, 0, 0), (.aload_n 0, 1, 0, 0, 0), (.getfield 43, 3, 11, 18, 0), (.iload_n 2, 1, 2, 0, 0), (.iaload, 1, 0, 0, 0), (.aload_n 0, 1, 0, 0, 0), (.getfield 34, 3, 11, 14, 0), (.iload_n 2, 1, 2, 0, 0), (.iaload, 1, 0, 0, 0), (.invokevirtual 261, 3, 279, 2, 11), (.istore 4, 2, 4, 0, 0), (.iload_n 3, 1, 3, 0, 0), (.ifCond .lt 12, 3, 60, 0, 0), (.iload 4, 2, 4, 0, 0), (.ifCond .lt 7, 3, 60, 0, 0), (.iconst 1, 1, 0, 0, 1), (.goto 4, 3, 61, 0, 0)], 60),
  (60, [(.iconst 0, 1, 0, 0, 0)], 61),
  (61, [(.istore 5, 2, 5, 0, 0), (.iload 5, 2, 5, 0, 0), (.ifCond .ne 7, 3, 72, 0, 0), (.iconst 0, 1, 0, 0, 0), (.goto 38, 3, 107, 0, 0)], 72),
  (72, [(.iload_n 3, 1, 3, 0, 0), (.iload 4, 2, 4, 0, 0), (.if_icmp .ge 19, 3, 94, 0, 0), (.aload_n 0, 1, 0, 0, 0), (.aload_n 0, 1, 0, 0, 0), (.getfield 43, 3, 11, 18, 0), (.iload_n 2, 1, 2, 0, 0), (.iaload, 1, 0, 0, 0), (.iload_n 3, 1, 3, 0, 0), (.iload 4, 2, 4, 0, 0), (.invokevirtual 264, 3, 280, 3, 11), (.goto 16, 3, 107, 0, 0)], 94),
  (94, [(.aload_n 0, 1, 0, 0, 0), (.aload_n 0, 1, 0, 0, 0), (.getfield 43, 3, 11, 18, 0), (.iload_n 2, 1, 2, 0, 0), (.iaload, 1, 0, 0, 0), (.iload 4, 2, 4, 0, 0), (.iload_n 3, 1, 3, 0, 0), (.invokevirtual 264, 3, 280, 3, 11)], 107),
  (107, [(.istore 6, 2, 6, 0, 0), (.aload_n 0, 1, 0, 0, 0), (.getfield 37, 3, 11, 15, 0), (.iload_n 2, 1, 2, 0, 0), (.iload 5, 2, 5, 0, 0), (.ifCond .eq 11, 3, 127, 0, 0), (.iload 6, 2, 6, 0, 0), (.invokestatic 165, 3, 207, 1, 0), (.goto 4, 3, 128, 0, 0)], 127),
  (127, [(.iconst (-1), 1, 0, 0, -1)], 128),
  (128, [(.iastore, 1, 0, 0, 0), (.aload_n 0, 1, 0, 0, 0), (.getfield 40, 3, 11, 16, 0), (.iload_n 2, 1, 2, 0, 0), (.iload 5, 2, 5, 0, 0), (.ifCond .eq 12, 3, 148, 0, 0), (.aload_n 0, 1, 0, 0, 0), (.iload 6, 2, 6, 0, 0), (.invokevirtual 174, 3, 211, 1, 11), (.goto 4, 3, 149, 0, 0)], 148),
  (148, [(.iconst (-1), 1, 0, 0, -1)], 149),
  (149, [(.iastore, 1, 0, 0, 0), (.iload_n 1, 1, 1, 0, 0), (.iload 5, 2, 5, 0, 0), (.ifCond .eq 7, 3, 160, 0, 0), (.iconst 1, 1, 0, 0, 1), (.goto 4, 3, 161, 0, 0)], 160),
  (160, [(.iconst 0, 1, 0, 0, 0)], 161),
  (161, [(.iadd, 1, 0, 0, 0), (.istore_n 1, 1, 1, 0, 0), (.iinc 2 1, 3, 2, 0, 1), (.goto (-162), 3, 4, 0, 0)], 169),
  (169, [(.iload_n 1, 1, 1, 0, 0), (.ireturn, 1, 0, 0, 0)], 171)]
set_option maxRecDepth 100000 in
theorem ok_X11_solve : pm_oks 11 false 7 (some .int) cX11_solve bk_X11_solve = true := by decide +kernel
set_option maxRecDepth 100000 in
theorem me_X11_solve : pm_me 278 = (yX11_solve, cX11_solve, 7, (some .int), 0, 0) := rfl
theorem mt_X11_solve {l : Launch} {g : pm_G} {d mc ms : Nat} {as : List Value} {A : pm_H} {Q : Option Value → pm_H → Prop} (hca : pm_cat 7 as = true) (body : ∀ J : pm_J, pm_Cl l g (fun _ => none) d mc ms (pm_Rq mc ms Q) bk_X11_solve J → J 0 (pm_l0 7 as) [] A 0 0) : pm_Mt l g 278 d mc ms as A Q := pm_Mt_of (isI := false) 11 bk_X11_solve me_X11_solve (plainFor_of_name (by decide +kernel)) (by decide +kernel) (fun h => by cases h) ok_X11_solve hca body
def bk_X11_placeBy : pm_B := [(0, [(.iload_n 1, 1, 1, 0, 0), (.iconst (-1), 1, 0, 0, -1), (.if_icmp .ne 11, 3, 13, 0, 0), (.aload_n 0, 1, 0, 0, 0), (.iload_n 2, 1, 2, 0, 0), (.invokevirtual 145, 3, 198, 1, 11), (.goto 21, 3, 31, 0, 0)], 13),
  (13, [(.aload_n 0, 1, 0, 0, 0), (.iload_n 1, 1, 1, 0, 0), (.invokevirtual 197, 3, 227, 1, 11), (.ifCond .eq 12, 3, 30, 0, 0), (.aload_n 0, 1, 0, 0, 0), (.iload_n 1, 1, 1, 0, 0), (.iload_n 2, 1, 2, 0, 0), (.invokevirtual 212, 3, 236, 2, 11), (.goto 4, 3, 31, 0, 0)], 30),
  (30, [(.iconst (-1), 1, 0, 0, -1)], 31),
  (31, [(.ireturn, 1, 0, 0, 0)], 32)]
set_option maxRecDepth 100000 in
theorem ok_X11_placeBy : pm_oks 11 false 3 (some .int) cX11_placeBy bk_X11_placeBy = true := by decide +kernel
set_option maxRecDepth 100000 in
theorem me_X11_placeBy : pm_me 279 = (yX11_placeBy, cX11_placeBy, 3, (some .int), 2, 0) := rfl
theorem mt_X11_placeBy {l : Launch} {g : pm_G} {d mc ms : Nat} {as : List Value} {A : pm_H} {Q : Option Value → pm_H → Prop} (hca : pm_cat 3 as = true) (body : ∀ J : pm_J, pm_Cl l g (fun _ => none) d mc ms (pm_Rq mc ms Q) bk_X11_placeBy J → J 0 (pm_l0 3 as) [] A 0 0) : pm_Mt l g 279 d mc ms as A Q := pm_Mt_of (isI := false) 11 bk_X11_placeBy me_X11_placeBy (plainFor_of_name (by decide +kernel)) (by decide +kernel) (fun h => by cases h) ok_X11_placeBy hca body
def bk_X11_setBy : pm_B := [(0, [(.iload_n 1, 1, 1, 0, 0), (.iconst (-1), 1, 0, 0, -1), (.if_icmp .ne 12, 3, 14, 0, 0), (.aload_n 0, 1, 0, 0, 0), (.iload_n 2, 1, 2, 0, 0), (.iload_n 3, 1, 3, 0, 0), (.invokevirtual 161, 3, 206, 2, 11), (.goto 10, 3, 21, 0, 0)], 14),
  (14, [(.aload_n 0, 1, 0, 0, 0), (.iload_n 1, 1, 1, 0, 0), (.iload_n 2, 1, 2, 0, 0), (.iload_n 3, 1, 3, 0, 0), (.invokevirtual 203, 3, 232, 3, 11)], 21),
  (21, [(.ireturn, 1, 0, 0, 0)], 22)]
set_option maxRecDepth 100000 in
theorem ok_X11_setBy : pm_oks 11 false 4 (some .int) cX11_setBy bk_X11_setBy = true := by decide +kernel
set_option maxRecDepth 100000 in
theorem me_X11_setBy : pm_me 280 = (yX11_setBy, cX11_setBy, 4, (some .int), 3, 0) := rfl
theorem mt_X11_setBy {l : Launch} {g : pm_G} {d mc ms : Nat} {as : List Value} {A : pm_H} {Q : Option Value → pm_H → Prop} (hca : pm_cat 4 as = true) (body : ∀ J : pm_J, pm_Cl l g (fun _ => none) d mc ms (pm_Rq mc ms Q) bk_X11_setBy J → J 0 (pm_l0 4 as) [] A 0 0) : pm_Mt l g 280 d mc ms as A Q := pm_Mt_of (isI := false) 11 bk_X11_setBy me_X11_setBy (plainFor_of_name (by decide +kernel)) (by decide +kernel) (fun h => by cases h) ok_X11_setBy hca body
def bk_X11_asked : pm_B := [(0, [(.iload_n 1, 1, 1, 0, 0), (.iconst 0, 1, 0, 0, 0), (.aload_n 0, 1, 0, 0, 0), (.getfield 168, 3, 11, 17, 0), (.iconst 1, 1, 0, 0, 1), (.isub, 1, 0, 0, 0), (.invokestatic 74, 3, 169, 3, 0), (.ifCond .ne 5, 3, 16, 0, 0), (.iconst (-1), 1, 0, 0, -1), (.ireturn, 1, 0, 0, 0)], 16),
  (16, [(.iload_n 2, 1, 2, 0, 0), (.tableswitch 70 0 4 #[35, 42, 49, 56, 63], 35, 17, 0, 0)], 52),
  (52, [(.aload_n 0, 1, 0, 0, 0), (.getfield 37, 3, 11, 15, 0), (.iload_n 1, 1, 1, 0, 0), (.iaload, 1, 0, 0, 0), (.ireturn, 1, 0, 0, 0)], 59),
  (59, [(.aload_n 0, 1, 0, 0, 0), (.getfield 40, 3, 11, 16, 0), (.iload_n 1, 1, 1, 0, 0), (.iaload, 1, 0, 0, 0), (.ireturn, 1, 0, 0, 0)], 66),
  (66, [(.aload_n 0, 1, 0, 0, 0), (.getfield 31, 3, 11, 13, 0), (.iload_n 1, 1, 1, 0, 0), (.iaload, 1, 0, 0, 0), (.ireturn, 1, 0, 0, 0)], 73),
  (73, [(.aload_n 0, 1, 0, 0, 0), (.getfield 34, 3, 11, 14, 0), (.iload_n 1, 1, 1, 0, 0), (.iaload, 1, 0, 0, 0), (.ireturn, 1, 0, 0, 0)], 80),
  (80, [(.aload_n 0, 1, 0, 0, 0), (.getfield 43, 3, 11, 18, 0), (.iload_n 1, 1, 1, 0, 0), (.iaload, 1, 0, 0, 0), (.ireturn, 1, 0, 0, 0)], 87),
  (87, [(.iconst (-1), 1, 0, 0, -1), (.ireturn, 1, 0, 0, 0)], 89)]
set_option maxRecDepth 100000 in
theorem ok_X11_asked : pm_oks 11 false 3 (some .int) cX11_asked bk_X11_asked = true := by decide +kernel
set_option maxRecDepth 100000 in
theorem me_X11_asked : pm_me 281 = (yX11_asked, cX11_asked, 3, (some .int), 2, 0) := rfl
theorem mt_X11_asked {l : Launch} {g : pm_G} {d mc ms : Nat} {as : List Value} {A : pm_H} {Q : Option Value → pm_H → Prop} (hca : pm_cat 3 as = true) (body : ∀ J : pm_J, pm_Cl l g (fun _ => none) d mc ms (pm_Rq mc ms Q) bk_X11_asked J → J 0 (pm_l0 3 as) [] A 0 0) : pm_Mt l g 281 d mc ms as A Q := pm_Mt_of (isI := false) 11 bk_X11_asked me_X11_asked (plainFor_of_name (by decide +kernel)) (by decide +kernel) (fun h => by cases h) ok_X11_asked hca body
def bk_X11_forget : pm_B := [(0, [(.aload_n 0, 1, 0, 0, 0), (.getfield 168, 3, 11, 17, 0), (.istore_n 1, 1, 1, 0, 0), (.aload_n 0, 1, 0, 0, 0), (.iconst 0, 1, 0, 0, 0), (.putfield 168, 3, 11, 17, 0), (.iload_n 1, 1, 1, 0, 0), (.ireturn, 1, 0, 0, 0)], 12)]
set_option maxRecDepth 100000 in
theorem ok_X11_forget : pm_oks 11 false 2 (some .int) cX11_forget bk_X11_forget = true := by decide +kernel
set_option maxRecDepth 100000 in
theorem me_X11_forget : pm_me 282 = (yX11_forget, cX11_forget, 2, (some .int), 0, 0) := rfl
theorem mt_X11_forget {l : Launch} {g : pm_G} {d mc ms : Nat} {as : List Value} {A : pm_H} {Q : Option Value → pm_H → Prop} (hca : pm_cat 2 as = true) (body : ∀ J : pm_J, pm_Cl l g (fun _ => none) d mc ms (pm_Rq mc ms Q) bk_X11_forget J → J 0 (pm_l0 2 as) [] A 0 0) : pm_Mt l g 282 d mc ms as A Q := pm_Mt_of (isI := false) 11 bk_X11_forget me_X11_forget (plainFor_of_name (by decide +kernel)) (by decide +kernel) (fun h => by cases h) ok_X11_forget hca body
end
section
/-! the reference: its cells, as a function of its numbers v (0 many, 1 oldMany, 2 nextMany, 3 given, 4 edits, 5 touchedAll, 6 askedMany, 7 shelfSet) and rows f (0 colours, 1 names, 2 weights, 3 oldNames, 4 oldBonds, 5 nextColours, 6 nextNames, 7 askedOne, 8 askedOther, 9 answerCount, 10 answerWeight, 11 askedEdit, 12 wasColours, 13 wasNames, 14 wasMany, 15 wasTouched, 16 row, 17 gaps, 18 worth, 19 ends0) -/
def md_fs (q : Nat → Nat) (v : Nat → Int32) : List Value := [.ref (q 0), .ref (q 1), .ref (q 2), .ref (q 3), .ref (q 4), .ref (q 5), .ref (q 6), .int (v 0), .int (v 1), .int (v 2), .int (v 3), .int (v 4), .int (v 5), .ref (q 7), .ref (q 8), .ref (q 9), .ref (q 10), .int (v 6), .ref (q 11), .ref (q 12), .ref (q 13), .ref (q 14), .ref (q 15), .ref (q 16), .int (v 7), .ref (q 17), .ref (q 18), .ref (q 19)]
def md_ln (i : Nat) : Nat := ([160, 160, 24, 160, 160, 160, 160, 30, 30, 30, 30, 30, 6400, 6400, 40, 40, 24, 160, 1449, 1449] : List Nat).getD i 0
def md (A0 : pm_H) (g : pm_G) (h : Nat) (q : Nat → Nat) (v : Nat → Int32) (f : Nat → Nat → Int32) : pm_H := fun a => if a = h then some (pm_ob 11 (md_fs q v)) else match (List.range 20).find? (fun i => decide (a = q i)) with
  | some i => some (pm_ia g (md_ln i) (f i))
  | none => A0 a
def md_D (h : Nat) (q : Nat → Nat) : Prop := (∀ i j, i < 20 → j < 20 → q i = q j → i = j) ∧ ∀ i, i < 20 → q i ≠ h
section MD
variable {A0 : pm_H} {g : pm_G} {h : Nat} {q : Nat → Nat} {v : Nat → Int32} {f : Nat → Nat → Int32}
theorem md_o : md A0 g h q v f h = some (pm_ob 11 (md_fs q v)) := if_pos rfl
theorem md_find (D : md_D h q) {i : Nat} (hi : i < 20) : (List.range 20).find? (fun j => decide (q i = q j)) = some i := by
  cases hx : (List.range 20).find? (fun j => decide (q i = q j)) with
  | none =>
    have := List.find?_eq_none.mp hx i (List.mem_range.mpr hi)
    simp at this
  | some j =>
    have h1 := List.find?_some hx
    have h2 := List.mem_range.mp (List.mem_of_find?_eq_some hx)
    have h3 : q i = q j := by simpa using h1
    rw [D.1 i j hi h2 h3]
theorem md_a (D : md_D h q) {i : Nat} (hi : i < 20) : md A0 g h q v f (q i) = some (pm_ia g (md_ln i) (f i)) := by
  unfold md
  rw [if_neg (D.2 i hi), md_find D hi]
theorem md_st (D : md_D h q) {i : Nat} (hi : i < 20) (x : Nat → Int32) : pm_up (md A0 g h q v f) (q i) (pm_ia g (md_ln i) x) = md A0 g h q v (va_up f i x) := by
  funext a
  by_cases ha : a = q i
  · subst ha
    rw [pm_up_s, md_a D hi]
    simp [va_up]
  · rw [pm_up_n ha]
    unfold md
    by_cases hh : a = h
    · rw [if_pos hh, if_pos hh]
    · rw [if_neg hh, if_neg hh]
      cases hx : (List.range 20).find? (fun j => decide (a = q j)) with
      | none => rfl
      | some j =>
        have h3 : a = q j := by simpa using List.find?_some hx
        have hj : j ≠ i := fun e => ha (by rw [h3, e])
        simp [va_up, hj]
theorem md_pt (D : md_D h q) {v' : Nat → Int32} {fs : List Value} (e : fs = md_fs q v') : pm_up (md A0 g h q v f) h (pm_ob 11 fs) = md A0 g h q v' f := by
  subst e
  funext a
  by_cases ha : a = h
  · subst ha
    rw [pm_up_s, md_o]
  · rw [pm_up_n ha]
    unfold md
    rw [if_neg ha, if_neg ha]
theorem md_a_colours (D : md_D h q) : md A0 g h q v f (q 0) = some (pm_ia g 160 (f 0)) := md_a D (i := 0) (by decide)
theorem md_s_colours (D : md_D h q) (x : Nat → Int32) : pm_up (md A0 g h q v f) (q 0) (pm_ia g 160 x) = md A0 g h q v (va_up f 0 x) := md_st D (i := 0) (by decide) x
theorem md_a_names (D : md_D h q) : md A0 g h q v f (q 1) = some (pm_ia g 160 (f 1)) := md_a D (i := 1) (by decide)
theorem md_s_names (D : md_D h q) (x : Nat → Int32) : pm_up (md A0 g h q v f) (q 1) (pm_ia g 160 x) = md A0 g h q v (va_up f 1 x) := md_st D (i := 1) (by decide) x
theorem md_a_weights (D : md_D h q) : md A0 g h q v f (q 2) = some (pm_ia g 24 (f 2)) := md_a D (i := 2) (by decide)
theorem md_s_weights (D : md_D h q) (x : Nat → Int32) : pm_up (md A0 g h q v f) (q 2) (pm_ia g 24 x) = md A0 g h q v (va_up f 2 x) := md_st D (i := 2) (by decide) x
theorem md_a_oldNames (D : md_D h q) : md A0 g h q v f (q 3) = some (pm_ia g 160 (f 3)) := md_a D (i := 3) (by decide)
theorem md_s_oldNames (D : md_D h q) (x : Nat → Int32) : pm_up (md A0 g h q v f) (q 3) (pm_ia g 160 x) = md A0 g h q v (va_up f 3 x) := md_st D (i := 3) (by decide) x
theorem md_a_oldBonds (D : md_D h q) : md A0 g h q v f (q 4) = some (pm_ia g 160 (f 4)) := md_a D (i := 4) (by decide)
theorem md_s_oldBonds (D : md_D h q) (x : Nat → Int32) : pm_up (md A0 g h q v f) (q 4) (pm_ia g 160 x) = md A0 g h q v (va_up f 4 x) := md_st D (i := 4) (by decide) x
theorem md_a_nextColours (D : md_D h q) : md A0 g h q v f (q 5) = some (pm_ia g 160 (f 5)) := md_a D (i := 5) (by decide)
theorem md_s_nextColours (D : md_D h q) (x : Nat → Int32) : pm_up (md A0 g h q v f) (q 5) (pm_ia g 160 x) = md A0 g h q v (va_up f 5 x) := md_st D (i := 5) (by decide) x
theorem md_a_nextNames (D : md_D h q) : md A0 g h q v f (q 6) = some (pm_ia g 160 (f 6)) := md_a D (i := 6) (by decide)
theorem md_s_nextNames (D : md_D h q) (x : Nat → Int32) : pm_up (md A0 g h q v f) (q 6) (pm_ia g 160 x) = md A0 g h q v (va_up f 6 x) := md_st D (i := 6) (by decide) x
theorem md_a_askedOne (D : md_D h q) : md A0 g h q v f (q 7) = some (pm_ia g 30 (f 7)) := md_a D (i := 7) (by decide)
theorem md_s_askedOne (D : md_D h q) (x : Nat → Int32) : pm_up (md A0 g h q v f) (q 7) (pm_ia g 30 x) = md A0 g h q v (va_up f 7 x) := md_st D (i := 7) (by decide) x
theorem md_a_askedOther (D : md_D h q) : md A0 g h q v f (q 8) = some (pm_ia g 30 (f 8)) := md_a D (i := 8) (by decide)
theorem md_s_askedOther (D : md_D h q) (x : Nat → Int32) : pm_up (md A0 g h q v f) (q 8) (pm_ia g 30 x) = md A0 g h q v (va_up f 8 x) := md_st D (i := 8) (by decide) x
theorem md_a_answerCount (D : md_D h q) : md A0 g h q v f (q 9) = some (pm_ia g 30 (f 9)) := md_a D (i := 9) (by decide)
theorem md_s_answerCount (D : md_D h q) (x : Nat → Int32) : pm_up (md A0 g h q v f) (q 9) (pm_ia g 30 x) = md A0 g h q v (va_up f 9 x) := md_st D (i := 9) (by decide) x
theorem md_a_answerWeight (D : md_D h q) : md A0 g h q v f (q 10) = some (pm_ia g 30 (f 10)) := md_a D (i := 10) (by decide)
theorem md_s_answerWeight (D : md_D h q) (x : Nat → Int32) : pm_up (md A0 g h q v f) (q 10) (pm_ia g 30 x) = md A0 g h q v (va_up f 10 x) := md_st D (i := 10) (by decide) x
theorem md_a_askedEdit (D : md_D h q) : md A0 g h q v f (q 11) = some (pm_ia g 30 (f 11)) := md_a D (i := 11) (by decide)
theorem md_s_askedEdit (D : md_D h q) (x : Nat → Int32) : pm_up (md A0 g h q v f) (q 11) (pm_ia g 30 x) = md A0 g h q v (va_up f 11 x) := md_st D (i := 11) (by decide) x
theorem md_a_wasColours (D : md_D h q) : md A0 g h q v f (q 12) = some (pm_ia g 6400 (f 12)) := md_a D (i := 12) (by decide)
theorem md_s_wasColours (D : md_D h q) (x : Nat → Int32) : pm_up (md A0 g h q v f) (q 12) (pm_ia g 6400 x) = md A0 g h q v (va_up f 12 x) := md_st D (i := 12) (by decide) x
theorem md_a_wasNames (D : md_D h q) : md A0 g h q v f (q 13) = some (pm_ia g 6400 (f 13)) := md_a D (i := 13) (by decide)
theorem md_s_wasNames (D : md_D h q) (x : Nat → Int32) : pm_up (md A0 g h q v f) (q 13) (pm_ia g 6400 x) = md A0 g h q v (va_up f 13 x) := md_st D (i := 13) (by decide) x
theorem md_a_wasMany (D : md_D h q) : md A0 g h q v f (q 14) = some (pm_ia g 40 (f 14)) := md_a D (i := 14) (by decide)
theorem md_s_wasMany (D : md_D h q) (x : Nat → Int32) : pm_up (md A0 g h q v f) (q 14) (pm_ia g 40 x) = md A0 g h q v (va_up f 14 x) := md_st D (i := 14) (by decide) x
theorem md_a_wasTouched (D : md_D h q) : md A0 g h q v f (q 15) = some (pm_ia g 40 (f 15)) := md_a D (i := 15) (by decide)
theorem md_s_wasTouched (D : md_D h q) (x : Nat → Int32) : pm_up (md A0 g h q v f) (q 15) (pm_ia g 40 x) = md A0 g h q v (va_up f 15 x) := md_st D (i := 15) (by decide) x
theorem md_a_row (D : md_D h q) : md A0 g h q v f (q 16) = some (pm_ia g 24 (f 16)) := md_a D (i := 16) (by decide)
theorem md_s_row (D : md_D h q) (x : Nat → Int32) : pm_up (md A0 g h q v f) (q 16) (pm_ia g 24 x) = md A0 g h q v (va_up f 16 x) := md_st D (i := 16) (by decide) x
theorem md_a_gaps (D : md_D h q) : md A0 g h q v f (q 17) = some (pm_ia g 160 (f 17)) := md_a D (i := 17) (by decide)
theorem md_s_gaps (D : md_D h q) (x : Nat → Int32) : pm_up (md A0 g h q v f) (q 17) (pm_ia g 160 x) = md A0 g h q v (va_up f 17 x) := md_st D (i := 17) (by decide) x
theorem md_a_worth (D : md_D h q) : md A0 g h q v f (q 18) = some (pm_ia g 1449 (f 18)) := md_a D (i := 18) (by decide)
theorem md_s_worth (D : md_D h q) (x : Nat → Int32) : pm_up (md A0 g h q v f) (q 18) (pm_ia g 1449 x) = md A0 g h q v (va_up f 18 x) := md_st D (i := 18) (by decide) x
theorem md_a_ends0 (D : md_D h q) : md A0 g h q v f (q 19) = some (pm_ia g 1449 (f 19)) := md_a D (i := 19) (by decide)
theorem md_s_ends0 (D : md_D h q) (x : Nat → Int32) : pm_up (md A0 g h q v f) (q 19) (pm_ia g 1449 x) = md A0 g h q v (va_up f 19 x) := md_st D (i := 19) (by decide) x
theorem md_p_many (D : md_D h q) (x : Int32) : pm_up (md A0 g h q v f) h (pm_ob 11 ((md_fs q v).set 7 (.int x))) = md A0 g h q (upd v 0 x) f := md_pt D rfl
theorem md_p_oldMany (D : md_D h q) (x : Int32) : pm_up (md A0 g h q v f) h (pm_ob 11 ((md_fs q v).set 8 (.int x))) = md A0 g h q (upd v 1 x) f := md_pt D rfl
theorem md_p_nextMany (D : md_D h q) (x : Int32) : pm_up (md A0 g h q v f) h (pm_ob 11 ((md_fs q v).set 9 (.int x))) = md A0 g h q (upd v 2 x) f := md_pt D rfl
theorem md_p_given (D : md_D h q) (x : Int32) : pm_up (md A0 g h q v f) h (pm_ob 11 ((md_fs q v).set 10 (.int x))) = md A0 g h q (upd v 3 x) f := md_pt D rfl
theorem md_p_edits (D : md_D h q) (x : Int32) : pm_up (md A0 g h q v f) h (pm_ob 11 ((md_fs q v).set 11 (.int x))) = md A0 g h q (upd v 4 x) f := md_pt D rfl
theorem md_p_touchedAll (D : md_D h q) (x : Int32) : pm_up (md A0 g h q v f) h (pm_ob 11 ((md_fs q v).set 12 (.int x))) = md A0 g h q (upd v 5 x) f := md_pt D rfl
theorem md_p_askedMany (D : md_D h q) (x : Int32) : pm_up (md A0 g h q v f) h (pm_ob 11 ((md_fs q v).set 17 (.int x))) = md A0 g h q (upd v 6 x) f := md_pt D rfl
theorem md_p_shelfSet (D : md_D h q) (x : Int32) : pm_up (md A0 g h q v f) h (pm_ob 11 ((md_fs q v).set 24 (.int x))) = md A0 g h q (upd v 7 x) f := md_pt D rfl
end MD
/-! numbers of the machine as whole numbers -/
theorem pm_add (x y : Int32) (h1 : -2147483648 ≤ x.toInt + y.toInt) (h2 : x.toInt + y.toInt < 2147483648) : (x + y).toInt = x.toInt + y.toInt := by
  rw [Int32.toInt_add]
  exact Int.bmod_eq_of_le (by omega) (by omega)
theorem pm_sub (x y : Int32) (h1 : -2147483648 ≤ x.toInt - y.toInt) (h2 : x.toInt - y.toInt < 2147483648) : (x - y).toInt = x.toInt - y.toInt := by
  rw [Int32.toInt_sub]
  exact Int.bmod_eq_of_le (by omega) (by omega)
theorem pm_mul (x y : Int32) (h1 : -2147483648 ≤ x.toInt * y.toInt) (h2 : x.toInt * y.toInt < 2147483648) : (x * y).toInt = x.toInt * y.toInt := by
  rw [Int32.toInt_mul]
  exact Int.bmod_eq_of_le (by omega) (by omega)
theorem pm_rng (x : Int32) : -2147483648 ≤ x.toInt ∧ x.toInt < 2147483648 := ⟨Int32.le_toInt x, Int32.toInt_lt x⟩
theorem pm_eqI {x y : Int32} (h : x.toInt = y.toInt) : x = y := Int32.toInt_inj.mp h
theorem pm_neI {x y : Int32} (h : ¬ x = y) : x.toInt ≠ y.toInt := fun q => h (pm_eqI q)
end
section
/-! what is always so of the reference's numbers and rows; the ends of its contracts -/
def md_V (v : Nat → Int32) : Prop := (0 ≤ (v 0).toInt ∧ (v 0).toInt ≤ 160) ∧ (0 ≤ (v 1).toInt ∧ (v 1).toInt ≤ 160) ∧ (0 ≤ (v 2).toInt ∧ (v 2).toInt ≤ 160) ∧ (0 ≤ (v 3).toInt ∧ (v 3).toInt ≤ 10000) ∧ (0 ≤ (v 4).toInt ∧ (v 4).toInt ≤ 100000) ∧ (0 ≤ (v 6).toInt ∧ (v 6).toInt ≤ 30)
def md_lo (i : Nat) : Int := ([0, -2147483648, -2147483648, -2147483648, -2147483648, 0, -2147483648, -2147483648, -2147483648, -2147483648, -2147483648, -2147483648, 0, -2147483648, 0, -2147483648, 0, -2147483648, -2147483648, 0] : List Int).getD i (-2147483648)
def md_hi (i : Nat) : Int := ([23, 2147483647, 2147483647, 2147483647, 2147483647, 23, 2147483647, 2147483647, 2147483647, 2147483647, 2147483647, 2147483647, 23, 2147483647, 160, 2147483647, 23, 2147483647, 2147483647, 159] : List Int).getD i 2147483647
def md_F (f : Nat → Nat → Int32) : Prop := ∀ i j : Nat, md_lo i ≤ (f i j).toInt ∧ (f i j).toInt ≤ md_hi i
theorem md_F_st {f : Nat → Nat → Int32} (h : md_F f) (a k : Nat) (x : Int32) (hx : md_lo a ≤ x.toInt ∧ x.toInt ≤ md_hi a) : md_F (va_up f a (upd (f a) k x)) := by
  intro i j
  by_cases hi : i = a
  · subst hi
    by_cases hj : j = k
    · subst hj
      simpa [va_up, upd] using hx
    · simpa [va_up, upd, hj] using h i j
  · simpa [va_up, hi] using h i j
theorem md_rng (a : Nat) (x : Int32) (h : md_lo a = -2147483648 ∧ md_hi a = 2147483647) : md_lo a ≤ x.toInt ∧ x.toInt ≤ md_hi a := by
  rw [h.1, h.2]
  have := pm_rng x
  omega
def md_Qp (M : pm_H) (P : Int32 → Prop) : Option Value → pm_H → Prop := fun r A' => ∃ x : Int32, r = some (.int x) ∧ A' = M ∧ P x
def md_Qj (M : pm_H) (P : Int64 → Prop) : Option Value → pm_H → Prop := fun r A' => ∃ x : Int64, r = some (.long x) ∧ A' = M ∧ P x
def md_Qw (A0 : pm_H) (g : pm_G) (h : Nat) (q : Nat → Nat) (f : Nat → Nat → Int32) (P : Int32 → (Nat → Int32) → (Nat → Nat → Int32) → Prop) : Option Value → pm_H → Prop := fun r A' => ∃ (x : Int32) (v2 : Nat → Int32) (f2 : Nat → Nat → Int32), r = some (.int x) ∧ A' = md A0 g h q v2 f2 ∧ md_V v2 ∧ md_F f2 ∧ f2 2 = f 2 ∧ P x v2 f2
def md_Qv (A0 : pm_H) (g : pm_G) (h : Nat) (q : Nat → Nat) (f : Nat → Nat → Int32) (P : (Nat → Int32) → (Nat → Nat → Int32) → Prop) : Option Value → pm_H → Prop := fun r A' => ∃ (v2 : Nat → Int32) (f2 : Nat → Nat → Int32), r = none ∧ A' = md A0 g h q v2 f2 ∧ md_V v2 ∧ md_F f2 ∧ f2 2 = f 2 ∧ P v2 f2
theorem pm_mulc (x y : Int32) (k : Int) (hk : y.toInt = k) (h1 : -2147483648 ≤ x.toInt * k) (h2 : x.toInt * k < 2147483648) : (x * y).toInt = x.toInt * k := by
  rw [Int32.toInt_mul, hk]
  exact Int.bmod_eq_of_le (by omega) (by omega)
theorem pm_mulk (x y : Int32) (k : Int) (hk : x.toInt = k) (h1 : -2147483648 ≤ k * y.toInt) (h2 : k * y.toInt < 2147483648) : (x * y).toInt = k * y.toInt := by
  rw [Int32.toInt_mul, hk]
  exact Int.bmod_eq_of_le (by omega) (by omega)
theorem pm_rem (x y : Int32) (hx : 0 ≤ x.toInt) (hy : 0 < y.toInt) : 0 ≤ (x - x / y * y).toInt ∧ (x - x / y * y).toInt < y.toInt ∧ (x - x / y * y).toInt = x.toInt % y.toInt := by
  obtain ⟨a, ha, rfl⟩ := nI_of (x := x) (fun h => by have := (pm_lt0 x).mp h; omega)
  obtain ⟨d, hd, rfl⟩ := nI_of (x := y) (fun h => by have := (pm_lt0 y).mp h; omega)
  rw [nI_toInt hd] at hy
  have hd0 : 0 < d := by omega
  have hm : a % d < d := Nat.mod_lt _ hd0
  rw [pk_rem ha hd0 hd, nI_toInt (by omega), nI_toInt ha, nI_toInt hd]
  refine ⟨by omega, by omega, by omega⟩
theorem pm_swc {pc : Nat} {dflt lo hi : Int} {offs : Array Int} {x : Int32} {P : Nat → Prop} (N : Nat) (hN : offs.size = N) (hN2 : hi - lo + 1 = (N : Int)) (h0 : (x.toInt < lo ∨ hi < x.toInt) → P ((pc : Int) + dflt).toNat) (h1 : ∀ i : Nat, i < N → x.toInt = lo + i → P (((pc : Int) + offs.getD i 0).toNat)) : ∀ t : Nat, pm_sw pc dflt lo hi offs x t → P t := by
  intro t ht
  rcases ht with ⟨h, rfl⟩ | ⟨h2, h3, off, h4, rfl⟩
  · exact h0 h
  · have h5 : (x.toInt - lo).toNat < N := by omega
    have h6 := h1 (x.toInt - lo).toNat h5 (by omega)
    rw [Array.getD_eq_getD_getElem?, h4] at h6
    exact h6
/-- the last place ahead of n that holds x -/
def lastEq (c : Nat → Int32) (x : Int32) : Nat → Int
  | 0 => -1
  | k + 1 => if c k = x then (k : Int) else lastEq c x k
theorem lastEq_lt (c : Nat → Int32) (x : Int32) : ∀ n : Nat, -1 ≤ lastEq c x n ∧ lastEq c x n < n
  | 0 => by simp [lastEq]
  | k + 1 => by
    have := lastEq_lt c x k
    unfold lastEq
    split <;> omega
theorem lastEq_y {c : Nat → Int32} {x : Int32} {k : Nat} (h : c k = x) : lastEq c x (k + 1) = k := by unfold lastEq; rw [if_pos h]
theorem lastEq_n {c : Nat → Int32} {x : Int32} {k : Nat} (h : ¬ c k = x) : lastEq c x (k + 1) = lastEq c x k := by rw [lastEq, if_neg h]
theorem lastEq_s {c : Nat → Int32} {x : Int32} {a : Int} (ha : 0 ≤ a) : lastEq c x (a + 1).toNat = if c a.toNat = x then a else lastEq c x a.toNat := by
  obtain ⟨k, rfl⟩ := Int.eq_ofNat_of_zero_le ha
  have : ((k : Int) + 1).toNat = k + 1 := by omega
  rw [this, Int.toNat_natCast, lastEq]
/-- bits one by one -/
theorem pm_bits_lt {x : Int32} (h : ¬ x = 0) : (x &&& (x - 1)).toBitVec.toNat < x.toBitVec.toNat := by
  have h0 : x.toBitVec ≠ 0 := fun q => h (by
    have : x = ⟨⟨x.toBitVec⟩⟩ := rfl
    rw [this, q]; rfl)
  have h1 : (x &&& (x - 1)).toBitVec = x.toBitVec &&& (x.toBitVec - 1) := rfl
  rw [h1, BitVec.toNat_and]
  have h2 : x.toBitVec.toNat &&& (x.toBitVec - 1).toNat ≤ (x.toBitVec - 1).toNat := Nat.and_le_right
  have h3 : x.toBitVec.toNat ≠ 0 := fun q => h0 (BitVec.eq_of_toNat_eq (by simpa using q))
  have h4 : (x.toBitVec - 1).toNat = x.toBitVec.toNat - 1 := by
    rw [BitVec.toNat_sub]
    have := x.toBitVec.isLt
    have h5 : (1 : BitVec 32).toNat = 1 := rfl
    rw [h5]
    omega
  omega
/-- the next place from k on, of n, that holds x -/
def nextEq (c : Nat → Int32) (x : Int32) : Nat → Nat → Int
  | _, 0 => -1
  | k, n + 1 => if c k = x then (k : Int) else nextEq c x (k + 1) n
theorem nextEq_lt (c : Nat → Int32) (x : Int32) : ∀ k n : Nat, nextEq c x k n = -1 ∨ ((k : Int) ≤ nextEq c x k n ∧ nextEq c x k n < k + n)
  | k, 0 => by simp [nextEq]
  | k, n + 1 => by
    have := nextEq_lt c x (k + 1) n
    unfold nextEq
    split <;> omega
theorem nextEq_s {c : Nat → Int32} {x : Int32} {a m : Int} (ha : 0 ≤ a) (hm : a < m) : nextEq c x a.toNat (m - a).toNat = if c a.toNat = x then a else nextEq c x (a + 1).toNat (m - (a + 1)).toNat := by
  obtain ⟨k, rfl⟩ := Int.eq_ofNat_of_zero_le ha
  rw [show (m - (k : Int)).toNat = (m - ((k : Int) + 1)).toNat + 1 by omega, nextEq, show ((k : Int) + 1).toNat = k + 1 by omega, Int.toNat_natCast]
/-- the set of the colours of n places from l on -/
def setF (c : Nat → Int32) (l : Nat) : Nat → Int32
  | 0 => 0
  | k + 1 => setF c l k ||| ((1 : Int32) <<< (c (l + k) &&& 31))
theorem setF_s {c : Nat → Int32} {l : Int} {p m : Int32} (hl : 0 ≤ l) (h : l ≤ p.toInt ∧ m.toInt = p.toInt + 1) : setF c l.toNat (p.toInt - l).toNat ||| ((1 : Int32) <<< (c p.toInt.toNat &&& 31)) = setF c l.toNat (m.toInt - l).toNat := by
  rw [h.2, show (p.toInt + 1 - l).toNat = (p.toInt - l).toNat + 1 by omega, setF, show l.toNat + (p.toInt - l).toNat = p.toInt.toNat by omega]
theorem pm_addc (x y : Int32) (k : Int) (hk : y.toInt = k) (h1 : -2147483648 ≤ x.toInt + k) (h2 : x.toInt + k < 2147483648) : (x + y).toInt = x.toInt + k := by
  rw [← hk] at h1 h2 ⊢
  exact pm_add x y h1 h2
theorem pm_subc (x y : Int32) (k : Int) (hk : y.toInt = k) (h1 : -2147483648 ≤ x.toInt - k) (h2 : x.toInt - k < 2147483648) : (x - y).toInt = x.toInt - k := by
  rw [← hk] at h1 h2 ⊢
  exact pm_sub x y h1 h2
end
section
/-! ===== Int32 by its bits: bt x i ===== -/
def bt (x : Int32) (i : Nat) : Bool := x.toBitVec.getLsbD i
theorem b_ext {x y : Int32} (h : ∀ i, i < 32 → bt x i = bt y i) : x = y := Int32.toBitVec_inj.mp (BitVec.eq_of_getLsbD_eq (fun i hi => h i hi))
theorem b_or (x y : Int32) (i : Nat) : bt (x ||| y) i = (bt x i || bt y i) := by unfold bt; rw [Int32.toBitVec_or, BitVec.getLsbD_or]
theorem b_and (x y : Int32) (i : Nat) : bt (x &&& y) i = (bt x i && bt y i) := by unfold bt; rw [Int32.toBitVec_and, BitVec.getLsbD_and]
theorem b_xor (x y : Int32) (i : Nat) : bt (x ^^^ y) i = (bt x i ^^ bt y i) := by unfold bt; rw [Int32.toBitVec_xor, BitVec.getLsbD_xor]
theorem b_big {x : Int32} {i : Nat} (h : 32 ≤ i) : bt x i = false := BitVec.getLsbD_of_ge _ _ h
theorem b_255 (i : Nat) : bt 255 i = decide (i < 8) := by
  rcases Nat.lt_or_ge i 32 with h | h
  · exact (by decide +kernel : ∀ i, i < 32 → bt 255 i = decide (i < 8)) i h
  · rw [b_big h, decide_eq_false (by omega)]
theorem b_65535 (i : Nat) : bt 65535 i = decide (i < 16) := by
  rcases Nat.lt_or_ge i 32 with h | h
  · exact (by decide +kernel : ∀ i, i < 32 → bt 65535 i = decide (i < 16)) i h
  · rw [b_big h, decide_eq_false (by omega)]
theorem b_m1 : ∀ i, i < 32 → bt (-1) i = true := by decide +kernel
theorem b_0 (i : Nat) : bt 0 i = false := BitVec.getLsbD_zero
theorem s_l : ∀ n, n < 32 → ((nI n &&& 31).toBitVec.smod 32).toNat = n := by decide +kernel
theorem s_u : ∀ n, n < 32 → (((nI n).toUInt32 &&& Int32.toUInt32 31).toBitVec % 32).toNat = n := by decide +kernel
theorem b_shl (n : Nat) (hn : n < 32) (x : Int32) {i : Nat} (hi : i < 32) : bt (x <<< (nI n &&& 31)) i = (decide (n ≤ i) && bt x (i - n)) := by
  unfold bt
  rw [Int32.toBitVec_shiftLeft]
  show (x.toBitVec <<< ((nI n &&& 31).toBitVec.smod 32).toNat).getLsbD i = _
  rw [s_l n hn, BitVec.getLsbD_shiftLeft]
  rcases Nat.lt_or_ge i n with h | h
  · simp [h, Nat.not_le.mpr h]
  · simp [hi, h, Nat.not_lt.mpr h]
theorem b_ushr (n : Nat) (hn : n < 32) (x : Int32) (i : Nat) : bt ((x.toUInt32 >>> ((nI n).toUInt32 &&& Int32.toUInt32 31)).toInt32) i = bt x (n + i) := by
  show (x.toUInt32 >>> ((nI n).toUInt32 &&& Int32.toUInt32 31)).toBitVec.getLsbD i = x.toUInt32.toBitVec.getLsbD (n + i)
  rw [UInt32.toBitVec_shiftRight]
  show (x.toUInt32.toBitVec >>> (((nI n).toUInt32 &&& Int32.toUInt32 31).toBitVec % 32).toNat).getLsbD i = _
  rw [s_u n hn, BitVec.getLsbD_ushiftRight]
theorem b_sshr (n : Nat) (hn : n < 32) (x : Int32) {i : Nat} (hi : i < 32) : bt (x >>> (nI n &&& 31)) i = if n + i < 32 then bt x (n + i) else bt x 31 := by
  unfold bt
  rw [Int32.toBitVec_shiftRight]
  show (x.toBitVec.sshiftRight ((nI n &&& 31).toBitVec.smod 32).toNat).getLsbD i = _
  rw [s_l n hn, BitVec.getLsbD_sshiftRight, BitVec.msb_eq_getLsbD_last]
  simp [hi]
/-! bits by a number c of 0 .. 31, as the machine tells them -/
theorem bn_of {c : Int32} (h : 0 ≤ c.toInt ∧ c.toInt ≤ 31) : ∃ n : Nat, n < 32 ∧ c = nI n ∧ c.toInt = n := by
  obtain ⟨n, hn, rfl⟩ := nI_of (x := c) (fun h2 => by have := (pm_lt0 c).mp h2; omega)
  have h3 := nI_toInt hn
  exact ⟨n, by omega, rfl, h3⟩
theorem b_1 (i : Nat) : bt 1 i = decide (i = 0) := by
  rcases Nat.lt_or_ge i 32 with h | h
  · exact (by decide +kernel : ∀ i, i < 32 → bt 1 i = decide (i = 0)) i h
  · rw [b_big h, decide_eq_false (by omega)]
theorem b_one {c : Int32} (h : 0 ≤ c.toInt ∧ c.toInt ≤ 31) {i : Nat} (hi : i < 32) : bt ((1 : Int32) <<< (c &&& 31)) i = decide (i = c.toInt.toNat) := by
  obtain ⟨n, hn, rfl, e⟩ := bn_of h
  rw [b_shl n hn 1 hi, b_1, e, Int.toNat_natCast]
  by_cases h1 : i = n
  · subst h1
    simp
  · rw [decide_eq_false h1]
    by_cases h2 : n ≤ i
    · have h3 : ¬ i - n = 0 := by omega
      simp [h3]
    · simp [h2]
theorem b_sh1 (x : Int32) {c : Int32} (h : 0 ≤ c.toInt ∧ c.toInt ≤ 31) : ((x >>> (c &&& 31)) &&& 1) = if bt x c.toInt.toNat = true then 1 else 0 := by
  obtain ⟨n, hn, rfl, e⟩ := bn_of h
  apply b_ext
  intro i hi
  rw [b_and, b_sshr n hn x hi, b_1, e, Int.toNat_natCast]
  by_cases h0 : i = 0
  · subst h0
    rw [if_pos (by omega), Nat.add_zero]
    cases bt x n
    · simp [b_0]
    · simp [b_1]
  · rw [decide_eq_false h0, Bool.and_false]
    split
    · rw [b_1, decide_eq_false h0]
    · rw [b_0]
theorem b_y {x c : Int32} (h : 0 ≤ c.toInt ∧ c.toInt ≤ 31) (hb : ¬ ((x >>> (c &&& 31)) &&& 1) = 0) : bt x c.toInt.toNat = true := by
  rw [b_sh1 x h] at hb
  cases e : bt x c.toInt.toNat
  · rw [e] at hb; exact absurd rfl hb
  · rfl
theorem b_n {x c : Int32} (h : 0 ≤ c.toInt ∧ c.toInt ≤ 31) (hb : ¬ ((x >>> (c &&& 31)) &&& 1) = 1) : bt x c.toInt.toNat = false := by
  rw [b_sh1 x h] at hb
  cases e : bt x c.toInt.toNat
  · rfl
  · rw [e] at hb; exact absurd rfl hb
theorem b_y' {x c : Int32} (h : 0 ≤ c.toInt ∧ c.toInt ≤ 31) (hb : bt x c.toInt.toNat = true) : ¬ ((x >>> (c &&& 31)) &&& 1) = 0 := by
  rw [b_sh1 x h, hb]; decide
/-- how many bits below k -/
def cntB (x : Int32) : Nat → Nat
  | 0 => 0
  | k + 1 => cntB x k + if bt x k = true then 1 else 0
theorem cntB_le (x : Int32) : ∀ k, cntB x k ≤ k
  | 0 => Nat.le_refl _
  | k + 1 => by
    have := cntB_le x k
    unfold cntB
    split <;> omega
theorem cntB_lt {x : Int32} {c : Nat} (hb : bt x c = false) : ∀ k, c < k → cntB x k < k
  | 0, h => by omega
  | k + 1, h => by
    have h1 := cntB_le x k
    unfold cntB
    by_cases hk : c = k
    · subst hk
      rw [hb]
      simp
      omega
    · have := cntB_lt hb k (by omega)
      split <;> omega
theorem cntB_eq {x y : Int32} : ∀ k, (∀ i, i < k → bt x i = bt y i) → cntB x k = cntB y k
  | 0, _ => rfl
  | k + 1, h => by
    unfold cntB
    rw [cntB_eq k (fun i hi => h i (by omega)), h k (by omega)]
theorem cntB_or {x c : Int32} (h : 0 ≤ c.toInt ∧ c.toInt ≤ 31) (hb : bt x c.toInt.toNat = false) : ∀ k, k ≤ 32 → cntB (x ||| ((1 : Int32) <<< (c &&& 31))) k = cntB x k + if c.toInt.toNat < k then 1 else 0
  | 0, _ => rfl
  | k + 1, hk => by
    unfold cntB
    rw [cntB_or h hb k (by omega), b_or, b_one h (show k < 32 by omega)]
    by_cases e : k = c.toInt.toNat
    · rw [← e] at hb
      rw [e] at hb ⊢
      rw [hb]
      simp
    · rw [decide_eq_false e, Bool.or_false]
      by_cases h1 : c.toInt.toNat < k
      · simp only [if_pos h1, if_pos (show c.toInt.toNat < k + 1 by omega)]; omega
      · simp only [if_neg h1, if_neg (show ¬ c.toInt.toNat < k + 1 by omega)]; omega
theorem cnt_lt {n x c : Int32} (hn : n.toInt = (cntB x 24 : Int)) (h : 0 ≤ c.toInt ∧ c.toInt ≤ 23) (hb : ¬ ((x >>> (c &&& 31)) &&& 1) = 1) : 0 ≤ n.toInt ∧ n.toInt < 24 := by
  have h1 := b_n (x := x) (c := c) (by omega) hb
  have h2 := cntB_lt h1 24 (by omega)
  omega
theorem cnt_st {n x c : Int32} (hn : n.toInt = (cntB x 24 : Int)) (h : 0 ≤ c.toInt ∧ c.toInt ≤ 23) (hb : ¬ ((x >>> (c &&& 31)) &&& 1) = 1) : (n + 1).toInt = (cntB (x ||| ((1 : Int32) <<< (c &&& 31))) 24 : Int) := by
  have h1 := b_n (x := x) (c := c) (by omega) hb
  have h2 := cntB_lt h1 24 (by omega)
  have h3 := cntB_or (c := c) (by omega) h1 24 (by omega)
  have k1 : (1 : Int32).toInt = 1 := rfl
  rw [pm_add n 1 (by omega) (by omega), h3, if_pos (by omega), hn, k1]
  omega
theorem cnt_0 : (0 : Int32).toInt = (cntB 0 24 : Int) := by decide +kernel
/-- one bit alone -/
theorem p2_one {c : Int32} (h : 0 ≤ c.toInt ∧ c.toInt ≤ 23) : ¬ ((0 : Int32) ||| ((1 : Int32) <<< (c &&& 31))) = 0 ∧ ((0 : Int32) ||| ((1 : Int32) <<< (c &&& 31))) &&& (((0 : Int32) ||| ((1 : Int32) <<< (c &&& 31))) - 1) = 0 := by
  obtain ⟨n, hn, rfl, e⟩ := bn_of (c := c) (by omega)
  have h3 : n < 24 := by omega
  exact (by decide +kernel : ∀ n, n < 24 → ¬ ((0 : Int32) ||| ((1 : Int32) <<< (nI n &&& 31))) = 0 ∧ ((0 : Int32) ||| ((1 : Int32) <<< (nI n &&& 31))) &&& (((0 : Int32) ||| ((1 : Int32) <<< (nI n &&& 31))) - 1) = 0) n h3
/-- a set whose colours all stand ahead of p -/
def goB (s : Int32) (c : Nat → Int32) (p : Int) : Prop := ∀ c9 : Int32, (0 ≤ c9.toInt ∧ c9.toInt ≤ 23) → ¬ ((s >>> (c9 &&& 31)) &&& 1) = 0 → ∃ k9 : Nat, (k9 : Int) < p ∧ c k9 = c9
theorem go_0 (c : Nat → Int32) (p : Int) : goB 0 c p := fun c9 h9 h8 => by
  have h1 := b_y (x := 0) (c := c9) (by omega) h8
  rw [b_0] at h1
  cases h1
theorem go_mono {s : Int32} {c : Nat → Int32} {p p' : Int} (h : goB s c p) (hp : p ≤ p') : goB s c p' := fun c9 h9 h8 => by
  obtain ⟨k, h1, h2⟩ := h c9 h9 h8
  exact ⟨k, by omega, h2⟩
theorem go_and {s m : Int32} {c : Nat → Int32} {p : Int} (h : goB s c p) : goB (s &&& m) c p := fun c9 h9 h8 => by
  have h1 := b_y (x := s &&& m) (c := c9) (by omega) h8
  rw [b_and, Bool.and_eq_true] at h1
  exact h c9 h9 (b_y' (by omega) h1.1)
theorem go_or {s x : Int32} {c : Nat → Int32} {p p' : Int} (h : goB s c p) (h0 : 0 ≤ p) (hp : p + 1 ≤ p') (hx : c p.toNat = x) (hr : 0 ≤ x.toInt ∧ x.toInt ≤ 23) : goB (s ||| ((1 : Int32) <<< (x &&& 31))) c p' := fun c9 h9 h8 => by
  have h1 := b_y (x := s ||| ((1 : Int32) <<< (x &&& 31))) (c := c9) (by omega) h8
  rw [b_or, Bool.or_eq_true, b_one (c := x) (by omega) (by omega), decide_eq_true_eq] at h1
  rcases h1 with h1 | h1
  · obtain ⟨k, h2, h3⟩ := h c9 h9 (b_y' (by omega) h1)
    exact ⟨k, by omega, h3⟩
  · refine ⟨p.toNat, by omega, hx.trans (pm_eqI ?_)⟩
    omega
/-- how many of n places from l on are below x -/
def ctLt (c : Nat → Int32) (x : Int) (l : Nat) : Nat → Nat
  | 0 => 0
  | k + 1 => ctLt c x l k + if (c (l + k)).toInt < x then 1 else 0
theorem ctLt_le (c : Nat → Int32) (x : Int) (l : Nat) : ∀ n, ctLt c x l n ≤ n
  | 0 => Nat.le_refl _
  | k + 1 => by
    have := ctLt_le c x l k
    unfold ctLt
    split <;> omega
theorem ctLt_0 (c : Nat → Int32) (l : Nat) (h : ∀ j, 0 ≤ (c j).toInt) : ∀ n, ctLt c 0 l n = 0
  | 0 => rfl
  | k + 1 => by
    unfold ctLt
    rw [ctLt_0 c l h k, if_neg (by have := h (l + k); omega)]
theorem ctLt_m (c : Nat → Int32) (x : Int) (l : Nat) : ∀ n, ctLt c x l n ≤ ctLt c (x + 1) l n
  | 0 => Nat.le_refl _
  | k + 1 => by
    have := ctLt_m c x l k
    unfold ctLt
    split <;> split <;> omega
theorem ctLt_d (c : Nat → Int32) (x : Int) (l k : Nat) : ∀ n, k ≤ n → ctLt c (x + 1) l k + ctLt c x l n ≤ ctLt c (x + 1) l n + ctLt c x l k
  | 0, h => by
    have : k = 0 := by omega
    subst this
    omega
  | n + 1, h => by
    by_cases e : k = n + 1
    · subst e; omega
    · have := ctLt_d c x l k n (by omega)
      have e1 : ctLt c (x + 1) l (n + 1) = ctLt c (x + 1) l n + if (c (l + n)).toInt < x + 1 then 1 else 0 := rfl
      have e2 : ctLt c x l (n + 1) = ctLt c x l n + if (c (l + n)).toInt < x then 1 else 0 := rfl
      rw [e1, e2]
      split <;> split <;> omega
theorem ctLt_y {c : Nat → Int32} {x : Int} {l k : Nat} (h : (c (l + k)).toInt = x) : ctLt c (x + 1) l (k + 1) + ctLt c x l k = ctLt c (x + 1) l k + ctLt c x l (k + 1) + 1 := by
  have h1 : ctLt c (x + 1) l (k + 1) = ctLt c (x + 1) l k + 1 := by rw [ctLt, if_pos (by omega)]
  have h2 : ctLt c x l (k + 1) = ctLt c x l k := by rw [ctLt, if_neg (by omega), Nat.add_zero]
  omega
theorem ctLt_n {c : Nat → Int32} {x : Int} {l k : Nat} (h : ¬ (c (l + k)).toInt = x) : ctLt c (x + 1) l (k + 1) + ctLt c x l k = ctLt c (x + 1) l k + ctLt c x l (k + 1) := by
  by_cases h3 : (c (l + k)).toInt < x
  · have h1 : ctLt c (x + 1) l (k + 1) = ctLt c (x + 1) l k + 1 := by rw [ctLt, if_pos (by omega)]
    have h2 : ctLt c x l (k + 1) = ctLt c x l k + 1 := by rw [ctLt, if_pos h3]
    omega
  · have h1 : ctLt c (x + 1) l (k + 1) = ctLt c (x + 1) l k := by rw [ctLt, if_neg (by omega), Nat.add_zero]
    have h2 : ctLt c x l (k + 1) = ctLt c x l k := by rw [ctLt, if_neg h3, Nat.add_zero]
    omega
/-- in a sort: so many laid when colour x has come to k of n -/
def soN (c : Nat → Int32) (x : Int) (l k n : Nat) : Int := (ctLt c x l n : Int) + ctLt c (x + 1) l k - ctLt c x l k
theorem so_lt {c : Nat → Int32} {x : Int} {l k n : Nat} (hk : k < n) (h : (c (l + k)).toInt = x) : soN c x l k n < n ∧ soN c x l (k + 1) n = soN c x l k n + 1 := by
  have h1 := ctLt_y h
  have h2 := ctLt_d c x l (k + 1) n (by omega)
  have h3 := ctLt_le c (x + 1) l n
  unfold soN
  omega
theorem so_n {c : Nat → Int32} {x : Int} {l k n : Nat} (h : ¬ (c (l + k)).toInt = x) : soN c x l (k + 1) n = soN c x l k n := by
  have h1 := ctLt_n h
  unfold soN
  omega
theorem so_0 {c : Nat → Int32} {x : Int} {l n : Nat} : soN c x l 0 n = ctLt c x l n := by
  unfold soN
  simp [ctLt]
theorem so_e {c : Nat → Int32} {x : Int} {l n : Nat} : soN c x l n n = ctLt c (x + 1) l n := by
  unfold soN
  omega
end
section
section
variable {l : Launch} {g : pm_G} {A0 : pm_H} {h : Nat} {q : Nat → Nat}
set_option maxRecDepth 100000 in
set_option maxHeartbeats 2000000 in
theorem c_X11_isIn (A : pm_H) (x0 : Int32) (x1 : Int32) (x2 : Int32)  : pm_Mt l g 169 0 0 0 [.int x0, .int x1, .int x2] A (md_Qp A (fun r => (r = 1 ∧ (x1.toInt ≤ x0.toInt ∧ x0.toInt ≤ x2.toInt)) ∨ (r = 0 ∧ (¬ (x1.toInt ≤ x0.toInt ∧ x0.toInt ≤ x2.toInt))))) := by
  refine mt_X11_isIn rfl (fun J hC => ?_)
  have rg_x0 := pm_rng x0
  have rg_x1 := pm_rng x1
  have rg_x2 := pm_rng x2
  refine hC.1 0 0 _ _ rfl _ _ _ _ _ ?_
  refine And.intro (fun c1 => ?_) (fun c1 => ?_)
  · skip
    refine hC.1 1 14 _ _ rfl _ _ _ _ _ ?_
    have k0 : (0 : Int32).toInt = 0 := rfl
    refine hC.1 2 15 _ _ rfl _ _ _ _ _ ?_
    exact ⟨rfl, fun _ => (by decide), rfl, (0 : Int32), rfl, rfl, Or.inr ⟨rfl, by first | trivial | omega | (dsimp only; omega)⟩⟩
  · skip
    refine And.intro (fun c2 => ?_) (fun c2 => ?_)
    · skip
      refine hC.1 1 14 _ _ rfl _ _ _ _ _ ?_
      have k0 : (0 : Int32).toInt = 0 := rfl
      refine hC.1 2 15 _ _ rfl _ _ _ _ _ ?_
      exact ⟨rfl, fun _ => (by decide), rfl, (0 : Int32), rfl, rfl, Or.inr ⟨rfl, by first | trivial | omega | (dsimp only; omega)⟩⟩
    · skip
      have k1 : (1 : Int32).toInt = 1 := rfl
      refine hC.1 2 15 _ _ rfl _ _ _ _ _ ?_
      exact ⟨rfl, fun _ => (by decide), rfl, (1 : Int32), rfl, rfl, Or.inl ⟨rfl, by first | trivial | omega | (dsimp only; omega)⟩⟩

set_option maxRecDepth 100000 in
set_option maxHeartbeats 2000000 in
theorem c_X11_isPlace (D : md_D h q) (v : Nat → Int32) (f : Nat → Nat → Int32) (hv : md_V v) (hf : md_F f) (x1 : Int32)  : pm_Mt l g 168 1 0 0 [.ref h, .int x1] (md A0 g h q v f) (md_Qp (md A0 g h q v f) (fun r => (r = 1 ∧ (0 ≤ x1.toInt ∧ x1.toInt < (v 0).toInt)) ∨ (r = 0 ∧ (¬ (0 ≤ x1.toInt ∧ x1.toInt < (v 0).toInt))))) := by
  refine mt_X11_isPlace rfl (fun J hC => ?_)
  have hv9 := hv
  unfold md_V at hv9
  have rg_x1 := pm_rng x1
  refine hC.1 0 0 _ _ rfl _ _ _ _ _ ?_
  have k0 : (0 : Int32).toInt = 0 := rfl
  refine Exists.intro _ (And.intro md_o ?_)
  have k1 : (1 : Int32).toInt = 1 := rfl
  intro m1 em_7
  try have e1 : m1.toInt = ((v 0)).toInt - (1) := by rw [em_7]; exact pm_subc _ _ (1) rfl (by omega) (by omega)
  refine Exists.intro _ (Exists.intro _ (Exists.intro _ (Exists.intro _ (And.intro (c_X11_isIn (md A0 g h q v f) x1 (0 : Int32) m1 ) (And.intro rfl (fun r9 A9 h9 => ?_))))))
  rcases h9 with ⟨y2, rfl, rfl, ⟨rfl, by2⟩ | ⟨rfl, by2⟩⟩
  · skip
    exact ⟨rfl, fun _ => (by decide), rfl, (1 : Int32), rfl, rfl, Or.inl ⟨rfl, by first | trivial | omega | (dsimp only; omega)⟩⟩
  · skip
    exact ⟨rfl, fun _ => (by decide), rfl, (0 : Int32), rfl, rfl, Or.inr ⟨rfl, by first | trivial | omega | (dsimp only; omega)⟩⟩

set_option maxRecDepth 100000 in
set_option maxHeartbeats 2000000 in
theorem c_X11_isColour (A : pm_H) (x0 : Int32)  : pm_Mt l g 170 1 0 0 [.int x0] A (md_Qp A (fun r => (r = 1 ∧ (0 ≤ x0.toInt ∧ x0.toInt ≤ 23)) ∨ (r = 0 ∧ (¬ (0 ≤ x0.toInt ∧ x0.toInt ≤ 23))))) := by
  refine mt_X11_isColour rfl (fun J hC => ?_)
  have rg_x0 := pm_rng x0
  refine hC.1 0 0 _ _ rfl _ _ _ _ _ ?_
  have k0 : (0 : Int32).toInt = 0 := rfl
  have k23 : (23 : Int32).toInt = 23 := rfl
  refine Exists.intro _ (Exists.intro _ (Exists.intro _ (Exists.intro _ (And.intro (c_X11_isIn A x0 (0 : Int32) (23 : Int32) ) (And.intro rfl (fun r9 A9 h9 => ?_))))))
  rcases h9 with ⟨y1, rfl, rfl, ⟨rfl, by1⟩ | ⟨rfl, by1⟩⟩
  · skip
    have k1 : (1 : Int32).toInt = 1 := rfl
    exact ⟨rfl, fun _ => (by decide), rfl, (1 : Int32), rfl, rfl, Or.inl ⟨rfl, by first | trivial | omega | (dsimp only; omega)⟩⟩
  · skip
    exact ⟨rfl, fun _ => (by decide), rfl, (0 : Int32), rfl, rfl, Or.inr ⟨rfl, by first | trivial | omega | (dsimp only; omega)⟩⟩

set_option maxRecDepth 100000 in
set_option maxHeartbeats 2000000 in
theorem c_X11_isSpan (D : md_D h q) (v : Nat → Int32) (f : Nat → Nat → Int32) (hv : md_V v) (hf : md_F f) (x1 : Int32) (x2 : Int32)  : pm_Mt l g 180 0 0 0 [.ref h, .int x1, .int x2] (md A0 g h q v f) (md_Qp (md A0 g h q v f) (fun r => (r = 1 ∧ (0 ≤ x1.toInt ∧ x1.toInt ≤ x2.toInt ∧ x2.toInt < (v 0).toInt)) ∨ (r = 0 ∧ (¬ (0 ≤ x1.toInt ∧ x1.toInt ≤ x2.toInt ∧ x2.toInt < (v 0).toInt))))) := by
  refine mt_X11_isSpan rfl (fun J hC => ?_)
  have hv9 := hv
  unfold md_V at hv9
  have rg_x1 := pm_rng x1
  have rg_x2 := pm_rng x2
  refine hC.1 0 0 _ _ rfl _ _ _ _ _ ?_
  refine And.intro (fun c1 => ?_) (fun c1 => ?_)
  · skip
    refine hC.1 1 21 _ _ rfl _ _ _ _ _ ?_
    have k0 : (0 : Int32).toInt = 0 := rfl
    refine hC.1 2 22 _ _ rfl _ _ _ _ _ ?_
    exact ⟨rfl, fun _ => (by decide), rfl, (0 : Int32), rfl, rfl, Or.inr ⟨rfl, by first | trivial | omega | (dsimp only; omega)⟩⟩
  · skip
    refine And.intro (fun c2 => ?_) (fun c2 => ?_)
    · skip
      refine hC.1 1 21 _ _ rfl _ _ _ _ _ ?_
      have k0 : (0 : Int32).toInt = 0 := rfl
      refine hC.1 2 22 _ _ rfl _ _ _ _ _ ?_
      exact ⟨rfl, fun _ => (by decide), rfl, (0 : Int32), rfl, rfl, Or.inr ⟨rfl, by first | trivial | omega | (dsimp only; omega)⟩⟩
    · skip
      refine Exists.intro _ (And.intro md_o ?_)
      refine And.intro (fun c3 => ?_) (fun c3 => ?_)
      · skip
        refine hC.1 1 21 _ _ rfl _ _ _ _ _ ?_
        have k0 : (0 : Int32).toInt = 0 := rfl
        refine hC.1 2 22 _ _ rfl _ _ _ _ _ ?_
        exact ⟨rfl, fun _ => (by decide), rfl, (0 : Int32), rfl, rfl, Or.inr ⟨rfl, by first | trivial | omega | (dsimp only; omega)⟩⟩
      · skip
        have k1 : (1 : Int32).toInt = 1 := rfl
        refine hC.1 2 22 _ _ rfl _ _ _ _ _ ?_
        exact ⟨rfl, fun _ => (by decide), rfl, (1 : Int32), rfl, rfl, Or.inl ⟨rfl, by first | trivial | omega | (dsimp only; omega)⟩⟩

end
end
section
section
variable {l : Launch} {g : pm_G} {A0 : pm_H} {h : Nat} {q : Nat → Nat}
set_option maxRecDepth 100000 in
set_option maxHeartbeats 2000000 in
theorem c_X11_bits (A : pm_H) (x0 : Int32)  : pm_Mt l g 207 0 0 0 [.int x0] A (md_Qp A (fun r => (¬ x0 = 0 ∧ x0 &&& (x0 - 1) = 0) → r = 1)) := by
  refine mt_X11_bits rfl (fun J hC => ?_)
  have rg_x0 := pm_rng x0
  refine hC.1 0 0 _ _ rfl _ _ _ _ _ ?_
  have k0 : (0 : Int32).toInt = 0 := rfl
  have lp1 : ∀ (n : Nat) (z1_4 : Int32) (z2_4 : Int32), ((z1_4 = 0 ∧ z2_4 = x0) ∨ (¬ x0 = 0 ∧ (x0 &&& (x0 - 1) = 0 → z1_4 = 1 ∧ z2_4 = 0))) → (z2_4.toBitVec.toNat : Int) < (n : Int) → J 4 [some (.int x0), some (.int z1_4), some (.int z2_4)] [] A 0 0 := by
    intro n
    induction n with
    | zero =>
      intro z1_4 z2_4 j0_4 j1_4
      omega
    | succ n ih2 =>
      intro z1_4 z2_4 j0_4 j1_4
      refine hC.1 1 4 _ _ rfl _ _ _ _ _ ?_
      refine And.intro (fun c3 => ?_) (fun c3 => ?_)
      · skip
        have dc3 : (z2_4).toInt = (0 : Int32).toInt := congrArg Int32.toInt c3
        refine hC.1 2 20 _ _ rfl _ _ _ _ _ ?_
        exact ⟨rfl, fun e9 => absurd e9 (by decide), rfl, z1_4, rfl, rfl, by exact fun h9 => j0_4.elim (fun h1 => absurd (h1.2.symm.trans (by assumption)) h9.1) (fun h1 => (h1.2 h9.2).1)⟩
      · skip
        have dc3 := pm_neI c3
        have k1 : (1 : Int32).toInt = 1 := rfl
        intro m4 em_8
        intro m5 em_14
        exact ih2 m4 (z2_4 &&& m5) (by exact j0_4.elim (fun h1 => Or.inr ⟨by rw [← h1.2]; assumption, fun e9 => ⟨by rw [em_8, h1.1]; rfl, by rw [em_14, h1.2]; exact e9⟩⟩) (fun h1 => Or.inr ⟨h1.1, fun e9 => absurd (h1.2 e9).2 (by assumption)⟩)) (by have h1 := pm_bits_lt (x := z2_4) (by assumption); rw [em_14]; omega)
  exact lp1 ((x0.toBitVec.toNat : Int)).toNat.succ (0 : Int32) x0 (by exact Or.inl ⟨rfl, rfl⟩) (by omega)

set_option maxRecDepth 100000 in
set_option maxHeartbeats 2000000 in
theorem c_X11_ahead (D : md_D h q) (v : Nat → Int32) (f : Nat → Nat → Int32) (hv : md_V v) (hf : md_F f) (x1 : Int32) (p0 : 0 ≤ x1.toInt ∧ x1.toInt < 160) : pm_Mt l g 174 0 0 0 [.ref h, .int x1] (md A0 g h q v f) (md_Qp (md A0 g h q v f) (fun r => r.toInt = lastEq (f 0) (f 0 x1.toInt.toNat) x1.toInt.toNat)) := by
  refine mt_X11_ahead rfl (fun J hC => ?_)
  have hv9 := hv
  unfold md_V at hv9
  have rg_x1 := pm_rng x1
  refine hC.1 0 0 _ _ rfl _ _ _ _ _ ?_
  have k1 : (1 : Int32).toInt = 1 := rfl
  intro m1 em_2
  try have e1 : m1.toInt = (x1).toInt - (1) := by rw [em_2]; exact pm_subc _ _ (1) rfl (by omega) (by omega)
  have lp2 : ∀ (n : Nat) (z2_4 : Int32), -1 ≤ z2_4.toInt ∧ z2_4.toInt < x1.toInt → lastEq (f 0) (f 0 x1.toInt.toNat) x1.toInt.toNat = lastEq (f 0) (f 0 x1.toInt.toNat) (z2_4.toInt + 1).toNat → z2_4.toInt + 1 < (n : Int) → J 4 [some (.ref h), some (.int x1), some (.int z2_4)] [] (md A0 g h q v f) 0 0 := by
    intro n
    induction n with
    | zero =>
      intro z2_4 j0_4 j1_4 j2_4
      omega
    | succ n ih3 =>
      intro z2_4 j0_4 j1_4 j2_4
      refine hC.1 1 4 _ _ rfl _ _ _ _ _ ?_
      refine And.intro (fun c4 => ?_) (fun c4 => ?_)
      · skip
        refine hC.1 3 31 _ _ rfl _ _ _ _ _ ?_
        have km1 : (-1 : Int32).toInt = -1 := rfl
        exact ⟨rfl, fun e9 => absurd e9 (by decide), rfl, (-1 : Int32), rfl, rfl, by rw [j1_4, show (z2_4.toInt + 1).toNat = 0 by omega]; rfl⟩
      · skip
        refine Exists.intro _ (And.intro md_o ?_)
        refine Exists.intro _ (Exists.intro _ (And.intro (Or.inl (md_a_colours D)) (And.intro (by omega) ?_)))
        have w5 : (0 : Int) ≤ (f 0 (z2_4).toInt.toNat).toInt ∧ (f 0 (z2_4).toInt.toNat).toInt ≤ (23 : Int) := hf 0 _
        refine Exists.intro _ (And.intro md_o ?_)
        refine Exists.intro _ (Exists.intro _ (And.intro (Or.inl (md_a_colours D)) (And.intro (by omega) ?_)))
        have w6 : (0 : Int) ≤ (f 0 (x1).toInt.toNat).toInt ∧ (f 0 (x1).toInt.toNat).toInt ≤ (23 : Int) := hf 0 _
        refine And.intro (fun c7 => ?_) (fun c7 => ?_)
        · skip
          have dc7 := pm_neI c7
          refine hC.1 2 25 _ _ rfl _ _ _ _ _ ?_
          have km1 : (-1 : Int32).toInt = -1 := rfl
          intro m8 em_25
          try have e8 : m8.toInt = (z2_4).toInt + (-1) := by rw [em_25]; exact pm_addc _ _ (-1) rfl (by omega) (by omega)
          exact ih3 m8 (by omega) (by rw [j1_4, lastEq_s (by omega), if_neg (by assumption), show (m8.toInt + 1).toNat = z2_4.toInt.toNat by omega]) (by omega)
        · skip
          have dc7 : ((f 0 (z2_4).toInt.toNat)).toInt = ((f 0 (x1).toInt.toNat) : Int32).toInt := congrArg Int32.toInt c7
          exact ⟨rfl, fun e9 => absurd e9 (by decide), rfl, z2_4, rfl, rfl, by rw [j1_4, lastEq_s (by omega), if_pos (by assumption)]⟩
  exact lp2 (m1.toInt + 1).toNat.succ m1 (by omega) (by rw [show (m1.toInt + 1).toNat = x1.toInt.toNat by omega]) (by omega)

end
end
section
section
variable {l : Launch} {g : pm_G} {A0 : pm_H} {h : Nat} {q : Nat → Nat}
set_option maxRecDepth 100000 in
set_option maxHeartbeats 2000000 in
theorem c_X11_behind (D : md_D h q) (v : Nat → Int32) (f : Nat → Nat → Int32) (hv : md_V v) (hf : md_F f) (x1 : Int32) (p0 : 0 ≤ x1.toInt ∧ x1.toInt < (v 0).toInt) : pm_Mt l g 196 0 0 0 [.ref h, .int x1] (md A0 g h q v f) (md_Qp (md A0 g h q v f) (fun r => r.toInt = nextEq (f 0) (f 0 x1.toInt.toNat) (x1.toInt + 1).toNat ((v 0).toInt - (x1.toInt + 1)).toNat)) := by
  refine mt_X11_behind rfl (fun J hC => ?_)
  have hv9 := hv
  unfold md_V at hv9
  have rg_x1 := pm_rng x1
  refine hC.1 0 0 _ _ rfl _ _ _ _ _ ?_
  have k1 : (1 : Int32).toInt = 1 := rfl
  intro m1 em_2
  try have e1 : m1.toInt = (x1).toInt + (1) := by rw [em_2]; exact pm_addc _ _ (1) rfl (by omega) (by omega)
  have lp2 : ∀ (n : Nat) (z2_4 : Int32), 0 ≤ z2_4.toInt ∧ z2_4.toInt ≤ (v 0).toInt → nextEq (f 0) (f 0 x1.toInt.toNat) (x1.toInt + 1).toNat ((v 0).toInt - (x1.toInt + 1)).toNat = nextEq (f 0) (f 0 x1.toInt.toNat) z2_4.toInt.toNat ((v 0).toInt - z2_4.toInt).toNat → 200 - z2_4.toInt < (n : Int) → J 4 [some (.ref h), some (.int x1), some (.int z2_4)] [] (md A0 g h q v f) 0 0 := by
    intro n
    induction n with
    | zero =>
      intro z2_4 j0_4 j1_4 j2_4
      omega
    | succ n ih3 =>
      intro z2_4 j0_4 j1_4 j2_4
      refine hC.1 1 4 _ _ rfl _ _ _ _ _ ?_
      refine Exists.intro _ (And.intro md_o ?_)
      refine And.intro (fun c4 => ?_) (fun c4 => ?_)
      · skip
        refine hC.1 3 35 _ _ rfl _ _ _ _ _ ?_
        have km1 : (-1 : Int32).toInt = -1 := rfl
        exact ⟨rfl, fun e9 => absurd e9 (by decide), rfl, (-1 : Int32), rfl, rfl, by rw [j1_4, show ((v 0).toInt - z2_4.toInt).toNat = 0 by omega]; rfl⟩
      · skip
        refine Exists.intro _ (And.intro md_o ?_)
        refine Exists.intro _ (Exists.intro _ (And.intro (Or.inl (md_a_colours D)) (And.intro (by omega) ?_)))
        have w5 : (0 : Int) ≤ (f 0 (z2_4).toInt.toNat).toInt ∧ (f 0 (z2_4).toInt.toNat).toInt ≤ (23 : Int) := hf 0 _
        refine Exists.intro _ (And.intro md_o ?_)
        refine Exists.intro _ (Exists.intro _ (And.intro (Or.inl (md_a_colours D)) (And.intro (by omega) ?_)))
        have w6 : (0 : Int) ≤ (f 0 (x1).toInt.toNat).toInt ∧ (f 0 (x1).toInt.toNat).toInt ≤ (23 : Int) := hf 0 _
        refine And.intro (fun c7 => ?_) (fun c7 => ?_)
        · skip
          have dc7 := pm_neI c7
          refine hC.1 2 29 _ _ rfl _ _ _ _ _ ?_
          intro m8 em_29
          try have e8 : m8.toInt = (z2_4).toInt + (1) := by rw [em_29]; exact pm_addc _ _ (1) rfl (by omega) (by omega)
          exact ih3 m8 (by omega) (by rw [j1_4, nextEq_s (by omega) (by omega), if_neg (by assumption)]; congr 1 <;> omega) (by omega)
        · skip
          have dc7 : ((f 0 (z2_4).toInt.toNat)).toInt = ((f 0 (x1).toInt.toNat) : Int32).toInt := congrArg Int32.toInt c7
          exact ⟨rfl, fun e9 => absurd e9 (by decide), rfl, z2_4, rfl, rfl, by rw [j1_4, nextEq_s (by omega) (by omega), if_pos (by assumption)]⟩
  exact lp2 (200 - m1.toInt).toNat.succ m1 (by omega) (by congr 1 <;> omega) (by omega)

set_option maxRecDepth 100000 in
set_option maxHeartbeats 2000000 in
theorem c_X11_bondOf (D : md_D h q) (v : Nat → Int32) (f : Nat → Nat → Int32) (hv : md_V v) (hf : md_F f) (x1 : Int32) (p0 : 0 ≤ x1.toInt ∧ x1.toInt < 160) : pm_Mt l g 173 1 0 0 [.ref h, .int x1] (md A0 g h q v f) (md_Qp (md A0 g h q v f) (fun r => True)) := by
  refine mt_X11_bondOf rfl (fun J hC => ?_)
  have hv9 := hv
  unfold md_V at hv9
  have rg_x1 := pm_rng x1
  have lt9 := lastEq_lt (f 0) (f 0 x1.toInt.toNat) x1.toInt.toNat
  refine hC.1 0 0 _ _ rfl _ _ _ _ _ ?_
  refine And.intro (Exists.intro _ md_o) (Exists.intro _ (Exists.intro _ (Exists.intro _ (Exists.intro _ (And.intro (c_X11_ahead D v f hv hf x1 (by omega)) (And.intro rfl (fun r9 A9 h9 => ?_)))))))
  obtain ⟨y1, rfl, rfl, by1⟩ := h9
  refine And.intro (fun c2 => ?_) (fun c2 => ?_)
  · skip
    refine hC.1 1 12 _ _ rfl _ _ _ _ _ ?_
    refine Exists.intro _ (And.intro md_o ?_)
    refine And.intro (Exists.intro _ md_o) (Exists.intro _ (Exists.intro _ (Exists.intro _ (Exists.intro _ (And.intro (c_X11_ahead D v f hv hf x1 (by omega)) (And.intro rfl (fun r9 A9 h9 => ?_)))))))
    obtain ⟨y3, rfl, rfl, by3⟩ := h9
    refine Exists.intro _ (Exists.intro _ (And.intro (Or.inl (md_a_names D)) (And.intro (by omega) ?_)))
    refine hC.1 2 22 _ _ rfl _ _ _ _ _ ?_
    exact ⟨rfl, fun e9 => absurd e9 (by decide), rfl, (f 1 (y3).toInt.toNat), rfl, rfl, by first | trivial | omega | (dsimp only; omega)⟩
  · skip
    have km1 : (-1 : Int32).toInt = -1 := rfl
    refine hC.1 2 22 _ _ rfl _ _ _ _ _ ?_
    exact ⟨rfl, fun e9 => absurd e9 (by decide), rfl, (-1 : Int32), rfl, rfl, by first | trivial | omega | (dsimp only; omega)⟩

end
end
section
section
variable {l : Launch} {g : pm_G} {A0 : pm_H} {h : Nat} {q : Nat → Nat}
set_option maxRecDepth 100000 in
set_option maxHeartbeats 2000000 in
theorem c_X11_placeOf (D : md_D h q) (v : Nat → Int32) (f : Nat → Nat → Int32) (hv : md_V v) (hf : md_F f) (x1 : Int32)  : pm_Mt l g 198 0 0 0 [.ref h, .int x1] (md A0 g h q v f) (md_Qp (md A0 g h q v f) (fun r => -1 ≤ r.toInt ∧ r.toInt < (v 0).toInt)) := by
  refine mt_X11_placeOf rfl (fun J hC => ?_)
  have hv9 := hv
  unfold md_V at hv9
  have rg_x1 := pm_rng x1
  refine hC.1 0 0 _ _ rfl _ _ _ _ _ ?_
  have k0 : (0 : Int32).toInt = 0 := rfl
  have lp1 : ∀ (n : Nat) (z2_2 : Int32), 0 ≤ z2_2.toInt ∧ z2_2.toInt ≤ (v 0).toInt → 200 - z2_2.toInt < (n : Int) → J 2 [some (.ref h), some (.int x1), some (.int z2_2)] [] (md A0 g h q v f) 0 0 := by
    intro n
    induction n with
    | zero =>
      intro z2_2 j0_2 j1_2
      omega
    | succ n ih2 =>
      intro z2_2 j0_2 j1_2
      refine hC.1 1 2 _ _ rfl _ _ _ _ _ ?_
      refine Exists.intro _ (And.intro md_o ?_)
      refine And.intro (fun c3 => ?_) (fun c3 => ?_)
      · skip
        refine hC.1 3 28 _ _ rfl _ _ _ _ _ ?_
        have km1 : (-1 : Int32).toInt = -1 := rfl
        exact ⟨rfl, fun e9 => absurd e9 (by decide), rfl, (-1 : Int32), rfl, rfl, by first | trivial | omega | (dsimp only; omega)⟩
      · skip
        refine Exists.intro _ (And.intro md_o ?_)
        refine Exists.intro _ (Exists.intro _ (And.intro (Or.inl (md_a_names D)) (And.intro (by omega) ?_)))
        refine And.intro (fun c4 => ?_) (fun c4 => ?_)
        · skip
          have dc4 := pm_neI c4
          refine hC.1 2 22 _ _ rfl _ _ _ _ _ ?_
          have k1 : (1 : Int32).toInt = 1 := rfl
          intro m5 em_22
          try have e5 : m5.toInt = (z2_2).toInt + (1) := by rw [em_22]; exact pm_addc _ _ (1) rfl (by omega) (by omega)
          exact ih2 m5 (by omega) (by omega)
        · skip
          have dc4 : ((f 1 (z2_2).toInt.toNat)).toInt = (x1 : Int32).toInt := congrArg Int32.toInt c4
          exact ⟨rfl, fun e9 => absurd e9 (by decide), rfl, z2_2, rfl, rfl, by first | trivial | omega | (dsimp only; omega)⟩
  exact lp1 (200 - (0 : Int32).toInt).toNat.succ (0 : Int32) (by omega) (by omega)

end
end
section
section
variable {l : Launch} {g : pm_G} {A0 : pm_H} {h : Nat} {q : Nat → Nat}
set_option maxRecDepth 100000 in
set_option maxHeartbeats 2000000 in
theorem c_X11_place (D : md_D h q) (v : Nat → Int32) (f : Nat → Nat → Int32) (hv : md_V v) (hf : md_F f) (x1 : Int32)  : pm_Mt l g 197 1 0 0 [.ref h, .int x1] (md A0 g h q v f) (md_Qp (md A0 g h q v f) (fun r => -1 ≤ r.toInt ∧ r.toInt < (v 0).toInt)) := by
  refine mt_X11_place rfl (fun J hC => ?_)
  have hv9 := hv
  unfold md_V at hv9
  have rg_x1 := pm_rng x1
  refine hC.1 0 0 _ _ rfl _ _ _ _ _ ?_
  refine And.intro (fun c1 => ?_) (fun c1 => ?_)
  · skip
    refine hC.1 1 8 _ _ rfl _ _ _ _ _ ?_
    refine And.intro (Exists.intro _ md_o) (Exists.intro _ (Exists.intro _ (Exists.intro _ (Exists.intro _ (And.intro (c_X11_placeOf D v f hv hf x1 ) (And.intro rfl (fun r9 A9 h9 => ?_)))))))
    obtain ⟨y2, rfl, rfl, by2⟩ := h9
    refine hC.1 2 13 _ _ rfl _ _ _ _ _ ?_
    exact ⟨rfl, fun e9 => absurd e9 (by decide), rfl, y2, rfl, rfl, by first | trivial | omega | (dsimp only; omega)⟩
  · skip
    have km1 : (-1 : Int32).toInt = -1 := rfl
    refine hC.1 2 13 _ _ rfl _ _ _ _ _ ?_
    exact ⟨rfl, fun e9 => absurd e9 (by decide), rfl, (-1 : Int32), rfl, rfl, by first | trivial | omega | (dsimp only; omega)⟩

set_option maxRecDepth 100000 in
set_option maxHeartbeats 2000000 in
theorem c_X11_first (D : md_D h q) (v : Nat → Int32) (f : Nat → Nat → Int32) (hv : md_V v) (hf : md_F f) (x1 : Int32)  : pm_Mt l g 201 0 0 0 [.ref h, .int x1] (md A0 g h q v f) (md_Qp (md A0 g h q v f) (fun r => True)) := by
  refine mt_X11_first rfl (fun J hC => ?_)
  have hv9 := hv
  unfold md_V at hv9
  have rg_x1 := pm_rng x1
  refine hC.1 0 0 _ _ rfl _ _ _ _ _ ?_
  have k0 : (0 : Int32).toInt = 0 := rfl
  have lp1 : ∀ (n : Nat) (z2_2 : Int32), 0 ≤ z2_2.toInt ∧ z2_2.toInt ≤ (v 0).toInt → 200 - z2_2.toInt < (n : Int) → J 2 [some (.ref h), some (.int x1), some (.int z2_2)] [] (md A0 g h q v f) 0 0 := by
    intro n
    induction n with
    | zero =>
      intro z2_2 j0_2 j1_2
      omega
    | succ n ih2 =>
      intro z2_2 j0_2 j1_2
      refine hC.1 1 2 _ _ rfl _ _ _ _ _ ?_
      refine Exists.intro _ (And.intro md_o ?_)
      refine And.intro (fun c3 => ?_) (fun c3 => ?_)
      · skip
        refine hC.1 3 28 _ _ rfl _ _ _ _ _ ?_
        have km1 : (-1 : Int32).toInt = -1 := rfl
        exact ⟨rfl, fun e9 => absurd e9 (by decide), rfl, (-1 : Int32), rfl, rfl, by first | trivial | omega | (dsimp only; omega)⟩
      · skip
        refine Exists.intro _ (And.intro md_o ?_)
        refine Exists.intro _ (Exists.intro _ (And.intro (Or.inl (md_a_colours D)) (And.intro (by omega) ?_)))
        have w4 : (0 : Int) ≤ (f 0 (z2_2).toInt.toNat).toInt ∧ (f 0 (z2_2).toInt.toNat).toInt ≤ (23 : Int) := hf 0 _
        refine And.intro (fun c5 => ?_) (fun c5 => ?_)
        · skip
          have dc5 := pm_neI c5
          refine hC.1 2 22 _ _ rfl _ _ _ _ _ ?_
          have k1 : (1 : Int32).toInt = 1 := rfl
          intro m6 em_22
          try have e6 : m6.toInt = (z2_2).toInt + (1) := by rw [em_22]; exact pm_addc _ _ (1) rfl (by omega) (by omega)
          exact ih2 m6 (by omega) (by omega)
        · skip
          have dc5 : ((f 0 (z2_2).toInt.toNat)).toInt = (x1 : Int32).toInt := congrArg Int32.toInt c5
          exact ⟨rfl, fun e9 => absurd e9 (by decide), rfl, z2_2, rfl, rfl, by first | trivial | omega | (dsimp only; omega)⟩
  exact lp1 (200 - (0 : Int32).toInt).toNat.succ (0 : Int32) (by omega) (by omega)

set_option maxRecDepth 100000 in
set_option maxHeartbeats 2000000 in
theorem c_X11_last (D : md_D h q) (v : Nat → Int32) (f : Nat → Nat → Int32) (hv : md_V v) (hf : md_F f) (x1 : Int32)  : pm_Mt l g 202 0 0 0 [.ref h, .int x1] (md A0 g h q v f) (md_Qp (md A0 g h q v f) (fun r => True)) := by
  refine mt_X11_last rfl (fun J hC => ?_)
  have hv9 := hv
  unfold md_V at hv9
  have rg_x1 := pm_rng x1
  refine hC.1 0 0 _ _ rfl _ _ _ _ _ ?_
  refine Exists.intro _ (And.intro md_o ?_)
  have k1 : (1 : Int32).toInt = 1 := rfl
  intro m1 em_5
  try have e1 : m1.toInt = ((v 0)).toInt - (1) := by rw [em_5]; exact pm_subc _ _ (1) rfl (by omega) (by omega)
  have lp2 : ∀ (n : Nat) (z2_7 : Int32), -1 ≤ z2_7.toInt ∧ z2_7.toInt < (v 0).toInt → z2_7.toInt + 1 < (n : Int) → J 7 [some (.ref h), some (.int x1), some (.int z2_7)] [] (md A0 g h q v f) 0 0 := by
    intro n
    induction n with
    | zero =>
      intro z2_7 j0_7 j1_7
      omega
    | succ n ih3 =>
      intro z2_7 j0_7 j1_7
      refine hC.1 1 7 _ _ rfl _ _ _ _ _ ?_
      refine And.intro (fun c4 => ?_) (fun c4 => ?_)
      · skip
        refine hC.1 3 29 _ _ rfl _ _ _ _ _ ?_
        have km1 : (-1 : Int32).toInt = -1 := rfl
        exact ⟨rfl, fun e9 => absurd e9 (by decide), rfl, (-1 : Int32), rfl, rfl, by first | trivial | omega | (dsimp only; omega)⟩
      · skip
        refine Exists.intro _ (And.intro md_o ?_)
        refine Exists.intro _ (Exists.intro _ (And.intro (Or.inl (md_a_colours D)) (And.intro (by omega) ?_)))
        have w5 : (0 : Int) ≤ (f 0 (z2_7).toInt.toNat).toInt ∧ (f 0 (z2_7).toInt.toNat).toInt ≤ (23 : Int) := hf 0 _
        refine And.intro (fun c6 => ?_) (fun c6 => ?_)
        · skip
          have dc6 := pm_neI c6
          refine hC.1 2 23 _ _ rfl _ _ _ _ _ ?_
          have km1 : (-1 : Int32).toInt = -1 := rfl
          intro m7 em_23
          try have e7 : m7.toInt = (z2_7).toInt + (-1) := by rw [em_23]; exact pm_addc _ _ (-1) rfl (by omega) (by omega)
          exact ih3 m7 (by omega) (by omega)
        · skip
          have dc6 : ((f 0 (z2_7).toInt.toNat)).toInt = (x1 : Int32).toInt := congrArg Int32.toInt c6
          exact ⟨rfl, fun e9 => absurd e9 (by decide), rfl, z2_7, rfl, rfl, by first | trivial | omega | (dsimp only; omega)⟩
  exact lp2 (m1.toInt + 1).toNat.succ m1 (by omega) (by omega)

set_option maxRecDepth 100000 in
set_option maxHeartbeats 2000000 in
theorem c_X11_widest (D : md_D h q) (v : Nat → Int32) (f : Nat → Nat → Int32) (hv : md_V v) (hf : md_F f) (x1 : Int32)  : pm_Mt l g 203 1 0 0 [.ref h, .int x1] (md A0 g h q v f) (md_Qp (md A0 g h q v f) (fun r => True)) := by
  refine mt_X11_widest rfl (fun J hC => ?_)
  have hv9 := hv
  unfold md_V at hv9
  have rg_x1 := pm_rng x1
  refine hC.1 0 0 _ _ rfl _ _ _ _ _ ?_
  have km1 : (-1 : Int32).toInt = -1 := rfl
  have k0 : (0 : Int32).toInt = 0 := rfl
  have lp1 : ∀ (n : Nat) (z2_4 : Int32) (z3_4 : Int32), 0 ≤ z3_4.toInt ∧ z3_4.toInt ≤ (v 0).toInt → 200 - z3_4.toInt < (n : Int) → J 4 [some (.ref h), some (.int x1), some (.int z2_4), some (.int z3_4)] [] (md A0 g h q v f) 0 0 := by
    intro n
    induction n with
    | zero =>
      intro z2_4 z3_4 j0_4 j1_4
      omega
    | succ n ih2 =>
      intro z2_4 z3_4 j0_4 j1_4
      refine hC.1 1 4 _ _ rfl _ _ _ _ _ ?_
      refine Exists.intro _ (And.intro md_o ?_)
      refine And.intro (fun c3 => ?_) (fun c3 => ?_)
      · skip
        refine hC.1 3 59 _ _ rfl _ _ _ _ _ ?_
        exact ⟨rfl, fun e9 => absurd e9 (by decide), rfl, z2_4, rfl, rfl, by first | trivial | omega | (dsimp only; omega)⟩
      · skip
        refine Exists.intro _ (And.intro md_o ?_)
        refine Exists.intro _ (Exists.intro _ (And.intro (Or.inl (md_a_colours D)) (And.intro (by omega) ?_)))
        have w4 : (0 : Int) ≤ (f 0 (z3_4).toInt.toNat).toInt ∧ (f 0 (z3_4).toInt.toNat).toInt ≤ (23 : Int) := hf 0 _
        refine And.intro (fun c5 => ?_) (fun c5 => ?_)
        · skip
          have dc5 := pm_neI c5
          refine hC.1 2 53 _ _ rfl _ _ _ _ _ ?_
          have k1 : (1 : Int32).toInt = 1 := rfl
          intro m6 em_53
          try have e6 : m6.toInt = (z3_4).toInt + (1) := by rw [em_53]; exact pm_addc _ _ (1) rfl (by omega) (by omega)
          exact ih2 z2_4 m6 (by omega) (by omega)
        · skip
          have dc5 : ((f 0 (z3_4).toInt.toNat)).toInt = (x1 : Int32).toInt := congrArg Int32.toInt c5
          refine And.intro (Exists.intro _ md_o) (Exists.intro _ (Exists.intro _ (Exists.intro _ (Exists.intro _ (And.intro (c_X11_ahead D v f hv hf z3_4 (by omega)) (And.intro rfl (fun r9 A9 h9 => ?_)))))))
          obtain ⟨y7, rfl, rfl, by7⟩ := h9
          refine And.intro (fun c8 => ?_) (fun c8 => ?_)
          · skip
            refine hC.1 2 53 _ _ rfl _ _ _ _ _ ?_
            have k1 : (1 : Int32).toInt = 1 := rfl
            intro m9 em_53
            try have e9 : m9.toInt = (z3_4).toInt + (1) := by rw [em_53]; exact pm_addc _ _ (1) rfl (by omega) (by omega)
            exact ih2 z2_4 m9 (by omega) (by omega)
          · skip
            refine And.intro (Exists.intro _ md_o) (Exists.intro _ (Exists.intro _ (Exists.intro _ (Exists.intro _ (And.intro (c_X11_ahead D v f hv hf z3_4 (by omega)) (And.intro rfl (fun r9 A9 h9 => ?_)))))))
            obtain ⟨y10, rfl, rfl, by10⟩ := h9
            intro m11 em_36
            try have e11 : m11.toInt = (z3_4).toInt - (y10).toInt := by rw [em_36]; exact pm_sub _ _ (by omega) (by omega)
            have k1 : (1 : Int32).toInt = 1 := rfl
            intro m12 em_38
            try have e12 : m12.toInt = (m11).toInt - (1) := by rw [em_38]; exact pm_subc _ _ (1) rfl (by omega) (by omega)
            refine And.intro (fun c13 => ?_) (fun c13 => ?_)
            · skip
              refine hC.1 2 53 _ _ rfl _ _ _ _ _ ?_
              intro m14 em_53
              try have e14 : m14.toInt = (z3_4).toInt + (1) := by rw [em_53]; exact pm_addc _ _ (1) rfl (by omega) (by omega)
              exact ih2 z2_4 m14 (by omega) (by omega)
            · skip
              refine And.intro (Exists.intro _ md_o) (Exists.intro _ (Exists.intro _ (Exists.intro _ (Exists.intro _ (And.intro (c_X11_ahead D v f hv hf z3_4 (by omega)) (And.intro rfl (fun r9 A9 h9 => ?_)))))))
              obtain ⟨y15, rfl, rfl, by15⟩ := h9
              intro m16 em_49
              try have e16 : m16.toInt = (z3_4).toInt - (y15).toInt := by rw [em_49]; exact pm_sub _ _ (by omega) (by omega)
              intro m17 em_51
              try have e17 : m17.toInt = (m16).toInt - (1) := by rw [em_51]; exact pm_subc _ _ (1) rfl (by omega) (by omega)
              refine hC.1 2 53 _ _ rfl _ _ _ _ _ ?_
              intro m18 em_53
              try have e18 : m18.toInt = (z3_4).toInt + (1) := by rw [em_53]; exact pm_addc _ _ (1) rfl (by omega) (by omega)
              exact ih2 m17 m18 (by omega) (by omega)
  exact lp1 (200 - (0 : Int32).toInt).toNat.succ (-1 : Int32) (0 : Int32) (by omega) (by omega)

set_option maxRecDepth 100000 in
set_option maxHeartbeats 2000000 in
theorem c_X11_timesIn (D : md_D h q) (v : Nat → Int32) (f : Nat → Nat → Int32) (hv : md_V v) (hf : md_F f) (x1 : Int32) (x2 : Int32) (x3 : Int32) (p0 : 0 ≤ x1.toInt ∧ x1.toInt ≤ 160) (p1 : -1 ≤ x2.toInt ∧ x2.toInt < 160) : pm_Mt l g 200 0 0 0 [.ref h, .int x1, .int x2, .int x3] (md A0 g h q v f) (md_Qp (md A0 g h q v f) (fun r => True)) := by
  refine mt_X11_timesIn rfl (fun J hC => ?_)
  have hv9 := hv
  unfold md_V at hv9
  have rg_x1 := pm_rng x1
  have rg_x2 := pm_rng x2
  have rg_x3 := pm_rng x3
  refine hC.1 0 0 _ _ rfl _ _ _ _ _ ?_
  have k0 : (0 : Int32).toInt = 0 := rfl
  have lp1 : ∀ (n : Nat) (z4_6 : Int32) (z5_6 : Int32), 0 ≤ z5_6.toInt ∧ z5_6.toInt ≤ 161 → 200 - z5_6.toInt < (n : Int) → J 6 [some (.ref h), some (.int x1), some (.int x2), some (.int x3), some (.int z4_6), some (.int z5_6)] [] (md A0 g h q v f) 0 0 := by
    intro n
    induction n with
    | zero =>
      intro z4_6 z5_6 j0_6 j1_6
      omega
    | succ n ih2 =>
      intro z4_6 z5_6 j0_6 j1_6
      refine hC.1 1 6 _ _ rfl _ _ _ _ _ ?_
      refine And.intro (fun c3 => ?_) (fun c3 => ?_)
      · skip
        refine hC.1 4 39 _ _ rfl _ _ _ _ _ ?_
        exact ⟨rfl, fun e9 => absurd e9 (by decide), rfl, z4_6, rfl, rfl, by first | trivial | omega | (dsimp only; omega)⟩
      · skip
        refine Exists.intro _ (And.intro md_o ?_)
        refine Exists.intro _ (Exists.intro _ (And.intro (Or.inl (md_a_colours D)) (And.intro (by omega) ?_)))
        have w4 : (0 : Int) ≤ (f 0 (z5_6).toInt.toNat).toInt ∧ (f 0 (z5_6).toInt.toNat).toInt ≤ (23 : Int) := hf 0 _
        refine And.intro (fun c5 => ?_) (fun c5 => ?_)
        · skip
          have dc5 := pm_neI c5
          refine hC.1 2 29 _ _ rfl _ _ _ _ _ ?_
          refine hC.1 3 30 _ _ rfl _ _ _ _ _ ?_
          intro m6 em_30
          try have e6 : m6.toInt = (z4_6).toInt + (0) := by rw [em_30]; exact pm_addc _ _ (0) rfl (by omega) (by omega)
          have k1 : (1 : Int32).toInt = 1 := rfl
          intro m7 em_33
          try have e7 : m7.toInt = (z5_6).toInt + (1) := by rw [em_33]; exact pm_addc _ _ (1) rfl (by omega) (by omega)
          exact ih2 m6 m7 (by omega) (by omega)
        · skip
          have dc5 : ((f 0 (z5_6).toInt.toNat)).toInt = (x3 : Int32).toInt := congrArg Int32.toInt c5
          have k1 : (1 : Int32).toInt = 1 := rfl
          refine hC.1 3 30 _ _ rfl _ _ _ _ _ ?_
          intro m8 em_30
          try have e8 : m8.toInt = (z4_6).toInt + (1) := by rw [em_30]; exact pm_addc _ _ (1) rfl (by omega) (by omega)
          intro m9 em_33
          try have e9 : m9.toInt = (z5_6).toInt + (1) := by rw [em_33]; exact pm_addc _ _ (1) rfl (by omega) (by omega)
          exact ih2 m8 m9 (by omega) (by omega)
  exact lp1 (200 - x1.toInt).toNat.succ (0 : Int32) x1 (by omega) (by omega)

set_option maxRecDepth 100000 in
set_option maxHeartbeats 2000000 in
theorem c_X11_nth (D : md_D h q) (v : Nat → Int32) (f : Nat → Nat → Int32) (hv : md_V v) (hf : md_F f) (x1 : Int32) (x2 : Int32)  : pm_Mt l g 204 0 0 0 [.ref h, .int x1, .int x2] (md A0 g h q v f) (md_Qp (md A0 g h q v f) (fun r => True)) := by
  refine mt_X11_nth rfl (fun J hC => ?_)
  have hv9 := hv
  unfold md_V at hv9
  have rg_x1 := pm_rng x1
  have rg_x2 := pm_rng x2
  refine hC.1 0 0 _ _ rfl _ _ _ _ _ ?_
  have k0 : (0 : Int32).toInt = 0 := rfl
  have lp1 : ∀ (n : Nat) (z3_5 : Int32) (z4_5 : Int32), 0 ≤ z4_5.toInt ∧ z4_5.toInt ≤ (v 0).toInt → 200 - z4_5.toInt < (n : Int) → J 5 [some (.ref h), some (.int x1), some (.int x2), some (.int z3_5), some (.int z4_5)] [] (md A0 g h q v f) 0 0 := by
    intro n
    induction n with
    | zero =>
      intro z3_5 z4_5 j0_5 j1_5
      omega
    | succ n ih2 =>
      intro z3_5 z4_5 j0_5 j1_5
      refine hC.1 1 5 _ _ rfl _ _ _ _ _ ?_
      refine Exists.intro _ (And.intro md_o ?_)
      refine And.intro (fun c3 => ?_) (fun c3 => ?_)
      · skip
        refine hC.1 5 48 _ _ rfl _ _ _ _ _ ?_
        have km1 : (-1 : Int32).toInt = -1 := rfl
        exact ⟨rfl, fun e9 => absurd e9 (by decide), rfl, (-1 : Int32), rfl, rfl, by first | trivial | omega | (dsimp only; omega)⟩
      · skip
        refine And.intro (fun c4 => ?_) (fun c4 => ?_)
        · skip
          refine hC.1 5 48 _ _ rfl _ _ _ _ _ ?_
          have km1 : (-1 : Int32).toInt = -1 := rfl
          exact ⟨rfl, fun e9 => absurd e9 (by decide), rfl, (-1 : Int32), rfl, rfl, by first | trivial | omega | (dsimp only; omega)⟩
        · skip
          refine Exists.intro _ (And.intro md_o ?_)
          refine Exists.intro _ (Exists.intro _ (And.intro (Or.inl (md_a_colours D)) (And.intro (by omega) ?_)))
          have w5 : (0 : Int) ≤ (f 0 (z4_5).toInt.toNat).toInt ∧ (f 0 (z4_5).toInt.toNat).toInt ≤ (23 : Int) := hf 0 _
          refine And.intro (fun c6 => ?_) (fun c6 => ?_)
          · skip
            have dc6 : ((f 0 (z4_5).toInt.toNat)).toInt = (x1 : Int32).toInt := congrArg Int32.toInt c6
            refine hC.1 2 32 _ _ rfl _ _ _ _ _ ?_
            refine And.intro (fun c7 => ?_) (fun c7 => ?_)
            · skip
              have dc7 := pm_neI c7
              refine hC.1 3 39 _ _ rfl _ _ _ _ _ ?_
              have km1 : (-1 : Int32).toInt = -1 := rfl
              intro m8 em_39
              try have e8 : m8.toInt = (z3_5).toInt + (-1) := by rw [em_39]; exact pm_addc _ _ (-1) rfl (by omega) (by omega)
              refine hC.1 4 42 _ _ rfl _ _ _ _ _ ?_
              have k1 : (1 : Int32).toInt = 1 := rfl
              intro m9 em_42
              try have e9 : m9.toInt = (z4_5).toInt + (1) := by rw [em_42]; exact pm_addc _ _ (1) rfl (by omega) (by omega)
              exact ih2 m8 m9 (by omega) (by omega)
            · skip
              have dc7 : (z3_5).toInt = (0 : Int32).toInt := congrArg Int32.toInt c7
              exact ⟨rfl, fun e9 => absurd e9 (by decide), rfl, z4_5, rfl, rfl, by first | trivial | omega | (dsimp only; omega)⟩
          · skip
            have dc6 := pm_neI c6
            refine hC.1 4 42 _ _ rfl _ _ _ _ _ ?_
            have k1 : (1 : Int32).toInt = 1 := rfl
            intro m10 em_42
            try have e10 : m10.toInt = (z4_5).toInt + (1) := by rw [em_42]; exact pm_addc _ _ (1) rfl (by omega) (by omega)
            exact ih2 z3_5 m10 (by omega) (by omega)
  exact lp1 (200 - (0 : Int32).toInt).toNat.succ x2 (0 : Int32) (by omega) (by omega)

set_option maxRecDepth 100000 in
set_option maxHeartbeats 2000000 in
theorem c_X11_setOf (D : md_D h q) (v : Nat → Int32) (f : Nat → Nat → Int32) (hv : md_V v) (hf : md_F f) (x1 : Int32) (x2 : Int32) (p0 : 0 ≤ x1.toInt ∧ x1.toInt ≤ 160) (p1 : -1 ≤ x2.toInt ∧ x2.toInt < 160) : pm_Mt l g 206 0 0 0 [.ref h, .int x1, .int x2] (md A0 g h q v f) (md_Qp (md A0 g h q v f) (fun r => r = setF (f 0) x1.toInt.toNat (x2.toInt + 1 - x1.toInt).toNat)) := by
  refine mt_X11_setOf rfl (fun J hC => ?_)
  have hv9 := hv
  unfold md_V at hv9
  have rg_x1 := pm_rng x1
  have rg_x2 := pm_rng x2
  refine hC.1 0 0 _ _ rfl _ _ _ _ _ ?_
  have k0 : (0 : Int32).toInt = 0 := rfl
  have lp1 : ∀ (n : Nat) (z3_5 : Int32) (z4_5 : Int32), x1.toInt ≤ z4_5.toInt ∧ z4_5.toInt ≤ 161 ∧ (z4_5.toInt ≤ x2.toInt + 1 ∨ z4_5.toInt = x1.toInt) → z3_5 = setF (f 0) x1.toInt.toNat (z4_5.toInt - x1.toInt).toNat → 200 - z4_5.toInt < (n : Int) → J 5 [some (.ref h), some (.int x1), some (.int x2), some (.int z3_5), some (.int z4_5)] [] (md A0 g h q v f) 0 0 := by
    intro n
    induction n with
    | zero =>
      intro z3_5 z4_5 j0_5 j1_5 j2_5
      omega
    | succ n ih2 =>
      intro z3_5 z4_5 j0_5 j1_5 j2_5
      refine hC.1 1 5 _ _ rfl _ _ _ _ _ ?_
      refine And.intro (fun c3 => ?_) (fun c3 => ?_)
      · skip
        refine hC.1 2 29 _ _ rfl _ _ _ _ _ ?_
        exact ⟨rfl, fun e9 => absurd e9 (by decide), rfl, z3_5, rfl, rfl, by rw [j1_5]; congr 1; omega⟩
      · skip
        have k1 : (1 : Int32).toInt = 1 := rfl
        refine Exists.intro _ (And.intro md_o ?_)
        refine Exists.intro _ (Exists.intro _ (And.intro (Or.inl (md_a_colours D)) (And.intro (by omega) ?_)))
        have w4 : (0 : Int) ≤ (f 0 (z4_5).toInt.toNat).toInt ∧ (f 0 (z4_5).toInt.toNat).toInt ≤ (23 : Int) := hf 0 _
        intro m5 em_23
        try have e5 : m5.toInt = (z4_5).toInt + (1) := by rw [em_23]; exact pm_addc _ _ (1) rfl (by omega) (by omega)
        exact ih2 (z3_5 ||| ((1 : Int32) <<< ((f 0 (z4_5).toInt.toNat) &&& 31))) m5 (by omega) (by rw [j1_5]; exact setF_s (m := m5) (by omega) (by omega)) (by omega)
  exact lp1 (200 - x1.toInt).toNat.succ (0 : Int32) x1 (by omega) (by rw [show (x1.toInt - x1.toInt).toNat = 0 by omega]; rfl) (by omega)

set_option maxRecDepth 100000 in
set_option maxHeartbeats 2000000 in
theorem c_X11_countOf (D : md_D h q) (v : Nat → Int32) (f : Nat → Nat → Int32) (hv : md_V v) (hf : md_F f) (x1 : Int32) (x2 : Int32) (p0 : 0 ≤ x1.toInt ∧ x1.toInt ≤ 160) (p1 : -1 ≤ x2.toInt ∧ x2.toInt < 160) : pm_Mt l g 209 1 0 0 [.ref h, .int x1, .int x2] (md A0 g h q v f) (md_Qp (md A0 g h q v f) (fun r => True)) := by
  refine mt_X11_countOf rfl (fun J hC => ?_)
  have hv9 := hv
  unfold md_V at hv9
  have rg_x1 := pm_rng x1
  have rg_x2 := pm_rng x2
  refine hC.1 0 0 _ _ rfl _ _ _ _ _ ?_
  refine And.intro (Exists.intro _ md_o) (Exists.intro _ (Exists.intro _ (Exists.intro _ (Exists.intro _ (And.intro (c_X11_setOf D v f hv hf x1 x2 (by omega) (by omega)) (And.intro rfl (fun r9 A9 h9 => ?_)))))))
  obtain ⟨y1, rfl, rfl, by1⟩ := h9
  refine Exists.intro _ (Exists.intro _ (Exists.intro _ (Exists.intro _ (And.intro (c_X11_bits (md A0 g h q v f) y1 ) (And.intro rfl (fun r9 A9 h9 => ?_))))))
  obtain ⟨y2, rfl, rfl, by2⟩ := h9
  exact ⟨rfl, fun e9 => absurd e9 (by decide), rfl, y2, rfl, rfl, by first | trivial | omega | (dsimp only; omega)⟩

set_option maxRecDepth 100000 in
set_option maxHeartbeats 2000000 in
theorem c_X11_weightOf (D : md_D h q) (v : Nat → Int32) (f : Nat → Nat → Int32) (hv : md_V v) (hf : md_F f) (x1 : Int32)  : pm_Mt l g 211 0 0 0 [.ref h, .int x1] (md A0 g h q v f) (md_Qp (md A0 g h q v f) (fun r => True)) := by
  refine mt_X11_weightOf rfl (fun J hC => ?_)
  have hv9 := hv
  unfold md_V at hv9
  have rg_x1 := pm_rng x1
  refine hC.1 0 0 _ _ rfl _ _ _ _ _ ?_
  have k0 : (0 : Int32).toInt = 0 := rfl
  have lp1 : ∀ (n : Nat) (z2_4 : Int32) (z3_4 : Int32), 0 ≤ z3_4.toInt ∧ z3_4.toInt ≤ 24 → 200 - z3_4.toInt < (n : Int) → J 4 [some (.ref h), some (.int x1), some (.int z2_4), some (.int z3_4)] [] (md A0 g h q v f) 0 0 := by
    intro n
    induction n with
    | zero =>
      intro z2_4 z3_4 j0_4 j1_4
      omega
    | succ n ih2 =>
      intro z2_4 z3_4 j0_4 j1_4
      refine hC.1 1 4 _ _ rfl _ _ _ _ _ ?_
      have k24 : (24 : Int32).toInt = 24 := rfl
      refine And.intro (fun c3 => ?_) (fun c3 => ?_)
      · skip
        refine hC.1 4 38 _ _ rfl _ _ _ _ _ ?_
        exact ⟨rfl, fun e9 => absurd e9 (by decide), rfl, z2_4, rfl, rfl, by first | trivial | omega | (dsimp only; omega)⟩
      · skip
        have k1 : (1 : Int32).toInt = 1 := rfl
        refine And.intro (fun c4 => ?_) (fun c4 => ?_)
        · skip
          have dc4 := pm_neI c4
          refine hC.1 2 29 _ _ rfl _ _ _ _ _ ?_
          refine hC.1 3 30 _ _ rfl _ _ _ _ _ ?_
          intro m5 em_30
          try have e5 : m5.toInt = (z2_4).toInt + (0) := by rw [em_30]; exact pm_addc _ _ (0) rfl (by omega) (by omega)
          intro m6 em_32
          try have e6 : m6.toInt = (z3_4).toInt + (1) := by rw [em_32]; exact pm_addc _ _ (1) rfl (by omega) (by omega)
          exact ih2 m5 m6 (by omega) (by omega)
        · skip
          have dc4 : (((x1 >>> (z3_4 &&& 31)) &&& (1 : Int32))).toInt = ((1 : Int32) : Int32).toInt := congrArg Int32.toInt c4
          refine Exists.intro _ (And.intro md_o ?_)
          refine Exists.intro _ (Exists.intro _ (And.intro (Or.inl (md_a_weights D)) (And.intro (by omega) ?_)))
          refine hC.1 3 30 _ _ rfl _ _ _ _ _ ?_
          intro m7 em_30
          try have e7 : m7.toInt = (z2_4).toInt + ((f 2 (z3_4).toInt.toNat)).toInt := by rw [em_30]; exact pm_add _ _ (by omega) (by omega)
          intro m8 em_32
          try have e8 : m8.toInt = (z3_4).toInt + (1) := by rw [em_32]; exact pm_addc _ _ (1) rfl (by omega) (by omega)
          exact ih2 m7 m8 (by omega) (by omega)
  exact lp1 (200 - (0 : Int32).toInt).toNat.succ (0 : Int32) (0 : Int32) (by omega) (by omega)

set_option maxRecDepth 100000 in
set_option maxHeartbeats 2000000 in
theorem c_X11_count (D : md_D h q) (v : Nat → Int32) (f : Nat → Nat → Int32) (hv : md_V v) (hf : md_F f) (x1 : Int32) (x2 : Int32)  : pm_Mt l g 208 2 0 0 [.ref h, .int x1, .int x2] (md A0 g h q v f) (md_Qp (md A0 g h q v f) (fun r => True)) := by
  refine mt_X11_count rfl (fun J hC => ?_)
  have hv9 := hv
  unfold md_V at hv9
  have rg_x1 := pm_rng x1
  have rg_x2 := pm_rng x2
  refine hC.1 0 0 _ _ rfl _ _ _ _ _ ?_
  refine And.intro (Exists.intro _ md_o) (Exists.intro _ (Exists.intro _ (Exists.intro _ (Exists.intro _ (And.intro (c_X11_isSpan D v f hv hf x1 x2 ) (And.intro rfl (fun r9 A9 h9 => ?_)))))))
  rcases h9 with ⟨y1, rfl, rfl, ⟨rfl, by1⟩ | ⟨rfl, by1⟩⟩
  · skip
    have k1 : (1 : Int32).toInt = 1 := rfl
    refine And.intro (fun c9 => absurd c9 (by decide)) (fun _ => ?_)
    refine And.intro (Exists.intro _ md_o) (Exists.intro _ (Exists.intro _ (Exists.intro _ (Exists.intro _ (And.intro (c_X11_countOf D v f hv hf x1 x2 (by omega) (by omega)) (And.intro rfl (fun r9 A9 h9 => ?_)))))))
    obtain ⟨y2, rfl, rfl, by2⟩ := h9
    refine hC.1 2 19 _ _ rfl _ _ _ _ _ ?_
    exact ⟨rfl, fun e9 => absurd e9 (by decide), rfl, y2, rfl, rfl, by first | trivial | omega | (dsimp only; omega)⟩
  · skip
    have k0 : (0 : Int32).toInt = 0 := rfl
    refine And.intro (fun _ => ?_) (fun c9 => absurd c9 (by decide))
    refine hC.1 1 18 _ _ rfl _ _ _ _ _ ?_
    have km1 : (-1 : Int32).toInt = -1 := rfl
    refine hC.1 2 19 _ _ rfl _ _ _ _ _ ?_
    exact ⟨rfl, fun e9 => absurd e9 (by decide), rfl, (-1 : Int32), rfl, rfl, by first | trivial | omega | (dsimp only; omega)⟩

set_option maxRecDepth 100000 in
set_option maxHeartbeats 2000000 in
theorem c_X11_weight (D : md_D h q) (v : Nat → Int32) (f : Nat → Nat → Int32) (hv : md_V v) (hf : md_F f) (x1 : Int32) (x2 : Int32)  : pm_Mt l g 210 1 0 0 [.ref h, .int x1, .int x2] (md A0 g h q v f) (md_Qp (md A0 g h q v f) (fun r => True)) := by
  refine mt_X11_weight rfl (fun J hC => ?_)
  have hv9 := hv
  unfold md_V at hv9
  have rg_x1 := pm_rng x1
  have rg_x2 := pm_rng x2
  refine hC.1 0 0 _ _ rfl _ _ _ _ _ ?_
  refine And.intro (Exists.intro _ md_o) (Exists.intro _ (Exists.intro _ (Exists.intro _ (Exists.intro _ (And.intro (c_X11_isSpan D v f hv hf x1 x2 ) (And.intro rfl (fun r9 A9 h9 => ?_)))))))
  rcases h9 with ⟨y1, rfl, rfl, ⟨rfl, by1⟩ | ⟨rfl, by1⟩⟩
  · skip
    have k1 : (1 : Int32).toInt = 1 := rfl
    refine And.intro (fun c9 => absurd c9 (by decide)) (fun _ => ?_)
    refine And.intro (Exists.intro _ md_o) (Exists.intro _ (Exists.intro _ (Exists.intro _ (Exists.intro _ (And.intro (c_X11_setOf D v f hv hf x1 x2 (by omega) (by omega)) (And.intro rfl (fun r9 A9 h9 => ?_)))))))
    obtain ⟨y2, rfl, rfl, by2⟩ := h9
    refine And.intro (Exists.intro _ md_o) (Exists.intro _ (Exists.intro _ (Exists.intro _ (Exists.intro _ (And.intro (c_X11_weightOf D v f hv hf y2 ) (And.intro rfl (fun r9 A9 h9 => ?_)))))))
    obtain ⟨y3, rfl, rfl, by3⟩ := h9
    refine hC.1 2 23 _ _ rfl _ _ _ _ _ ?_
    exact ⟨rfl, fun e9 => absurd e9 (by decide), rfl, y3, rfl, rfl, by first | trivial | omega | (dsimp only; omega)⟩
  · skip
    have k0 : (0 : Int32).toInt = 0 := rfl
    refine And.intro (fun _ => ?_) (fun c9 => absurd c9 (by decide))
    refine hC.1 1 22 _ _ rfl _ _ _ _ _ ?_
    have km1 : (-1 : Int32).toInt = -1 := rfl
    refine hC.1 2 23 _ _ rfl _ _ _ _ _ ?_
    exact ⟨rfl, fun e9 => absurd e9 (by decide), rfl, (-1 : Int32), rfl, rfl, by first | trivial | omega | (dsimp only; omega)⟩

set_option maxRecDepth 100000 in
set_option maxHeartbeats 2000000 in
theorem c_X11_set (D : md_D h q) (v : Nat → Int32) (f : Nat → Nat → Int32) (hv : md_V v) (hf : md_F f) (x1 : Int32) (x2 : Int32)  : pm_Mt l g 212 1 0 0 [.ref h, .int x1, .int x2] (md A0 g h q v f) (md_Qp (md A0 g h q v f) (fun r => True)) := by
  refine mt_X11_set rfl (fun J hC => ?_)
  have hv9 := hv
  unfold md_V at hv9
  have rg_x1 := pm_rng x1
  have rg_x2 := pm_rng x2
  refine hC.1 0 0 _ _ rfl _ _ _ _ _ ?_
  refine And.intro (Exists.intro _ md_o) (Exists.intro _ (Exists.intro _ (Exists.intro _ (Exists.intro _ (And.intro (c_X11_isSpan D v f hv hf x1 x2 ) (And.intro rfl (fun r9 A9 h9 => ?_)))))))
  rcases h9 with ⟨y1, rfl, rfl, ⟨rfl, by1⟩ | ⟨rfl, by1⟩⟩
  · skip
    have k1 : (1 : Int32).toInt = 1 := rfl
    refine And.intro (fun c9 => absurd c9 (by decide)) (fun _ => ?_)
    refine And.intro (Exists.intro _ md_o) (Exists.intro _ (Exists.intro _ (Exists.intro _ (Exists.intro _ (And.intro (c_X11_setOf D v f hv hf x1 x2 (by omega) (by omega)) (And.intro rfl (fun r9 A9 h9 => ?_)))))))
    obtain ⟨y2, rfl, rfl, by2⟩ := h9
    refine hC.1 2 19 _ _ rfl _ _ _ _ _ ?_
    exact ⟨rfl, fun e9 => absurd e9 (by decide), rfl, y2, rfl, rfl, by first | trivial | omega | (dsimp only; omega)⟩
  · skip
    have k0 : (0 : Int32).toInt = 0 := rfl
    refine And.intro (fun _ => ?_) (fun c9 => absurd c9 (by decide))
    refine hC.1 1 18 _ _ rfl _ _ _ _ _ ?_
    have km1 : (-1 : Int32).toInt = -1 := rfl
    refine hC.1 2 19 _ _ rfl _ _ _ _ _ ?_
    exact ⟨rfl, fun e9 => absurd e9 (by decide), rfl, (-1 : Int32), rfl, rfl, by first | trivial | omega | (dsimp only; omega)⟩

set_option maxRecDepth 100000 in
set_option maxHeartbeats 2000000 in
theorem c_X11_times (D : md_D h q) (v : Nat → Int32) (f : Nat → Nat → Int32) (hv : md_V v) (hf : md_F f) (x1 : Int32) (x2 : Int32) (x3 : Int32)  : pm_Mt l g 213 2 0 0 [.ref h, .int x1, .int x2, .int x3] (md A0 g h q v f) (md_Qp (md A0 g h q v f) (fun r => True)) := by
  refine mt_X11_times rfl (fun J hC => ?_)
  have hv9 := hv
  unfold md_V at hv9
  have rg_x1 := pm_rng x1
  have rg_x2 := pm_rng x2
  have rg_x3 := pm_rng x3
  refine hC.1 0 0 _ _ rfl _ _ _ _ _ ?_
  refine And.intro (Exists.intro _ md_o) (Exists.intro _ (Exists.intro _ (Exists.intro _ (Exists.intro _ (And.intro (c_X11_isSpan D v f hv hf x1 x2 ) (And.intro rfl (fun r9 A9 h9 => ?_)))))))
  rcases h9 with ⟨y1, rfl, rfl, ⟨rfl, by1⟩ | ⟨rfl, by1⟩⟩
  · skip
    have k1 : (1 : Int32).toInt = 1 := rfl
    refine And.intro (fun c9 => absurd c9 (by decide)) (fun _ => ?_)
    refine Exists.intro _ (Exists.intro _ (Exists.intro _ (Exists.intro _ (And.intro (c_X11_isColour (md A0 g h q v f) x3 ) (And.intro rfl (fun r9 A9 h9 => ?_))))))
    rcases h9 with ⟨y2, rfl, rfl, ⟨rfl, by2⟩ | ⟨rfl, by2⟩⟩
    · skip
      refine And.intro (fun c9 => absurd c9 (by decide)) (fun _ => ?_)
      refine And.intro (Exists.intro _ md_o) (Exists.intro _ (Exists.intro _ (Exists.intro _ (Exists.intro _ (And.intro (c_X11_timesIn D v f hv hf x1 x2 x3 (by omega) (by omega)) (And.intro rfl (fun r9 A9 h9 => ?_)))))))
      obtain ⟨y3, rfl, rfl, by3⟩ := h9
      refine hC.1 2 27 _ _ rfl _ _ _ _ _ ?_
      exact ⟨rfl, fun e9 => absurd e9 (by decide), rfl, y3, rfl, rfl, by first | trivial | omega | (dsimp only; omega)⟩
    · skip
      have k0 : (0 : Int32).toInt = 0 := rfl
      refine And.intro (fun _ => ?_) (fun c9 => absurd c9 (by decide))
      refine hC.1 1 26 _ _ rfl _ _ _ _ _ ?_
      have km1 : (-1 : Int32).toInt = -1 := rfl
      refine hC.1 2 27 _ _ rfl _ _ _ _ _ ?_
      exact ⟨rfl, fun e9 => absurd e9 (by decide), rfl, (-1 : Int32), rfl, rfl, by first | trivial | omega | (dsimp only; omega)⟩
  · skip
    have k0 : (0 : Int32).toInt = 0 := rfl
    refine And.intro (fun _ => ?_) (fun c9 => absurd c9 (by decide))
    refine hC.1 1 26 _ _ rfl _ _ _ _ _ ?_
    have km1 : (-1 : Int32).toInt = -1 := rfl
    refine hC.1 2 27 _ _ rfl _ _ _ _ _ ?_
    exact ⟨rfl, fun e9 => absurd e9 (by decide), rfl, (-1 : Int32), rfl, rfl, by first | trivial | omega | (dsimp only; omega)⟩

set_option maxRecDepth 100000 in
set_option maxHeartbeats 2000000 in
theorem c_X11_often (D : md_D h q) (v : Nat → Int32) (f : Nat → Nat → Int32) (hv : md_V v) (hf : md_F f) (x1 : Int32) (x2 : Int32) (x3 : Int32)  : pm_Mt l g 214 1 0 0 [.ref h, .int x1, .int x2, .int x3] (md A0 g h q v f) (md_Qp (md A0 g h q v f) (fun r => True)) := by
  refine mt_X11_often rfl (fun J hC => ?_)
  have hv9 := hv
  unfold md_V at hv9
  have rg_x1 := pm_rng x1
  have rg_x2 := pm_rng x2
  have rg_x3 := pm_rng x3
  refine hC.1 0 0 _ _ rfl _ _ _ _ _ ?_
  refine And.intro (Exists.intro _ md_o) (Exists.intro _ (Exists.intro _ (Exists.intro _ (Exists.intro _ (And.intro (c_X11_isSpan D v f hv hf x1 x2 ) (And.intro rfl (fun r9 A9 h9 => ?_)))))))
  rcases h9 with ⟨y1, rfl, rfl, ⟨rfl, by1⟩ | ⟨rfl, by1⟩⟩
  · skip
    have k1 : (1 : Int32).toInt = 1 := rfl
    refine And.intro (fun c9 => absurd c9 (by decide)) (fun _ => ?_)
    refine And.intro (fun c2 => ?_) (fun c2 => ?_)
    · skip
      refine hC.1 2 16 _ _ rfl _ _ _ _ _ ?_
      have k0 : (0 : Int32).toInt = 0 := rfl
      have lp3 : ∀ (n : Nat) (z4_22 : Int32) (z5_22 : Int32), 0 ≤ z5_22.toInt ∧ z5_22.toInt ≤ 24 → 200 - z5_22.toInt < (n : Int) → J 22 [some (.ref h), some (.int x1), some (.int x2), some (.int x3), some (.int z4_22), some (.int z5_22)] [] (md A0 g h q v f) 0 0 := by
        intro n
        induction n with
        | zero =>
          intro z4_22 z5_22 j0_22 j1_22
          omega
        | succ n ih4 =>
          intro z4_22 z5_22 j0_22 j1_22
          refine hC.1 3 22 _ _ rfl _ _ _ _ _ ?_
          have k24 : (24 : Int32).toInt = 24 := rfl
          refine And.intro (fun c5 => ?_) (fun c5 => ?_)
          · skip
            refine hC.1 6 57 _ _ rfl _ _ _ _ _ ?_
            exact ⟨rfl, fun e9 => absurd e9 (by decide), rfl, z4_22, rfl, rfl, by first | trivial | omega | (dsimp only; omega)⟩
          · skip
            refine And.intro (Exists.intro _ md_o) (Exists.intro _ (Exists.intro _ (Exists.intro _ (Exists.intro _ (And.intro (c_X11_timesIn D v f hv hf x1 x2 z5_22 (by omega) (by omega)) (And.intro rfl (fun r9 A9 h9 => ?_)))))))
            obtain ⟨y6, rfl, rfl, by6⟩ := h9
            refine And.intro (fun c7 => ?_) (fun c7 => ?_)
            · skip
              refine hC.1 4 47 _ _ rfl _ _ _ _ _ ?_
              refine hC.1 5 48 _ _ rfl _ _ _ _ _ ?_
              intro m8 em_48
              try have e8 : m8.toInt = (z4_22).toInt + (0) := by rw [em_48]; exact pm_addc _ _ (0) rfl (by omega) (by omega)
              intro m9 em_51
              try have e9 : m9.toInt = (z5_22).toInt + (1) := by rw [em_51]; exact pm_addc _ _ (1) rfl (by omega) (by omega)
              exact ih4 m8 m9 (by omega) (by omega)
            · skip
              refine hC.1 5 48 _ _ rfl _ _ _ _ _ ?_
              intro m10 em_48
              try have e10 : m10.toInt = (z4_22).toInt + (1) := by rw [em_48]; exact pm_addc _ _ (1) rfl (by omega) (by omega)
              intro m11 em_51
              try have e11 : m11.toInt = (z5_22).toInt + (1) := by rw [em_51]; exact pm_addc _ _ (1) rfl (by omega) (by omega)
              exact ih4 m10 m11 (by omega) (by omega)
      exact lp3 (200 - (0 : Int32).toInt).toNat.succ (0 : Int32) (0 : Int32) (by omega) (by omega)
    · skip
      refine hC.1 1 14 _ _ rfl _ _ _ _ _ ?_
      have km1 : (-1 : Int32).toInt = -1 := rfl
      exact ⟨rfl, fun e9 => absurd e9 (by decide), rfl, (-1 : Int32), rfl, rfl, by first | trivial | omega | (dsimp only; omega)⟩
  · skip
    have k0 : (0 : Int32).toInt = 0 := rfl
    refine And.intro (fun _ => ?_) (fun c9 => absurd c9 (by decide))
    refine hC.1 1 14 _ _ rfl _ _ _ _ _ ?_
    have km1 : (-1 : Int32).toInt = -1 := rfl
    exact ⟨rfl, fun e9 => absurd e9 (by decide), rfl, (-1 : Int32), rfl, rfl, by first | trivial | omega | (dsimp only; omega)⟩

end
end
section
section
variable {l : Launch} {g : pm_G} {A0 : pm_H} {h : Nat} {q : Nat → Nat}
set_option maxRecDepth 100000 in
set_option maxHeartbeats 2000000 in
theorem c_X11_tally (D : md_D h q) (v : Nat → Int32) (f : Nat → Nat → Int32) (hv : md_V v) (hf : md_F f) (x1 : Int32) (x2 : Int32) (x3 : Int32)  : pm_Mt l g 215 1 0 0 [.ref h, .int x1, .int x2, .int x3] (md A0 g h q v f) (md_Qp (md A0 g h q v f) (fun r => True)) := by
  refine mt_X11_tally rfl (fun J hC => ?_)
  have hv9 := hv
  unfold md_V at hv9
  have rg_x1 := pm_rng x1
  have rg_x2 := pm_rng x2
  have rg_x3 := pm_rng x3
  refine hC.1 0 0 _ _ rfl _ _ _ _ _ ?_
  refine And.intro (Exists.intro _ md_o) (Exists.intro _ (Exists.intro _ (Exists.intro _ (Exists.intro _ (And.intro (c_X11_isSpan D v f hv hf x1 x2 ) (And.intro rfl (fun r9 A9 h9 => ?_)))))))
  rcases h9 with ⟨y1, rfl, rfl, ⟨rfl, by1⟩ | ⟨rfl, by1⟩⟩
  · skip
    have k1 : (1 : Int32).toInt = 1 := rfl
    refine And.intro (fun c9 => absurd c9 (by decide)) (fun _ => ?_)
    refine And.intro (fun c2 => ?_) (fun c2 => ?_)
    · skip
      refine hC.1 2 16 _ _ rfl _ _ _ _ _ ?_
      have k0 : (0 : Int32).toInt = 0 := rfl
      have lp3 : ∀ (n : Nat) (z4_22 : Int32) (z5_22 : Int32), 0 ≤ z5_22.toInt ∧ z5_22.toInt ≤ 24 → 200 - z5_22.toInt < (n : Int) → J 22 [some (.ref h), some (.int x1), some (.int x2), some (.int x3), some (.int z4_22), some (.int z5_22)] [] (md A0 g h q v f) 0 0 := by
        intro n
        induction n with
        | zero =>
          intro z4_22 z5_22 j0_22 j1_22
          omega
        | succ n ih4 =>
          intro z4_22 z5_22 j0_22 j1_22
          refine hC.1 3 22 _ _ rfl _ _ _ _ _ ?_
          have k24 : (24 : Int32).toInt = 24 := rfl
          refine And.intro (fun c5 => ?_) (fun c5 => ?_)
          · skip
            refine hC.1 6 57 _ _ rfl _ _ _ _ _ ?_
            exact ⟨rfl, fun e9 => absurd e9 (by decide), rfl, z4_22, rfl, rfl, by first | trivial | omega | (dsimp only; omega)⟩
          · skip
            refine And.intro (Exists.intro _ md_o) (Exists.intro _ (Exists.intro _ (Exists.intro _ (Exists.intro _ (And.intro (c_X11_timesIn D v f hv hf x1 x2 z5_22 (by omega) (by omega)) (And.intro rfl (fun r9 A9 h9 => ?_)))))))
            obtain ⟨y6, rfl, rfl, by6⟩ := h9
            refine And.intro (fun c7 => ?_) (fun c7 => ?_)
            · skip
              have dc7 := pm_neI c7
              refine hC.1 4 47 _ _ rfl _ _ _ _ _ ?_
              refine hC.1 5 48 _ _ rfl _ _ _ _ _ ?_
              intro m8 em_48
              try have e8 : m8.toInt = (z4_22).toInt + (0) := by rw [em_48]; exact pm_addc _ _ (0) rfl (by omega) (by omega)
              intro m9 em_51
              try have e9 : m9.toInt = (z5_22).toInt + (1) := by rw [em_51]; exact pm_addc _ _ (1) rfl (by omega) (by omega)
              exact ih4 m8 m9 (by omega) (by omega)
            · skip
              have dc7 : (y6).toInt = (x3 : Int32).toInt := congrArg Int32.toInt c7
              refine hC.1 5 48 _ _ rfl _ _ _ _ _ ?_
              intro m10 em_48
              try have e10 : m10.toInt = (z4_22).toInt + (1) := by rw [em_48]; exact pm_addc _ _ (1) rfl (by omega) (by omega)
              intro m11 em_51
              try have e11 : m11.toInt = (z5_22).toInt + (1) := by rw [em_51]; exact pm_addc _ _ (1) rfl (by omega) (by omega)
              exact ih4 m10 m11 (by omega) (by omega)
      exact lp3 (200 - (0 : Int32).toInt).toNat.succ (0 : Int32) (0 : Int32) (by omega) (by omega)
    · skip
      refine hC.1 1 14 _ _ rfl _ _ _ _ _ ?_
      have km1 : (-1 : Int32).toInt = -1 := rfl
      exact ⟨rfl, fun e9 => absurd e9 (by decide), rfl, (-1 : Int32), rfl, rfl, by first | trivial | omega | (dsimp only; omega)⟩
  · skip
    have k0 : (0 : Int32).toInt = 0 := rfl
    refine And.intro (fun _ => ?_) (fun c9 => absurd c9 (by decide))
    refine hC.1 1 14 _ _ rfl _ _ _ _ _ ?_
    have km1 : (-1 : Int32).toInt = -1 := rfl
    exact ⟨rfl, fun e9 => absurd e9 (by decide), rfl, (-1 : Int32), rfl, rfl, by first | trivial | omega | (dsimp only; omega)⟩

set_option maxRecDepth 100000 in
set_option maxHeartbeats 2000000 in
theorem c_X11_major (D : md_D h q) (v : Nat → Int32) (f : Nat → Nat → Int32) (hv : md_V v) (hf : md_F f) (x1 : Int32) (x2 : Int32)  : pm_Mt l g 216 1 0 0 [.ref h, .int x1, .int x2] (md A0 g h q v f) (md_Qp (md A0 g h q v f) (fun r => True)) := by
  refine mt_X11_major rfl (fun J hC => ?_)
  have hv9 := hv
  unfold md_V at hv9
  have rg_x1 := pm_rng x1
  have rg_x2 := pm_rng x2
  refine hC.1 0 0 _ _ rfl _ _ _ _ _ ?_
  refine And.intro (Exists.intro _ md_o) (Exists.intro _ (Exists.intro _ (Exists.intro _ (Exists.intro _ (And.intro (c_X11_isSpan D v f hv hf x1 x2 ) (And.intro rfl (fun r9 A9 h9 => ?_)))))))
  rcases h9 with ⟨y1, rfl, rfl, ⟨rfl, by1⟩ | ⟨rfl, by1⟩⟩
  · skip
    have k1 : (1 : Int32).toInt = 1 := rfl
    refine And.intro (fun _ => ?_) (fun c9 => absurd c9 (by decide))
    refine hC.1 1 11 _ _ rfl _ _ _ _ _ ?_
    have k0 : (0 : Int32).toInt = 0 := rfl
    have lp2 : ∀ (n : Nat) (z3_13 : Int32), 0 ≤ z3_13.toInt ∧ z3_13.toInt ≤ 24 → 200 - z3_13.toInt < (n : Int) → J 13 [some (.ref h), some (.int x1), some (.int x2), some (.int z3_13)] [] (md A0 g h q v f) 0 0 := by
      intro n
      induction n with
      | zero =>
        intro z3_13 j0_13 j1_13
        omega
      | succ n ih3 =>
        intro z3_13 j0_13 j1_13
        refine hC.1 2 13 _ _ rfl _ _ _ _ _ ?_
        have k24 : (24 : Int32).toInt = 24 := rfl
        refine And.intro (fun c4 => ?_) (fun c4 => ?_)
        · skip
          refine hC.1 4 44 _ _ rfl _ _ _ _ _ ?_
          have km1 : (-1 : Int32).toInt = -1 := rfl
          exact ⟨rfl, fun e9 => absurd e9 (by decide), rfl, (-1 : Int32), rfl, rfl, by first | trivial | omega | (dsimp only; omega)⟩
        · skip
          have k2 : (2 : Int32).toInt = 2 := rfl
          refine And.intro (Exists.intro _ md_o) (Exists.intro _ (Exists.intro _ (Exists.intro _ (Exists.intro _ (And.intro (c_X11_timesIn D v f hv hf x1 x2 z3_13 (by omega) (by omega)) (And.intro rfl (fun r9 A9 h9 => ?_)))))))
          obtain ⟨y5, rfl, rfl, by5⟩ := h9
          intro m6 em_27
          try have e6 : m6.toInt = 2 * (y5).toInt := by rw [em_27]; exact pm_mulk _ _ 2 rfl (by omega) (by omega)
          intro m7 em_30
          try have e7 : m7.toInt = (x2).toInt - (x1).toInt := by rw [em_30]; exact pm_sub _ _ (by omega) (by omega)
          intro m8 em_32
          try have e8 : m8.toInt = (m7).toInt + (1) := by rw [em_32]; exact pm_addc _ _ (1) rfl (by omega) (by omega)
          refine And.intro (fun c9 => ?_) (fun c9 => ?_)
          · skip
            refine hC.1 3 38 _ _ rfl _ _ _ _ _ ?_
            intro m10 em_38
            try have e10 : m10.toInt = (z3_13).toInt + (1) := by rw [em_38]; exact pm_addc _ _ (1) rfl (by omega) (by omega)
            exact ih3 m10 (by omega) (by omega)
          · skip
            exact ⟨rfl, fun e9 => absurd e9 (by decide), rfl, z3_13, rfl, rfl, by first | trivial | omega | (dsimp only; omega)⟩
    exact lp2 (200 - (0 : Int32).toInt).toNat.succ (0 : Int32) (by omega) (by omega)
  · skip
    have k0 : (0 : Int32).toInt = 0 := rfl
    refine And.intro (fun c9 => absurd c9 (by decide)) (fun _ => ?_)
    have km1 : (-1 : Int32).toInt = -1 := rfl
    exact ⟨rfl, fun e9 => absurd e9 (by decide), rfl, (-1 : Int32), rfl, rfl, by first | trivial | omega | (dsimp only; omega)⟩

set_option maxRecDepth 100000 in
set_option maxHeartbeats 2000000 in
theorem c_X11_at (D : md_D h q) (v : Nat → Int32) (f : Nat → Nat → Int32) (hv : md_V v) (hf : md_F f) (x1 : Int32) (x2 : Int32)  : pm_Mt l g 195 2 0 0 [.ref h, .int x1, .int x2] (md A0 g h q v f) (md_Qp (md A0 g h q v f) (fun r => True)) := by
  refine mt_X11_at rfl (fun J hC => ?_)
  have hv9 := hv
  unfold md_V at hv9
  have rg_x1 := pm_rng x1
  have rg_x2 := pm_rng x2
  have lt9 := nextEq_lt (f 0) (f 0 x1.toInt.toNat) (x1.toInt + 1).toNat ((v 0).toInt - (x1.toInt + 1)).toNat
  refine hC.1 0 0 _ _ rfl _ _ _ _ _ ?_
  refine And.intro (Exists.intro _ md_o) (Exists.intro _ (Exists.intro _ (Exists.intro _ (Exists.intro _ (And.intro (c_X11_isPlace D v f hv hf x1 ) (And.intro rfl (fun r9 A9 h9 => ?_)))))))
  rcases h9 with ⟨y1, rfl, rfl, ⟨rfl, by1⟩ | ⟨rfl, by1⟩⟩
  · skip
    have k1 : (1 : Int32).toInt = 1 := rfl
    refine And.intro (fun _ => ?_) (fun c9 => absurd c9 (by decide))
    refine hC.1 1 10 _ _ rfl _ _ _ _ _ ?_
    refine pm_swc 4 rfl (by decide) ?_ ?_
    · intro _
      refine hC.1 8 83 _ _ rfl _ _ _ _ _ ?_
      have km1 : (-1 : Int32).toInt = -1 := rfl
      exact ⟨rfl, fun e9 => absurd e9 (by decide), rfl, (-1 : Int32), rfl, rfl, by first | trivial | omega | (dsimp only; omega)⟩
    · intro i9 hi9 he9
      rcases (show i9 = 0 ∨ i9 = 1 ∨ i9 = 2 ∨ i9 = 3 by omega) with rfl | rfl | rfl | rfl
      · skip
        refine hC.1 2 40 _ _ rfl _ _ _ _ _ ?_
        refine Exists.intro _ (And.intro md_o ?_)
        refine Exists.intro _ (Exists.intro _ (And.intro (Or.inl (md_a_colours D)) (And.intro (by omega) ?_)))
        have w4 : (0 : Int) ≤ (f 0 (x1).toInt.toNat).toInt ∧ (f 0 (x1).toInt.toNat).toInt ≤ (23 : Int) := hf 0 _
        exact ⟨rfl, fun e9 => absurd e9 (by decide), rfl, (f 0 (x1).toInt.toNat), rfl, rfl, by first | trivial | omega | (dsimp only; omega)⟩
      · skip
        refine hC.1 3 47 _ _ rfl _ _ _ _ _ ?_
        refine Exists.intro _ (And.intro md_o ?_)
        refine Exists.intro _ (Exists.intro _ (And.intro (Or.inl (md_a_names D)) (And.intro (by omega) ?_)))
        exact ⟨rfl, fun e9 => absurd e9 (by decide), rfl, (f 1 (x1).toInt.toNat), rfl, rfl, by first | trivial | omega | (dsimp only; omega)⟩
      · skip
        refine hC.1 4 54 _ _ rfl _ _ _ _ _ ?_
        refine And.intro (Exists.intro _ md_o) (Exists.intro _ (Exists.intro _ (Exists.intro _ (Exists.intro _ (And.intro (c_X11_bondOf D v f hv hf x1 (by omega)) (And.intro rfl (fun r9 A9 h9 => ?_)))))))
        obtain ⟨y5, rfl, rfl, by5⟩ := h9
        exact ⟨rfl, fun e9 => absurd e9 (by decide), rfl, y5, rfl, rfl, by first | trivial | omega | (dsimp only; omega)⟩
      · skip
        refine hC.1 5 60 _ _ rfl _ _ _ _ _ ?_
        refine And.intro (Exists.intro _ md_o) (Exists.intro _ (Exists.intro _ (Exists.intro _ (Exists.intro _ (And.intro (c_X11_behind D v f hv hf x1 (by omega)) (And.intro rfl (fun r9 A9 h9 => ?_)))))))
        obtain ⟨y6, rfl, rfl, by6⟩ := h9
        refine And.intro (fun c7 => ?_) (fun c7 => ?_)
        · skip
          refine hC.1 6 72 _ _ rfl _ _ _ _ _ ?_
          refine Exists.intro _ (And.intro md_o ?_)
          refine And.intro (Exists.intro _ md_o) (Exists.intro _ (Exists.intro _ (Exists.intro _ (Exists.intro _ (And.intro (c_X11_behind D v f hv hf x1 (by omega)) (And.intro rfl (fun r9 A9 h9 => ?_)))))))
          obtain ⟨y8, rfl, rfl, by8⟩ := h9
          refine Exists.intro _ (Exists.intro _ (And.intro (Or.inl (md_a_names D)) (And.intro (by omega) ?_)))
          refine hC.1 7 82 _ _ rfl _ _ _ _ _ ?_
          exact ⟨rfl, fun e9 => absurd e9 (by decide), rfl, (f 1 (y8).toInt.toNat), rfl, rfl, by first | trivial | omega | (dsimp only; omega)⟩
        · skip
          have km1 : (-1 : Int32).toInt = -1 := rfl
          refine hC.1 7 82 _ _ rfl _ _ _ _ _ ?_
          exact ⟨rfl, fun e9 => absurd e9 (by decide), rfl, (-1 : Int32), rfl, rfl, by first | trivial | omega | (dsimp only; omega)⟩
  · skip
    have k0 : (0 : Int32).toInt = 0 := rfl
    refine And.intro (fun c9 => absurd c9 (by decide)) (fun _ => ?_)
    have km1 : (-1 : Int32).toInt = -1 := rfl
    exact ⟨rfl, fun e9 => absurd e9 (by decide), rfl, (-1 : Int32), rfl, rfl, by first | trivial | omega | (dsimp only; omega)⟩

set_option maxRecDepth 100000 in
set_option maxHeartbeats 2000000 in
theorem c_X11_colour (D : md_D h q) (v : Nat → Int32) (f : Nat → Nat → Int32) (hv : md_V v) (hf : md_F f) (x1 : Int32) (x2 : Int32)  : pm_Mt l g 199 2 0 0 [.ref h, .int x1, .int x2] (md A0 g h q v f) (md_Qp (md A0 g h q v f) (fun r => True)) := by
  refine mt_X11_colour rfl (fun J hC => ?_)
  have hv9 := hv
  unfold md_V at hv9
  have rg_x1 := pm_rng x1
  have rg_x2 := pm_rng x2
  refine hC.1 0 0 _ _ rfl _ _ _ _ _ ?_
  refine Exists.intro _ (Exists.intro _ (Exists.intro _ (Exists.intro _ (And.intro (c_X11_isColour (md A0 g h q v f) x1 ) (And.intro rfl (fun r9 A9 h9 => ?_))))))
  rcases h9 with ⟨y1, rfl, rfl, ⟨rfl, by1⟩ | ⟨rfl, by1⟩⟩
  · skip
    have k1 : (1 : Int32).toInt = 1 := rfl
    refine And.intro (fun _ => ?_) (fun c9 => absurd c9 (by decide))
    refine hC.1 1 9 _ _ rfl _ _ _ _ _ ?_
    refine pm_swc 5 rfl (by decide) ?_ ?_
    · intro _
      refine hC.1 7 82 _ _ rfl _ _ _ _ _ ?_
      have km1 : (-1 : Int32).toInt = -1 := rfl
      exact ⟨rfl, fun e9 => absurd e9 (by decide), rfl, (-1 : Int32), rfl, rfl, by first | trivial | omega | (dsimp only; omega)⟩
    · intro i9 hi9 he9
      rcases (show i9 = 0 ∨ i9 = 1 ∨ i9 = 2 ∨ i9 = 3 ∨ i9 = 4 by omega) with rfl | rfl | rfl | rfl | rfl
      · skip
        refine hC.1 2 44 _ _ rfl _ _ _ _ _ ?_
        have k0 : (0 : Int32).toInt = 0 := rfl
        refine Exists.intro _ (And.intro md_o ?_)
        intro m4 em_51
        try have e4 : m4.toInt = ((v 0)).toInt - (1) := by rw [em_51]; exact pm_subc _ _ (1) rfl (by omega) (by omega)
        refine And.intro (Exists.intro _ md_o) (Exists.intro _ (Exists.intro _ (Exists.intro _ (Exists.intro _ (And.intro (c_X11_timesIn D v f hv hf (0 : Int32) m4 x1 (by omega) (by omega)) (And.intro rfl (fun r9 A9 h9 => ?_)))))))
        obtain ⟨y5, rfl, rfl, by5⟩ := h9
        exact ⟨rfl, fun e9 => absurd e9 (by decide), rfl, y5, rfl, rfl, by first | trivial | omega | (dsimp only; omega)⟩
      · skip
        refine hC.1 3 57 _ _ rfl _ _ _ _ _ ?_
        refine Exists.intro _ (And.intro md_o ?_)
        refine Exists.intro _ (Exists.intro _ (And.intro (Or.inl (md_a_weights D)) (And.intro (by omega) ?_)))
        exact ⟨rfl, fun e9 => absurd e9 (by decide), rfl, (f 2 (x1).toInt.toNat), rfl, rfl, by first | trivial | omega | (dsimp only; omega)⟩
      · skip
        refine hC.1 4 64 _ _ rfl _ _ _ _ _ ?_
        refine And.intro (Exists.intro _ md_o) (Exists.intro _ (Exists.intro _ (Exists.intro _ (Exists.intro _ (And.intro (c_X11_first D v f hv hf x1 ) (And.intro rfl (fun r9 A9 h9 => ?_)))))))
        obtain ⟨y6, rfl, rfl, by6⟩ := h9
        exact ⟨rfl, fun e9 => absurd e9 (by decide), rfl, y6, rfl, rfl, by first | trivial | omega | (dsimp only; omega)⟩
      · skip
        refine hC.1 5 70 _ _ rfl _ _ _ _ _ ?_
        refine And.intro (Exists.intro _ md_o) (Exists.intro _ (Exists.intro _ (Exists.intro _ (Exists.intro _ (And.intro (c_X11_last D v f hv hf x1 ) (And.intro rfl (fun r9 A9 h9 => ?_)))))))
        obtain ⟨y7, rfl, rfl, by7⟩ := h9
        exact ⟨rfl, fun e9 => absurd e9 (by decide), rfl, y7, rfl, rfl, by first | trivial | omega | (dsimp only; omega)⟩
      · skip
        refine hC.1 6 76 _ _ rfl _ _ _ _ _ ?_
        refine And.intro (Exists.intro _ md_o) (Exists.intro _ (Exists.intro _ (Exists.intro _ (Exists.intro _ (And.intro (c_X11_widest D v f hv hf x1 ) (And.intro rfl (fun r9 A9 h9 => ?_)))))))
        obtain ⟨y8, rfl, rfl, by8⟩ := h9
        exact ⟨rfl, fun e9 => absurd e9 (by decide), rfl, y8, rfl, rfl, by first | trivial | omega | (dsimp only; omega)⟩
  · skip
    have k0 : (0 : Int32).toInt = 0 := rfl
    refine And.intro (fun c9 => absurd c9 (by decide)) (fun _ => ?_)
    have km1 : (-1 : Int32).toInt = -1 := rfl
    exact ⟨rfl, fun e9 => absurd e9 (by decide), rfl, (-1 : Int32), rfl, rfl, by first | trivial | omega | (dsimp only; omega)⟩

set_option maxRecDepth 100000 in
set_option maxHeartbeats 2000000 in
theorem c_X11_about (D : md_D h q) (v : Nat → Int32) (f : Nat → Nat → Int32) (hv : md_V v) (hf : md_F f) (x1 : Int32)  : pm_Mt l g 205 1 0 0 [.ref h, .int x1] (md A0 g h q v f) (md_Qp (md A0 g h q v f) (fun r => True)) := by
  refine mt_X11_about rfl (fun J hC => ?_)
  have hv9 := hv
  unfold md_V at hv9
  have rg_x1 := pm_rng x1
  refine hC.1 0 0 _ _ rfl _ _ _ _ _ ?_
  refine pm_swc 6 rfl (by decide) ?_ ?_
  · intro _
    refine hC.1 7 80 _ _ rfl _ _ _ _ _ ?_
    have km1 : (-1 : Int32).toInt = -1 := rfl
    exact ⟨rfl, fun e9 => absurd e9 (by decide), rfl, (-1 : Int32), rfl, rfl, by first | trivial | omega | (dsimp only; omega)⟩
  · intro i9 hi9 he9
    rcases (show i9 = 0 ∨ i9 = 1 ∨ i9 = 2 ∨ i9 = 3 ∨ i9 = 4 ∨ i9 = 5 by omega) with rfl | rfl | rfl | rfl | rfl | rfl
    · skip
      refine hC.1 1 40 _ _ rfl _ _ _ _ _ ?_
      refine Exists.intro _ (And.intro md_o ?_)
      exact ⟨rfl, fun e9 => absurd e9 (by decide), rfl, (v 0), rfl, rfl, by first | trivial | omega | (dsimp only; omega)⟩
    · skip
      refine hC.1 2 45 _ _ rfl _ _ _ _ _ ?_
      have k0 : (0 : Int32).toInt = 0 := rfl
      refine Exists.intro _ (And.intro md_o ?_)
      have k1 : (1 : Int32).toInt = 1 := rfl
      intro m3 em_52
      try have e3 : m3.toInt = ((v 0)).toInt - (1) := by rw [em_52]; exact pm_subc _ _ (1) rfl (by omega) (by omega)
      refine And.intro (Exists.intro _ md_o) (Exists.intro _ (Exists.intro _ (Exists.intro _ (Exists.intro _ (And.intro (c_X11_setOf D v f hv hf (0 : Int32) m3 (by omega) (by omega)) (And.intro rfl (fun r9 A9 h9 => ?_)))))))
      obtain ⟨y4, rfl, rfl, by4⟩ := h9
      refine Exists.intro _ (Exists.intro _ (Exists.intro _ (Exists.intro _ (And.intro (c_X11_bits (md A0 g h q v f) y4 ) (And.intro rfl (fun r9 A9 h9 => ?_))))))
      obtain ⟨y5, rfl, rfl, by5⟩ := h9
      exact ⟨rfl, fun e9 => absurd e9 (by decide), rfl, y5, rfl, rfl, by first | trivial | omega | (dsimp only; omega)⟩
    · skip
      refine hC.1 3 60 _ _ rfl _ _ _ _ _ ?_
      refine Exists.intro _ (And.intro md_o ?_)
      exact ⟨rfl, fun e9 => absurd e9 (by decide), rfl, (v 3), rfl, rfl, by first | trivial | omega | (dsimp only; omega)⟩
    · skip
      refine hC.1 4 65 _ _ rfl _ _ _ _ _ ?_
      refine Exists.intro _ (And.intro md_o ?_)
      exact ⟨rfl, fun e9 => absurd e9 (by decide), rfl, (v 4), rfl, rfl, by first | trivial | omega | (dsimp only; omega)⟩
    · skip
      refine hC.1 5 70 _ _ rfl _ _ _ _ _ ?_
      refine Exists.intro _ (And.intro md_o ?_)
      exact ⟨rfl, fun e9 => absurd e9 (by decide), rfl, (v 5), rfl, rfl, by first | trivial | omega | (dsimp only; omega)⟩
    · skip
      refine hC.1 6 75 _ _ rfl _ _ _ _ _ ?_
      refine Exists.intro _ (And.intro md_o ?_)
      exact ⟨rfl, fun e9 => absurd e9 (by decide), rfl, (v 6), rfl, rfl, by first | trivial | omega | (dsimp only; omega)⟩

set_option maxRecDepth 100000 in
set_option maxHeartbeats 2000000 in
theorem c_X11_hasRoom (D : md_D h q) (v : Nat → Int32) (f : Nat → Nat → Int32) (hv : md_V v) (hf : md_F f) (x1 : Int32) (p0 : -1000000 ≤ x1.toInt ∧ x1.toInt ≤ 1000000) : pm_Mt l g 184 0 0 0 [.ref h, .int x1] (md A0 g h q v f) (md_Qp (md A0 g h q v f) (fun r => (r = 1 ∧ ((v 0).toInt + x1.toInt ≤ 160 ∧ (v 3).toInt + x1.toInt ≤ 10000)) ∨ (r = 0 ∧ (¬ ((v 0).toInt + x1.toInt ≤ 160 ∧ (v 3).toInt + x1.toInt ≤ 10000))))) := by
  refine mt_X11_hasRoom rfl (fun J hC => ?_)
  have hv9 := hv
  unfold md_V at hv9
  have rg_x1 := pm_rng x1
  refine hC.1 0 0 _ _ rfl _ _ _ _ _ ?_
  refine Exists.intro _ (And.intro md_o ?_)
  intro m1 em_5
  try have e1 : m1.toInt = ((v 0)).toInt + (x1).toInt := by rw [em_5]; exact pm_add _ _ (by omega) (by omega)
  have k160 : (160 : Int32).toInt = 160 := rfl
  refine And.intro (fun c2 => ?_) (fun c2 => ?_)
  · skip
    refine hC.1 1 28 _ _ rfl _ _ _ _ _ ?_
    have k0 : (0 : Int32).toInt = 0 := rfl
    refine hC.1 2 29 _ _ rfl _ _ _ _ _ ?_
    exact ⟨rfl, fun _ => (by decide), rfl, (0 : Int32), rfl, rfl, Or.inr ⟨rfl, by first | trivial | omega | (dsimp only; omega)⟩⟩
  · skip
    refine Exists.intro _ (And.intro md_o ?_)
    intro m3 em_17
    try have e3 : m3.toInt = ((v 3)).toInt + (x1).toInt := by rw [em_17]; exact pm_add _ _ (by omega) (by omega)
    have k10000 : (10000 : Int32).toInt = 10000 := rfl
    refine And.intro (fun c4 => ?_) (fun c4 => ?_)
    · skip
      refine hC.1 1 28 _ _ rfl _ _ _ _ _ ?_
      have k0 : (0 : Int32).toInt = 0 := rfl
      refine hC.1 2 29 _ _ rfl _ _ _ _ _ ?_
      exact ⟨rfl, fun _ => (by decide), rfl, (0 : Int32), rfl, rfl, Or.inr ⟨rfl, by first | trivial | omega | (dsimp only; omega)⟩⟩
    · skip
      have k1 : (1 : Int32).toInt = 1 := rfl
      refine hC.1 2 29 _ _ rfl _ _ _ _ _ ?_
      exact ⟨rfl, fun _ => (by decide), rfl, (1 : Int32), rfl, rfl, Or.inl ⟨rfl, by first | trivial | omega | (dsimp only; omega)⟩⟩

set_option maxRecDepth 100000 in
set_option maxHeartbeats 2000000 in
theorem c_X11_reportKey (D : md_D h q) (v : Nat → Int32) (f : Nat → Nat → Int32) (hv : md_V v) (hf : md_F f) (x1 : Int32) (p0 : 0 ≤ x1.toInt ∧ x1.toInt < 160) : pm_Mt l g 219 1 0 0 [.ref h, .int x1] (md A0 g h q v f) (md_Qp (md A0 g h q v f) (fun r => True)) := by
  refine mt_X11_reportKey rfl (fun J hC => ?_)
  have hv9 := hv
  unfold md_V at hv9
  have rg_x1 := pm_rng x1
  refine hC.1 0 0 _ _ rfl _ _ _ _ _ ?_
  refine And.intro (Exists.intro _ md_o) (Exists.intro _ (Exists.intro _ (Exists.intro _ (Exists.intro _ (And.intro (c_X11_ahead D v f hv hf x1 (by omega)) (And.intro rfl (fun r9 A9 h9 => ?_)))))))
  obtain ⟨y1, rfl, rfl, by1⟩ := h9
  refine And.intro (fun c2 => ?_) (fun c2 => ?_)
  · skip
    refine hC.1 1 16 _ _ rfl _ _ _ _ _ ?_
    refine And.intro (Exists.intro _ md_o) (Exists.intro _ (Exists.intro _ (Exists.intro _ (Exists.intro _ (And.intro (c_X11_ahead D v f hv hf x1 (by omega)) (And.intro rfl (fun r9 A9 h9 => ?_)))))))
    obtain ⟨y3, rfl, rfl, by3⟩ := h9
    refine hC.1 2 21 _ _ rfl _ _ _ _ _ ?_
    exact ⟨rfl, fun e9 => absurd e9 (by decide), rfl, y3, rfl, rfl, by first | trivial | omega | (dsimp only; omega)⟩
  · skip
    have k160 : (160 : Int32).toInt = 160 := rfl
    intro m4 em_12
    try have e4 : m4.toInt = (x1).toInt - (160) := by rw [em_12]; exact pm_subc _ _ (160) rfl (by omega) (by omega)
    refine hC.1 2 21 _ _ rfl _ _ _ _ _ ?_
    exact ⟨rfl, fun e9 => absurd e9 (by decide), rfl, m4, rfl, rfl, by first | trivial | omega | (dsimp only; omega)⟩

set_option maxRecDepth 100000 in
set_option maxHeartbeats 2000000 in
theorem c_X11_reported (D : md_D h q) (v : Nat → Int32) (f : Nat → Nat → Int32) (hv : md_V v) (hf : md_F f) (x1 : Int32) (x2 : Int32) (x3 : Int32) (p0 : 0 ≤ x1.toInt ∧ x1.toInt ≤ x2.toInt ∧ x2.toInt < (v 0).toInt) (p1 : 0 ≤ x3.toInt ∧ x3.toInt ≤ 24) : pm_Mt l g 218 2 0 0 [.ref h, .int x1, .int x2, .int x3] (md A0 g h q v f) (md_Qp (md A0 g h q v f) (fun r => -1 ≤ r.toInt ∧ r.toInt < (v 0).toInt)) := by
  refine mt_X11_reported rfl (fun J hC => ?_)
  have hv9 := hv
  unfold md_V at hv9
  have rg_x1 := pm_rng x1
  have rg_x2 := pm_rng x2
  have rg_x3 := pm_rng x3
  refine hC.1 0 0 _ _ rfl _ _ _ _ _ ?_
  have km268435456 : (-268435456 : Int32).toInt = -268435456 := rfl
  have km1 : (-1 : Int32).toInt = -1 := rfl
  have k0 : (0 : Int32).toInt = 0 := rfl
  have lp1 : ∀ (n : Nat) (z4_10 : Int32) (z5_10 : Int32) (z6_10 : Int32), 0 ≤ z6_10.toInt ∧ z6_10.toInt ≤ 26 → -1 ≤ z5_10.toInt ∧ z5_10.toInt < (v 0).toInt → 100 - z6_10.toInt < (n : Int) → J 10 [some (.ref h), some (.int x1), some (.int x2), some (.int x3), some (.int z4_10), some (.int z5_10), some (.int z6_10), none, none] [] (md A0 g h q v f) 0 0 := by
    intro n
    induction n with
    | zero =>
      intro z4_10 z5_10 z6_10 j0_10 j1_10 j2_10
      omega
    | succ n ih2 =>
      intro z4_10 z5_10 z6_10 j0_10 j1_10 j2_10
      refine hC.1 1 10 _ _ rfl _ _ _ _ _ ?_
      refine And.intro (fun c3 => ?_) (fun c3 => ?_)
      · skip
        refine hC.1 7 104 _ _ rfl _ _ _ _ _ ?_
        exact ⟨rfl, fun e9 => absurd e9 (by decide), rfl, z5_10, rfl, rfl, by first | trivial | omega | (dsimp only; omega)⟩
      · skip
        have lp4 : ∀ (n : Nat) (z7_22 : Int32) (z8_22 : Int32), x1.toInt ≤ z8_22.toInt ∧ z8_22.toInt ≤ x2.toInt + 1 → -1 ≤ z7_22.toInt ∧ z7_22.toInt ≤ x2.toInt → 200 - z8_22.toInt < (n : Int) → J 22 [some (.ref h), some (.int x1), some (.int x2), some (.int x3), some (.int z4_10), some (.int z5_10), some (.int z6_10), some (.int z7_22), some (.int z8_22)] [] (md A0 g h q v f) 0 0 := by
          intro n
          induction n with
          | zero =>
            intro z7_22 z8_22 j0_22 j1_22 j2_22
            omega
          | succ n ih5 =>
            intro z7_22 z8_22 j0_22 j1_22 j2_22
            refine hC.1 2 22 _ _ rfl _ _ _ _ _ ?_
            refine And.intro (fun c6 => ?_) (fun c6 => ?_)
            · skip
              refine hC.1 5 79 _ _ rfl _ _ _ _ _ ?_
              refine And.intro (fun c7 => ?_) (fun c7 => ?_)
              · skip
                refine hC.1 6 86 _ _ rfl _ _ _ _ _ ?_
                refine And.intro (Exists.intro _ md_o) (Exists.intro _ (Exists.intro _ (Exists.intro _ (Exists.intro _ (And.intro (c_X11_reportKey D v f hv hf z7_22 (by omega)) (And.intro rfl (fun r9 A9 h9 => ?_)))))))
                obtain ⟨y8, rfl, rfl, by8⟩ := h9
                have k1 : (1 : Int32).toInt = 1 := rfl
                intro m9 em_98
                try have e9 : m9.toInt = (z6_10).toInt + (1) := by rw [em_98]; exact pm_addc _ _ (1) rfl (by omega) (by omega)
                exact hC.2 [false, false, false, false, false, false, false, true, true] _ _ _ _ _ _ (ih2 y8 z7_22 m9 (by omega) (by omega) (by omega))
              · skip
                exact ⟨rfl, fun e9 => absurd e9 (by decide), rfl, (-1 : Int32), rfl, rfl, by first | trivial | omega | (dsimp only; omega)⟩
            · skip
              refine And.intro (Exists.intro _ md_o) (Exists.intro _ (Exists.intro _ (Exists.intro _ (Exists.intro _ (And.intro (c_X11_ahead D v f hv hf z8_22 (by omega)) (And.intro rfl (fun r9 A9 h9 => ?_)))))))
              obtain ⟨y10, rfl, rfl, by10⟩ := h9
              refine And.intro (fun c11 => ?_) (fun c11 => ?_)
              · skip
                refine hC.1 4 73 _ _ rfl _ _ _ _ _ ?_
                have k1 : (1 : Int32).toInt = 1 := rfl
                intro m12 em_73
                try have e12 : m12.toInt = (z8_22).toInt + (1) := by rw [em_73]; exact pm_addc _ _ (1) rfl (by omega) (by omega)
                exact ih5 z7_22 m12 (by omega) (by omega) (by omega)
              · skip
                refine And.intro (Exists.intro _ md_o) (Exists.intro _ (Exists.intro _ (Exists.intro _ (Exists.intro _ (And.intro (c_X11_reportKey D v f hv hf z8_22 (by omega)) (And.intro rfl (fun r9 A9 h9 => ?_)))))))
                obtain ⟨y13, rfl, rfl, by13⟩ := h9
                refine And.intro (fun c14 => ?_) (fun c14 => ?_)
                · skip
                  refine hC.1 4 73 _ _ rfl _ _ _ _ _ ?_
                  have k1 : (1 : Int32).toInt = 1 := rfl
                  intro m15 em_73
                  try have e15 : m15.toInt = (z8_22).toInt + (1) := by rw [em_73]; exact pm_addc _ _ (1) rfl (by omega) (by omega)
                  exact ih5 z7_22 m15 (by omega) (by omega) (by omega)
                · skip
                  refine And.intro (fun c16 => ?_) (fun c16 => ?_)
                  · skip
                    refine hC.1 3 69 _ _ rfl _ _ _ _ _ ?_
                    refine hC.1 4 73 _ _ rfl _ _ _ _ _ ?_
                    have k1 : (1 : Int32).toInt = 1 := rfl
                    intro m17 em_73
                    try have e17 : m17.toInt = (z8_22).toInt + (1) := by rw [em_73]; exact pm_addc _ _ (1) rfl (by omega) (by omega)
                    exact ih5 z8_22 m17 (by omega) (by omega) (by omega)
                  · skip
                    refine And.intro (Exists.intro _ md_o) (Exists.intro _ (Exists.intro _ (Exists.intro _ (Exists.intro _ (And.intro (c_X11_reportKey D v f hv hf z8_22 (by omega)) (And.intro rfl (fun r9 A9 h9 => ?_)))))))
                    obtain ⟨y18, rfl, rfl, by18⟩ := h9
                    refine And.intro (Exists.intro _ md_o) (Exists.intro _ (Exists.intro _ (Exists.intro _ (Exists.intro _ (And.intro (c_X11_reportKey D v f hv hf z7_22 (by omega)) (And.intro rfl (fun r9 A9 h9 => ?_)))))))
                    obtain ⟨y19, rfl, rfl, by19⟩ := h9
                    refine And.intro (fun c20 => ?_) (fun c20 => ?_)
                    · skip
                      refine hC.1 4 73 _ _ rfl _ _ _ _ _ ?_
                      have k1 : (1 : Int32).toInt = 1 := rfl
                      intro m21 em_73
                      try have e21 : m21.toInt = (z8_22).toInt + (1) := by rw [em_73]; exact pm_addc _ _ (1) rfl (by omega) (by omega)
                      exact ih5 z7_22 m21 (by omega) (by omega) (by omega)
                    · skip
                      refine hC.1 3 69 _ _ rfl _ _ _ _ _ ?_
                      refine hC.1 4 73 _ _ rfl _ _ _ _ _ ?_
                      have k1 : (1 : Int32).toInt = 1 := rfl
                      intro m22 em_73
                      try have e22 : m22.toInt = (z8_22).toInt + (1) := by rw [em_73]; exact pm_addc _ _ (1) rfl (by omega) (by omega)
                      exact ih5 z8_22 m22 (by omega) (by omega) (by omega)
        exact lp4 (200 - x1.toInt).toNat.succ (-1 : Int32) x1 (by omega) (by omega) (by omega)
  exact lp1 (100 - (0 : Int32).toInt).toNat.succ (-268435456 : Int32) (-1 : Int32) (0 : Int32) (by omega) (by omega) (by omega)

set_option maxRecDepth 100000 in
set_option maxHeartbeats 2000000 in
theorem c_X11_report (D : md_D h q) (v : Nat → Int32) (f : Nat → Nat → Int32) (hv : md_V v) (hf : md_F f) (x1 : Int32) (x2 : Int32) (x3 : Int32) (x4 : Int32)  : pm_Mt l g 217 3 0 0 [.ref h, .int x1, .int x2, .int x3, .int x4] (md A0 g h q v f) (md_Qp (md A0 g h q v f) (fun r => True)) := by
  refine mt_X11_report rfl (fun J hC => ?_)
  have hv9 := hv
  unfold md_V at hv9
  have rg_x1 := pm_rng x1
  have rg_x2 := pm_rng x2
  have rg_x3 := pm_rng x3
  have rg_x4 := pm_rng x4
  refine hC.1 0 0 _ _ rfl _ _ _ _ _ ?_
  refine And.intro (Exists.intro _ md_o) (Exists.intro _ (Exists.intro _ (Exists.intro _ (Exists.intro _ (And.intro (c_X11_isSpan D v f hv hf x1 x2 ) (And.intro rfl (fun r9 A9 h9 => ?_)))))))
  rcases h9 with ⟨y1, rfl, rfl, ⟨rfl, by1⟩ | ⟨rfl, by1⟩⟩
  · skip
    have k1 : (1 : Int32).toInt = 1 := rfl
    refine And.intro (fun c9 => absurd c9 (by decide)) (fun _ => ?_)
    have k0 : (0 : Int32).toInt = 0 := rfl
    have k24 : (24 : Int32).toInt = 24 := rfl
    refine Exists.intro _ (Exists.intro _ (Exists.intro _ (Exists.intro _ (And.intro (c_X11_isIn (md A0 g h q v f) x3 (0 : Int32) (24 : Int32) ) (And.intro rfl (fun r9 A9 h9 => ?_))))))
    rcases h9 with ⟨y2, rfl, rfl, ⟨rfl, by2⟩ | ⟨rfl, by2⟩⟩
    · skip
      refine And.intro (fun c9 => absurd c9 (by decide)) (fun _ => ?_)
      have k2 : (2 : Int32).toInt = 2 := rfl
      refine Exists.intro _ (Exists.intro _ (Exists.intro _ (Exists.intro _ (And.intro (c_X11_isIn (md A0 g h q v f) x4 (0 : Int32) (2 : Int32) ) (And.intro rfl (fun r9 A9 h9 => ?_))))))
      rcases h9 with ⟨y3, rfl, rfl, ⟨rfl, by3⟩ | ⟨rfl, by3⟩⟩
      · skip
        refine And.intro (fun _ => ?_) (fun c9 => absurd c9 (by decide))
        refine hC.1 2 31 _ _ rfl _ _ _ _ _ ?_
        refine And.intro (Exists.intro _ md_o) (Exists.intro _ (Exists.intro _ (Exists.intro _ (Exists.intro _ (And.intro (c_X11_reported D v f hv hf x1 x2 x3 (by omega) (by omega)) (And.intro rfl (fun r9 A9 h9 => ?_)))))))
        obtain ⟨y4, rfl, rfl, by4⟩ := h9
        refine And.intro (fun c5 => ?_) (fun c5 => ?_)
        · skip
          refine hC.1 3 47 _ _ rfl _ _ _ _ _ ?_
          refine And.intro (fun c6 => ?_) (fun c6 => ?_)
          · skip
            have dc6 := pm_neI c6
            refine hC.1 4 57 _ _ rfl _ _ _ _ _ ?_
            refine And.intro (fun c7 => ?_) (fun c7 => ?_)
            · skip
              have dc7 := pm_neI c7
              refine hC.1 5 73 _ _ rfl _ _ _ _ _ ?_
              refine And.intro (Exists.intro _ md_o) (Exists.intro _ (Exists.intro _ (Exists.intro _ (Exists.intro _ (And.intro (c_X11_bondOf D v f hv hf y4 (by omega)) (And.intro rfl (fun r9 A9 h9 => ?_)))))))
              obtain ⟨y8, rfl, rfl, by8⟩ := h9
              refine hC.1 6 79 _ _ rfl _ _ _ _ _ ?_
              exact ⟨rfl, fun e9 => absurd e9 (by decide), rfl, y8, rfl, rfl, by first | trivial | omega | (dsimp only; omega)⟩
            · skip
              have dc7 : (x4).toInt = ((1 : Int32) : Int32).toInt := congrArg Int32.toInt c7
              refine Exists.intro _ (And.intro md_o ?_)
              refine Exists.intro _ (Exists.intro _ (And.intro (Or.inl (md_a_colours D)) (And.intro (by omega) ?_)))
              have w9 : (0 : Int) ≤ (f 0 (y4).toInt.toNat).toInt ∧ (f 0 (y4).toInt.toNat).toInt ≤ (23 : Int) := hf 0 _
              refine hC.1 6 79 _ _ rfl _ _ _ _ _ ?_
              exact ⟨rfl, fun e9 => absurd e9 (by decide), rfl, (f 0 (y4).toInt.toNat), rfl, rfl, by first | trivial | omega | (dsimp only; omega)⟩
          · skip
            have dc6 : (x4).toInt = (0 : Int32).toInt := congrArg Int32.toInt c6
            refine hC.1 6 79 _ _ rfl _ _ _ _ _ ?_
            exact ⟨rfl, fun e9 => absurd e9 (by decide), rfl, y4, rfl, rfl, by first | trivial | omega | (dsimp only; omega)⟩
        · skip
          have km1 : (-1 : Int32).toInt = -1 := rfl
          exact ⟨rfl, fun e9 => absurd e9 (by decide), rfl, (-1 : Int32), rfl, rfl, by first | trivial | omega | (dsimp only; omega)⟩
      · skip
        refine And.intro (fun c9 => absurd c9 (by decide)) (fun _ => ?_)
        refine hC.1 1 29 _ _ rfl _ _ _ _ _ ?_
        have km1 : (-1 : Int32).toInt = -1 := rfl
        exact ⟨rfl, fun e9 => absurd e9 (by decide), rfl, (-1 : Int32), rfl, rfl, by first | trivial | omega | (dsimp only; omega)⟩
    · skip
      refine And.intro (fun _ => ?_) (fun c9 => absurd c9 (by decide))
      refine hC.1 1 29 _ _ rfl _ _ _ _ _ ?_
      have km1 : (-1 : Int32).toInt = -1 := rfl
      exact ⟨rfl, fun e9 => absurd e9 (by decide), rfl, (-1 : Int32), rfl, rfl, by first | trivial | omega | (dsimp only; omega)⟩
  · skip
    have k0 : (0 : Int32).toInt = 0 := rfl
    refine And.intro (fun _ => ?_) (fun c9 => absurd c9 (by decide))
    refine hC.1 1 29 _ _ rfl _ _ _ _ _ ?_
    have km1 : (-1 : Int32).toInt = -1 := rfl
    exact ⟨rfl, fun e9 => absurd e9 (by decide), rfl, (-1 : Int32), rfl, rfl, by first | trivial | omega | (dsimp only; omega)⟩

set_option maxRecDepth 100000 in
set_option maxHeartbeats 2000000 in
theorem c_X11_absent (D : md_D h q) (v : Nat → Int32) (f : Nat → Nat → Int32) (hv : md_V v) (hf : md_F f) (x1 : Int32) (x2 : Int32) (x3 : Int32)  : pm_Mt l g 223 1 0 0 [.ref h, .int x1, .int x2, .int x3] (md A0 g h q v f) (md_Qp (md A0 g h q v f) (fun r => True)) := by
  refine mt_X11_absent rfl (fun J hC => ?_)
  have hv9 := hv
  unfold md_V at hv9
  have rg_x1 := pm_rng x1
  have rg_x2 := pm_rng x2
  have rg_x3 := pm_rng x3
  refine hC.1 0 0 _ _ rfl _ _ _ _ _ ?_
  refine And.intro (Exists.intro _ md_o) (Exists.intro _ (Exists.intro _ (Exists.intro _ (Exists.intro _ (And.intro (c_X11_isSpan D v f hv hf x1 x2 ) (And.intro rfl (fun r9 A9 h9 => ?_)))))))
  rcases h9 with ⟨y1, rfl, rfl, ⟨rfl, by1⟩ | ⟨rfl, by1⟩⟩
  · skip
    have k1 : (1 : Int32).toInt = 1 := rfl
    refine And.intro (fun c9 => absurd c9 (by decide)) (fun _ => ?_)
    refine And.intro (fun c2 => ?_) (fun c2 => ?_)
    · skip
      refine hC.1 2 15 _ _ rfl _ _ _ _ _ ?_
      refine And.intro (Exists.intro _ md_o) (Exists.intro _ (Exists.intro _ (Exists.intro _ (Exists.intro _ (And.intro (c_X11_setOf D v f hv hf x1 x2 (by omega) (by omega)) (And.intro rfl (fun r9 A9 h9 => ?_)))))))
      obtain ⟨y3, rfl, rfl, by3⟩ := h9
      have k0 : (0 : Int32).toInt = 0 := rfl
      have lp4 : ∀ (n : Nat) (z5_29 : Int32) (z6_29 : Int32), 0 ≤ z6_29.toInt ∧ z6_29.toInt ≤ 24 → 200 - z6_29.toInt < (n : Int) → J 29 [some (.ref h), some (.int x1), some (.int x2), some (.int x3), some (.int y3), some (.int z5_29), some (.int z6_29)] [] (md A0 g h q v f) 0 0 := by
        intro n
        induction n with
        | zero =>
          intro z5_29 z6_29 j0_29 j1_29
          omega
        | succ n ih5 =>
          intro z5_29 z6_29 j0_29 j1_29
          refine hC.1 3 29 _ _ rfl _ _ _ _ _ ?_
          have k24 : (24 : Int32).toInt = 24 := rfl
          refine And.intro (fun c6 => ?_) (fun c6 => ?_)
          · skip
            refine hC.1 7 67 _ _ rfl _ _ _ _ _ ?_
            have km1 : (-1 : Int32).toInt = -1 := rfl
            exact ⟨rfl, fun e9 => absurd e9 (by decide), rfl, (-1 : Int32), rfl, rfl, by first | trivial | omega | (dsimp only; omega)⟩
          · skip
            refine And.intro (fun c7 => ?_) (fun c7 => ?_)
            · skip
              have dc7 := pm_neI c7
              refine hC.1 4 50 _ _ rfl _ _ _ _ _ ?_
              refine And.intro (fun c8 => ?_) (fun c8 => ?_)
              · skip
                have dc8 := pm_neI c8
                refine hC.1 5 58 _ _ rfl _ _ _ _ _ ?_
                have km1 : (-1 : Int32).toInt = -1 := rfl
                intro m9 em_58
                try have e9 : m9.toInt = (z5_29).toInt + (-1) := by rw [em_58]; exact pm_addc _ _ (-1) rfl (by omega) (by omega)
                refine hC.1 6 61 _ _ rfl _ _ _ _ _ ?_
                intro m10 em_61
                try have e10 : m10.toInt = (z6_29).toInt + (1) := by rw [em_61]; exact pm_addc _ _ (1) rfl (by omega) (by omega)
                exact ih5 m9 m10 (by omega) (by omega)
              · skip
                have dc8 : (z5_29).toInt = (0 : Int32).toInt := congrArg Int32.toInt c8
                exact ⟨rfl, fun e9 => absurd e9 (by decide), rfl, z6_29, rfl, rfl, by first | trivial | omega | (dsimp only; omega)⟩
            · skip
              have dc7 : (((y3 >>> (z6_29 &&& 31)) &&& (1 : Int32))).toInt = ((1 : Int32) : Int32).toInt := congrArg Int32.toInt c7
              refine hC.1 6 61 _ _ rfl _ _ _ _ _ ?_
              intro m11 em_61
              try have e11 : m11.toInt = (z6_29).toInt + (1) := by rw [em_61]; exact pm_addc _ _ (1) rfl (by omega) (by omega)
              exact ih5 z5_29 m11 (by omega) (by omega)
      exact lp4 (200 - (0 : Int32).toInt).toNat.succ x3 (0 : Int32) (by omega) (by omega)
    · skip
      refine hC.1 1 13 _ _ rfl _ _ _ _ _ ?_
      have km1 : (-1 : Int32).toInt = -1 := rfl
      exact ⟨rfl, fun e9 => absurd e9 (by decide), rfl, (-1 : Int32), rfl, rfl, by first | trivial | omega | (dsimp only; omega)⟩
  · skip
    have k0 : (0 : Int32).toInt = 0 := rfl
    refine And.intro (fun _ => ?_) (fun c9 => absurd c9 (by decide))
    refine hC.1 1 13 _ _ rfl _ _ _ _ _ ?_
    have km1 : (-1 : Int32).toInt = -1 := rfl
    exact ⟨rfl, fun e9 => absurd e9 (by decide), rfl, (-1 : Int32), rfl, rfl, by first | trivial | omega | (dsimp only; omega)⟩

end
end
section
section
variable {l : Launch} {g : pm_G} {A0 : pm_H} {h : Nat} {q : Nat → Nat}
set_option maxRecDepth 100000 in
set_option maxHeartbeats 2000000 in
theorem c_X11_both (D : md_D h q) (v : Nat → Int32) (f : Nat → Nat → Int32) (hv : md_V v) (hf : md_F f) (x1 : Int32) (x2 : Int32) (x3 : Int32) (x4 : Int32) (x5 : Int32)  : pm_Mt l g 224 1 0 0 [.ref h, .int x1, .int x2, .int x3, .int x4, .int x5] (md A0 g h q v f) (md_Qp (md A0 g h q v f) (fun r => True)) := by
  refine mt_X11_both rfl (fun J hC => ?_)
  have hv9 := hv
  unfold md_V at hv9
  have rg_x1 := pm_rng x1
  have rg_x2 := pm_rng x2
  have rg_x3 := pm_rng x3
  have rg_x4 := pm_rng x4
  have rg_x5 := pm_rng x5
  refine hC.1 0 0 _ _ rfl _ _ _ _ _ ?_
  refine And.intro (Exists.intro _ md_o) (Exists.intro _ (Exists.intro _ (Exists.intro _ (Exists.intro _ (And.intro (c_X11_isSpan D v f hv hf x1 x2 ) (And.intro rfl (fun r9 A9 h9 => ?_)))))))
  rcases h9 with ⟨y1, rfl, rfl, ⟨rfl, by1⟩ | ⟨rfl, by1⟩⟩
  · skip
    have k1 : (1 : Int32).toInt = 1 := rfl
    refine And.intro (fun c9 => absurd c9 (by decide)) (fun _ => ?_)
    refine And.intro (Exists.intro _ md_o) (Exists.intro _ (Exists.intro _ (Exists.intro _ (Exists.intro _ (And.intro (c_X11_isSpan D v f hv hf x3 x4 ) (And.intro rfl (fun r9 A9 h9 => ?_)))))))
    rcases h9 with ⟨y2, rfl, rfl, ⟨rfl, by2⟩ | ⟨rfl, by2⟩⟩
    · skip
      refine And.intro (fun _ => ?_) (fun c9 => absurd c9 (by decide))
      refine hC.1 2 21 _ _ rfl _ _ _ _ _ ?_
      refine And.intro (Exists.intro _ md_o) (Exists.intro _ (Exists.intro _ (Exists.intro _ (Exists.intro _ (And.intro (c_X11_setOf D v f hv hf x1 x2 (by omega) (by omega)) (And.intro rfl (fun r9 A9 h9 => ?_)))))))
      obtain ⟨y3, rfl, rfl, by3⟩ := h9
      refine And.intro (Exists.intro _ md_o) (Exists.intro _ (Exists.intro _ (Exists.intro _ (Exists.intro _ (And.intro (c_X11_setOf D v f hv hf x3 x4 (by omega) (by omega)) (And.intro rfl (fun r9 A9 h9 => ?_)))))))
      obtain ⟨y4, rfl, rfl, by4⟩ := h9
      refine And.intro (fun c5 => ?_) (fun c5 => ?_)
      · skip
        have dc5 := pm_neI c5
        have k0 : (0 : Int32).toInt = 0 := rfl
        refine hC.1 3 54 _ _ rfl _ _ _ _ _ ?_
        refine And.intro (fun c6 => ?_) (fun c6 => ?_)
        · skip
          have dc6 := pm_neI c6
          refine hC.1 4 73 _ _ rfl _ _ _ _ _ ?_
          have k2 : (2 : Int32).toInt = 2 := rfl
          refine And.intro (fun c7 => ?_) (fun c7 => ?_)
          · skip
            have dc7 := pm_neI c7
            refine hC.1 5 90 _ _ rfl _ _ _ _ _ ?_
            have km1 : (-1 : Int32).toInt = -1 := rfl
            refine hC.1 6 91 _ _ rfl _ _ _ _ _ ?_
            exact ⟨rfl, fun e9 => absurd e9 (by decide), rfl, (-1 : Int32), rfl, rfl, by first | trivial | omega | (dsimp only; omega)⟩
          · skip
            have dc7 : (x5).toInt = ((2 : Int32) : Int32).toInt := congrArg Int32.toInt c7
            refine Exists.intro _ (Exists.intro _ (Exists.intro _ (Exists.intro _ (And.intro (c_X11_bits (md A0 g h q v f) (y3 ||| y4) ) (And.intro rfl (fun r9 A9 h9 => ?_))))))
            obtain ⟨y8, rfl, rfl, by8⟩ := h9
            refine hC.1 6 91 _ _ rfl _ _ _ _ _ ?_
            exact ⟨rfl, fun e9 => absurd e9 (by decide), rfl, y8, rfl, rfl, by first | trivial | omega | (dsimp only; omega)⟩
        · skip
          have dc6 : (x5).toInt = ((1 : Int32) : Int32).toInt := congrArg Int32.toInt c6
          have km1 : (-1 : Int32).toInt = -1 := rfl
          refine Exists.intro _ (Exists.intro _ (Exists.intro _ (Exists.intro _ (And.intro (c_X11_bits (md A0 g h q v f) (y3 &&& (y4 ^^^ (-1 : Int32))) ) (And.intro rfl (fun r9 A9 h9 => ?_))))))
          obtain ⟨y9, rfl, rfl, by9⟩ := h9
          refine hC.1 6 91 _ _ rfl _ _ _ _ _ ?_
          exact ⟨rfl, fun e9 => absurd e9 (by decide), rfl, y9, rfl, rfl, by first | trivial | omega | (dsimp only; omega)⟩
      · skip
        have dc5 : (x5).toInt = (0 : Int32).toInt := congrArg Int32.toInt c5
        have k0 : (0 : Int32).toInt = 0 := rfl
        refine Exists.intro _ (Exists.intro _ (Exists.intro _ (Exists.intro _ (And.intro (c_X11_bits (md A0 g h q v f) (y3 &&& y4) ) (And.intro rfl (fun r9 A9 h9 => ?_))))))
        obtain ⟨y10, rfl, rfl, by10⟩ := h9
        refine hC.1 6 91 _ _ rfl _ _ _ _ _ ?_
        exact ⟨rfl, fun e9 => absurd e9 (by decide), rfl, y10, rfl, rfl, by first | trivial | omega | (dsimp only; omega)⟩
    · skip
      have k0 : (0 : Int32).toInt = 0 := rfl
      refine And.intro (fun c9 => absurd c9 (by decide)) (fun _ => ?_)
      refine hC.1 1 19 _ _ rfl _ _ _ _ _ ?_
      have km1 : (-1 : Int32).toInt = -1 := rfl
      exact ⟨rfl, fun e9 => absurd e9 (by decide), rfl, (-1 : Int32), rfl, rfl, by first | trivial | omega | (dsimp only; omega)⟩
  · skip
    have k0 : (0 : Int32).toInt = 0 := rfl
    refine And.intro (fun _ => ?_) (fun c9 => absurd c9 (by decide))
    refine hC.1 1 19 _ _ rfl _ _ _ _ _ ?_
    have km1 : (-1 : Int32).toInt = -1 := rfl
    exact ⟨rfl, fun e9 => absurd e9 (by decide), rfl, (-1 : Int32), rfl, rfl, by first | trivial | omega | (dsimp only; omega)⟩

set_option maxRecDepth 100000 in
set_option maxHeartbeats 2000000 in
theorem c_X11_close (D : md_D h q) (v : Nat → Int32) (f : Nat → Nat → Int32) (hv : md_V v) (hf : md_F f) (x1 : Int32) (x2 : Int32) (x3 : Int32)  : pm_Mt l g 225 1 0 0 [.ref h, .int x1, .int x2, .int x3] (md A0 g h q v f) (md_Qp (md A0 g h q v f) (fun r => True)) := by
  refine mt_X11_close rfl (fun J hC => ?_)
  have hv9 := hv
  unfold md_V at hv9
  have rg_x1 := pm_rng x1
  have rg_x2 := pm_rng x2
  have rg_x3 := pm_rng x3
  refine hC.1 0 0 _ _ rfl _ _ _ _ _ ?_
  refine And.intro (Exists.intro _ md_o) (Exists.intro _ (Exists.intro _ (Exists.intro _ (Exists.intro _ (And.intro (c_X11_isSpan D v f hv hf x1 x2 ) (And.intro rfl (fun r9 A9 h9 => ?_)))))))
  rcases h9 with ⟨y1, rfl, rfl, ⟨rfl, by1⟩ | ⟨rfl, by1⟩⟩
  · skip
    have k1 : (1 : Int32).toInt = 1 := rfl
    refine And.intro (fun c9 => absurd c9 (by decide)) (fun _ => ?_)
    have k0 : (0 : Int32).toInt = 0 := rfl
    refine Exists.intro _ (Exists.intro _ (Exists.intro _ (Exists.intro _ (And.intro (c_X11_isIn (md A0 g h q v f) x3 (0 : Int32) (1 : Int32) ) (And.intro rfl (fun r9 A9 h9 => ?_))))))
    rcases h9 with ⟨y2, rfl, rfl, ⟨rfl, by2⟩ | ⟨rfl, by2⟩⟩
    · skip
      refine And.intro (fun _ => ?_) (fun c9 => absurd c9 (by decide))
      refine hC.1 2 20 _ _ rfl _ _ _ _ _ ?_
      have km1 : (-1 : Int32).toInt = -1 := rfl
      have lp3 : ∀ (n : Nat) (z4_26 : Int32) (z5_26 : Int32), x1.toInt ≤ z5_26.toInt ∧ z5_26.toInt ≤ x2.toInt + 1 → -1 ≤ z4_26.toInt ∧ z4_26.toInt ≤ x2.toInt → 200 - z5_26.toInt < (n : Int) → J 26 [some (.ref h), some (.int x1), some (.int x2), some (.int x3), some (.int z4_26), some (.int z5_26)] [] (md A0 g h q v f) 0 0 := by
        intro n
        induction n with
        | zero =>
          intro z4_26 z5_26 j0_26 j1_26 j2_26
          omega
        | succ n ih4 =>
          intro z4_26 z5_26 j0_26 j1_26 j2_26
          refine hC.1 3 26 _ _ rfl _ _ _ _ _ ?_
          refine And.intro (fun c5 => ?_) (fun c5 => ?_)
          · skip
            refine hC.1 6 78 _ _ rfl _ _ _ _ _ ?_
            refine And.intro (fun c6 => ?_) (fun c6 => ?_)
            · skip
              refine hC.1 7 87 _ _ rfl _ _ _ _ _ ?_
              refine And.intro (fun c7 => ?_) (fun c7 => ?_)
              · skip
                have dc7 := pm_neI c7
                refine hC.1 8 103 _ _ rfl _ _ _ _ _ ?_
                refine And.intro (Exists.intro _ md_o) (Exists.intro _ (Exists.intro _ (Exists.intro _ (Exists.intro _ (And.intro (c_X11_ahead D v f hv hf z4_26 (by omega)) (And.intro rfl (fun r9 A9 h9 => ?_)))))))
                obtain ⟨y8, rfl, rfl, by8⟩ := h9
                refine hC.1 9 109 _ _ rfl _ _ _ _ _ ?_
                exact ⟨rfl, fun e9 => absurd e9 (by decide), rfl, y8, rfl, rfl, by first | trivial | omega | (dsimp only; omega)⟩
              · skip
                have dc7 : (x3).toInt = (0 : Int32).toInt := congrArg Int32.toInt c7
                refine And.intro (Exists.intro _ md_o) (Exists.intro _ (Exists.intro _ (Exists.intro _ (Exists.intro _ (And.intro (c_X11_ahead D v f hv hf z4_26 (by omega)) (And.intro rfl (fun r9 A9 h9 => ?_)))))))
                obtain ⟨y9, rfl, rfl, by9⟩ := h9
                intro m10 em_99
                try have e10 : m10.toInt = (z4_26).toInt - (y9).toInt := by rw [em_99]; exact pm_sub _ _ (by omega) (by omega)
                refine hC.1 9 109 _ _ rfl _ _ _ _ _ ?_
                exact ⟨rfl, fun e9 => absurd e9 (by decide), rfl, m10, rfl, rfl, by first | trivial | omega | (dsimp only; omega)⟩
            · skip
              refine hC.1 9 109 _ _ rfl _ _ _ _ _ ?_
              exact ⟨rfl, fun e9 => absurd e9 (by decide), rfl, (-1 : Int32), rfl, rfl, by first | trivial | omega | (dsimp only; omega)⟩
          · skip
            refine And.intro (Exists.intro _ md_o) (Exists.intro _ (Exists.intro _ (Exists.intro _ (Exists.intro _ (And.intro (c_X11_ahead D v f hv hf z5_26 (by omega)) (And.intro rfl (fun r9 A9 h9 => ?_)))))))
            obtain ⟨y11, rfl, rfl, by11⟩ := h9
            refine And.intro (fun c12 => ?_) (fun c12 => ?_)
            · skip
              refine hC.1 5 72 _ _ rfl _ _ _ _ _ ?_
              intro m13 em_72
              try have e13 : m13.toInt = (z5_26).toInt + (1) := by rw [em_72]; exact pm_addc _ _ (1) rfl (by omega) (by omega)
              exact ih4 z4_26 m13 (by omega) (by omega) (by omega)
            · skip
              refine And.intro (fun c14 => ?_) (fun c14 => ?_)
              · skip
                refine hC.1 4 68 _ _ rfl _ _ _ _ _ ?_
                refine hC.1 5 72 _ _ rfl _ _ _ _ _ ?_
                intro m15 em_72
                try have e15 : m15.toInt = (z5_26).toInt + (1) := by rw [em_72]; exact pm_addc _ _ (1) rfl (by omega) (by omega)
                exact ih4 z5_26 m15 (by omega) (by omega) (by omega)
              · skip
                refine And.intro (Exists.intro _ md_o) (Exists.intro _ (Exists.intro _ (Exists.intro _ (Exists.intro _ (And.intro (c_X11_ahead D v f hv hf z5_26 (by omega)) (And.intro rfl (fun r9 A9 h9 => ?_)))))))
                obtain ⟨y16, rfl, rfl, by16⟩ := h9
                intro m17 em_55
                try have e17 : m17.toInt = (z5_26).toInt - (y16).toInt := by rw [em_55]; exact pm_sub _ _ (by omega) (by omega)
                refine And.intro (Exists.intro _ md_o) (Exists.intro _ (Exists.intro _ (Exists.intro _ (Exists.intro _ (And.intro (c_X11_ahead D v f hv hf z4_26 (by omega)) (And.intro rfl (fun r9 A9 h9 => ?_)))))))
                obtain ⟨y18, rfl, rfl, by18⟩ := h9
                intro m19 em_64
                try have e19 : m19.toInt = (z4_26).toInt - (y18).toInt := by rw [em_64]; exact pm_sub _ _ (by omega) (by omega)
                refine And.intro (fun c20 => ?_) (fun c20 => ?_)
                · skip
                  refine hC.1 5 72 _ _ rfl _ _ _ _ _ ?_
                  intro m21 em_72
                  try have e21 : m21.toInt = (z5_26).toInt + (1) := by rw [em_72]; exact pm_addc _ _ (1) rfl (by omega) (by omega)
                  exact ih4 z4_26 m21 (by omega) (by omega) (by omega)
                · skip
                  refine hC.1 4 68 _ _ rfl _ _ _ _ _ ?_
                  refine hC.1 5 72 _ _ rfl _ _ _ _ _ ?_
                  intro m22 em_72
                  try have e22 : m22.toInt = (z5_26).toInt + (1) := by rw [em_72]; exact pm_addc _ _ (1) rfl (by omega) (by omega)
                  exact ih4 z5_26 m22 (by omega) (by omega) (by omega)
      exact lp3 (200 - x1.toInt).toNat.succ (-1 : Int32) x1 (by omega) (by omega) (by omega)
    · skip
      refine And.intro (fun c9 => absurd c9 (by decide)) (fun _ => ?_)
      refine hC.1 1 18 _ _ rfl _ _ _ _ _ ?_
      have km1 : (-1 : Int32).toInt = -1 := rfl
      exact ⟨rfl, fun e9 => absurd e9 (by decide), rfl, (-1 : Int32), rfl, rfl, by first | trivial | omega | (dsimp only; omega)⟩
  · skip
    have k0 : (0 : Int32).toInt = 0 := rfl
    refine And.intro (fun _ => ?_) (fun c9 => absurd c9 (by decide))
    refine hC.1 1 18 _ _ rfl _ _ _ _ _ ?_
    have km1 : (-1 : Int32).toInt = -1 := rfl
    exact ⟨rfl, fun e9 => absurd e9 (by decide), rfl, (-1 : Int32), rfl, rfl, by first | trivial | omega | (dsimp only; omega)⟩

set_option maxRecDepth 100000 in
set_option maxHeartbeats 2000000 in
theorem c_X11_isKnown (D : md_D h q) (v : Nat → Int32) (f : Nat → Nat → Int32) (hv : md_V v) (hf : md_F f) (x1 : Int32)  : pm_Mt l g 227 0 0 0 [.ref h, .int x1] (md A0 g h q v f) (md_Qp (md A0 g h q v f) (fun r => (r = 1 ∧ (0 ≤ x1.toInt ∧ x1.toInt ≤ (v 4).toInt ∧ x1.toInt > (v 4).toInt - 40)) ∨ (r = 0 ∧ (¬ (0 ≤ x1.toInt ∧ x1.toInt ≤ (v 4).toInt ∧ x1.toInt > (v 4).toInt - 40))))) := by
  refine mt_X11_isKnown rfl (fun J hC => ?_)
  have hv9 := hv
  unfold md_V at hv9
  have rg_x1 := pm_rng x1
  refine hC.1 0 0 _ _ rfl _ _ _ _ _ ?_
  refine And.intro (fun c1 => ?_) (fun c1 => ?_)
  · skip
    refine hC.1 1 27 _ _ rfl _ _ _ _ _ ?_
    have k0 : (0 : Int32).toInt = 0 := rfl
    refine hC.1 2 28 _ _ rfl _ _ _ _ _ ?_
    exact ⟨rfl, fun _ => (by decide), rfl, (0 : Int32), rfl, rfl, Or.inr ⟨rfl, by first | trivial | omega | (dsimp only; omega)⟩⟩
  · skip
    refine Exists.intro _ (And.intro md_o ?_)
    refine And.intro (fun c2 => ?_) (fun c2 => ?_)
    · skip
      refine hC.1 1 27 _ _ rfl _ _ _ _ _ ?_
      have k0 : (0 : Int32).toInt = 0 := rfl
      refine hC.1 2 28 _ _ rfl _ _ _ _ _ ?_
      exact ⟨rfl, fun _ => (by decide), rfl, (0 : Int32), rfl, rfl, Or.inr ⟨rfl, by first | trivial | omega | (dsimp only; omega)⟩⟩
    · skip
      refine Exists.intro _ (And.intro md_o ?_)
      have k40 : (40 : Int32).toInt = 40 := rfl
      intro m3 em_19
      try have e3 : m3.toInt = ((v 4)).toInt - (40) := by rw [em_19]; exact pm_subc _ _ (40) rfl (by omega) (by omega)
      refine And.intro (fun c4 => ?_) (fun c4 => ?_)
      · skip
        refine hC.1 1 27 _ _ rfl _ _ _ _ _ ?_
        have k0 : (0 : Int32).toInt = 0 := rfl
        refine hC.1 2 28 _ _ rfl _ _ _ _ _ ?_
        exact ⟨rfl, fun _ => (by decide), rfl, (0 : Int32), rfl, rfl, Or.inr ⟨rfl, by first | trivial | omega | (dsimp only; omega)⟩⟩
      · skip
        have k1 : (1 : Int32).toInt = 1 := rfl
        refine hC.1 2 28 _ _ rfl _ _ _ _ _ ?_
        exact ⟨rfl, fun _ => (by decide), rfl, (1 : Int32), rfl, rfl, Or.inl ⟨rfl, by first | trivial | omega | (dsimp only; omega)⟩⟩

set_option maxRecDepth 100000 in
set_option maxHeartbeats 2000000 in
theorem c_X11_wasColour (D : md_D h q) (v : Nat → Int32) (f : Nat → Nat → Int32) (hv : md_V v) (hf : md_F f) (x1 : Int32) (x2 : Int32) (p0 : 0 ≤ x1.toInt) (p1 : 0 ≤ x2.toInt ∧ x2.toInt < 160) : pm_Mt l g 228 0 0 0 [.ref h, .int x1, .int x2] (md A0 g h q v f) (md_Qp (md A0 g h q v f) (fun r => 0 ≤ r.toInt ∧ r.toInt ≤ 23)) := by
  refine mt_X11_wasColour rfl (fun J hC => ?_)
  have hv9 := hv
  unfold md_V at hv9
  have rg_x1 := pm_rng x1
  have rg_x2 := pm_rng x2
  refine hC.1 0 0 _ _ rfl _ _ _ _ _ ?_
  refine Exists.intro _ (And.intro md_o ?_)
  have k160 : (160 : Int32).toInt = 160 := rfl
  have k40 : (40 : Int32).toInt = 40 := rfl
  refine And.intro (by decide) ?_
  intro m1 em_10
  try have e1 := pm_rem x1 (40 : Int32) (by omega) (by omega)
  try rw [← em_10] at e1
  intro m2 em_11
  try have e2 : m2.toInt = 160 * (m1).toInt := by rw [em_11]; exact pm_mulk _ _ 160 rfl (by omega) (by omega)
  intro m3 em_13
  try have e3 : m3.toInt = (m2).toInt + (x2).toInt := by rw [em_13]; exact pm_add _ _ (by omega) (by omega)
  refine Exists.intro _ (Exists.intro _ (And.intro (Or.inl (md_a_wasColours D)) (And.intro (by omega) ?_)))
  have w4 : (0 : Int) ≤ (f 12 (m3).toInt.toNat).toInt ∧ (f 12 (m3).toInt.toNat).toInt ≤ (23 : Int) := hf 12 _
  exact ⟨rfl, fun e9 => absurd e9 (by decide), rfl, (f 12 (m3).toInt.toNat), rfl, rfl, by first | trivial | omega | (dsimp only; omega)⟩

set_option maxRecDepth 100000 in
set_option maxHeartbeats 2000000 in
theorem c_X11_wasName (D : md_D h q) (v : Nat → Int32) (f : Nat → Nat → Int32) (hv : md_V v) (hf : md_F f) (x1 : Int32) (x2 : Int32) (p0 : 0 ≤ x1.toInt) (p1 : 0 ≤ x2.toInt ∧ x2.toInt < 160) : pm_Mt l g 229 0 0 0 [.ref h, .int x1, .int x2] (md A0 g h q v f) (md_Qp (md A0 g h q v f) (fun r => True)) := by
  refine mt_X11_wasName rfl (fun J hC => ?_)
  have hv9 := hv
  unfold md_V at hv9
  have rg_x1 := pm_rng x1
  have rg_x2 := pm_rng x2
  refine hC.1 0 0 _ _ rfl _ _ _ _ _ ?_
  refine Exists.intro _ (And.intro md_o ?_)
  have k160 : (160 : Int32).toInt = 160 := rfl
  have k40 : (40 : Int32).toInt = 40 := rfl
  refine And.intro (by decide) ?_
  intro m1 em_10
  try have e1 := pm_rem x1 (40 : Int32) (by omega) (by omega)
  try rw [← em_10] at e1
  intro m2 em_11
  try have e2 : m2.toInt = 160 * (m1).toInt := by rw [em_11]; exact pm_mulk _ _ 160 rfl (by omega) (by omega)
  intro m3 em_13
  try have e3 : m3.toInt = (m2).toInt + (x2).toInt := by rw [em_13]; exact pm_add _ _ (by omega) (by omega)
  refine Exists.intro _ (Exists.intro _ (And.intro (Or.inl (md_a_wasNames D)) (And.intro (by omega) ?_)))
  exact ⟨rfl, fun e9 => absurd e9 (by decide), rfl, (f 13 (m3).toInt.toNat), rfl, rfl, by first | trivial | omega | (dsimp only; omega)⟩

set_option maxRecDepth 100000 in
set_option maxHeartbeats 2000000 in
theorem c_X11_wasBond (D : md_D h q) (v : Nat → Int32) (f : Nat → Nat → Int32) (hv : md_V v) (hf : md_F f) (x1 : Int32) (x2 : Int32) (p0 : 0 ≤ x1.toInt) (p1 : 0 ≤ x2.toInt ∧ x2.toInt < 160) : pm_Mt l g 230 1 0 0 [.ref h, .int x1, .int x2] (md A0 g h q v f) (md_Qp (md A0 g h q v f) (fun r => True)) := by
  refine mt_X11_wasBond rfl (fun J hC => ?_)
  have hv9 := hv
  unfold md_V at hv9
  have rg_x1 := pm_rng x1
  have rg_x2 := pm_rng x2
  refine hC.1 0 0 _ _ rfl _ _ _ _ _ ?_
  have k1 : (1 : Int32).toInt = 1 := rfl
  intro m1 em_2
  try have e1 : m1.toInt = (x2).toInt - (1) := by rw [em_2]; exact pm_subc _ _ (1) rfl (by omega) (by omega)
  have lp2 : ∀ (n : Nat) (z3_4 : Int32), -1 ≤ z3_4.toInt ∧ z3_4.toInt < 160 → z3_4.toInt + 1 < (n : Int) → J 4 [some (.ref h), some (.int x1), some (.int x2), some (.int z3_4)] [] (md A0 g h q v f) 0 0 := by
    intro n
    induction n with
    | zero =>
      intro z3_4 j0_4 j1_4
      omega
    | succ n ih3 =>
      intro z3_4 j0_4 j1_4
      refine hC.1 1 4 _ _ rfl _ _ _ _ _ ?_
      refine And.intro (fun c4 => ?_) (fun c4 => ?_)
      · skip
        refine hC.1 3 36 _ _ rfl _ _ _ _ _ ?_
        have km1 : (-1 : Int32).toInt = -1 := rfl
        exact ⟨rfl, fun e9 => absurd e9 (by decide), rfl, (-1 : Int32), rfl, rfl, by first | trivial | omega | (dsimp only; omega)⟩
      · skip
        refine And.intro (Exists.intro _ md_o) (Exists.intro _ (Exists.intro _ (Exists.intro _ (Exists.intro _ (And.intro (c_X11_wasColour D v f hv hf x1 z3_4 (by omega) (by omega)) (And.intro rfl (fun r9 A9 h9 => ?_)))))))
        obtain ⟨y5, rfl, rfl, by5⟩ := h9
        refine And.intro (Exists.intro _ md_o) (Exists.intro _ (Exists.intro _ (Exists.intro _ (Exists.intro _ (And.intro (c_X11_wasColour D v f hv hf x1 x2 (by omega) (by omega)) (And.intro rfl (fun r9 A9 h9 => ?_)))))))
        obtain ⟨y6, rfl, rfl, by6⟩ := h9
        refine And.intro (fun c7 => ?_) (fun c7 => ?_)
        · skip
          have dc7 := pm_neI c7
          refine hC.1 2 30 _ _ rfl _ _ _ _ _ ?_
          have km1 : (-1 : Int32).toInt = -1 := rfl
          intro m8 em_30
          try have e8 : m8.toInt = (z3_4).toInt + (-1) := by rw [em_30]; exact pm_addc _ _ (-1) rfl (by omega) (by omega)
          exact ih3 m8 (by omega) (by omega)
        · skip
          have dc7 : (y5).toInt = (y6 : Int32).toInt := congrArg Int32.toInt c7
          refine And.intro (Exists.intro _ md_o) (Exists.intro _ (Exists.intro _ (Exists.intro _ (Exists.intro _ (And.intro (c_X11_wasName D v f hv hf x1 z3_4 (by omega) (by omega)) (And.intro rfl (fun r9 A9 h9 => ?_)))))))
          obtain ⟨y9, rfl, rfl, by9⟩ := h9
          exact ⟨rfl, fun e9 => absurd e9 (by decide), rfl, y9, rfl, rfl, by first | trivial | omega | (dsimp only; omega)⟩
  exact lp2 (m1.toInt + 1).toNat.succ m1 (by omega) (by omega)

set_option maxRecDepth 100000 in
set_option maxHeartbeats 2000000 in
theorem c_X11_wasPlace (D : md_D h q) (v : Nat → Int32) (f : Nat → Nat → Int32) (hv : md_V v) (hf : md_F f) (x1 : Int32) (x2 : Int32) (p0 : 0 ≤ x1.toInt) : pm_Mt l g 236 1 0 0 [.ref h, .int x1, .int x2] (md A0 g h q v f) (md_Qp (md A0 g h q v f) (fun r => -1 ≤ r.toInt ∧ r.toInt < 160)) := by
  refine mt_X11_wasPlace rfl (fun J hC => ?_)
  have hv9 := hv
  unfold md_V at hv9
  have rg_x1 := pm_rng x1
  have rg_x2 := pm_rng x2
  refine hC.1 0 0 _ _ rfl _ _ _ _ _ ?_
  have k0 : (0 : Int32).toInt = 0 := rfl
  have lp1 : ∀ (n : Nat) (z3_2 : Int32), 0 ≤ z3_2.toInt ∧ z3_2.toInt ≤ 160 → 200 - z3_2.toInt < (n : Int) → J 2 [some (.ref h), some (.int x1), some (.int x2), some (.int z3_2)] [] (md A0 g h q v f) 0 0 := by
    intro n
    induction n with
    | zero =>
      intro z3_2 j0_2 j1_2
      omega
    | succ n ih2 =>
      intro z3_2 j0_2 j1_2
      refine hC.1 1 2 _ _ rfl _ _ _ _ _ ?_
      refine Exists.intro _ (And.intro md_o ?_)
      have k40 : (40 : Int32).toInt = 40 := rfl
      refine And.intro (by decide) ?_
      intro m3 em_10
      try have e3 := pm_rem x1 (40 : Int32) (by omega) (by omega)
      try rw [← em_10] at e3
      refine Exists.intro _ (Exists.intro _ (And.intro (Or.inl (md_a_wasMany D)) (And.intro (by omega) ?_)))
      have w4 : (0 : Int) ≤ (f 14 (m3).toInt.toNat).toInt ∧ (f 14 (m3).toInt.toNat).toInt ≤ (160 : Int) := hf 14 _
      refine And.intro (fun c5 => ?_) (fun c5 => ?_)
      · skip
        refine hC.1 3 33 _ _ rfl _ _ _ _ _ ?_
        have km1 : (-1 : Int32).toInt = -1 := rfl
        exact ⟨rfl, fun e9 => absurd e9 (by decide), rfl, (-1 : Int32), rfl, rfl, by first | trivial | omega | (dsimp only; omega)⟩
      · skip
        refine And.intro (Exists.intro _ md_o) (Exists.intro _ (Exists.intro _ (Exists.intro _ (Exists.intro _ (And.intro (c_X11_wasName D v f hv hf x1 z3_2 (by omega) (by omega)) (And.intro rfl (fun r9 A9 h9 => ?_)))))))
        obtain ⟨y6, rfl, rfl, by6⟩ := h9
        refine And.intro (fun c7 => ?_) (fun c7 => ?_)
        · skip
          have dc7 := pm_neI c7
          refine hC.1 2 27 _ _ rfl _ _ _ _ _ ?_
          have k1 : (1 : Int32).toInt = 1 := rfl
          intro m8 em_27
          try have e8 : m8.toInt = (z3_2).toInt + (1) := by rw [em_27]; exact pm_addc _ _ (1) rfl (by omega) (by omega)
          exact ih2 m8 (by omega) (by omega)
        · skip
          have dc7 : (y6).toInt = (x2 : Int32).toInt := congrArg Int32.toInt c7
          exact ⟨rfl, fun e9 => absurd e9 (by decide), rfl, z3_2, rfl, rfl, by first | trivial | omega | (dsimp only; omega)⟩
  exact lp1 (200 - (0 : Int32).toInt).toNat.succ (0 : Int32) (by omega) (by omega)

set_option maxRecDepth 100000 in
set_option maxHeartbeats 2000000 in
theorem c_X11_wasSet (D : md_D h q) (v : Nat → Int32) (f : Nat → Nat → Int32) (hv : md_V v) (hf : md_F f) (x1 : Int32) (x2 : Int32) (x3 : Int32) (p0 : 0 ≤ x1.toInt) (p1 : 0 ≤ x2.toInt ∧ x2.toInt ≤ 160) (p2 : -1 ≤ x3.toInt ∧ x3.toInt < 160) : pm_Mt l g 232 1 0 0 [.ref h, .int x1, .int x2, .int x3] (md A0 g h q v f) (md_Qp (md A0 g h q v f) (fun r => True)) := by
  refine mt_X11_wasSet rfl (fun J hC => ?_)
  have hv9 := hv
  unfold md_V at hv9
  have rg_x1 := pm_rng x1
  have rg_x2 := pm_rng x2
  have rg_x3 := pm_rng x3
  refine hC.1 0 0 _ _ rfl _ _ _ _ _ ?_
  have k0 : (0 : Int32).toInt = 0 := rfl
  have lp1 : ∀ (n : Nat) (z4_6 : Int32) (z5_6 : Int32), 0 ≤ z5_6.toInt ∧ z5_6.toInt ≤ 161 → 200 - z5_6.toInt < (n : Int) → J 6 [some (.ref h), some (.int x1), some (.int x2), some (.int x3), some (.int z4_6), some (.int z5_6)] [] (md A0 g h q v f) 0 0 := by
    intro n
    induction n with
    | zero =>
      intro z4_6 z5_6 j0_6 j1_6
      omega
    | succ n ih2 =>
      intro z4_6 z5_6 j0_6 j1_6
      refine hC.1 1 6 _ _ rfl _ _ _ _ _ ?_
      refine And.intro (fun c3 => ?_) (fun c3 => ?_)
      · skip
        refine hC.1 2 32 _ _ rfl _ _ _ _ _ ?_
        exact ⟨rfl, fun e9 => absurd e9 (by decide), rfl, z4_6, rfl, rfl, by first | trivial | omega | (dsimp only; omega)⟩
      · skip
        have k1 : (1 : Int32).toInt = 1 := rfl
        refine And.intro (Exists.intro _ md_o) (Exists.intro _ (Exists.intro _ (Exists.intro _ (Exists.intro _ (And.intro (c_X11_wasColour D v f hv hf x1 z5_6 (by omega) (by omega)) (And.intro rfl (fun r9 A9 h9 => ?_)))))))
        obtain ⟨y4, rfl, rfl, by4⟩ := h9
        intro m5 em_26
        try have e5 : m5.toInt = (z5_6).toInt + (1) := by rw [em_26]; exact pm_addc _ _ (1) rfl (by omega) (by omega)
        exact ih2 (z4_6 ||| ((1 : Int32) <<< (y4 &&& 31))) m5 (by omega) (by omega)
  exact lp1 (200 - x2.toInt).toNat.succ (0 : Int32) x2 (by omega) (by omega)

set_option maxRecDepth 100000 in
set_option maxHeartbeats 2000000 in
theorem c_X11_was (D : md_D h q) (v : Nat → Int32) (f : Nat → Nat → Int32) (hv : md_V v) (hf : md_F f) (x1 : Int32) (x2 : Int32) (x3 : Int32)  : pm_Mt l g 226 2 0 0 [.ref h, .int x1, .int x2, .int x3] (md A0 g h q v f) (md_Qp (md A0 g h q v f) (fun r => True)) := by
  refine mt_X11_was rfl (fun J hC => ?_)
  have hv9 := hv
  unfold md_V at hv9
  have rg_x1 := pm_rng x1
  have rg_x2 := pm_rng x2
  have rg_x3 := pm_rng x3
  refine hC.1 0 0 _ _ rfl _ _ _ _ _ ?_
  refine And.intro (Exists.intro _ md_o) (Exists.intro _ (Exists.intro _ (Exists.intro _ (Exists.intro _ (And.intro (c_X11_isKnown D v f hv hf x1 ) (And.intro rfl (fun r9 A9 h9 => ?_)))))))
  rcases h9 with ⟨y1, rfl, rfl, ⟨rfl, by1⟩ | ⟨rfl, by1⟩⟩
  · skip
    have k1 : (1 : Int32).toInt = 1 := rfl
    refine And.intro (fun _ => ?_) (fun c9 => absurd c9 (by decide))
    refine hC.1 1 10 _ _ rfl _ _ _ _ _ ?_
    refine Exists.intro _ (And.intro md_o ?_)
    have k40 : (40 : Int32).toInt = 40 := rfl
    refine And.intro (by decide) ?_
    intro m2 em_17
    try have e2 := pm_rem x1 (40 : Int32) (by omega) (by omega)
    try rw [← em_17] at e2
    refine Exists.intro _ (Exists.intro _ (And.intro (Or.inl (md_a_wasMany D)) (And.intro (by omega) ?_)))
    have w3 : (0 : Int) ≤ (f 14 (m2).toInt.toNat).toInt ∧ (f 14 (m2).toInt.toNat).toInt ≤ (160 : Int) := hf 14 _
    have km1 : (-1 : Int32).toInt = -1 := rfl
    refine And.intro (fun c4 => ?_) (fun c4 => ?_)
    · skip
      have dc4 := pm_neI c4
      refine hC.1 2 29 _ _ rfl _ _ _ _ _ ?_
      have k0 : (0 : Int32).toInt = 0 := rfl
      intro m5 em_34
      try have e5 : m5.toInt = ((f 14 (m2).toInt.toNat)).toInt - (1) := by rw [em_34]; exact pm_subc _ _ (1) rfl (by omega) (by omega)
      refine Exists.intro _ (Exists.intro _ (Exists.intro _ (Exists.intro _ (And.intro (c_X11_isIn (md A0 g h q v f) x2 (0 : Int32) m5 ) (And.intro rfl (fun r9 A9 h9 => ?_))))))
      rcases h9 with ⟨y6, rfl, rfl, ⟨rfl, by6⟩ | ⟨rfl, by6⟩⟩
      · skip
        refine And.intro (fun _ => ?_) (fun c9 => absurd c9 (by decide))
        refine hC.1 3 43 _ _ rfl _ _ _ _ _ ?_
        refine And.intro (fun c7 => ?_) (fun c7 => ?_)
        · skip
          have dc7 := pm_neI c7
          refine hC.1 4 56 _ _ rfl _ _ _ _ _ ?_
          refine And.intro (fun c8 => ?_) (fun c8 => ?_)
          · skip
            have dc8 := pm_neI c8
            refine hC.1 5 70 _ _ rfl _ _ _ _ _ ?_
            have k2 : (2 : Int32).toInt = 2 := rfl
            refine And.intro (fun c9 => ?_) (fun c9 => ?_)
            · skip
              have dc9 := pm_neI c9
              refine hC.1 6 84 _ _ rfl _ _ _ _ _ ?_
              refine hC.1 7 85 _ _ rfl _ _ _ _ _ ?_
              exact ⟨rfl, fun e9 => absurd e9 (by decide), rfl, (-1 : Int32), rfl, rfl, by first | trivial | omega | (dsimp only; omega)⟩
            · skip
              have dc9 : (x3).toInt = ((2 : Int32) : Int32).toInt := congrArg Int32.toInt c9
              refine And.intro (Exists.intro _ md_o) (Exists.intro _ (Exists.intro _ (Exists.intro _ (Exists.intro _ (And.intro (c_X11_wasBond D v f hv hf x1 x2 (by omega) (by omega)) (And.intro rfl (fun r9 A9 h9 => ?_)))))))
              obtain ⟨y10, rfl, rfl, by10⟩ := h9
              refine hC.1 7 85 _ _ rfl _ _ _ _ _ ?_
              exact ⟨rfl, fun e9 => absurd e9 (by decide), rfl, y10, rfl, rfl, by first | trivial | omega | (dsimp only; omega)⟩
          · skip
            have dc8 : (x3).toInt = ((1 : Int32) : Int32).toInt := congrArg Int32.toInt c8
            refine And.intro (Exists.intro _ md_o) (Exists.intro _ (Exists.intro _ (Exists.intro _ (Exists.intro _ (And.intro (c_X11_wasName D v f hv hf x1 x2 (by omega) (by omega)) (And.intro rfl (fun r9 A9 h9 => ?_)))))))
            obtain ⟨y11, rfl, rfl, by11⟩ := h9
            refine hC.1 7 85 _ _ rfl _ _ _ _ _ ?_
            exact ⟨rfl, fun e9 => absurd e9 (by decide), rfl, y11, rfl, rfl, by first | trivial | omega | (dsimp only; omega)⟩
        · skip
          have dc7 : (x3).toInt = (0 : Int32).toInt := congrArg Int32.toInt c7
          refine And.intro (Exists.intro _ md_o) (Exists.intro _ (Exists.intro _ (Exists.intro _ (Exists.intro _ (And.intro (c_X11_wasColour D v f hv hf x1 x2 (by omega) (by omega)) (And.intro rfl (fun r9 A9 h9 => ?_)))))))
          obtain ⟨y12, rfl, rfl, by12⟩ := h9
          refine hC.1 7 85 _ _ rfl _ _ _ _ _ ?_
          exact ⟨rfl, fun e9 => absurd e9 (by decide), rfl, y12, rfl, rfl, by first | trivial | omega | (dsimp only; omega)⟩
      · skip
        refine And.intro (fun c9 => absurd c9 (by decide)) (fun _ => ?_)
        exact ⟨rfl, fun e9 => absurd e9 (by decide), rfl, (-1 : Int32), rfl, rfl, by first | trivial | omega | (dsimp only; omega)⟩
    · skip
      have dc4 : (x2).toInt = ((-1 : Int32) : Int32).toInt := congrArg Int32.toInt c4
      exact ⟨rfl, fun e9 => absurd e9 (by decide), rfl, (f 14 (m2).toInt.toNat), rfl, rfl, by first | trivial | omega | (dsimp only; omega)⟩
  · skip
    have k0 : (0 : Int32).toInt = 0 := rfl
    refine And.intro (fun c9 => absurd c9 (by decide)) (fun _ => ?_)
    have km1 : (-1 : Int32).toInt = -1 := rfl
    exact ⟨rfl, fun e9 => absurd e9 (by decide), rfl, (-1 : Int32), rfl, rfl, by first | trivial | omega | (dsimp only; omega)⟩

set_option maxRecDepth 100000 in
set_option maxHeartbeats 2000000 in
theorem c_X11_counted (D : md_D h q) (v : Nat → Int32) (f : Nat → Nat → Int32) (hv : md_V v) (hf : md_F f) (x1 : Int32) (x2 : Int32) (x3 : Int32)  : pm_Mt l g 231 2 0 0 [.ref h, .int x1, .int x2, .int x3] (md A0 g h q v f) (md_Qp (md A0 g h q v f) (fun r => True)) := by
  refine mt_X11_counted rfl (fun J hC => ?_)
  have hv9 := hv
  unfold md_V at hv9
  have rg_x1 := pm_rng x1
  have rg_x2 := pm_rng x2
  have rg_x3 := pm_rng x3
  refine hC.1 0 0 _ _ rfl _ _ _ _ _ ?_
  refine And.intro (Exists.intro _ md_o) (Exists.intro _ (Exists.intro _ (Exists.intro _ (Exists.intro _ (And.intro (c_X11_isKnown D v f hv hf x1 ) (And.intro rfl (fun r9 A9 h9 => ?_)))))))
  rcases h9 with ⟨y1, rfl, rfl, ⟨rfl, by1⟩ | ⟨rfl, by1⟩⟩
  · skip
    have k1 : (1 : Int32).toInt = 1 := rfl
    refine And.intro (fun c9 => absurd c9 (by decide)) (fun _ => ?_)
    refine And.intro (fun c2 => ?_) (fun c2 => ?_)
    · skip
      refine hC.1 1 43 _ _ rfl _ _ _ _ _ ?_
      have km1 : (-1 : Int32).toInt = -1 := rfl
      refine hC.1 2 44 _ _ rfl _ _ _ _ _ ?_
      exact ⟨rfl, fun e9 => absurd e9 (by decide), rfl, (-1 : Int32), rfl, rfl, by first | trivial | omega | (dsimp only; omega)⟩
    · skip
      refine And.intro (fun c3 => ?_) (fun c3 => ?_)
      · skip
        refine hC.1 1 43 _ _ rfl _ _ _ _ _ ?_
        have km1 : (-1 : Int32).toInt = -1 := rfl
        refine hC.1 2 44 _ _ rfl _ _ _ _ _ ?_
        exact ⟨rfl, fun e9 => absurd e9 (by decide), rfl, (-1 : Int32), rfl, rfl, by first | trivial | omega | (dsimp only; omega)⟩
      · skip
        refine Exists.intro _ (And.intro md_o ?_)
        have k40 : (40 : Int32).toInt = 40 := rfl
        refine And.intro (by decide) ?_
        intro m4 em_25
        try have e4 := pm_rem x1 (40 : Int32) (by omega) (by omega)
        try rw [← em_25] at e4
        refine Exists.intro _ (Exists.intro _ (And.intro (Or.inl (md_a_wasMany D)) (And.intro (by omega) ?_)))
        have w5 : (0 : Int) ≤ (f 14 (m4).toInt.toNat).toInt ∧ (f 14 (m4).toInt.toNat).toInt ≤ (160 : Int) := hf 14 _
        refine And.intro (fun c6 => ?_) (fun c6 => ?_)
        · skip
          refine hC.1 1 43 _ _ rfl _ _ _ _ _ ?_
          have km1 : (-1 : Int32).toInt = -1 := rfl
          refine hC.1 2 44 _ _ rfl _ _ _ _ _ ?_
          exact ⟨rfl, fun e9 => absurd e9 (by decide), rfl, (-1 : Int32), rfl, rfl, by first | trivial | omega | (dsimp only; omega)⟩
        · skip
          refine And.intro (Exists.intro _ md_o) (Exists.intro _ (Exists.intro _ (Exists.intro _ (Exists.intro _ (And.intro (c_X11_wasSet D v f hv hf x1 x2 x3 (by omega) (by omega) (by omega)) (And.intro rfl (fun r9 A9 h9 => ?_)))))))
          obtain ⟨y7, rfl, rfl, by7⟩ := h9
          refine Exists.intro _ (Exists.intro _ (Exists.intro _ (Exists.intro _ (And.intro (c_X11_bits (md A0 g h q v f) y7 ) (And.intro rfl (fun r9 A9 h9 => ?_))))))
          obtain ⟨y8, rfl, rfl, by8⟩ := h9
          refine hC.1 2 44 _ _ rfl _ _ _ _ _ ?_
          exact ⟨rfl, fun e9 => absurd e9 (by decide), rfl, y8, rfl, rfl, by first | trivial | omega | (dsimp only; omega)⟩
  · skip
    have k0 : (0 : Int32).toInt = 0 := rfl
    refine And.intro (fun _ => ?_) (fun c9 => absurd c9 (by decide))
    refine hC.1 1 43 _ _ rfl _ _ _ _ _ ?_
    have km1 : (-1 : Int32).toInt = -1 := rfl
    refine hC.1 2 44 _ _ rfl _ _ _ _ _ ?_
    exact ⟨rfl, fun e9 => absurd e9 (by decide), rfl, (-1 : Int32), rfl, rfl, by first | trivial | omega | (dsimp only; omega)⟩

set_option maxRecDepth 100000 in
set_option maxHeartbeats 2000000 in
theorem c_X11_touched (D : md_D h q) (v : Nat → Int32) (f : Nat → Nat → Int32) (hv : md_V v) (hf : md_F f) (x1 : Int32)  : pm_Mt l g 233 1 0 0 [.ref h, .int x1] (md A0 g h q v f) (md_Qp (md A0 g h q v f) (fun r => True)) := by
  refine mt_X11_touched rfl (fun J hC => ?_)
  have hv9 := hv
  unfold md_V at hv9
  have rg_x1 := pm_rng x1
  refine hC.1 0 0 _ _ rfl _ _ _ _ _ ?_
  refine And.intro (fun c1 => ?_) (fun c1 => ?_)
  · skip
    refine hC.1 1 24 _ _ rfl _ _ _ _ _ ?_
    have km1 : (-1 : Int32).toInt = -1 := rfl
    refine hC.1 2 25 _ _ rfl _ _ _ _ _ ?_
    exact ⟨rfl, fun e9 => absurd e9 (by decide), rfl, (-1 : Int32), rfl, rfl, by first | trivial | omega | (dsimp only; omega)⟩
  · skip
    refine And.intro (Exists.intro _ md_o) (Exists.intro _ (Exists.intro _ (Exists.intro _ (Exists.intro _ (And.intro (c_X11_isKnown D v f hv hf x1 ) (And.intro rfl (fun r9 A9 h9 => ?_)))))))
    rcases h9 with ⟨y2, rfl, rfl, ⟨rfl, by2⟩ | ⟨rfl, by2⟩⟩
    · skip
      have k1 : (1 : Int32).toInt = 1 := rfl
      refine And.intro (fun c9 => absurd c9 (by decide)) (fun _ => ?_)
      refine Exists.intro _ (And.intro md_o ?_)
      have k40 : (40 : Int32).toInt = 40 := rfl
      refine And.intro (by decide) ?_
      intro m3 em_19
      try have e3 := pm_rem x1 (40 : Int32) (by omega) (by omega)
      try rw [← em_19] at e3
      refine Exists.intro _ (Exists.intro _ (And.intro (Or.inl (md_a_wasTouched D)) (And.intro (by omega) ?_)))
      refine hC.1 2 25 _ _ rfl _ _ _ _ _ ?_
      exact ⟨rfl, fun e9 => absurd e9 (by decide), rfl, (f 15 (m3).toInt.toNat), rfl, rfl, by first | trivial | omega | (dsimp only; omega)⟩
    · skip
      have k0 : (0 : Int32).toInt = 0 := rfl
      refine And.intro (fun _ => ?_) (fun c9 => absurd c9 (by decide))
      refine hC.1 1 24 _ _ rfl _ _ _ _ _ ?_
      have km1 : (-1 : Int32).toInt = -1 := rfl
      refine hC.1 2 25 _ _ rfl _ _ _ _ _ ?_
      exact ⟨rfl, fun e9 => absurd e9 (by decide), rfl, (-1 : Int32), rfl, rfl, by first | trivial | omega | (dsimp only; omega)⟩

set_option maxRecDepth 100000 in
set_option maxHeartbeats 2000000 in
theorem c_X11_hadBond (D : md_D h q) (v : Nat → Int32) (f : Nat → Nat → Int32) (hv : md_V v) (hf : md_F f) (x1 : Int32) (x2 : Int32) (x3 : Int32) (p0 : 0 ≤ x1.toInt) : pm_Mt l g 235 2 0 0 [.ref h, .int x1, .int x2, .int x3] (md A0 g h q v f) (md_Qp (md A0 g h q v f) (fun r => (r = 1 ∧ (True)) ∨ (r = 0 ∧ (True)))) := by
  refine mt_X11_hadBond rfl (fun J hC => ?_)
  have hv9 := hv
  unfold md_V at hv9
  have rg_x1 := pm_rng x1
  have rg_x2 := pm_rng x2
  have rg_x3 := pm_rng x3
  refine hC.1 0 0 _ _ rfl _ _ _ _ _ ?_
  refine And.intro (Exists.intro _ md_o) (Exists.intro _ (Exists.intro _ (Exists.intro _ (Exists.intro _ (And.intro (c_X11_wasPlace D v f hv hf x1 x2 (by omega)) (And.intro rfl (fun r9 A9 h9 => ?_)))))))
  obtain ⟨y1, rfl, rfl, by1⟩ := h9
  refine And.intro (fun c2 => ?_) (fun c2 => ?_)
  · skip
    refine hC.1 1 28 _ _ rfl _ _ _ _ _ ?_
    have k0 : (0 : Int32).toInt = 0 := rfl
    refine hC.1 2 29 _ _ rfl _ _ _ _ _ ?_
    exact ⟨rfl, fun _ => (by decide), rfl, (0 : Int32), rfl, rfl, Or.inr ⟨rfl, by first | trivial | omega | (dsimp only; omega)⟩⟩
  · skip
    refine And.intro (Exists.intro _ md_o) (Exists.intro _ (Exists.intro _ (Exists.intro _ (Exists.intro _ (And.intro (c_X11_wasBond D v f hv hf x1 y1 (by omega) (by omega)) (And.intro rfl (fun r9 A9 h9 => ?_)))))))
    obtain ⟨y3, rfl, rfl, by3⟩ := h9
    refine And.intro (fun c4 => ?_) (fun c4 => ?_)
    · skip
      have dc4 := pm_neI c4
      refine hC.1 1 28 _ _ rfl _ _ _ _ _ ?_
      have k0 : (0 : Int32).toInt = 0 := rfl
      refine hC.1 2 29 _ _ rfl _ _ _ _ _ ?_
      exact ⟨rfl, fun _ => (by decide), rfl, (0 : Int32), rfl, rfl, Or.inr ⟨rfl, by first | trivial | omega | (dsimp only; omega)⟩⟩
    · skip
      have dc4 : (y3).toInt = (x3 : Int32).toInt := congrArg Int32.toInt c4
      have k1 : (1 : Int32).toInt = 1 := rfl
      refine hC.1 2 29 _ _ rfl _ _ _ _ _ ?_
      exact ⟨rfl, fun _ => (by decide), rfl, (1 : Int32), rfl, rfl, Or.inl ⟨rfl, by first | trivial | omega | (dsimp only; omega)⟩⟩

end
end
section
theorem i_vc : Claimed_1_1 ∧ Claimed_1_2 := sorry
end
