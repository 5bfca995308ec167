/-! the tables' words by their places: class names, methods, links; written by a program out of tables_1 -/
noncomputable def pm_cn : List String := [RX0, RX1, RX2, RX3, RX4, RX5, RX6, RX7, RX8, RX9, RX10, RX11, RL, RJ6, RJ9, RJ7]
noncomputable def pm_nm (i : Nat) : String := pm_cn.getD i ""
noncomputable def pm_D0 : List Cond := lw_tbl
noncomputable def pm_D1 : List Cond := pm_D0.drop 32
noncomputable def pm_D2 : List Cond := pm_D1.drop 32
noncomputable def pm_D3 : List Cond := pm_D2.drop 32
noncomputable def pm_D4 : List Cond := pm_D3.drop 32
noncomputable def pm_D5 : List Cond := pm_D4.drop 32
noncomputable def pm_D6 : List Cond := pm_D5.drop 32
noncomputable def pm_D7 : List Cond := pm_D6.drop 32
noncomputable def pm_D8 : List Cond := pm_D7.drop 32
noncomputable def pm_D9 : List Cond := pm_D8.drop 32
noncomputable def pm_D10 : List Cond := pm_D9.drop 32
noncomputable def pm_D11 : List Cond := pm_D10.drop 32
noncomputable def pm_D12 : List Cond := pm_D11.drop 32
noncomputable def pm_D13 : List Cond := pm_D12.drop 32
noncomputable def pm_D14 : List Cond := pm_D13.drop 32
noncomputable def pm_D15 : List Cond := pm_D14.drop 32
noncomputable def pm_D16 : List Cond := pm_D15.drop 32
noncomputable def pm_D17 : List Cond := pm_D16.drop 32
noncomputable def pm_D18 : List Cond := pm_D17.drop 32
noncomputable def pm_D19 : List Cond := pm_D18.drop 32
noncomputable def pm_D20 : List Cond := pm_D19.drop 32
noncomputable def pm_D21 : List Cond := pm_D20.drop 32
noncomputable def pm_D22 : List Cond := pm_D21.drop 32
noncomputable def pm_D23 : List Cond := pm_D22.drop 32
noncomputable def pm_D24 : List Cond := pm_D23.drop 32
noncomputable def pm_D25 : List Cond := pm_D24.drop 32
noncomputable def pm_D26 : List Cond := pm_D25.drop 32
noncomputable def pm_D27 : List Cond := pm_D26.drop 32
noncomputable def pm_D28 : List Cond := pm_D27.drop 32
noncomputable def pm_D29 : List Cond := pm_D28.drop 32
noncomputable def pm_D30 : List Cond := pm_D29.drop 32
noncomputable def pm_D31 : List Cond := pm_D30.drop 32
noncomputable def pm_D32 : List Cond := pm_D31.drop 32
noncomputable def pm_D33 : List Cond := pm_D32.drop 32
noncomputable def pm_D34 : List Cond := pm_D33.drop 32
noncomputable def pm_D35 : List Cond := pm_D34.drop 32
noncomputable def pm_D36 : List Cond := pm_D35.drop 32
noncomputable def pm_D37 : List Cond := pm_D36.drop 32
noncomputable def pm_D38 : List Cond := pm_D37.drop 32
noncomputable def pm_D39 : List Cond := pm_D38.drop 32
noncomputable def pm_D40 : List Cond := pm_D39.drop 32
noncomputable def pm_D41 : List Cond := pm_D40.drop 32
noncomputable def pm_D42 : List Cond := pm_D41.drop 32
noncomputable def pm_D43 : List Cond := pm_D42.drop 32
noncomputable def pm_D44 : List Cond := pm_D43.drop 32
noncomputable def pm_D45 : List Cond := pm_D44.drop 32
noncomputable def pm_D46 : List Cond := pm_D45.drop 32
noncomputable def pm_D47 : List Cond := pm_D46.drop 32
noncomputable def pm_D48 : List Cond := pm_D47.drop 32
noncomputable def pm_D49 : List Cond := pm_D48.drop 32
noncomputable def pm_D50 : List Cond := pm_D49.drop 32
noncomputable def pm_D51 : List Cond := pm_D50.drop 32
noncomputable def pm_D52 : List Cond := pm_D51.drop 32
noncomputable def pm_D53 : List Cond := pm_D52.drop 32
noncomputable def pm_D54 : List Cond := pm_D53.drop 32
noncomputable def pm_D55 : List Cond := pm_D54.drop 32
noncomputable def pm_D56 : List Cond := pm_D55.drop 32
noncomputable def pm_D57 : List Cond := pm_D56.drop 32
noncomputable def pm_D58 : List Cond := pm_D57.drop 32
noncomputable def pm_D59 : List Cond := pm_D58.drop 32
noncomputable def pm_D60 : List Cond := pm_D59.drop 32
noncomputable def pm_D61 : List Cond := pm_D60.drop 32
noncomputable def pm_D62 : List Cond := pm_D61.drop 32
noncomputable def pm_D63 : List Cond := pm_D62.drop 32
noncomputable def pm_D64 : List Cond := pm_D63.drop 32
noncomputable def pm_D65 : List Cond := pm_D64.drop 32
noncomputable def pm_D66 : List Cond := pm_D65.drop 32
noncomputable def pm_D67 : List Cond := pm_D66.drop 32
noncomputable def pm_D68 : List Cond := pm_D67.drop 32
noncomputable def pm_D69 : List Cond := pm_D68.drop 32
noncomputable def pm_D70 : List Cond := pm_D69.drop 32
noncomputable def pm_Dl : List (List Cond) := [pm_D0, pm_D1, pm_D2, pm_D3, pm_D4, pm_D5, pm_D6, pm_D7, pm_D8, pm_D9, pm_D10, pm_D11, pm_D12, pm_D13, pm_D14, pm_D15, pm_D16, pm_D17, pm_D18, pm_D19, pm_D20, pm_D21, pm_D22, pm_D23, pm_D24, pm_D25, pm_D26, pm_D27, pm_D28, pm_D29, pm_D30, pm_D31, pm_D32, pm_D33, pm_D34, pm_D35, pm_D36, pm_D37, pm_D38, pm_D39, pm_D40, pm_D41, pm_D42, pm_D43, pm_D44, pm_D45, pm_D46, pm_D47, pm_D48, pm_D49, pm_D50, pm_D51, pm_D52, pm_D53, pm_D54, pm_D55, pm_D56, pm_D57, pm_D58, pm_D59, pm_D60, pm_D61, pm_D62, pm_D63, pm_D64, pm_D65, pm_D66, pm_D67, pm_D68, pm_D69, pm_D70]
theorem pm_Ds0 {w : Cond} (h : w ∈ pm_D0) : w ∈ lw_tbl := h
theorem pm_Ds1 {w : Cond} (h : w ∈ pm_D1) : w ∈ lw_tbl := pm_Ds0 (List.mem_of_mem_drop h)
theorem pm_Ds2 {w : Cond} (h : w ∈ pm_D2) : w ∈ lw_tbl := pm_Ds1 (List.mem_of_mem_drop h)
theorem pm_Ds3 {w : Cond} (h : w ∈ pm_D3) : w ∈ lw_tbl := pm_Ds2 (List.mem_of_mem_drop h)
theorem pm_Ds4 {w : Cond} (h : w ∈ pm_D4) : w ∈ lw_tbl := pm_Ds3 (List.mem_of_mem_drop h)
theorem pm_Ds5 {w : Cond} (h : w ∈ pm_D5) : w ∈ lw_tbl := pm_Ds4 (List.mem_of_mem_drop h)
theorem pm_Ds6 {w : Cond} (h : w ∈ pm_D6) : w ∈ lw_tbl := pm_Ds5 (List.mem_of_mem_drop h)
theorem pm_Ds7 {w : Cond} (h : w ∈ pm_D7) : w ∈ lw_tbl := pm_Ds6 (List.mem_of_mem_drop h)
theorem pm_Ds8 {w : Cond} (h : w ∈ pm_D8) : w ∈ lw_tbl := pm_Ds7 (List.mem_of_mem_drop h)
theorem pm_Ds9 {w : Cond} (h : w ∈ pm_D9) : w ∈ lw_tbl := pm_Ds8 (List.mem_of_mem_drop h)
theorem pm_Ds10 {w : Cond} (h : w ∈ pm_D10) : w ∈ lw_tbl := pm_Ds9 (List.mem_of_mem_drop h)
theorem pm_Ds11 {w : Cond} (h : w ∈ pm_D11) : w ∈ lw_tbl := pm_Ds10 (List.mem_of_mem_drop h)
theorem pm_Ds12 {w : Cond} (h : w ∈ pm_D12) : w ∈ lw_tbl := pm_Ds11 (List.mem_of_mem_drop h)
theorem pm_Ds13 {w : Cond} (h : w ∈ pm_D13) : w ∈ lw_tbl := pm_Ds12 (List.mem_of_mem_drop h)
theorem pm_Ds14 {w : Cond} (h : w ∈ pm_D14) : w ∈ lw_tbl := pm_Ds13 (List.mem_of_mem_drop h)
theorem pm_Ds15 {w : Cond} (h : w ∈ pm_D15) : w ∈ lw_tbl := pm_Ds14 (List.mem_of_mem_drop h)
theorem pm_Ds16 {w : Cond} (h : w ∈ pm_D16) : w ∈ lw_tbl := pm_Ds15 (List.mem_of_mem_drop h)
theorem pm_Ds17 {w : Cond} (h : w ∈ pm_D17) : w ∈ lw_tbl := pm_Ds16 (List.mem_of_mem_drop h)
theorem pm_Ds18 {w : Cond} (h : w ∈ pm_D18) : w ∈ lw_tbl := pm_Ds17 (List.mem_of_mem_drop h)
theorem pm_Ds19 {w : Cond} (h : w ∈ pm_D19) : w ∈ lw_tbl := pm_Ds18 (List.mem_of_mem_drop h)
theorem pm_Ds20 {w : Cond} (h : w ∈ pm_D20) : w ∈ lw_tbl := pm_Ds19 (List.mem_of_mem_drop h)
theorem pm_Ds21 {w : Cond} (h : w ∈ pm_D21) : w ∈ lw_tbl := pm_Ds20 (List.mem_of_mem_drop h)
theorem pm_Ds22 {w : Cond} (h : w ∈ pm_D22) : w ∈ lw_tbl := pm_Ds21 (List.mem_of_mem_drop h)
theorem pm_Ds23 {w : Cond} (h : w ∈ pm_D23) : w ∈ lw_tbl := pm_Ds22 (List.mem_of_mem_drop h)
theorem pm_Ds24 {w : Cond} (h : w ∈ pm_D24) : w ∈ lw_tbl := pm_Ds23 (List.mem_of_mem_drop h)
theorem pm_Ds25 {w : Cond} (h : w ∈ pm_D25) : w ∈ lw_tbl := pm_Ds24 (List.mem_of_mem_drop h)
theorem pm_Ds26 {w : Cond} (h : w ∈ pm_D26) : w ∈ lw_tbl := pm_Ds25 (List.mem_of_mem_drop h)
theorem pm_Ds27 {w : Cond} (h : w ∈ pm_D27) : w ∈ lw_tbl := pm_Ds26 (List.mem_of_mem_drop h)
theorem pm_Ds28 {w : Cond} (h : w ∈ pm_D28) : w ∈ lw_tbl := pm_Ds27 (List.mem_of_mem_drop h)
theorem pm_Ds29 {w : Cond} (h : w ∈ pm_D29) : w ∈ lw_tbl := pm_Ds28 (List.mem_of_mem_drop h)
theorem pm_Ds30 {w : Cond} (h : w ∈ pm_D30) : w ∈ lw_tbl := pm_Ds29 (List.mem_of_mem_drop h)
theorem pm_Ds31 {w : Cond} (h : w ∈ pm_D31) : w ∈ lw_tbl := pm_Ds30 (List.mem_of_mem_drop h)
theorem pm_Ds32 {w : Cond} (h : w ∈ pm_D32) : w ∈ lw_tbl := pm_Ds31 (List.mem_of_mem_drop h)
theorem pm_Ds33 {w : Cond} (h : w ∈ pm_D33) : w ∈ lw_tbl := pm_Ds32 (List.mem_of_mem_drop h)
theorem pm_Ds34 {w : Cond} (h : w ∈ pm_D34) : w ∈ lw_tbl := pm_Ds33 (List.mem_of_mem_drop h)
theorem pm_Ds35 {w : Cond} (h : w ∈ pm_D35) : w ∈ lw_tbl := pm_Ds34 (List.mem_of_mem_drop h)
theorem pm_Ds36 {w : Cond} (h : w ∈ pm_D36) : w ∈ lw_tbl := pm_Ds35 (List.mem_of_mem_drop h)
theorem pm_Ds37 {w : Cond} (h : w ∈ pm_D37) : w ∈ lw_tbl := pm_Ds36 (List.mem_of_mem_drop h)
theorem pm_Ds38 {w : Cond} (h : w ∈ pm_D38) : w ∈ lw_tbl := pm_Ds37 (List.mem_of_mem_drop h)
theorem pm_Ds39 {w : Cond} (h : w ∈ pm_D39) : w ∈ lw_tbl := pm_Ds38 (List.mem_of_mem_drop h)
theorem pm_Ds40 {w : Cond} (h : w ∈ pm_D40) : w ∈ lw_tbl := pm_Ds39 (List.mem_of_mem_drop h)
theorem pm_Ds41 {w : Cond} (h : w ∈ pm_D41) : w ∈ lw_tbl := pm_Ds40 (List.mem_of_mem_drop h)
theorem pm_Ds42 {w : Cond} (h : w ∈ pm_D42) : w ∈ lw_tbl := pm_Ds41 (List.mem_of_mem_drop h)
theorem pm_Ds43 {w : Cond} (h : w ∈ pm_D43) : w ∈ lw_tbl := pm_Ds42 (List.mem_of_mem_drop h)
theorem pm_Ds44 {w : Cond} (h : w ∈ pm_D44) : w ∈ lw_tbl := pm_Ds43 (List.mem_of_mem_drop h)
theorem pm_Ds45 {w : Cond} (h : w ∈ pm_D45) : w ∈ lw_tbl := pm_Ds44 (List.mem_of_mem_drop h)
theorem pm_Ds46 {w : Cond} (h : w ∈ pm_D46) : w ∈ lw_tbl := pm_Ds45 (List.mem_of_mem_drop h)
theorem pm_Ds47 {w : Cond} (h : w ∈ pm_D47) : w ∈ lw_tbl := pm_Ds46 (List.mem_of_mem_drop h)
theorem pm_Ds48 {w : Cond} (h : w ∈ pm_D48) : w ∈ lw_tbl := pm_Ds47 (List.mem_of_mem_drop h)
theorem pm_Ds49 {w : Cond} (h : w ∈ pm_D49) : w ∈ lw_tbl := pm_Ds48 (List.mem_of_mem_drop h)
theorem pm_Ds50 {w : Cond} (h : w ∈ pm_D50) : w ∈ lw_tbl := pm_Ds49 (List.mem_of_mem_drop h)
theorem pm_Ds51 {w : Cond} (h : w ∈ pm_D51) : w ∈ lw_tbl := pm_Ds50 (List.mem_of_mem_drop h)
theorem pm_Ds52 {w : Cond} (h : w ∈ pm_D52) : w ∈ lw_tbl := pm_Ds51 (List.mem_of_mem_drop h)
theorem pm_Ds53 {w : Cond} (h : w ∈ pm_D53) : w ∈ lw_tbl := pm_Ds52 (List.mem_of_mem_drop h)
theorem pm_Ds54 {w : Cond} (h : w ∈ pm_D54) : w ∈ lw_tbl := pm_Ds53 (List.mem_of_mem_drop h)
theorem pm_Ds55 {w : Cond} (h : w ∈ pm_D55) : w ∈ lw_tbl := pm_Ds54 (List.mem_of_mem_drop h)
theorem pm_Ds56 {w : Cond} (h : w ∈ pm_D56) : w ∈ lw_tbl := pm_Ds55 (List.mem_of_mem_drop h)
theorem pm_Ds57 {w : Cond} (h : w ∈ pm_D57) : w ∈ lw_tbl := pm_Ds56 (List.mem_of_mem_drop h)
theorem pm_Ds58 {w : Cond} (h : w ∈ pm_D58) : w ∈ lw_tbl := pm_Ds57 (List.mem_of_mem_drop h)
theorem pm_Ds59 {w : Cond} (h : w ∈ pm_D59) : w ∈ lw_tbl := pm_Ds58 (List.mem_of_mem_drop h)
theorem pm_Ds60 {w : Cond} (h : w ∈ pm_D60) : w ∈ lw_tbl := pm_Ds59 (List.mem_of_mem_drop h)
theorem pm_Ds61 {w : Cond} (h : w ∈ pm_D61) : w ∈ lw_tbl := pm_Ds60 (List.mem_of_mem_drop h)
theorem pm_Ds62 {w : Cond} (h : w ∈ pm_D62) : w ∈ lw_tbl := pm_Ds61 (List.mem_of_mem_drop h)
theorem pm_Ds63 {w : Cond} (h : w ∈ pm_D63) : w ∈ lw_tbl := pm_Ds62 (List.mem_of_mem_drop h)
theorem pm_Ds64 {w : Cond} (h : w ∈ pm_D64) : w ∈ lw_tbl := pm_Ds63 (List.mem_of_mem_drop h)
theorem pm_Ds65 {w : Cond} (h : w ∈ pm_D65) : w ∈ lw_tbl := pm_Ds64 (List.mem_of_mem_drop h)
theorem pm_Ds66 {w : Cond} (h : w ∈ pm_D66) : w ∈ lw_tbl := pm_Ds65 (List.mem_of_mem_drop h)
theorem pm_Ds67 {w : Cond} (h : w ∈ pm_D67) : w ∈ lw_tbl := pm_Ds66 (List.mem_of_mem_drop h)
theorem pm_Ds68 {w : Cond} (h : w ∈ pm_D68) : w ∈ lw_tbl := pm_Ds67 (List.mem_of_mem_drop h)
theorem pm_Ds69 {w : Cond} (h : w ∈ pm_D69) : w ∈ lw_tbl := pm_Ds68 (List.mem_of_mem_drop h)
theorem pm_Ds70 {w : Cond} (h : w ∈ pm_D70) : w ∈ lw_tbl := pm_Ds69 (List.mem_of_mem_drop h)
theorem pm_Dm {w : Cond} : ∀ d ∈ pm_Dl, w ∈ d → w ∈ lw_tbl := by
  unfold pm_Dl
  simp only [List.forall_mem_cons]
  exact ⟨pm_Ds0, pm_Ds1, pm_Ds2, pm_Ds3, pm_Ds4, pm_Ds5, pm_Ds6, pm_Ds7, pm_Ds8, pm_Ds9, pm_Ds10, pm_Ds11, pm_Ds12, pm_Ds13, pm_Ds14, pm_Ds15, pm_Ds16, pm_Ds17, pm_Ds18, pm_Ds19, pm_Ds20, pm_Ds21, pm_Ds22, pm_Ds23, pm_Ds24, pm_Ds25, pm_Ds26, pm_Ds27, pm_Ds28, pm_Ds29, pm_Ds30, pm_Ds31, pm_Ds32, pm_Ds33, pm_Ds34, pm_Ds35, pm_Ds36, pm_Ds37, pm_Ds38, pm_Ds39, pm_Ds40, pm_Ds41, pm_Ds42, pm_Ds43, pm_Ds44, pm_Ds45, pm_Ds46, pm_Ds47, pm_Ds48, pm_Ds49, pm_Ds50, pm_Ds51, pm_Ds52, pm_Ds53, pm_Ds54, pm_Ds55, pm_Ds56, pm_Ds57, pm_Ds58, pm_Ds59, pm_Ds60, pm_Ds61, pm_Ds62, pm_Ds63, pm_Ds64, pm_Ds65, pm_Ds66, pm_Ds67, pm_Ds68, pm_Ds69, pm_Ds70, fun _ h => absurd h List.not_mem_nil⟩
theorem pm_Dg {w : Cond} {j i : Nat} (h : (pm_Dl.getD j [])[i]? = some w) : w ∈ lw_tbl := by
  have h1 := List.mem_of_getElem? h
  by_cases e : j < pm_Dl.length
  · rw [List.getD_eq_getElem?_getD, List.getElem?_eq_getElem e, Option.getD_some] at h1
    exact pm_Dm _ (List.getElem_mem e) h1
  · rw [List.getD_eq_getElem?_getD, List.getElem?_eq_none (by omega), Option.getD_none] at h1
    exact absurd h1 List.not_mem_nil
noncomputable def pm_in (w : Cond) (i : Nat) : Bool := decide ((pm_Dl.getD (i / 32) [])[i % 32]? = some w) && goodWord w
noncomputable def pm_W : List Cond := lw_tbl.filter goodWord
theorem pm_in_ok {w : Cond} {i : Nat} (h : pm_in w i = true) : w ∈ pm_W := by
  simp only [pm_in, Bool.and_eq_true, decide_eq_true_eq] at h
  exact List.mem_filter.mpr ⟨pm_Dg h.1, h.2⟩
noncomputable abbrev pm_M : Type := MethodName × ByteArray × Nat × Option FieldType × Nat × Nat
noncomputable def pm_mt0 : List pm_M := [(yX10_init, cX10_init, 1, none, 0, 2),
  (yX9_init, cX9_init, 1, none, 0, 2),
  (yX7_init, cX7_init, 1, none, 0, 2),
  (yX2_init, cX2_init, 1, none, 0, 2),
  (yJ7_fill_53178, cJ7_fill_53178, 4, none, 2, 1),
  (yX0_init, cX0_init, 1, none, 0, 2),
  (yX1_init, cX1_init, 1, none, 0, 2),
  (yX6_init, cX6_init, 1, none, 0, 2),
  (yX8_init, cX8_init, 1, none, 0, 2),
  (yX4_init, cX4_init, 1, none, 0, 2),
  (yX3_init, cX3_init, 1, none, 0, 2),
  (yX5_init, cX5_init, 1, none, 0, 2),
  (yX10_put, cX10_put, 3, (some .int), 2, 0),
  (yX10_paint, cX10_paint, 6, (some .int), 3, 0),
  (yX7_isSpan, cX7_isSpan, 3, (some .boolean), 2, 0),
  (yX10_isColour, cX10_isColour, 1, (some .boolean), 1, 1),
  (yX9_begin, cX9_begin, 2, none, 0, 0),
  (yJ9_floorMod_7cf53, cJ9_floorMod_7cf53, 3, (some .int), 2, 1),
  (yX9_keep, cX9_keep, 4, none, 2, 0),
  (yX7_has, cX7_has, 2, (some .boolean), 1, 0),
  (yX7_bondAt, cX7_bondAt, 2, (some .int), 1, 0),
  (yX7_nameAt, cX7_nameAt, 2, (some .int), 1, 0),
  (yX9_append, cX9_append, 5, none, 3, 0),
  (yX9_keepAs, cX9_keepAs, 3, none, 2, 0),
  (yX9_finish, cX9_finish, 4, (some .int), 0, 0),
  (yX10_insert, cX10_insert, 4, (some .int), 2, 0),
  (yX7_isGap, cX7_isGap, 2, (some .boolean), 1, 0),
  (yX9_hasRoomFor, cX9_hasRoomFor, 2, (some .boolean), 1, 0),
  (yX9_add, cX9_add, 2, none, 1, 0),
  (yX10_cut, cX10_cut, 4, (some .int), 2, 0),
  (yX10_turn, cX10_turn, 5, (some .int), 2, 0),
  (yX10_shift, cX10_shift, 5, (some .int), 3, 0),
  (yX10_sort, cX10_sort, 5, (some .int), 2, 0),
  (yX9_keepThoseOf, cX9_keepThoseOf, 5, none, 3, 0),
  (yX10_swap, cX10_swap, 6, (some .int), 4, 0),
  (yX10_swapInOrder, cX10_swapInOrder, 5, (some .int), 4, 0),
  (yX10_copy, cX10_copy, 6, (some .int), 3, 0),
  (yX10_merge, cX10_merge, 5, (some .int), 2, 0),
  (yX10_areUnlikeColours, cX10_areUnlikeColours, 2, (some .boolean), 2, 1),
  (yX10_exchange, cX10_exchange, 6, (some .int), 2, 0),
  (yX10_draw, cX10_draw, 7, (some .int), 3, 0),
  (yX10_weigh, cX10_weigh, 4, (some .int), 2, 0),
  (yX10_at, cX10_at, 4, (some .int), 2, 0),
  (yX7_nextAlike, cX7_nextAlike, 3, (some .int), 1, 0),
  (yX7_tell, cX7_tell, 3, (some .int), 2, 0),
  (yX10_place, cX10_place, 2, (some .int), 1, 0),
  (yX7_placeOf, cX7_placeOf, 3, (some .int), 1, 0),
  (yX10_colour, cX10_colour, 4, (some .int), 2, 0),
  (yX7_howMany, cX7_howMany, 4, (some .int), 1, 0),
  (yX7_placeOfNth, cX7_placeOfNth, 5, (some .int), 2, 0),
  (yX7_widestGap, cX7_widestGap, 4, (some .int), 1, 0),
  (yJ9_max_7cf53, cJ9_max_7cf53, 2, (some .int), 2, 1),
  (yX10_nth, cX10_nth, 3, (some .int), 2, 0),
  (yX10_about, cX10_about, 2, (some .int), 1, 0),
  (yX10_colourNumber, cX10_colourNumber, 4, (some .int), 3, 0),
  (yX2_read, cX2_read, 5, none, 3, 0),
  (yX2_clear, cX2_clear, 1, none, 0, 0),
  (yX2_take, cX2_take, 2, none, 1, 0),
  (yX10_count, cX10_count, 3, (some .int), 2, 0),
  (yX10_readSpan, cX10_readSpan, 3, (some .boolean), 2, 0)]
noncomputable def pm_mt1 : List pm_M := [(yX10_weight, cX10_weight, 3, (some .int), 2, 0),
  (yX10_set, cX10_set, 3, (some .int), 2, 0),
  (yX10_times, cX10_times, 4, (some .int), 3, 0),
  (yX10_often, cX10_often, 4, (some .int), 3, 0),
  (yX2_kindsFrom, cX2_kindsFrom, 4, (some .int), 1, 0),
  (yX10_report, cX10_report, 7, (some .int), 4, 0),
  (yX0_reported, cX0_reported, 8, (some .int), 4, 0),
  (yX10_kth, cX10_kth, 5, (some .int), 4, 0),
  (yX0_colourInOrder, cX0_colourInOrder, 7, (some .int), 6, 0),
  (yX0_listAsMet, cX0_listAsMet, 9, none, 4, 0),
  (yJ9_abs_0f7a4, cJ9_abs_0f7a4, 1, (some .int), 1, 1),
  (yX0_colourOf, cX0_colourOf, 5, (some .int), 2, 0),
  (yX0_listByMost, cX0_listByMost, 5, none, 2, 0),
  (yX10_absent, cX10_absent, 4, (some .int), 3, 0),
  (yX10_both, cX10_both, 8, (some .int), 5, 0),
  (yJ6_bitCount_0f7a4, cJ6_bitCount_0f7a4, 1, (some .int), 1, 1),
  (yX10_tally, cX10_tally, 4, (some .int), 3, 0),
  (yX2_kindsOfJust, cX2_kindsOfJust, 4, (some .int), 1, 0),
  (yX10_major, cX10_major, 3, (some .int), 2, 0),
  (yX2_largerThanPart, cX2_largerThanPart, 4, (some .int), 1, 0),
  (yX10_close, cX10_close, 5, (some .int), 3, 0),
  (yX1_findNearestAlike, cX1_findNearestAlike, 5, none, 3, 0),
  (yX1_clearPair, cX1_clearPair, 1, none, 0, 0),
  (yX1_offerPair, cX1_offerPair, 3, none, 2, 0),
  (yX1_pairFound, cX1_pairFound, 2, (some .int), 1, 0),
  (yX10_sides, cX10_sides, 4, (some .int), 2, 0),
  (yX1_unlikeTwos, cX1_unlikeTwos, 8, (some .int), 3, 0),
  (yJ9_min_7cf53, cJ9_min_7cf53, 2, (some .int), 2, 1),
  (yX10_cover, cX10_cover, 4, (some .int), 2, 0),
  (yX1_coveringLength, cX1_coveringLength, 8, (some .int), 4, 0),
  (yX10_least, cX10_least, 4, (some .int), 3, 0),
  (yX2_placesOfLargest, cX2_placesOfLargest, 6, (some .int), 1, 0),
  (yX2_largestBeside, cX2_largestBeside, 5, (some .int), 1, 0),
  (yX10_fair, cX10_fair, 4, (some .int), 3, 0),
  (yX10_alike, cX10_alike, 3, (some .int), 2, 0),
  (yX2_twosAlike, cX2_twosAlike, 3, (some .int), 0, 0),
  (yX10_even, cX10_even, 4, (some .int), 2, 0),
  (yX1_evenestEnd, cX1_evenestEnd, 9, (some .int), 4, 0),
  (yX10_apart, cX10_apart, 4, (some .int), 3, 0),
  (yX1_findNearestOfTwo, cX1_findNearestOfTwo, 7, none, 3, 0),
  (yX10_reach, cX10_reach, 4, (some .int), 2, 0),
  (yX6_forColours, cX6_forColours, 6, (some .int), 4, 0),
  (yX10_reachBack, cX10_reachBack, 4, (some .int), 2, 0),
  (yX6_backForColours, cX6_backForColours, 6, (some .int), 4, 0),
  (yX10_load, cX10_load, 4, (some .int), 2, 0),
  (yX6_forMass, cX6_forMass, 6, (some .int), 4, 0),
  (yX10_window, cX10_window, 4, (some .int), 2, 0),
  (yX6_findShortestWith, cX6_findShortestWith, 5, none, 2, 0),
  (yX6_clearFound, cX6_clearFound, 1, none, 0, 0),
  (yX6_earliestLatest, cX6_earliestLatest, 5, (some .int), 2, 0),
  (yX6_endFound, cX6_endFound, 2, (some .int), 1, 0),
  (yX10_longest, cX10_longest, 3, (some .int), 2, 0),
  (yX6_findLongestOf, cX6_findLongestOf, 6, none, 3, 0),
  (yX2_drop, cX2_drop, 2, none, 1, 0),
  (yX6_offerLonger, cX6_offerLonger, 3, none, 2, 0),
  (yX10_unlike, cX10_unlike, 2, (some .int), 1, 0),
  (yX6_findLongestUnlike, cX6_findLongestUnlike, 4, none, 1, 0),
  (yX10_heaviest, cX10_heaviest, 3, (some .int), 2, 0),
  (yX6_findHeaviest, cX6_findHeaviest, 5, none, 3, 0),
  (yX10_distance, cX10_distance, 3, (some .int), 1, 0)]
noncomputable def pm_mt2 : List pm_M := [(yX10_misses, cX10_misses, 3, (some .int), 2, 0),
  (yX8_canBe, cX8_canBe, 2, (some .boolean), 2, 1),
  (yX8_goThrough, cX8_goThrough, 7, none, 4, 0),
  (yX8_findNextAlike, cX8_findNextAlike, 3, none, 1, 0),
  (yX8_oneToGo, cX8_oneToGo, 4, (some .int), 1, 0),
  (yX8_goesRather, cX8_goesRather, 4, (some .boolean), 3, 0),
  (yX10_shelf, cX10_shelf, 4, (some .int), 3, 0),
  (yX10_suffices, cX10_suffices, 4, (some .int), 2, 0),
  (yX10_just, cX10_just, 3, (some .int), 1, 0),
  (yX4_spansUpTo, cX4_spansUpTo, 7, (some .int), 3, 0),
  (yX10_all, cX10_all, 5, (some .long), 0, 0),
  (yX10_sets, cX10_sets, 2, (some .int), 1, 0),
  (yX4_unlikeSets, cX4_unlikeSets, 6, (some .int), 3, 0),
  (yX4_isAmong, cX4_isAmong, 4, (some .boolean), 2, 0),
  (yX10_match, cX10_match, 4, (some .int), 3, 0),
  (yX4_matching, cX4_matching, 7, (some .int), 4, 0),
  (yX4_areMatching, cX4_areMatching, 5, (some .boolean), 4, 1),
  (yX4_stepWithin, cX4_stepWithin, 3, (some .int), 3, 1),
  (yX10_twin, cX10_twin, 2, (some .int), 1, 0),
  (yX4_findTwin, cX4_findTwin, 3, none, 1, 0),
  (yX4_findTwinApart, cX4_findTwinApart, 6, none, 2, 0),
  (yX10_parts, cX10_parts, 3, (some .int), 2, 0),
  (yX3_greedy, cX3_greedy, 7, (some .int), 4, 0),
  (yX10_best, cX10_best, 3, (some .int), 2, 0),
  (yX3_weighUp, cX3_weighUp, 8, none, 3, 0),
  (yX3_worthOf, cX3_worthOf, 4, (some .int), 2, 0),
  (yX3_lastPlaceOf, cX3_lastPlaceOf, 7, (some .int), 4, 0),
  (yX3_shortestBestEnd, cX3_shortestBestEnd, 7, (some .int), 4, 0),
  (yX10_was, cX10_was, 5, (some .int), 3, 0),
  (yX9_behind, cX9_behind, 3, (some (.object "SpanColours$Row")), 1, 0),
  (yX10_counted, cX10_counted, 5, (some .int), 3, 0),
  (yX10_touched, cX10_touched, 3, (some .int), 1, 0),
  (yX10_since, cX10_since, 2, (some .int), 1, 0),
  (yX9_steadySince, cX9_steadySince, 6, (some .int), 1, 0),
  (yX7_hasName, cX7_hasName, 2, (some .boolean), 1, 0),
  (yX10_changed, cX10_changed, 4, (some .int), 2, 0),
  (yX9_unlikeNow, cX9_unlikeNow, 6, (some .int), 2, 0),
  (yX9_isUnlike, cX9_isUnlike, 5, (some .boolean), 4, 0),
  (yX10_ask, cX10_ask, 4, (some .int), 2, 0),
  (yX5_add, cX5_add, 5, (some .int), 3, 0),
  (yX10_askOf, cX10_askOf, 5, (some .int), 3, 0),
  (yX10_solve, cX10_solve, 5, (some .int), 0, 0),
  (yX5_answer, cX5_answer, 6, (some .boolean), 3, 0),
  (yX10_asked, cX10_asked, 3, (some .int), 2, 0),
  (yX5_tell, cX5_tell, 3, (some .int), 2, 0),
  (yX10_forget, cX10_forget, 2, (some .int), 0, 0),
  (yX11_init, cX11_init, 2, none, 0, 2),
  (yX11_put, cX11_put, 3, (some .int), 2, 0),
  (yX11_isPlace, cX11_isPlace, 2, (some .boolean), 1, 0),
  (yX11_isIn, cX11_isIn, 3, (some .boolean), 3, 1),
  (yX11_isColour, cX11_isColour, 1, (some .boolean), 1, 1),
  (yX11_recolours, cX11_recolours, 10, (some .int), 5, 0),
  (yX11_begins, cX11_begins, 2, none, 0, 0),
  (yX11_bondOf, cX11_bondOf, 2, (some .int), 1, 0),
  (yX11_ahead, cX11_ahead, 3, (some .int), 1, 0),
  (yX11_lays, cX11_lays, 3, none, 2, 0),
  (yX11_ends, cX11_ends, 3, (some .int), 0, 0),
  (yX11_isTouched, cX11_isTouched, 3, (some .boolean), 1, 0),
  (yX11_keepsRow, cX11_keepsRow, 4, none, 1, 0),
  (yX11_paint, cX11_paint, 4, (some .int), 3, 0)]
noncomputable def pm_mt3 : List pm_M := [(yX11_isSpan, cX11_isSpan, 3, (some .boolean), 2, 0),
  (yX11_merge, cX11_merge, 3, (some .int), 2, 0),
  (yX11_exchange, cX11_exchange, 3, (some .int), 2, 0),
  (yX11_insert, cX11_insert, 3, (some .int), 2, 0),
  (yX11_hasRoom, cX11_hasRoom, 2, (some .boolean), 1, 0),
  (yX11_laysFrom, cX11_laysFrom, 4, none, 2, 0),
  (yX11_laysNew, cX11_laysNew, 2, none, 1, 0),
  (yX11_cut, cX11_cut, 3, (some .int), 2, 0),
  (yX11_turn, cX11_turn, 4, (some .int), 2, 0),
  (yX11_shift, cX11_shift, 4, (some .int), 3, 0),
  (yX11_sort, cX11_sort, 5, (some .int), 2, 0),
  (yX11_swap, cX11_swap, 10, (some .int), 4, 0),
  (yX11_copy, cX11_copy, 5, (some .int), 3, 0),
  (yX11_draw, cX11_draw, 6, (some .int), 3, 0),
  (yX11_weigh, cX11_weigh, 4, (some .int), 2, 0),
  (yX11_at, cX11_at, 3, (some .int), 2, 0),
  (yX11_behind, cX11_behind, 3, (some .int), 1, 0),
  (yX11_place, cX11_place, 2, (some .int), 1, 0),
  (yX11_placeOf, cX11_placeOf, 3, (some .int), 1, 0),
  (yX11_colour, cX11_colour, 3, (some .int), 2, 0),
  (yX11_timesIn, cX11_timesIn, 6, (some .int), 3, 0),
  (yX11_first, cX11_first, 3, (some .int), 1, 0),
  (yX11_last, cX11_last, 3, (some .int), 1, 0),
  (yX11_widest, cX11_widest, 4, (some .int), 1, 0),
  (yX11_nth, cX11_nth, 5, (some .int), 2, 0),
  (yX11_about, cX11_about, 2, (some .int), 1, 0),
  (yX11_setOf, cX11_setOf, 5, (some .int), 2, 0),
  (yX11_bits, cX11_bits, 3, (some .int), 1, 1),
  (yX11_count, cX11_count, 3, (some .int), 2, 0),
  (yX11_countOf, cX11_countOf, 3, (some .int), 2, 0),
  (yX11_weight, cX11_weight, 3, (some .int), 2, 0),
  (yX11_weightOf, cX11_weightOf, 4, (some .int), 1, 0),
  (yX11_set, cX11_set, 3, (some .int), 2, 0),
  (yX11_times, cX11_times, 4, (some .int), 3, 0),
  (yX11_often, cX11_often, 6, (some .int), 3, 0),
  (yX11_tally, cX11_tally, 6, (some .int), 3, 0),
  (yX11_major, cX11_major, 4, (some .int), 2, 0),
  (yX11_report, cX11_report, 6, (some .int), 4, 0),
  (yX11_reported, cX11_reported, 9, (some .int), 3, 0),
  (yX11_reportKey, cX11_reportKey, 2, (some .int), 1, 0),
  (yX11_kth, cX11_kth, 6, (some .int), 4, 0),
  (yX11_laysOrder, cX11_laysOrder, 9, (some .int), 3, 0),
  (yX11_isAhead, cX11_isAhead, 8, (some .boolean), 5, 0),
  (yX11_absent, cX11_absent, 7, (some .int), 3, 0),
  (yX11_both, cX11_both, 8, (some .int), 5, 0),
  (yX11_close, cX11_close, 6, (some .int), 3, 0),
  (yX11_was, cX11_was, 5, (some .int), 3, 0),
  (yX11_isKnown, cX11_isKnown, 2, (some .boolean), 1, 0),
  (yX11_wasColour, cX11_wasColour, 3, (some .int), 2, 0),
  (yX11_wasName, cX11_wasName, 3, (some .int), 2, 0),
  (yX11_wasBond, cX11_wasBond, 4, (some .int), 2, 0),
  (yX11_counted, cX11_counted, 4, (some .int), 3, 0),
  (yX11_wasSet, cX11_wasSet, 6, (some .int), 3, 0),
  (yX11_touched, cX11_touched, 2, (some .int), 1, 0),
  (yX11_since, cX11_since, 5, (some .int), 1, 0),
  (yX11_hadBond, cX11_hadBond, 5, (some .boolean), 3, 0),
  (yX11_wasPlace, cX11_wasPlace, 4, (some .int), 2, 0),
  (yX11_changed, cX11_changed, 7, (some .int), 2, 0),
  (yX11_sides, cX11_sides, 5, (some .int), 2, 0),
  (yX11_isNewSide, cX11_isNewSide, 6, (some .boolean), 2, 0)]
noncomputable def pm_mt4 : List pm_M := [(yX11_cover, cX11_cover, 5, (some .int), 2, 0),
  (yX11_haveAll, cX11_haveAll, 6, (some .boolean), 4, 0),
  (yX11_least, cX11_least, 7, (some .int), 3, 0),
  (yX11_fair, cX11_fair, 6, (some .int), 3, 0),
  (yX11_alike, cX11_alike, 5, (some .int), 2, 0),
  (yX11_even, cX11_even, 8, (some .int), 2, 0),
  (yX11_apart, cX11_apart, 8, (some .int), 3, 0),
  (yX11_nextBehind, cX11_nextBehind, 4, (some .int), 2, 0),
  (yX11_reach, cX11_reach, 4, (some .int), 2, 0),
  (yX11_reachBack, cX11_reachBack, 4, (some .int), 2, 0),
  (yX11_load, cX11_load, 4, (some .int), 2, 0),
  (yX11_window, cX11_window, 9, (some .int), 2, 0),
  (yX11_longest, cX11_longest, 7, (some .int), 2, 0),
  (yX11_farthest, cX11_farthest, 5, (some .int), 2, 0),
  (yX11_unlike, cX11_unlike, 6, (some .int), 1, 0),
  (yX11_heaviest, cX11_heaviest, 7, (some .int), 2, 0),
  (yX11_distance, cX11_distance, 2, (some .int), 1, 0),
  (yX11_misses, cX11_misses, 3, (some .int), 2, 0),
  (yX11_isShelf, cX11_isShelf, 2, (some .boolean), 2, 1),
  (yX11_goOver, cX11_goOver, 6, (some .int), 3, 0),
  (yX11_goner, cX11_goner, 7, (some .int), 2, 0),
  (yX11_lastAhead, cX11_lastAhead, 4, (some .int), 2, 0),
  (yX11_shelf, cX11_shelf, 5, (some .int), 3, 0),
  (yX11_suffices, cX11_suffices, 4, (some .int), 2, 0),
  (yX11_just, cX11_just, 6, (some .int), 1, 0),
  (yX11_all, cX11_all, 6, (some .long), 0, 0),
  (yX11_sets, cX11_sets, 6, (some .int), 1, 0),
  (yX11_match, cX11_match, 7, (some .int), 3, 0),
  (yX11_layGaps, cX11_layGaps, 2, none, 0, 0),
  (yX11_matched, cX11_matched, 5, (some .int), 3, 0),
  (yX11_twin, cX11_twin, 7, (some .int), 1, 0),
  (yX11_parts, cX11_parts, 6, (some .int), 2, 0),
  (yX11_best, cX11_best, 6, (some .int), 2, 0),
  (yX11_layBest, cX11_layBest, 5, none, 1, 0),
  (yX11_layPart, cX11_layPart, 7, none, 3, 0),
  (yX11_ask, cX11_ask, 3, (some .int), 2, 0),
  (yX11_asks, cX11_asks, 4, (some .int), 3, 0),
  (yX11_askOf, cX11_askOf, 4, (some .int), 3, 0),
  (yX11_solve, cX11_solve, 7, (some .int), 0, 0),
  (yX11_placeBy, cX11_placeBy, 3, (some .int), 2, 0),
  (yX11_setBy, cX11_setBy, 4, (some .int), 3, 0),
  (yX11_asked, cX11_asked, 3, (some .int), 2, 0),
  (yX11_forget, cX11_forget, 2, (some .int), 0, 0)]
noncomputable def pm_mt : List pm_M := pm_mt0 ++ (pm_mt1 ++ (pm_mt2 ++ (pm_mt3 ++ (pm_mt4))))
noncomputable def pm_me (n : Nat) : pm_M := pm_mt.getD n (yX0_init, cX0_init, 0, none, 0, 9)
noncomputable def pm_okm (e : pm_M) (p : Nat × Nat × Nat × Nat) : Bool := (pm_in (.initialized e.1.cls) p.2.1 && (decide (e.1.cls ≠ "java/lang/invoke/MethodHandle" ∧ e.1.cls ≠ "java/lang/invoke/VarHandle" ∧ (parseMethodDescriptor e.1.desc).map (fun d => d.parameters.length) = some e.2.2.2.2.1) && (decide (e.2.2.1 ≤ 21) &&
  (match e.2.2.2.2.2 with
    | 0 => pm_in (.instanceMethod e.1) p.2.2.1 && pm_in (.selects e.1.cls e.1 e.1) p.2.2.2
    | 1 => pm_in (.static e.1) p.2.2.1
    | _ => pm_in (.instanceMethod e.1) p.2.2.1 && (decide (e.1.name = "<init>" ∧ e.2.2.2.1 = none))))))
noncomputable def pm_cw (e : pm_M) : Prop := Cond.code e.1 e.2.1 e.2.2.1 e.2.2.2.1 ∈ pm_W
noncomputable def pm_pk : List Cond → List Nat → List pm_M → Prop
  | c :: l, 0 :: ks, m :: ms => c = Cond.code m.1 m.2.1 m.2.2.1 m.2.2.2.1 ∧ pm_pk l ks ms
  | _ :: l, (k + 1) :: ks, ms => pm_pk l (k :: ks) ms
  | _, [], [] => True
  | _, _, _ => False
theorem pm_pk_ok : ∀ (l : List Cond) (ks : List Nat) (ms : List pm_M), pm_pk l ks ms → ∀ m ∈ ms, Cond.code m.1 m.2.1 m.2.2.1 m.2.2.2.1 ∈ l
  | [], ks, ms, h, m, hm => by cases ks <;> cases ms <;> simp_all [pm_pk]
  | c :: l, [], ms, h, m, hm => by cases ms <;> simp_all [pm_pk]
  | c :: l, 0 :: ks, [], h, m, hm => absurd hm List.not_mem_nil
  | c :: l, 0 :: ks, x :: ms, h, m, hm => by
    have h1 : c = Cond.code x.1 x.2.1 x.2.2.1 x.2.2.2.1 ∧ pm_pk l ks ms := h
    rcases List.mem_cons.mp hm with e | e
    · rw [e, ← h1.1]; exact List.mem_cons_self
    · exact List.mem_cons_of_mem _ (pm_pk_ok l ks ms h1.2 m e)
  | c :: l, (k + 1) :: ks, ms, h, m, hm => List.mem_cons_of_mem _ (pm_pk_ok l (k :: ks) ms h m hm)
theorem pm_gc (a : MethodName) (b : ByteArray) (c : Nat) (d : Option FieldType) : goodWord (Cond.code a b c d) = true := rfl
set_option maxRecDepth 100000 in
theorem pm_pk0 : pm_pk lw_tbl [86, 7, 6, 76, 3, 41, 15, 21, 24, 23, 17, 11, 53, 3, 3, 2, 3, 2, 3, 3, 3, 4, 3, 3, 3, 4, 3, 3, 3, 3, 4, 3, 3, 3, 4, 3, 3, 3, 2, 3, 3, 3, 3, 3, 4, 4, 3, 3, 3, 3, 3, 2, 3, 3, 3, 3, 3, 4, 3, 3] pm_mt0 := ⟨rfl, rfl, rfl, rfl, rfl, rfl, rfl, rfl, rfl, rfl, rfl, rfl, rfl, rfl, rfl, rfl, rfl, rfl, rfl, rfl, rfl, rfl, rfl, rfl, rfl, rfl, rfl, rfl, rfl, rfl, rfl, rfl, rfl, rfl, rfl, rfl, rfl, rfl, rfl, rfl, rfl, rfl, rfl, rfl, rfl, rfl, rfl, rfl, rfl, rfl, rfl, rfl, rfl, rfl, rfl, rfl, rfl, rfl, rfl, rfl, trivial⟩
set_option maxRecDepth 100000 in
theorem pm_cw0 : ∀ e ∈ pm_mt0, pm_cw e := fun e he => List.mem_filter.mpr ⟨pm_pk_ok lw_tbl [86, 7, 6, 76, 3, 41, 15, 21, 24, 23, 17, 11, 53, 3, 3, 2, 3, 2, 3, 3, 3, 4, 3, 3, 3, 4, 3, 3, 3, 3, 4, 3, 3, 3, 4, 3, 3, 3, 2, 3, 3, 3, 3, 3, 4, 4, 3, 3, 3, 3, 3, 2, 3, 3, 3, 3, 3, 4, 3, 3] pm_mt0 pm_pk0 e he, pm_gc _ _ _ _⟩
set_option maxRecDepth 100000 in
theorem pm_pk1 : pm_pk lw_tbl [590, 3, 3, 3, 3, 3, 3, 4, 3, 3, 2, 3, 3, 3, 5, 2, 6, 3, 3, 3, 3, 3, 3, 3, 3, 3, 3, 3, 4, 3, 4, 3, 3, 3, 3, 3, 3, 3, 6, 3, 3, 4, 5, 3, 3, 3, 3, 3, 3, 4, 4, 3, 3, 3, 3, 3, 3, 4, 3, 4] pm_mt1 := ⟨rfl, rfl, rfl, rfl, rfl, rfl, rfl, rfl, rfl, rfl, rfl, rfl, rfl, rfl, rfl, rfl, rfl, rfl, rfl, rfl, rfl, rfl, rfl, rfl, rfl, rfl, rfl, rfl, rfl, rfl, rfl, rfl, rfl, rfl, rfl, rfl, rfl, rfl, rfl, rfl, rfl, rfl, rfl, rfl, rfl, rfl, rfl, rfl, rfl, rfl, rfl, rfl, rfl, rfl, rfl, rfl, rfl, rfl, rfl, rfl, trivial⟩
set_option maxRecDepth 100000 in
theorem pm_cw1 : ∀ e ∈ pm_mt1, pm_cw e := fun e he => List.mem_filter.mpr ⟨pm_pk_ok lw_tbl [590, 3, 3, 3, 3, 3, 3, 4, 3, 3, 2, 3, 3, 3, 5, 2, 6, 3, 3, 3, 3, 3, 3, 3, 3, 3, 3, 3, 4, 3, 4, 3, 3, 3, 3, 3, 3, 3, 6, 3, 3, 4, 5, 3, 3, 3, 3, 3, 3, 4, 4, 3, 3, 3, 3, 3, 3, 4, 3, 4] pm_mt1 pm_pk1 e he, pm_gc _ _ _ _⟩
set_option maxRecDepth 100000 in
theorem pm_pk2 : pm_pk lw_tbl [846, 2, 3, 3, 6, 3, 4, 3, 3, 3, 6, 3, 3, 4, 3, 3, 2, 2, 3, 3, 3, 4, 3, 5, 3, 5, 3, 3, 4, 3, 3, 3, 3, 3, 5, 4, 3, 3, 4, 4, 3, 3, 3, 7, 3, 3, 4, 89, 3, 2, 2, 3, 3, 3, 3, 3, 3, 3, 3, 3] pm_mt2 := ⟨rfl, rfl, rfl, rfl, rfl, rfl, rfl, rfl, rfl, rfl, rfl, rfl, rfl, rfl, rfl, rfl, rfl, rfl, rfl, rfl, rfl, rfl, rfl, rfl, rfl, rfl, rfl, rfl, rfl, rfl, rfl, rfl, rfl, rfl, rfl, rfl, rfl, rfl, rfl, rfl, rfl, rfl, rfl, rfl, rfl, rfl, rfl, rfl, rfl, rfl, rfl, rfl, rfl, rfl, rfl, rfl, rfl, rfl, rfl, rfl, trivial⟩
set_option maxRecDepth 100000 in
theorem pm_cw2 : ∀ e ∈ pm_mt2, pm_cw e := fun e he => List.mem_filter.mpr ⟨pm_pk_ok lw_tbl [846, 2, 3, 3, 6, 3, 4, 3, 3, 3, 6, 3, 3, 4, 3, 3, 2, 2, 3, 3, 3, 4, 3, 5, 3, 5, 3, 3, 4, 3, 3, 3, 3, 3, 5, 4, 3, 3, 4, 4, 3, 3, 3, 7, 3, 3, 4, 89, 3, 2, 2, 3, 3, 3, 3, 3, 3, 3, 3, 3] pm_mt2 pm_pk2 e he, pm_gc _ _ _ _⟩
set_option maxRecDepth 100000 in
theorem pm_pk3 : pm_pk lw_tbl [1191, 3, 3, 3, 3, 3, 3, 3, 3, 3, 3, 3, 3, 3, 3, 3, 3, 3, 3, 3, 3, 3, 3, 3, 3, 3, 3, 2, 3, 3, 3, 3, 3, 3, 3, 3, 3, 3, 3, 4, 3, 3, 3, 3, 3, 3, 3, 3, 3, 3, 3, 3, 3, 3, 3, 4, 3, 3, 3, 3] pm_mt3 := ⟨rfl, rfl, rfl, rfl, rfl, rfl, rfl, rfl, rfl, rfl, rfl, rfl, rfl, rfl, rfl, rfl, rfl, rfl, rfl, rfl, rfl, rfl, rfl, rfl, rfl, rfl, rfl, rfl, rfl, rfl, rfl, rfl, rfl, rfl, rfl, rfl, rfl, rfl, rfl, rfl, rfl, rfl, rfl, rfl, rfl, rfl, rfl, rfl, rfl, rfl, rfl, rfl, rfl, rfl, rfl, rfl, rfl, rfl, rfl, rfl, trivial⟩
set_option maxRecDepth 100000 in
theorem pm_cw3 : ∀ e ∈ pm_mt3, pm_cw e := fun e he => List.mem_filter.mpr ⟨pm_pk_ok lw_tbl [1191, 3, 3, 3, 3, 3, 3, 3, 3, 3, 3, 3, 3, 3, 3, 3, 3, 3, 3, 3, 3, 3, 3, 3, 3, 3, 3, 2, 3, 3, 3, 3, 3, 3, 3, 3, 3, 3, 3, 4, 3, 3, 3, 3, 3, 3, 3, 3, 3, 3, 3, 3, 3, 3, 3, 4, 3, 3, 3, 3] pm_mt3 pm_pk3 e he, pm_gc _ _ _ _⟩
set_option maxRecDepth 100000 in
theorem pm_pk4 : pm_pk lw_tbl [1432, 3, 3, 3, 3, 3, 4, 3, 3, 3, 3, 3, 4, 3, 3, 3, 3, 3, 2, 3, 3, 3, 3, 3, 3, 3, 3, 3, 3, 3, 3, 3, 3, 3, 3, 3, 3, 3, 3, 3, 3, 3, 3] pm_mt4 := ⟨rfl, rfl, rfl, rfl, rfl, rfl, rfl, rfl, rfl, rfl, rfl, rfl, rfl, rfl, rfl, rfl, rfl, rfl, rfl, rfl, rfl, rfl, rfl, rfl, rfl, rfl, rfl, rfl, rfl, rfl, rfl, rfl, rfl, rfl, rfl, rfl, rfl, rfl, rfl, rfl, rfl, rfl, rfl, trivial⟩
set_option maxRecDepth 100000 in
theorem pm_cw4 : ∀ e ∈ pm_mt4, pm_cw e := fun e he => List.mem_filter.mpr ⟨pm_pk_ok lw_tbl [1432, 3, 3, 3, 3, 3, 4, 3, 3, 3, 3, 3, 4, 3, 3, 3, 3, 3, 2, 3, 3, 3, 3, 3, 3, 3, 3, 3, 3, 3, 3, 3, 3, 3, 3, 3, 3, 3, 3, 3, 3, 3, 3] pm_mt4 pm_pk4 e he, pm_gc _ _ _ _⟩
noncomputable def pm_dsl : List (String × Nat) := [("()V", 0), ("([II)V", 2), ("(II)I", 2), ("(III)I", 3), ("(II)Z", 2), ("(I)Z", 1), ("(II)V", 2), ("(I)I", 1), ("(III)V", 3), ("()I", 0), ("(I)V", 1), ("(IIII)I", 4), ("(LSpanColours$Row;II)I", 3), ("(LSpanColours$Row;II)V", 3), ("(LSpanColours$Row;III)I", 4), ("(LSpanColours$Row;LSpanColours$Palette;IIII)I", 6), ("(LSpanColours$Row;III)V", 4), ("(LSpanColours$Palette;[I)V", 2), ("(IIIII)I", 5), ("(LSpanColours$Row;LSpanColours$Palette;II)I", 4), ("(LSpanColours$Row;I)V", 2), ("(LSpanColours$Row;LSpanColours$Palette;I)V", 3), ("(LSpanColours$Row;)V", 1), ("(III)Z", 3), ("(LSpanColours$Row;LSpanColours$Palette;I)I", 3), ("()J", 0), ("(LSpanColours$Row;III)Z", 4), ("(I)LSpanColours$Row;", 1), ("(LSpanColours$Row;I)I", 2), ("(ILSpanColours$Row;LSpanColours$Palette;)Z", 3), ("(IIIIZ)I", 5), ("(IIIII)Z", 5), ("(IIII)Z", 4)]
set_option maxRecDepth 100000 in
theorem pm_dsl_ok : pm_dsl.all (fun q => decide ((parseMethodDescriptor q.1).map (fun d => d.parameters.length) = some q.2)) = true := by decide +kernel
noncomputable def pm_okn (e : pm_M) (p : Nat × Nat × Nat × Nat) (j : Nat) : Bool := (pm_in (.initialized e.1.cls) p.2.1 && (decide (e.1.cls ≠ "java/lang/invoke/MethodHandle" ∧ e.1.cls ≠ "java/lang/invoke/VarHandle" ∧ pm_dsl[j]? = some (e.1.desc, e.2.2.2.2.1)) && (decide (e.2.2.1 ≤ 21) &&
  (match e.2.2.2.2.2 with
    | 0 => pm_in (.instanceMethod e.1) p.2.2.1 && pm_in (.selects e.1.cls e.1 e.1) p.2.2.2
    | 1 => pm_in (.static e.1) p.2.2.1
    | _ => pm_in (.instanceMethod e.1) p.2.2.1 && (decide (e.1.name = "<init>" ∧ e.2.2.2.1 = none))))))
theorem pm_okn_ok {e : pm_M} {p : Nat × Nat × Nat × Nat} {j : Nat} (h : pm_okn e p j = true) : pm_okm e p = true := by
  unfold pm_okn at h
  unfold pm_okm
  have h1 := Bool.and_eq_true_iff.mp h
  have h2 := Bool.and_eq_true_iff.mp h1.2
  have h3 := of_decide_eq_true h2.1
  have h4 := List.all_eq_true.mp pm_dsl_ok _ (List.mem_of_getElem? h3.2.2)
  exact Bool.and_eq_true_iff.mpr ⟨h1.1, Bool.and_eq_true_iff.mpr ⟨decide_eq_true ⟨h3.1, h3.2.1, of_decide_eq_true h4⟩, h2.2⟩⟩
noncomputable def pm_okml (l : List pm_M) (ps : List ((Nat × Nat × Nat × Nat) × Nat)) : Bool := (l.zip ps).all (fun q => pm_okn q.1 q.2.1 q.2.2) && decide (l.length = ps.length)
set_option maxRecDepth 100000 in
theorem pm_mt0_ok : pm_okml pm_mt0 [((86, 67, 85, 0), 0), ((94, 68, 93, 0), 0), ((101, 69, 100, 0), 0), ((178, 70, 177, 0), 0), ((182, 71, 181, 0), 1), ((224, 72, 223, 0), 0), ((240, 73, 239, 0), 0), ((262, 74, 261, 0), 0), ((287, 75, 286, 0), 0), ((311, 76, 310, 0), 0), ((329, 77, 328, 0), 0), ((341, 78, 340, 0), 0), ((395, 67, 393, 394), 2), ((399, 67, 397, 398), 3), ((403, 69, 401, 402), 4), ((406, 67, 405, 0), 5), ((410, 68, 408, 409), 0), ((413, 80, 412, 0), 2), ((417, 68, 415, 416), 6), ((421, 69, 419, 420), 5), ((425, 69, 423, 424), 7), ((430, 69, 428, 429), 7), ((434, 68, 433, 0), 8), ((438, 68, 436, 437), 6), ((442, 68, 440, 441), 9), ((447, 67, 445, 446), 2), ((451, 69, 449, 450), 5), ((455, 68, 453, 454), 5), ((459, 68, 457, 458), 10), ((463, 67, 461, 462), 2), ((468, 67, 466, 467), 2), ((472, 67, 470, 471), 3), ((476, 67, 474, 475), 2), ((480, 68, 478, 479), 8), ((485, 67, 483, 484), 11), ((489, 67, 488, 1), 11), ((493, 67, 491, 492), 3), ((497, 67, 495, 496), 2), ((500, 67, 499, 0), 4), ((504, 67, 502, 503), 2), ((508, 67, 506, 507), 3), ((512, 67, 510, 511), 2), ((516, 67, 514, 515), 2), ((520, 69, 518, 519), 7), ((525, 69, 523, 524), 2), ((530, 67, 528, 529), 7), ((534, 69, 532, 533), 7), ((538, 67, 536, 537), 2), ((542, 69, 540, 541), 7), ((546, 69, 544, 545), 2), ((550, 69, 548, 549), 7), ((553, 80, 552, 0), 2), ((557, 67, 555, 556), 2), ((561, 67, 559, 560), 7), ((565, 67, 564, 2), 12), ((569, 70, 567, 568), 13), ((573, 70, 571, 572), 0), ((578, 70, 576, 577), 10), ((582, 67, 580, 581), 2), ((586, 67, 585, 3), 4)] = true := by decide +kernel
set_option maxRecDepth 100000 in
theorem pm_mt1_ok : pm_okml pm_mt1 [((590, 67, 588, 589), 2), ((594, 67, 592, 593), 2), ((598, 67, 596, 597), 3), ((602, 67, 600, 601), 3), ((606, 70, 604, 605), 7), ((610, 67, 608, 609), 11), ((614, 72, 612, 613), 14), ((619, 67, 617, 618), 11), ((623, 72, 621, 622), 15), ((627, 72, 626, 4), 16), ((630, 80, 629, 0), 7), ((634, 72, 632, 633), 2), ((638, 72, 637, 5), 17), ((642, 67, 640, 641), 3), ((648, 67, 646, 647), 18), ((651, 81, 650, 0), 7), ((658, 67, 656, 657), 3), ((662, 70, 660, 661), 7), ((666, 67, 664, 665), 2), ((670, 70, 668, 669), 7), ((674, 67, 672, 673), 3), ((678, 73, 676, 677), 13), ((682, 73, 681, 6), 0), ((686, 73, 685, 7), 6), ((690, 73, 688, 689), 7), ((694, 67, 692, 693), 2), ((698, 73, 696, 697), 12), ((702, 80, 701, 0), 2), ((707, 67, 705, 706), 2), ((711, 73, 709, 710), 19), ((716, 67, 714, 715), 3), ((720, 70, 718, 719), 7), ((724, 70, 723, 8), 7), ((728, 67, 726, 727), 3), ((732, 67, 730, 731), 2), ((736, 70, 734, 735), 9), ((740, 67, 738, 739), 2), ((744, 73, 742, 743), 19), ((751, 67, 749, 750), 3), ((755, 73, 753, 754), 13), ((759, 67, 757, 758), 2), ((764, 74, 762, 763), 19), ((770, 67, 768, 769), 2), ((774, 74, 772, 773), 19), ((778, 67, 776, 777), 2), ((782, 74, 780, 781), 19), ((786, 67, 784, 785), 2), ((790, 74, 788, 789), 20), ((794, 74, 793, 9), 0), ((799, 74, 798, 10), 2), ((804, 74, 802, 803), 7), ((808, 67, 806, 807), 2), ((812, 74, 810, 811), 21), ((816, 70, 814, 815), 10), ((820, 74, 819, 11), 6), ((824, 67, 822, 823), 7), ((828, 74, 826, 827), 22), ((833, 67, 831, 832), 2), ((837, 74, 835, 836), 21), ((842, 67, 840, 841), 7)] = true := by decide +kernel
set_option maxRecDepth 100000 in
theorem pm_mt2_ok : pm_okml pm_mt2 [((846, 67, 844, 845), 2), ((849, 75, 848, 0), 4), ((853, 75, 851, 852), 16), ((857, 75, 856, 12), 22), ((864, 75, 863, 13), 7), ((868, 75, 867, 14), 23), ((873, 67, 871, 872), 3), ((877, 67, 875, 876), 2), ((881, 67, 879, 880), 7), ((885, 76, 883, 884), 24), ((892, 67, 890, 891), 25), ((896, 67, 894, 895), 7), ((900, 76, 898, 899), 24), ((905, 76, 904, 15), 4), ((909, 67, 907, 908), 3), ((913, 76, 911, 912), 14), ((916, 76, 915, 0), 26), ((919, 76, 918, 0), 12), ((923, 67, 921, 922), 7), ((927, 76, 925, 926), 22), ((931, 76, 930, 16), 20), ((936, 67, 934, 935), 2), ((940, 77, 938, 939), 19), ((946, 67, 944, 945), 2), ((950, 77, 948, 949), 21), ((956, 77, 954, 955), 2), ((960, 77, 958, 959), 19), ((964, 77, 963, 17), 19), ((969, 67, 967, 968), 3), ((973, 68, 971, 972), 27), ((977, 67, 975, 976), 3), ((981, 67, 979, 980), 7), ((985, 67, 983, 984), 7), ((989, 68, 987, 988), 7), ((995, 69, 993, 994), 5), ((1000, 67, 998, 999), 2), ((1004, 68, 1002, 1003), 28), ((1008, 68, 1007, 18), 26), ((1013, 67, 1011, 1012), 2), ((1018, 78, 1016, 1017), 3), ((1022, 67, 1020, 1021), 3), ((1026, 67, 1024, 1025), 9), ((1030, 78, 1028, 1029), 29), ((1038, 67, 1036, 1037), 2), ((1042, 78, 1040, 1041), 2), ((1046, 67, 1044, 1045), 9), ((1051, 79, 1050, 0), 0), ((1141, 79, 1139, 1140), 2), ((1145, 79, 1144, 19), 5), ((1148, 79, 1147, 0), 23), ((1151, 79, 1150, 0), 5), ((1155, 79, 1154, 20), 30), ((1159, 79, 1158, 21), 0), ((1163, 79, 1162, 22), 7), ((1167, 79, 1166, 23), 7), ((1171, 79, 1170, 24), 6), ((1175, 79, 1174, 25), 9), ((1179, 79, 1178, 26), 5), ((1183, 79, 1182, 27), 10), ((1187, 79, 1185, 1186), 3)] = true := by decide +kernel
set_option maxRecDepth 100000 in
theorem pm_mt3_ok : pm_okml pm_mt3 [((1191, 79, 1190, 28), 4), ((1195, 79, 1193, 1194), 2), ((1199, 79, 1197, 1198), 2), ((1203, 79, 1201, 1202), 2), ((1207, 79, 1206, 29), 5), ((1211, 79, 1210, 30), 6), ((1215, 79, 1214, 31), 10), ((1219, 79, 1217, 1218), 2), ((1223, 79, 1221, 1222), 2), ((1227, 79, 1225, 1226), 3), ((1231, 79, 1229, 1230), 2), ((1235, 79, 1233, 1234), 11), ((1239, 79, 1237, 1238), 3), ((1243, 79, 1241, 1242), 3), ((1247, 79, 1245, 1246), 2), ((1251, 79, 1249, 1250), 2), ((1255, 79, 1254, 32), 7), ((1259, 79, 1257, 1258), 7), ((1263, 79, 1262, 33), 7), ((1267, 79, 1265, 1266), 2), ((1271, 79, 1270, 34), 3), ((1275, 79, 1274, 35), 7), ((1279, 79, 1278, 36), 7), ((1283, 79, 1282, 37), 7), ((1287, 79, 1285, 1286), 2), ((1291, 79, 1289, 1290), 7), ((1295, 79, 1294, 38), 2), ((1298, 79, 1297, 0), 7), ((1302, 79, 1300, 1301), 2), ((1306, 79, 1305, 39), 2), ((1310, 79, 1308, 1309), 2), ((1314, 79, 1313, 40), 7), ((1318, 79, 1316, 1317), 2), ((1322, 79, 1320, 1321), 3), ((1326, 79, 1324, 1325), 3), ((1330, 79, 1328, 1329), 3), ((1334, 79, 1332, 1333), 2), ((1338, 79, 1336, 1337), 11), ((1342, 79, 1341, 41), 3), ((1347, 79, 1346, 42), 7), ((1351, 79, 1349, 1350), 11), ((1355, 79, 1354, 43), 3), ((1359, 79, 1358, 44), 31), ((1363, 79, 1361, 1362), 3), ((1367, 79, 1365, 1366), 18), ((1371, 79, 1369, 1370), 3), ((1375, 79, 1373, 1374), 3), ((1379, 79, 1378, 45), 5), ((1383, 79, 1382, 46), 2), ((1387, 79, 1386, 47), 2), ((1391, 79, 1390, 48), 2), ((1395, 79, 1393, 1394), 3), ((1399, 79, 1398, 49), 3), ((1403, 79, 1401, 1402), 7), ((1407, 79, 1405, 1406), 7), ((1412, 79, 1411, 50), 23), ((1416, 79, 1415, 51), 2), ((1420, 79, 1418, 1419), 2), ((1424, 79, 1422, 1423), 2), ((1428, 79, 1427, 52), 4)] = true := by decide +kernel
set_option maxRecDepth 100000 in
theorem pm_mt4_ok : pm_okml pm_mt4 [((1432, 79, 1430, 1431), 2), ((1436, 79, 1435, 53), 32), ((1440, 79, 1438, 1439), 3), ((1444, 79, 1442, 1443), 3), ((1448, 79, 1446, 1447), 2), ((1452, 79, 1450, 1451), 2), ((1457, 79, 1455, 1456), 3), ((1461, 79, 1460, 54), 2), ((1465, 79, 1463, 1464), 2), ((1469, 79, 1467, 1468), 2), ((1473, 79, 1471, 1472), 2), ((1477, 79, 1475, 1476), 2), ((1482, 79, 1480, 1481), 2), ((1486, 79, 1485, 55), 2), ((1490, 79, 1488, 1489), 7), ((1494, 79, 1492, 1493), 2), ((1498, 79, 1496, 1497), 7), ((1502, 79, 1500, 1501), 2), ((1505, 79, 1504, 0), 4), ((1509, 79, 1508, 56), 3), ((1513, 79, 1512, 57), 2), ((1517, 79, 1516, 58), 2), ((1521, 79, 1519, 1520), 3), ((1525, 79, 1523, 1524), 2), ((1529, 79, 1527, 1528), 7), ((1533, 79, 1531, 1532), 25), ((1537, 79, 1535, 1536), 7), ((1541, 79, 1539, 1540), 3), ((1545, 79, 1544, 59), 0), ((1549, 79, 1548, 60), 3), ((1553, 79, 1551, 1552), 7), ((1557, 79, 1555, 1556), 2), ((1561, 79, 1559, 1560), 2), ((1565, 79, 1564, 61), 10), ((1569, 79, 1568, 62), 8), ((1573, 79, 1571, 1572), 2), ((1577, 79, 1576, 63), 3), ((1581, 79, 1579, 1580), 3), ((1585, 79, 1583, 1584), 9), ((1589, 79, 1588, 64), 2), ((1593, 79, 1592, 65), 3), ((1597, 79, 1595, 1596), 2), ((1601, 79, 1599, 1600), 9)] = true := by decide +kernel
theorem pm_okml_mem {l : List pm_M} {ps : List ((Nat × Nat × Nat × Nat) × Nat)} (h : pm_okml l ps = true) : ∀ e ∈ l, ∃ p, pm_okm e p = true := by
  simp only [pm_okml, Bool.and_eq_true, List.all_eq_true, decide_eq_true_eq] at h
  intro e he
  obtain ⟨i, hi⟩ := List.getElem?_of_mem he
  have hl : i < l.length := (List.getElem?_eq_some_iff.mp hi).1
  have hp : i < ps.length := by omega
  refine ⟨ps[i].1, pm_okn_ok (h.1 (e, ps[i]) ?_)⟩
  refine List.mem_of_getElem? (i := i) ?_
  rw [List.getElem?_zip_eq_some]
  exact ⟨hi, List.getElem?_eq_getElem hp⟩
theorem pm_c60 {α : Type} : ∀ (L : List (List α)) (n : Nat) (e : α), L.dropLast.all (fun l => Nat.beq l.length 60) = true → (L.getD (n / 60) [])[n % 60]? = some e → L.flatten[n]? = some e
  | [], n, e, _, h => by
    rw [List.getD_nil, List.getElem?_nil] at h
    cases h
  | l :: r, n, e, hL, h => by
    rw [List.flatten_cons]
    by_cases hn : n < 60
    · rw [show n / 60 = 0 by omega, List.getD_cons_zero, show n % 60 = n by omega] at h
      rw [List.getElem?_append_left (List.getElem?_eq_some_iff.mp h).1]
      exact h
    · obtain ⟨m, rfl⟩ : ∃ m, n = 60 + m := ⟨n - 60, by omega⟩
      rw [show (60 + m) / 60 = m / 60 + 1 by omega, List.getD_cons_succ, show (60 + m) % 60 = m % 60 by omega] at h
      cases r with
      | nil =>
        rw [List.getD_nil, List.getElem?_nil] at h
        cases h
      | cons a r =>
        rw [List.dropLast_cons_of_ne_nil (by simp), List.all_cons, Bool.and_eq_true] at hL
        have hl : l.length = 60 := Nat.eq_of_beq_eq_true hL.1
        rw [List.getElem?_append_right (by omega), show 60 + m - l.length = m by omega]
        exact pm_c60 (a :: r) m e hL.2 h
noncomputable def pm_mtl : List (List pm_M) := [pm_mt0, pm_mt1, pm_mt2, pm_mt3, pm_mt4]
theorem pm_mtl_f : pm_mtl.flatten = pm_mt := by
  simp only [pm_mtl, pm_mt, List.flatten_cons, List.flatten_nil, List.append_nil]
set_option maxRecDepth 100000 in
theorem pm_mtl_l : pm_mtl.dropLast.all (fun l => Nat.beq l.length 60) = true := by decide +kernel
noncomputable def pm_mq (n : Nat) : Option pm_M := (pm_mtl.getD (n / 60) [])[n % 60]?
theorem pm_mq_ok {n : Nat} {e : pm_M} (h : pm_mq n = some e) : pm_me n = e := by
  have h1 := pm_c60 pm_mtl n e pm_mtl_l h
  rw [pm_mtl_f] at h1
  unfold pm_me
  rw [List.getD_eq_getElem?_getD, h1]
  rfl
set_option maxRecDepth 100000 in
theorem pm_cw_ok : ∀ e ∈ pm_mt, pm_cw e := by
  intro e he
  simp only [pm_mt, List.mem_append] at he
  rcases he with h | h | h | h | h
  · exact pm_cw0 e h
  · exact pm_cw1 e h
  · exact pm_cw2 e h
  · exact pm_cw3 e h
  · exact pm_cw4 e h
set_option maxRecDepth 100000 in
theorem pm_mt_ok : ∀ e ∈ pm_mt, ∃ p, pm_okm e p = true := by
  intro e he
  simp only [pm_mt, List.mem_append] at he
  rcases he with h | h | h | h | h
  · exact pm_okml_mem pm_mt0_ok e h
  · exact pm_okml_mem pm_mt1_ok e h
  · exact pm_okml_mem pm_mt2_ok e h
  · exact pm_okml_mem pm_mt3_ok e h
  · exact pm_okml_mem pm_mt4_ok e h
noncomputable def pm_fl : List (Nat × Nat × Nat × Nat) := [(0, 9, 0, 0), (0, 15, 0, 1), (0, 24, 7, 2), (0, 33, 2, 4), (0, 43, 2, 1), (0, 50, 2, 0), (0, 53, 0, 2), (0, 62, 7, 0), (1, 9, 1, 0), (1, 15, 1, 1), (1, 18, 1, 2), (1, 21, 1, 3), (1, 25, 1, 4), (1, 31, 7, 2), (1, 40, 7, 3), (1, 43, 7, 0), (1, 67, 2, 0), (1, 77, 2, 3), (2, 9, 2, 0), (2, 15, 2, 1), (2, 24, 2, 2), (2, 28, 2, 3), (2, 31, 2, 4), (2, 34, 2, 5), (2, 46, 7, 0), (3, 11, 3, 0), (3, 21, 7, 3), (3, 27, 7, 0), (3, 35, 2, 3), (4, 9, 4, 0), (4, 20, 7, 3), (4, 26, 7, 0), (4, 33, 2, 3), (4, 43, 2, 4), (4, 50, 7, 2), (4, 61, 4, 1), (4, 64, 4, 2), (5, 9, 5, 0), (5, 15, 5, 1), (5, 18, 5, 2), (5, 21, 5, 3), (5, 24, 5, 4), (5, 27, 5, 5), (5, 52, 2, 3), (5, 54, 2, 5), (6, 9, 6, 0), (6, 15, 6, 1), (6, 19, 6, 2), (6, 27, 7, 3), (6, 32, 7, 0), (6, 39, 2, 3), (6, 42, 2, 5), (6, 48, 6, 4), (6, 73, 7, 2), (6, 83, 6, 3), (7, 9, 7, 0), (7, 15, 7, 1), (7, 18, 7, 2), (7, 21, 7, 3), (8, 9, 8, 0), (8, 15, 8, 1), (8, 18, 8, 2), (8, 25, 8, 3), (8, 29, 8, 4), (8, 38, 7, 0), (8, 56, 7, 3), (8, 59, 7, 2), (9, 11, 9, 0), (9, 17, 9, 1), (9, 21, 9, 2), (9, 25, 9, 4), (9, 29, 9, 3), (9, 32, 9, 5), (9, 36, 7, 3), (9, 39, 9, 6), (9, 52, 7, 0), (9, 55, 7, 1), (9, 76, 7, 2), (9, 79, 7, 4), (9, 82, 9, 7), (10, 12, 10, 0), (10, 19, 10, 1), (10, 26, 10, 2), (10, 33, 10, 3), (10, 40, 10, 4), (10, 47, 10, 5), (10, 54, 10, 6), (10, 61, 10, 7), (10, 68, 10, 8), (10, 80, 9, 4), (10, 103, 7, 3), (10, 126, 7, 0), (10, 133, 2, 1), (10, 163, 9, 6), (10, 166, 9, 5), (10, 169, 9, 7), (10, 172, 5, 5), (10, 179, 2, 3), (10, 185, 2, 5), (10, 188, 2, 4), (10, 191, 2, 0), (10, 233, 2, 2), (10, 264, 6, 4), (10, 281, 6, 1), (10, 284, 6, 3), (10, 287, 7, 2), (10, 297, 8, 3), (10, 300, 8, 4), (10, 314, 4, 2), (10, 317, 4, 1), (10, 336, 7, 4), (10, 351, 5, 4), (11, 7, 11, 0), (11, 13, 11, 1), (11, 16, 11, 2), (11, 19, 11, 3), (11, 22, 11, 4), (11, 25, 11, 5), (11, 28, 11, 6), (11, 31, 11, 13), (11, 34, 11, 14), (11, 37, 11, 15), (11, 40, 11, 16), (11, 43, 11, 18), (11, 46, 11, 19), (11, 49, 11, 20), (11, 52, 11, 21), (11, 55, 11, 22), (11, 58, 11, 23), (11, 61, 11, 25), (11, 64, 11, 26), (11, 67, 11, 27), (11, 70, 11, 7), (11, 82, 11, 8), (11, 88, 11, 9), (11, 95, 11, 10), (11, 102, 11, 11), (11, 105, 11, 12), (11, 168, 11, 17), (11, 230, 11, 24)]
noncomputable def pm_cT (ci : Nat) : vw_C := vwCl.getD ci (RX0, TX0, 0)
noncomputable def pm_flw (q : Nat × Nat × Nat × Nat) : Cond := .fieldLink (pm_nm q.1) q.2.1 ((pm_cT q.2.2.1).2.1 q.2.2.2).1 ((pm_cT q.2.2.1).2.1 q.2.2.2).2.1 ((pm_cT q.2.2.1).2.1 q.2.2.2).2.2.1
theorem pm_zip {α : Type} {f : α → Nat → Bool} {l : List α} {ps : List Nat} (h : ((l.zip ps).all (fun q => f q.1 q.2) && decide (l.length = ps.length)) = true) : ∀ e ∈ l, ∃ p, f e p = true := by
  simp only [Bool.and_eq_true, List.all_eq_true, decide_eq_true_eq] at h
  intro e he
  obtain ⟨i, hi⟩ := List.getElem?_of_mem he
  have hl : i < l.length := (List.getElem?_eq_some_iff.mp hi).1
  have hp : i < ps.length := by omega
  refine ⟨ps[i], h.1 (e, ps[i]) ?_⟩
  refine List.mem_of_getElem? (i := i) ?_
  rw [List.getElem?_zip_eq_some]
  exact ⟨hi, List.getElem?_eq_getElem hp⟩
set_option maxRecDepth 100000 in
theorem pm_fl_k : ((pm_fl.zip [226, 227, 116, 201, 188, 184, 228, 110, 242, 243, 244, 245, 246, 119, 130, 111, 185, 197, 183, 187, 190, 192, 199, 203, 109, 333, 124, 104, 193, 313, 125, 105, 194, 200, 118, 314, 316, 343, 344, 345, 346, 347, 349, 195, 204, 264, 265, 267, 128, 107, 196, 205, 270, 121, 268, 103, 113, 115, 123, 289, 290, 291, 292, 294, 106, 127, 117, 145, 146, 147, 149, 148, 151, 126, 153, 108, 114, 120, 131, 155, 364, 365, 366, 367, 368, 369, 370, 371, 372, 150, 129, 112, 189, 154, 152, 156, 350, 198, 206, 202, 186, 191, 271, 266, 269, 122, 293, 295, 317, 315, 132, 348, 1053, 1054, 1055, 1056, 1057, 1058, 1059, 1066, 1067, 1068, 1069, 1071, 1072, 1073, 1074, 1075, 1076, 1078, 1079, 1080, 1060, 1061, 1062, 1063, 1064, 1065, 1070, 1077]).all (fun q => pm_in (pm_flw q.1) q.2 && decide (q.1.2.2.1 < 12 ∧ q.1.2.2.2 < (pm_cT q.1.2.2.1).2.2)) && decide (pm_fl.length = 140)) = true := by decide +kernel
set_option maxRecDepth 100000 in
theorem pm_fl_ok : ∀ q ∈ pm_fl, pm_flw q ∈ pm_W ∧ q.2.2.1 < 12 ∧ q.2.2.2 < (pm_cT q.2.2.1).2.2 := by
  intro q hq
  obtain ⟨p, hp⟩ := pm_zip (f := fun (q : Nat × Nat × Nat × Nat) (i : Nat) => pm_in (pm_flw q) i && decide (q.2.2.1 < 12 ∧ q.2.2.2 < (pm_cT q.2.2.1).2.2)) pm_fl_k q hq
  simp only [Bool.and_eq_true, decide_eq_true_eq] at hp
  exact ⟨pm_in_ok hp.1, hp.2⟩
noncomputable def pm_ml : List (Nat × Nat × Nat) := [(0, 18, 4), (0, 29, 69), (0, 39, 71), (0, 46, 72), (0, 56, 70), (1, 28, 82), (1, 36, 83), (1, 46, 4), (1, 52, 87), (1, 58, 51), (1, 61, 55), (1, 70, 56), (1, 73, 57), (1, 80, 70), (2, 18, 4), (2, 37, 56), (2, 40, 19), (2, 49, 57), (2, 53, 92), (3, 16, 56), (3, 31, 57), (3, 38, 4), (3, 44, 51), (3, 50, 147), (3, 54, 145), (4, 15, 56), (4, 29, 57), (4, 36, 113), (4, 39, 55), (4, 46, 133), (4, 53, 136), (4, 57, 137), (4, 67, 140), (4, 71, 51), (5, 31, 46), (5, 37, 87), (5, 43, 51), (5, 46, 55), (6, 22, 56), (6, 35, 57), (6, 45, 108), (6, 51, 4), (6, 57, 109), (6, 61, 87), (6, 66, 113), (6, 69, 114), (6, 76, 51), (6, 79, 55), (7, 25, 19), (7, 29, 21), (7, 33, 20), (7, 36, 46), (7, 39, 51), (8, 21, 123), (8, 32, 19), (8, 41, 75), (8, 47, 124), (8, 50, 4), (8, 62, 125), (8, 66, 51), (9, 42, 17), (9, 48, 19), (9, 58, 20), (9, 62, 22), (9, 66, 23), (9, 70, 4), (9, 85, 46), (9, 88, 149), (9, 92, 154), (9, 95, 157), (9, 99, 44), (10, 11, 1), (10, 18, 3), (10, 72, 15), (10, 76, 13), (10, 84, 26), (10, 89, 27), (10, 92, 16), (10, 95, 18), (10, 99, 28), (10, 107, 24), (10, 111, 14), (10, 115, 23), (10, 118, 33), (10, 122, 35), (10, 130, 38), (10, 136, 43), (10, 140, 21), (10, 143, 44), (10, 147, 46), (10, 150, 48), (10, 153, 49), (10, 156, 50), (10, 159, 54), (10, 175, 55), (10, 182, 59), (10, 194, 64), (10, 197, 66), (10, 201, 68), (10, 206, 71), (10, 209, 75), (10, 214, 77), (10, 217, 79), (10, 220, 81), (10, 223, 84), (10, 226, 86), (10, 229, 89), (10, 236, 91), (10, 239, 95), (10, 242, 97), (10, 245, 99), (10, 248, 19), (10, 251, 101), (10, 254, 103), (10, 257, 105), (10, 260, 107), (10, 267, 110), (10, 270, 112), (10, 274, 116), (10, 278, 118), (10, 290, 121), (10, 293, 122), (10, 301, 129), (10, 305, 132), (10, 308, 135), (10, 311, 139), (10, 320, 142), (10, 323, 144), (10, 326, 145), (10, 329, 146), (10, 332, 149), (10, 339, 153), (10, 342, 156), (10, 346, 154), (10, 349, 159), (10, 353, 162), (10, 357, 164), (11, 74, 169), (11, 78, 174), (11, 85, 173), (11, 91, 175), (11, 98, 177), (11, 108, 178), (11, 112, 172), (11, 115, 176), (11, 119, 168), (11, 122, 170), (11, 125, 171), (11, 129, 180), (11, 133, 184), (11, 136, 185), (11, 139, 186), (11, 142, 196), (11, 145, 198), (11, 148, 200), (11, 152, 201), (11, 155, 202), (11, 158, 203), (11, 161, 206), (11, 165, 207), (11, 171, 209), (11, 174, 211), (11, 178, 219), (11, 181, 218), (11, 184, 222), (11, 188, 221), (11, 191, 228), (11, 194, 229), (11, 197, 227), (11, 200, 230), (11, 203, 232), (11, 206, 197), (11, 209, 235), (11, 212, 236), (11, 215, 239), (11, 218, 241), (11, 223, 247), (11, 227, 253), (11, 233, 261), (11, 236, 260), (11, 239, 258), (11, 242, 259), (11, 245, 268), (11, 248, 269), (11, 251, 274), (11, 255, 273), (11, 258, 276), (11, 261, 279), (11, 264, 280), (12, 9, 0), (12, 12, 166), (12, 13, 12), (12, 17, 167), (12, 18, 25), (12, 21, 183), (12, 22, 29), (12, 25, 187), (12, 26, 13), (12, 30, 179), (12, 31, 30), (12, 34, 188), (12, 35, 31), (12, 38, 189), (12, 39, 32), (12, 42, 190), (12, 43, 34), (12, 47, 191), (12, 48, 36), (12, 51, 192), (12, 52, 37), (12, 55, 181), (12, 56, 39), (12, 59, 182), (12, 60, 40), (12, 63, 193), (12, 64, 41), (12, 67, 194), (12, 68, 42), (12, 71, 195), (12, 72, 45), (12, 76, 197), (12, 77, 47), (12, 80, 199), (12, 81, 52), (12, 84, 204), (12, 85, 53), (12, 88, 205), (12, 89, 58), (12, 92, 208), (12, 93, 60), (12, 96, 210), (12, 97, 61), (12, 100, 212), (12, 101, 62), (12, 104, 213), (12, 105, 63), (12, 108, 214), (12, 109, 65), (12, 112, 217), (12, 113, 67), (12, 116, 220), (12, 117, 73), (12, 120, 223), (12, 121, 74), (12, 125, 224), (12, 126, 76), (12, 129, 215), (12, 130, 78), (12, 133, 216), (12, 134, 80), (12, 137, 225), (12, 138, 85), (12, 141, 238), (12, 142, 88), (12, 145, 240), (12, 146, 90), (12, 149, 242), (12, 150, 93), (12, 153, 243), (12, 154, 94), (12, 157, 244), (12, 158, 96), (12, 161, 245), (12, 162, 98), (12, 165, 246), (12, 166, 100), (12, 169, 248), (12, 170, 102), (12, 173, 249), (12, 174, 104), (12, 177, 250), (12, 178, 106), (12, 181, 251), (12, 182, 111), (12, 185, 252), (12, 186, 115), (12, 189, 254), (12, 190, 117), (12, 193, 255), (12, 194, 119), (12, 197, 256), (12, 198, 120), (12, 201, 257), (12, 202, 126), (12, 205, 262), (12, 206, 127), (12, 209, 263), (12, 210, 128), (12, 213, 264), (12, 214, 130), (12, 218, 265), (12, 219, 131), (12, 222, 266), (12, 223, 134), (12, 226, 267), (12, 227, 138), (12, 230, 270), (12, 231, 141), (12, 234, 271), (12, 235, 143), (12, 238, 272), (12, 239, 148), (12, 242, 226), (12, 243, 150), (12, 246, 231), (12, 247, 151), (12, 250, 233), (12, 251, 152), (12, 254, 234), (12, 255, 155), (12, 258, 237), (12, 259, 158), (12, 262, 275), (12, 263, 160), (12, 266, 277), (12, 267, 161), (12, 271, 278), (12, 272, 163), (12, 275, 281), (12, 276, 165), (12, 279, 282)]
noncomputable def pm_mlc (q : Nat × Nat × Nat) (i : Nat) : Bool := match pm_mq q.2.2 with
  | some e => pm_in (.methodLink (pm_nm q.1) q.2.1 e.1) i && Nat.ble (q.2.2 + 1) 283
  | none => false
set_option maxRecDepth 100000 in
theorem pm_ml_k : ((pm_ml.zip [615, 624, 631, 635, 628, 679, 683, 699, 700, 703, 712, 745, 746, 747, 180, 570, 574, 575, 721, 941, 942, 951, 952, 961, 965, 886, 887, 888, 901, 902, 914, 917, 928, 932, 1031, 1032, 1033, 1034, 765, 766, 791, 795, 796, 800, 813, 817, 829, 838, 426, 427, 526, 996, 551, 854, 859, 860, 861, 858, 865, 869, 411, 418, 422, 431, 481, 443, 990, 991, 992, 1005, 1009, 92, 176, 404, 396, 448, 452, 407, 414, 456, 439, 400, 435, 477, 486, 498, 517, 521, 522, 531, 539, 543, 547, 562, 566, 583, 603, 611, 620, 644, 649, 659, 667, 675, 687, 695, 708, 717, 733, 741, 752, 760, 761, 771, 779, 787, 801, 809, 825, 834, 847, 850, 882, 897, 910, 924, 937, 947, 953, 957, 970, 986, 1001, 1014, 1015, 1027, 1039, 1146, 1164, 1160, 1168, 1176, 1180, 1156, 1172, 1142, 1149, 1152, 1188, 1204, 1208, 1212, 1252, 1260, 1268, 1272, 1276, 1280, 1292, 1296, 1303, 1311, 1344, 1339, 1356, 1352, 1380, 1384, 1376, 1388, 1396, 1408, 1409, 1413, 1425, 1433, 1458, 1483, 1514, 1510, 1503, 1506, 1542, 1546, 1566, 1562, 1574, 1586, 1590, 84, 1049, 392, 1138, 444, 1200, 460, 1216, 464, 1184, 465, 1220, 469, 1224, 473, 1228, 482, 1232, 490, 1236, 494, 1192, 501, 1196, 505, 1240, 509, 1244, 513, 1248, 527, 1256, 535, 1264, 554, 1284, 558, 1288, 579, 1299, 587, 1307, 591, 1315, 595, 1319, 599, 1323, 607, 1335, 616, 1348, 639, 1360, 645, 1364, 655, 1327, 663, 1331, 671, 1368, 691, 1421, 704, 1429, 713, 1437, 725, 1441, 729, 1445, 737, 1449, 748, 1454, 756, 1462, 767, 1466, 775, 1470, 783, 1474, 805, 1479, 821, 1487, 830, 1491, 839, 1495, 843, 1499, 870, 1518, 874, 1522, 878, 1526, 889, 1530, 893, 1534, 906, 1538, 920, 1550, 933, 1554, 943, 1558, 966, 1372, 974, 1392, 978, 1400, 982, 1404, 997, 1417, 1010, 1570, 1019, 1578, 1023, 1582, 1035, 1594, 1043, 1598]).all (fun q => pm_mlc q.1 q.2) && decide (pm_ml.length = 321)) = true := by decide +kernel
set_option maxRecDepth 100000 in
theorem pm_ml_ok : ∀ q ∈ pm_ml, Cond.methodLink (pm_nm q.1) q.2.1 (pm_me q.2.2).1 ∈ pm_W ∧ q.2.2 < 283 := by
  intro q hq
  obtain ⟨p, hp⟩ := pm_zip (f := pm_mlc) pm_ml_k q hq
  unfold pm_mlc at hp
  split at hp
  · rename_i e he
    rw [Bool.and_eq_true] at hp
    rw [pm_mq_ok he]
    exact ⟨pm_in_ok hp.1, Nat.le_of_ble_eq_true hp.2⟩
  · cases hp
set_option maxRecDepth 100000 in
theorem pm_mt_len : pm_mt.length = 283 := by decide +kernel
set_option maxRecDepth 100000 in
theorem pm_me_mem {n : Nat} (h : n < 283) : pm_me n ∈ pm_mt := by
  have h1 : n < pm_mt.length := by rw [pm_mt_len]; exact h
  have h2 : pm_me n = pm_mt[n] := by simp [pm_me, List.getD_eq_getElem?_getD, h1]
  rw [h2]
  exact List.getElem_mem h1
noncomputable def pm_flo : List (List (Nat × Nat × Nat × Nat)) := [[(0, 9, 0, 0), (0, 15, 0, 1), (0, 24, 7, 2), (0, 33, 2, 4), (0, 43, 2, 1), (0, 50, 2, 0), (0, 53, 0, 2), (0, 62, 7, 0)], [(1, 9, 1, 0), (1, 15, 1, 1), (1, 18, 1, 2), (1, 21, 1, 3), (1, 25, 1, 4), (1, 31, 7, 2), (1, 40, 7, 3), (1, 43, 7, 0), (1, 67, 2, 0), (1, 77, 2, 3)], [(2, 9, 2, 0), (2, 15, 2, 1), (2, 24, 2, 2), (2, 28, 2, 3), (2, 31, 2, 4), (2, 34, 2, 5), (2, 46, 7, 0)], [(3, 11, 3, 0), (3, 21, 7, 3), (3, 27, 7, 0), (3, 35, 2, 3)], [(4, 9, 4, 0), (4, 20, 7, 3), (4, 26, 7, 0), (4, 33, 2, 3), (4, 43, 2, 4), (4, 50, 7, 2), (4, 61, 4, 1), (4, 64, 4, 2)], [(5, 9, 5, 0), (5, 15, 5, 1), (5, 18, 5, 2), (5, 21, 5, 3), (5, 24, 5, 4), (5, 27, 5, 5), (5, 52, 2, 3), (5, 54, 2, 5)], [(6, 9, 6, 0), (6, 15, 6, 1), (6, 19, 6, 2), (6, 27, 7, 3), (6, 32, 7, 0), (6, 39, 2, 3), (6, 42, 2, 5), (6, 48, 6, 4), (6, 73, 7, 2), (6, 83, 6, 3)], [(7, 9, 7, 0), (7, 15, 7, 1), (7, 18, 7, 2), (7, 21, 7, 3)], [(8, 9, 8, 0), (8, 15, 8, 1), (8, 18, 8, 2), (8, 25, 8, 3), (8, 29, 8, 4), (8, 38, 7, 0), (8, 56, 7, 3), (8, 59, 7, 2)], [(9, 11, 9, 0), (9, 17, 9, 1), (9, 21, 9, 2), (9, 25, 9, 4), (9, 29, 9, 3), (9, 32, 9, 5), (9, 36, 7, 3), (9, 39, 9, 6), (9, 52, 7, 0), (9, 55, 7, 1), (9, 76, 7, 2), (9, 79, 7, 4), (9, 82, 9, 7)], [(10, 12, 10, 0), (10, 19, 10, 1), (10, 26, 10, 2), (10, 33, 10, 3), (10, 40, 10, 4), (10, 47, 10, 5), (10, 54, 10, 6), (10, 61, 10, 7), (10, 68, 10, 8), (10, 80, 9, 4), (10, 103, 7, 3), (10, 126, 7, 0), (10, 133, 2, 1), (10, 163, 9, 6), (10, 166, 9, 5), (10, 169, 9, 7), (10, 172, 5, 5), (10, 179, 2, 3), (10, 185, 2, 5), (10, 188, 2, 4), (10, 191, 2, 0), (10, 233, 2, 2), (10, 264, 6, 4), (10, 281, 6, 1), (10, 284, 6, 3), (10, 287, 7, 2), (10, 297, 8, 3), (10, 300, 8, 4), (10, 314, 4, 2), (10, 317, 4, 1), (10, 336, 7, 4), (10, 351, 5, 4)], [(11, 7, 11, 0), (11, 13, 11, 1), (11, 16, 11, 2), (11, 19, 11, 3), (11, 22, 11, 4), (11, 25, 11, 5), (11, 28, 11, 6), (11, 31, 11, 13), (11, 34, 11, 14), (11, 37, 11, 15), (11, 40, 11, 16), (11, 43, 11, 18), (11, 46, 11, 19), (11, 49, 11, 20), (11, 52, 11, 21), (11, 55, 11, 22), (11, 58, 11, 23), (11, 61, 11, 25), (11, 64, 11, 26), (11, 67, 11, 27), (11, 70, 11, 7), (11, 82, 11, 8), (11, 88, 11, 9), (11, 95, 11, 10), (11, 102, 11, 11), (11, 105, 11, 12), (11, 168, 11, 17), (11, 230, 11, 24)], []]
set_option maxRecDepth 100000 in
theorem pm_flo_f : pm_flo.flatten = pm_fl := rfl
noncomputable def pm_mlo : List (List (Nat × Nat × Nat)) := [[(0, 18, 4), (0, 29, 69), (0, 39, 71), (0, 46, 72), (0, 56, 70)], [(1, 28, 82), (1, 36, 83), (1, 46, 4), (1, 52, 87), (1, 58, 51), (1, 61, 55), (1, 70, 56), (1, 73, 57), (1, 80, 70)], [(2, 18, 4), (2, 37, 56), (2, 40, 19), (2, 49, 57), (2, 53, 92)], [(3, 16, 56), (3, 31, 57), (3, 38, 4), (3, 44, 51), (3, 50, 147), (3, 54, 145)], [(4, 15, 56), (4, 29, 57), (4, 36, 113), (4, 39, 55), (4, 46, 133), (4, 53, 136), (4, 57, 137), (4, 67, 140), (4, 71, 51)], [(5, 31, 46), (5, 37, 87), (5, 43, 51), (5, 46, 55)], [(6, 22, 56), (6, 35, 57), (6, 45, 108), (6, 51, 4), (6, 57, 109), (6, 61, 87), (6, 66, 113), (6, 69, 114), (6, 76, 51), (6, 79, 55)], [(7, 25, 19), (7, 29, 21), (7, 33, 20), (7, 36, 46), (7, 39, 51)], [(8, 21, 123), (8, 32, 19), (8, 41, 75), (8, 47, 124), (8, 50, 4), (8, 62, 125), (8, 66, 51)], [(9, 42, 17), (9, 48, 19), (9, 58, 20), (9, 62, 22), (9, 66, 23), (9, 70, 4), (9, 85, 46), (9, 88, 149), (9, 92, 154), (9, 95, 157), (9, 99, 44)], [(10, 11, 1), (10, 18, 3), (10, 72, 15), (10, 76, 13), (10, 84, 26), (10, 89, 27), (10, 92, 16), (10, 95, 18), (10, 99, 28), (10, 107, 24), (10, 111, 14), (10, 115, 23), (10, 118, 33), (10, 122, 35), (10, 130, 38), (10, 136, 43), (10, 140, 21), (10, 143, 44), (10, 147, 46), (10, 150, 48), (10, 153, 49), (10, 156, 50), (10, 159, 54), (10, 175, 55), (10, 182, 59), (10, 194, 64), (10, 197, 66), (10, 201, 68), (10, 206, 71), (10, 209, 75), (10, 214, 77), (10, 217, 79), (10, 220, 81), (10, 223, 84), (10, 226, 86), (10, 229, 89), (10, 236, 91), (10, 239, 95), (10, 242, 97), (10, 245, 99), (10, 248, 19), (10, 251, 101), (10, 254, 103), (10, 257, 105), (10, 260, 107), (10, 267, 110), (10, 270, 112), (10, 274, 116), (10, 278, 118), (10, 290, 121), (10, 293, 122), (10, 301, 129), (10, 305, 132), (10, 308, 135), (10, 311, 139), (10, 320, 142), (10, 323, 144), (10, 326, 145), (10, 329, 146), (10, 332, 149), (10, 339, 153), (10, 342, 156), (10, 346, 154), (10, 349, 159), (10, 353, 162), (10, 357, 164)], [(11, 74, 169), (11, 78, 174), (11, 85, 173), (11, 91, 175), (11, 98, 177), (11, 108, 178), (11, 112, 172), (11, 115, 176), (11, 119, 168), (11, 122, 170), (11, 125, 171), (11, 129, 180), (11, 133, 184), (11, 136, 185), (11, 139, 186), (11, 142, 196), (11, 145, 198), (11, 148, 200), (11, 152, 201), (11, 155, 202), (11, 158, 203), (11, 161, 206), (11, 165, 207), (11, 171, 209), (11, 174, 211), (11, 178, 219), (11, 181, 218), (11, 184, 222), (11, 188, 221), (11, 191, 228), (11, 194, 229), (11, 197, 227), (11, 200, 230), (11, 203, 232), (11, 206, 197), (11, 209, 235), (11, 212, 236), (11, 215, 239), (11, 218, 241), (11, 223, 247), (11, 227, 253), (11, 233, 261), (11, 236, 260), (11, 239, 258), (11, 242, 259), (11, 245, 268), (11, 248, 269), (11, 251, 274), (11, 255, 273), (11, 258, 276), (11, 261, 279), (11, 264, 280)], [(12, 9, 0), (12, 12, 166), (12, 13, 12), (12, 17, 167), (12, 18, 25), (12, 21, 183), (12, 22, 29), (12, 25, 187), (12, 26, 13), (12, 30, 179), (12, 31, 30), (12, 34, 188), (12, 35, 31), (12, 38, 189), (12, 39, 32), (12, 42, 190), (12, 43, 34), (12, 47, 191), (12, 48, 36), (12, 51, 192), (12, 52, 37), (12, 55, 181), (12, 56, 39), (12, 59, 182), (12, 60, 40), (12, 63, 193), (12, 64, 41), (12, 67, 194), (12, 68, 42), (12, 71, 195), (12, 72, 45), (12, 76, 197), (12, 77, 47), (12, 80, 199), (12, 81, 52), (12, 84, 204), (12, 85, 53), (12, 88, 205), (12, 89, 58), (12, 92, 208), (12, 93, 60), (12, 96, 210), (12, 97, 61), (12, 100, 212), (12, 101, 62), (12, 104, 213), (12, 105, 63), (12, 108, 214), (12, 109, 65), (12, 112, 217), (12, 113, 67), (12, 116, 220), (12, 117, 73), (12, 120, 223), (12, 121, 74), (12, 125, 224), (12, 126, 76), (12, 129, 215), (12, 130, 78), (12, 133, 216), (12, 134, 80), (12, 137, 225), (12, 138, 85), (12, 141, 238), (12, 142, 88), (12, 145, 240), (12, 146, 90), (12, 149, 242), (12, 150, 93), (12, 153, 243), (12, 154, 94), (12, 157, 244), (12, 158, 96), (12, 161, 245), (12, 162, 98), (12, 165, 246), (12, 166, 100), (12, 169, 248), (12, 170, 102), (12, 173, 249), (12, 174, 104), (12, 177, 250), (12, 178, 106), (12, 181, 251), (12, 182, 111), (12, 185, 252), (12, 186, 115), (12, 189, 254), (12, 190, 117), (12, 193, 255), (12, 194, 119), (12, 197, 256), (12, 198, 120), (12, 201, 257), (12, 202, 126), (12, 205, 262), (12, 206, 127), (12, 209, 263), (12, 210, 128), (12, 213, 264), (12, 214, 130), (12, 218, 265), (12, 219, 131), (12, 222, 266), (12, 223, 134), (12, 226, 267), (12, 227, 138), (12, 230, 270), (12, 231, 141), (12, 234, 271), (12, 235, 143), (12, 238, 272), (12, 239, 148), (12, 242, 226), (12, 243, 150), (12, 246, 231), (12, 247, 151), (12, 250, 233), (12, 251, 152), (12, 254, 234), (12, 255, 155), (12, 258, 237), (12, 259, 158), (12, 262, 275), (12, 263, 160), (12, 266, 277), (12, 267, 161), (12, 271, 278), (12, 272, 163), (12, 275, 281), (12, 276, 165), (12, 279, 282)]]
set_option maxRecDepth 100000 in
theorem pm_mlo_f : pm_mlo.flatten = pm_ml := rfl
theorem pm_fo {α : Type} {L : List (List α)} {j : Nat} {x : α} (h : x ∈ L.getD j []) : x ∈ L.flatten := by
  by_cases e : j < L.length
  · rw [List.getD_eq_getElem?_getD, List.getElem?_eq_getElem e, Option.getD_some] at h
    exact List.mem_flatten.mpr ⟨_, List.getElem_mem e, h⟩
  · rw [List.getD_eq_getElem?_getD, List.getElem?_eq_none (by omega), Option.getD_none] at h
    exact absurd h List.not_mem_nil
noncomputable def pm_ol : List (Nat × Nat) := [(0, 3), (1, 3), (2, 3), (3, 3), (4, 3), (5, 3), (6, 3), (7, 3), (8, 3), (9, 3), (10, 3), (11, 1)]
set_option maxRecDepth 100000 in
theorem pm_ol_k : ((pm_ol.zip [225, 241, 179, 330, 312, 342, 263, 102, 288, 95, 87, 1052]).all (fun q => pm_in (.methodLink (pm_nm q.1.1) q.1.2 objectInit) q.2) && decide (pm_ol.length = 12)) = true := by decide +kernel
set_option maxRecDepth 100000 in
theorem pm_ol_ok : ∀ q ∈ pm_ol, Cond.methodLink (pm_nm q.1) q.2 objectInit ∈ pm_W := by
  intro q hq
  obtain ⟨p, hp⟩ := pm_zip (f := fun (q : Nat × Nat) (i : Nat) => pm_in (.methodLink (pm_nm q.1) q.2 objectInit) i) pm_ol_k q hq
  exact pm_in_ok hp
set_option maxRecDepth 100000 in
theorem pm_oi : Cond.instanceMethod objectInit ∈ pm_W := pm_in_ok (i := 88) (by decide +kernel)
set_option maxRecDepth 100000 in
theorem pm_oc : Cond.code objectInit ⟨#[0xb1]⟩ 1 none ∈ pm_W := pm_in_ok (i := 89) (by decide +kernel)
noncomputable def pm_nl2 : List (Nat × Nat × Nat × Nat) := [(9, 24, 2, 10), (10, 25, 5, 10), (10, 32, 6, 10), (10, 39, 7, 10), (10, 46, 8, 10), (10, 53, 9, 10), (10, 60, 10, 10), (10, 67, 11, 10)]
noncomputable def pm_nlw (q : Nat × Nat × Nat × Nat) : Cond := .methodLinkNest (pm_nm q.1) q.2.1 (pm_me q.2.2.1).1 (pm_nm q.2.2.2)
set_option maxRecDepth 100000 in
theorem pm_nl2_k : ((pm_nl2.zip [99, 222, 238, 260, 285, 309, 327, 339]).all (fun q => decide (lw_tbl[q.2]? = some (pm_nlw q.1)) && decide (q.1.2.2.1 < 283)) && decide (pm_nl2.length = 8)) = true := by decide +kernel
set_option maxRecDepth 100000 in
theorem pm_nl2_ok : ∀ q ∈ pm_nl2, pm_nlw q ∈ lw_tbl ∧ q.2.2.1 < 283 := by
  intro q hq
  obtain ⟨p, hp⟩ := pm_zip (f := fun (q : Nat × Nat × Nat × Nat) (i : Nat) => decide (lw_tbl[i]? = some (pm_nlw q)) && decide (q.2.2.1 < 283)) pm_nl2_k q hq
  simp only [Bool.and_eq_true, decide_eq_true_eq] at hp
  exact ⟨List.mem_of_getElem? hp.1, hp.2⟩
noncomputable def pm_cl : List (Nat × Nat × Nat) := [(9, 9, 7), (10, 9, 9), (10, 16, 2), (10, 23, 0), (10, 30, 1), (10, 37, 6), (10, 44, 8), (10, 51, 4), (10, 58, 3), (10, 65, 5), (12, 7, 10), (12, 10, 11)]
set_option maxRecDepth 100000 in
theorem pm_cl_k : ((pm_cl.zip [96, 90, 174, 220, 236, 258, 283, 307, 325, 337, 82, 1047]).all (fun q => pm_in (.classLink (pm_nm q.1.1) q.1.2.1 (pm_nm q.1.2.2)) q.2 && decide (q.1.2.2 < 12)) && decide (pm_cl.length = 12)) = true := by decide +kernel
set_option maxRecDepth 100000 in
theorem pm_cl_ok : ∀ q ∈ pm_cl, Cond.classLink (pm_nm q.1) q.2.1 (pm_nm q.2.2) ∈ pm_W ∧ q.2.2 < 12 := by
  intro q hq
  obtain ⟨p, hp⟩ := pm_zip (f := fun (q : Nat × Nat × Nat) (i : Nat) => pm_in (.classLink (pm_nm q.1) q.2.1 (pm_nm q.2.2)) i && decide (q.2.2 < 12)) pm_cl_k q hq
  simp only [Bool.and_eq_true, decide_eq_true_eq] at hp
  exact ⟨pm_in_ok hp.1, hp.2⟩
set_option maxRecDepth 100000 in
theorem pm_ci_k : (((List.range 12).zip [221, 237, 175, 326, 308, 338, 259, 98, 284, 91, 83, 1048]).all (fun q => pm_in (.instantiable (pm_cT q.1).1 (pm_cT q.1).2.2) q.2 && decide (pm_nm q.1 = (pm_cT q.1).1)) && decide ((List.range 12).length = 12)) = true := by decide +kernel
set_option maxRecDepth 100000 in
theorem pm_ci_ok : ∀ ci, ci < 12 → Cond.instantiable (pm_cT ci).1 (pm_cT ci).2.2 ∈ pm_W ∧ pm_nm ci = (pm_cT ci).1 := by
  intro ci h
  obtain ⟨p, hp⟩ := pm_zip (f := fun (ci : Nat) (i : Nat) => pm_in (.instantiable (pm_cT ci).1 (pm_cT ci).2.2) i && decide (pm_nm ci = (pm_cT ci).1)) pm_ci_k ci (List.mem_range.mpr h)
  simp only [Bool.and_eq_true, decide_eq_true_eq] at hp
  exact ⟨pm_in_ok hp.1, hp.2⟩
set_option maxRecDepth 100000 in
theorem pm_cz_k : (((List.range 12).zip [72, 73, 70, 77, 76, 78, 74, 69, 75, 68, 67, 79]).all (fun q => pm_in (.initialized (pm_cT q.1).1) q.2) && decide ((List.range 12).length = 12)) = true := by decide +kernel
set_option maxRecDepth 100000 in
theorem pm_cz_ok : ∀ ci, ci < 12 → Cond.initialized (pm_cT ci).1 ∈ pm_W := by
  intro ci h
  obtain ⟨p, hp⟩ := pm_zip (f := fun (ci : Nat) (i : Nat) => pm_in (.initialized (pm_cT ci).1) i) pm_cz_k ci (List.mem_range.mpr h)
  exact pm_in_ok hp
set_option maxRecDepth 100000 in
theorem pm_mal : Cond.classLink (pm_nm 3) 9 "[[I" ∈ pm_W := pm_in_ok (i := 331) (by decide +kernel)
set_option maxRecDepth 100000 in
theorem pm_arc : Cond.arrayClass .int ∈ pm_W := pm_in_ok (i := 144) (by decide +kernel)
noncomputable def pm_kl : List (Nat × Nat × Int32) := [(10, 205, 16777215), (11, 177, -268435456), (11, 222, 268435456), (11, 226, 16777215), (13, 265, 1431655765), (13, 266, 858993459), (13, 267, 252645135)]
set_option maxRecDepth 100000 in
theorem pm_kl_k : ((pm_kl.zip [643, 1343, 1453, 1478, 652, 653, 654]).all (fun q => pm_in (.constant (pm_nm q.1.1) q.1.2.1 q.1.2.2) q.2) && decide (pm_kl.length = 7)) = true := by decide +kernel
set_option maxRecDepth 100000 in
theorem pm_kl_ok : ∀ q ∈ pm_kl, Cond.constant (pm_nm q.1) q.2.1 q.2.2 ∈ pm_W := by
  intro q hq
  obtain ⟨p, hp⟩ := pm_zip (f := fun (q : Nat × Nat × Int32) (i : Nat) => pm_in (.constant (pm_nm q.1) q.2.1 q.2.2) i) pm_kl_k q hq
  exact pm_in_ok hp
noncomputable def pm_tys (ci : Nat) : Nat → FieldType := match ci with
  | 0 => tyX0
  | 1 => tyX1
  | 2 => tyX2
  | 3 => tyX3
  | 4 => tyX4
  | 5 => tyX5
  | 6 => tyX6
  | 7 => tyX7
  | 8 => tyX8
  | 9 => tyX9
  | 10 => tyX10
  | _ => tyX11
set_option maxRecDepth 100000 in
theorem pm_ty_ok : ∀ ci, ci < 12 → ∀ k, k < (pm_cT ci).2.2 → parseFieldDescriptor ((pm_cT ci).2.1 k).2.2.1 = some (pm_tys ci k) := by
  intro ci h
  rcases (show ci = 0 ∨ ci = 1 ∨ ci = 2 ∨ ci = 3 ∨ ci = 4 ∨ ci = 5 ∨ ci = 6 ∨ ci = 7 ∨ ci = 8 ∨ ci = 9 ∨ ci = 10 ∨ ci = 11 by omega) with rfl | rfl | rfl | rfl | rfl | rfl | rfl | rfl | rfl | rfl | rfl | rfl
  · exact tyX0_ok
  · exact tyX1_ok
  · exact tyX2_ok
  · exact tyX3_ok
  · exact tyX4_ok
  · exact tyX5_ok
  · exact tyX6_ok
  · exact tyX7_ok
  · exact tyX8_ok
  · exact tyX9_ok
  · exact tyX10_ok
  · exact tyX11_ok
set_option maxRecDepth 100000 in
theorem pm_nm_ok : ∀ ci, ci < 12 → ∀ a, a < (pm_cT ci).2.2 → ∀ b, b < (pm_cT ci).2.2 → a ≠ b → ((pm_cT ci).2.1 a).2.1 ≠ ((pm_cT ci).2.1 b).2.1 := by
  intro ci h
  rcases (show ci = 0 ∨ ci = 1 ∨ ci = 2 ∨ ci = 3 ∨ ci = 4 ∨ ci = 5 ∨ ci = 6 ∨ ci = 7 ∨ ci = 8 ∨ ci = 9 ∨ ci = 10 ∨ ci = 11 by omega) with rfl | rfl | rfl | rfl | rfl | rfl | rfl | rfl | rfl | rfl | rfl | rfl
  · exact nmX0
  · exact nmX1
  · exact nmX2
  · exact nmX3
  · exact nmX4
  · exact nmX5
  · exact nmX6
  · exact nmX7
  · exact nmX8
  · exact nmX9
  · exact nmX10
  · exact nmX11
set_option maxRecDepth 100000 in
theorem pm_u0 : (((u_ws RX0 TX0 3).zip [229, 231, 233]).all (fun q => pm_in q.1 q.2) && decide ((u_ws RX0 TX0 3).length = 3)) = true := by decide +kernel
set_option maxRecDepth 100000 in
theorem pm_u1 : (((u_ws RX1 TX1 5).zip [247, 249, 251, 253, 255]).all (fun q => pm_in q.1 q.2) && decide ((u_ws RX1 TX1 5).length = 5)) = true := by decide +kernel
set_option maxRecDepth 100000 in
theorem pm_u2 : (((u_ws RX2 TX2 6).zip [207, 209, 211, 213, 215, 217]).all (fun q => pm_in q.1 q.2) && decide ((u_ws RX2 TX2 6).length = 6)) = true := by decide +kernel
set_option maxRecDepth 100000 in
theorem pm_u3 : (((u_ws RX3 TX3 1).zip [334]).all (fun q => pm_in q.1 q.2) && decide ((u_ws RX3 TX3 1).length = 1)) = true := by decide +kernel
set_option maxRecDepth 100000 in
theorem pm_u4 : (((u_ws RX4 TX4 3).zip [318, 320, 322]).all (fun q => pm_in q.1 q.2) && decide ((u_ws RX4 TX4 3).length = 3)) = true := by decide +kernel
set_option maxRecDepth 100000 in
theorem pm_u5 : (((u_ws RX5 TX5 6).zip [351, 353, 355, 357, 359, 361]).all (fun q => pm_in q.1 q.2) && decide ((u_ws RX5 TX5 6).length = 6)) = true := by decide +kernel
set_option maxRecDepth 100000 in
theorem pm_u6 : (((u_ws RX6 TX6 5).zip [272, 274, 276, 278, 280]).all (fun q => pm_in q.1 q.2) && decide ((u_ws RX6 TX6 5).length = 5)) = true := by decide +kernel
set_option maxRecDepth 100000 in
theorem pm_u7 : (((u_ws RX7 TX7 5).zip [133, 135, 137, 139, 141]).all (fun q => pm_in q.1 q.2) && decide ((u_ws RX7 TX7 5).length = 5)) = true := by decide +kernel
set_option maxRecDepth 100000 in
theorem pm_u8 : (((u_ws RX8 TX8 5).zip [296, 298, 300, 302, 304]).all (fun q => pm_in q.1 q.2) && decide ((u_ws RX8 TX8 5).length = 5)) = true := by decide +kernel
set_option maxRecDepth 100000 in
theorem pm_u9 : (((u_ws RX9 TX9 8).zip [157, 159, 161, 163, 165, 167, 169, 171]).all (fun q => pm_in q.1 q.2) && decide ((u_ws RX9 TX9 8).length = 8)) = true := by decide +kernel
set_option maxRecDepth 100000 in
theorem pm_u10 : (((u_ws RX10 TX10 9).zip [373, 375, 377, 379, 381, 383, 385, 387, 389]).all (fun q => pm_in q.1 q.2) && decide ((u_ws RX10 TX10 9).length = 9)) = true := by decide +kernel
set_option maxRecDepth 100000 in
theorem pm_u11 : (((u_ws RX11 TX11 28).zip [1081, 1083, 1085, 1087, 1089, 1091, 1093, 1095, 1097, 1099, 1101, 1103, 1105, 1107, 1109, 1111, 1113, 1115, 1117, 1119, 1121, 1123, 1125, 1127, 1129, 1131, 1133, 1135]).all (fun q => pm_in q.1 q.2) && decide ((u_ws RX11 TX11 28).length = 28)) = true := by decide +kernel
set_option maxRecDepth 100000 in
theorem pm_u_ok : ∀ ci, ci < 12 → ∀ w ∈ u_ws (pm_cT ci).1 (pm_cT ci).2.1 (pm_cT ci).2.2, w ∈ pm_W := by
  intro ci h
  rcases (show ci = 0 ∨ ci = 1 ∨ ci = 2 ∨ ci = 3 ∨ ci = 4 ∨ ci = 5 ∨ ci = 6 ∨ ci = 7 ∨ ci = 8 ∨ ci = 9 ∨ ci = 10 ∨ ci = 11 by omega) with rfl | rfl | rfl | rfl | rfl | rfl | rfl | rfl | rfl | rfl | rfl | rfl
  · exact fun w hw => (pm_zip (f := fun (w : Cond) (i : Nat) => pm_in w i) pm_u0 w hw).elim (fun _ h => pm_in_ok h)
  · exact fun w hw => (pm_zip (f := fun (w : Cond) (i : Nat) => pm_in w i) pm_u1 w hw).elim (fun _ h => pm_in_ok h)
  · exact fun w hw => (pm_zip (f := fun (w : Cond) (i : Nat) => pm_in w i) pm_u2 w hw).elim (fun _ h => pm_in_ok h)
  · exact fun w hw => (pm_zip (f := fun (w : Cond) (i : Nat) => pm_in w i) pm_u3 w hw).elim (fun _ h => pm_in_ok h)
  · exact fun w hw => (pm_zip (f := fun (w : Cond) (i : Nat) => pm_in w i) pm_u4 w hw).elim (fun _ h => pm_in_ok h)
  · exact fun w hw => (pm_zip (f := fun (w : Cond) (i : Nat) => pm_in w i) pm_u5 w hw).elim (fun _ h => pm_in_ok h)
  · exact fun w hw => (pm_zip (f := fun (w : Cond) (i : Nat) => pm_in w i) pm_u6 w hw).elim (fun _ h => pm_in_ok h)
  · exact fun w hw => (pm_zip (f := fun (w : Cond) (i : Nat) => pm_in w i) pm_u7 w hw).elim (fun _ h => pm_in_ok h)
  · exact fun w hw => (pm_zip (f := fun (w : Cond) (i : Nat) => pm_in w i) pm_u8 w hw).elim (fun _ h => pm_in_ok h)
  · exact fun w hw => (pm_zip (f := fun (w : Cond) (i : Nat) => pm_in w i) pm_u9 w hw).elim (fun _ h => pm_in_ok h)
  · exact fun w hw => (pm_zip (f := fun (w : Cond) (i : Nat) => pm_in w i) pm_u10 w hw).elim (fun _ h => pm_in_ok h)
  · exact fun w hw => (pm_zip (f := fun (w : Cond) (i : Nat) => pm_in w i) pm_u11 w hw).elim (fun _ h => pm_in_ok h)
