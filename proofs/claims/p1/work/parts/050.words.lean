theorem qw_list {ws : List Cond} (is : List Nat) (h : is.map (fun i => lw_tbl[i]?) = ws.map some) (hg : ws.all goodWord = true) : ∀ w ∈ ws, w ∈ qw := by
  intro w hw
  obtain ⟨k, hk⟩ := List.mem_iff_getElem?.mp hw
  have h1 : (is.map (fun i => lw_tbl[i]?))[k]? = some (some w) := by rw [h, List.getElem?_map, hk]; rfl
  rw [List.getElem?_map] at h1
  obtain ⟨i, hi, e⟩ := Option.map_eq_some_iff.mp h1
  exact List.mem_filter.mpr ⟨List.mem_of_getElem? e, List.all_eq_true.mp hg w hw⟩
theorem qc_0 : qCl 0 RJ0 TJ0 2 tyJ0 := ⟨rfl, qw_list [692, 694] (by decide +kernel) (by decide +kernel), tyJ0_ok, nmJ0⟩
theorem qc_1 : qCl 1 RJ6 TJ6 1 tyJ6 := ⟨rfl, qw_list [2036] (by decide +kernel) (by decide +kernel), tyJ6_ok, nmJ6⟩
theorem qc_2 : qCl 2 RJx00060 TJx00060 6 tyJx00060 := ⟨rfl, qw_list [680, 681, 682, 683, 684, 685] (by decide +kernel) (by decide +kernel), tyJx00060_ok, nmJx00060⟩
theorem qc_3 : qCl 3 RJx35411 TJx35411 4 tyJx35411 := ⟨rfl, qw_list [2155, 2157, 2159, 2161] (by decide +kernel) (by decide +kernel), tyJx35411_ok, nmJx35411⟩
theorem qc_4 : qCl 4 RJx4a65c TJx4a65c 3 tyJx4a65c := ⟨rfl, qw_list [1666, 1662, 1664] (by decide +kernel) (by decide +kernel), tyJx4a65c_ok, nmJx4a65c⟩
theorem qc_5 : qCl 5 RX0 TX0 17 tyX0 := ⟨rfl, qw_list [297, 299, 301, 303, 305, 307, 309, 311, 313, 315, 317, 319, 321, 323, 325, 327, 329] (by decide +kernel) (by decide +kernel), tyX0_ok, nmX0⟩
theorem qc_6 : qCl 6 RX1 TX1 9 tyX1 := ⟨rfl, qw_list [383, 385, 387, 389, 391, 393, 395, 397, 399] (by decide +kernel) (by decide +kernel), tyX1_ok, nmX1⟩
theorem qc_7 : qCl 7 RX2 TX2 3 tyX2 := ⟨rfl, qw_list [193, 195, 197] (by decide +kernel) (by decide +kernel), tyX2_ok, nmX2⟩
theorem qc_8 : qCl 8 RX3 TX3 4 tyX3 := ⟨rfl, qw_list [934, 936, 938, 940] (by decide +kernel) (by decide +kernel), tyX3_ok, nmX3⟩
theorem qc_9 : qCl 9 RX4 TX4 6 tyX4 := ⟨rfl, qw_list [232, 234, 236, 238, 240, 242] (by decide +kernel) (by decide +kernel), tyX4_ok, nmX4⟩
theorem qc_10 : qCl 10 RX5 TX5 5 tyX5 := ⟨rfl, qw_list [894, 896, 898, 900, 902] (by decide +kernel) (by decide +kernel), tyX5_ok, nmX5⟩
theorem qc_11 : qCl 11 RX6 TX6 7 tyX6 := ⟨rfl, qw_list [349, 351, 353, 355, 357, 359, 361] (by decide +kernel) (by decide +kernel), tyX6_ok, nmX6⟩
theorem qc_12 : qCl 12 RX7 TX7 4 tyX7 := ⟨rfl, qw_list [660, 662, 664, 666] (by decide +kernel) (by decide +kernel), tyX7_ok, nmX7⟩
theorem qc_13 : qCl 13 RX8 TX8 1 tyX8 := ⟨rfl, qw_list [210] (by decide +kernel) (by decide +kernel), tyX8_ok, nmX8⟩
theorem qc_14 : qCl 14 RX9 TX9 8 tyX9 := ⟨rfl, qw_list [1005, 1007, 1009, 1011, 1013, 1015, 1017, 1019] (by decide +kernel) (by decide +kernel), tyX9_ok, nmX9⟩
theorem qc_15 : qCl 15 RX10 TX10 4 tyX10 := ⟨rfl, qw_list [255, 257, 259, 261] (by decide +kernel) (by decide +kernel), tyX10_ok, nmX10⟩
theorem qc_16 : qCl 16 RX11 TX11 13 tyX11 := ⟨rfl, qw_list [415, 417, 419, 421, 423, 425, 427, 429, 431, 433, 435, 437, 439] (by decide +kernel) (by decide +kernel), tyX11_ok, nmX11⟩
theorem qc_17 : qCl 17 RX12 TX12 3 tyX12 := ⟨rfl, qw_list [1996, 1998, 2000] (by decide +kernel) (by decide +kernel), tyX12_ok, nmX12⟩
theorem qc_18 : qCl 18 RX13 TX13 4 tyX13 := ⟨rfl, qw_list [1966, 1968, 1970, 1972] (by decide +kernel) (by decide +kernel), tyX13_ok, nmX13⟩
theorem qc_19 : qCl 19 RX14 TX14 7 tyX14 := ⟨rfl, qw_list [2095, 2097, 2099, 2101, 2103, 2105, 2107] (by decide +kernel) (by decide +kernel), tyX14_ok, nmX14⟩
theorem qc_20 : qCl 20 RX15 TX15 28 tyX15 := ⟨rfl, qw_list [1700, 1702, 1704, 1706, 1708, 1710, 1712, 1714, 1716, 1718, 1720, 1722, 1724, 1726, 1728, 1730, 1732, 1734, 1736, 1738, 1740, 1742, 1744, 1746, 1748, 1750, 1752, 1754] (by decide +kernel) (by decide +kernel), tyX15_ok, nmX15⟩
/-! the words, the code, the decode rows that are used -/
theorem k1 : Cond.selects "Locihall" ⟨"Locihall", "tableAt", "(I)LLocihall$Table;"⟩ ⟨"Locihall", "tableAt", "(I)LLocihall$Table;"⟩ ∈ qw := qw_at 1 (by decide +kernel) (by decide +kernel)
theorem k8 : Cond.selects "Locihall$Mind" ⟨"Locihall$Mind", "palaceAt", "(I)LLocihall$Palace;"⟩ ⟨"Locihall$Mind", "palaceAt", "(I)LLocihall$Palace;"⟩ ∈ qw := qw_at 8 (by decide +kernel) (by decide +kernel)
theorem k32 : Cond.selects "Locihall$Mind" ⟨"Locihall$Mind", "locusAt", "(II)LLocihall$Locus;"⟩ ⟨"Locihall$Mind", "locusAt", "(II)LLocihall$Locus;"⟩ ∈ qw := qw_at 32 (by decide +kernel) (by decide +kernel)
theorem k65 : Cond.selects "Locihall$YearRows" ⟨"Locihall$YearRows", "rowOf", "(I)I"⟩ ⟨"Locihall$YearRows", "rowOf", "(I)I"⟩ ∈ qw := qw_at 65 (by decide +kernel) (by decide +kernel)
theorem k83 : Cond.selects "Locihall$Contest" ⟨"Locihall$Contest", "bestUpTo", "(I)I"⟩ ⟨"Locihall$Contest", "bestUpTo", "(I)I"⟩ ∈ qw := qw_at 83 (by decide +kernel) (by decide +kernel)
theorem k93 : Cond.selects "Locihall$Facts" ⟨"Locihall$Facts", "has", "(I)Z"⟩ ⟨"Locihall$Facts", "has", "(I)Z"⟩ ∈ qw := qw_at 93 (by decide +kernel) (by decide +kernel)
theorem k100 : Cond.selects "Locihall$Mind" ⟨"Locihall$Mind", "countLaid", "()I"⟩ ⟨"Locihall$Mind", "countLaid", "()I"⟩ ∈ qw := qw_at 100 (by decide +kernel) (by decide +kernel)
theorem k133 : Cond.initialized "Locihall" ∈ qw := qw_at 133 (by decide +kernel) (by decide +kernel)
theorem k136 : Cond.initialized "Locihall$Mind" ∈ qw := qw_at 136 (by decide +kernel) (by decide +kernel)
theorem k137 : Cond.initialized "Locihall$YearRows" ∈ qw := qw_at 137 (by decide +kernel) (by decide +kernel)
theorem k138 : Cond.initialized "Locihall$Contest" ∈ qw := qw_at 138 (by decide +kernel) (by decide +kernel)
theorem k140 : Cond.initialized "Locihall$Facts" ∈ qw := qw_at 140 (by decide +kernel) (by decide +kernel)
theorem k141 : Cond.initialized "LocihallModel" ∈ qw := qw_at 141 (by decide +kernel) (by decide +kernel)
theorem k148 : Cond.initialized "java/lang/IllegalArgumentException" ∈ qw := qw_at 148 (by decide +kernel) (by decide +kernel)
theorem k151 : Cond.initialized "java/lang/Math" ∈ qw := qw_at 151 (by decide +kernel) (by decide +kernel)
theorem k155 : Cond.initialized "java/lang/IndexOutOfBoundsException" ∈ qw := qw_at 155 (by decide +kernel) (by decide +kernel)
theorem k158 : Cond.initialized "java/util/NoSuchElementException" ∈ qw := qw_at 158 (by decide +kernel) (by decide +kernel)
theorem k174 : Cond.initialized "java/lang/ArithmeticException" ∈ qw := qw_at 174 (by decide +kernel) (by decide +kernel)
theorem k189 : Cond.fieldLink "Locihall$Images" 9 "Locihall$Images" "kinds" "[I" ∈ qw := qw_at 189 (by decide +kernel) (by decide +kernel)
theorem k190 : Cond.fieldLink "Locihall$Images" 15 "Locihall$Images" "vividnesses" "[I" ∈ qw := qw_at 190 (by decide +kernel) (by decide +kernel)
theorem k191 : Cond.fieldLink "Locihall$Images" 18 "Locihall$Images" "count" "I" ∈ qw := qw_at 191 (by decide +kernel) (by decide +kernel)
theorem k225 : Cond.fieldLink "Locihall$Mind" 25 "Locihall$Mind" "palaceCount" "I" ∈ qw := qw_at 225 (by decide +kernel) (by decide +kernel)
theorem k227 : Cond.fieldLink "Locihall$Mind" 43 "Locihall$Mind" "hour" "I" ∈ qw := qw_at 227 (by decide +kernel) (by decide +kernel)
theorem k231 : Cond.fieldLink "Locihall$Mind" 206 "Locihall$Mind" "sleptTo" "I" ∈ qw := qw_at 231 (by decide +kernel) (by decide +kernel)
theorem k251 : Cond.fieldLink "Locihall$YearRows" 9 "Locihall$YearRows" "years" "[I" ∈ qw := qw_at 251 (by decide +kernel) (by decide +kernel)
theorem k252 : Cond.fieldLink "Locihall$YearRows" 15 "Locihall$YearRows" "firsts" "[I" ∈ qw := qw_at 252 (by decide +kernel) (by decide +kernel)
theorem k253 : Cond.fieldLink "Locihall$YearRows" 18 "Locihall$YearRows" "seconds" "[I" ∈ qw := qw_at 253 (by decide +kernel) (by decide +kernel)
theorem k254 : Cond.fieldLink "Locihall$YearRows" 21 "Locihall$YearRows" "count" "I" ∈ qw := qw_at 254 (by decide +kernel) (by decide +kernel)
theorem k289 : Cond.fieldLink "Locihall$Contest" 116 "Locihall$Contest" "closedCount" "I" ∈ qw := qw_at 289 (by decide +kernel) (by decide +kernel)
theorem k370 : Cond.fieldLink "Locihall$Facts" 9 "Locihall$Facts" "eases" "[I" ∈ qw := qw_at 370 (by decide +kernel) (by decide +kernel)
theorem k371 : Cond.fieldLink "Locihall$Facts" 15 "Locihall$Facts" "strengths" "[I" ∈ qw := qw_at 371 (by decide +kernel) (by decide +kernel)
theorem k373 : Cond.fieldLink "Locihall$Facts" 18 "Locihall$Facts" "lasts" "[I" ∈ qw := qw_at 373 (by decide +kernel) (by decide +kernel)
theorem k375 : Cond.fieldLink "Locihall$Facts" 30 "Locihall$Facts" "count" "I" ∈ qw := qw_at 375 (by decide +kernel) (by decide +kernel)
theorem k405 : Cond.fieldLink "Locihall" 99 "Locihall" "tableCount" "I" ∈ qw := qw_at 405 (by decide +kernel) (by decide +kernel)
theorem k406 : Cond.fieldLink "Locihall" 34 "Locihall" "mind" "LLocihall$Mind;" ∈ qw := qw_at 406 (by decide +kernel) (by decide +kernel)
theorem k411 : Cond.fieldLink "Locihall" 55 "Locihall" "match" "LLocihall$Contest;" ∈ qw := qw_at 411 (by decide +kernel) (by decide +kernel)
theorem k412 : Cond.fieldLink "Locihall" 62 "Locihall" "stage" "LLocihall$Stage;" ∈ qw := qw_at 412 (by decide +kernel) (by decide +kernel)
theorem k413 : Cond.fieldLink "Locihall" 69 "Locihall" "facts" "LLocihall$Facts;" ∈ qw := qw_at 413 (by decide +kernel) (by decide +kernel)
theorem k458 : Cond.methodLink "Locihall" 107 ⟨"Locihall", "tableAt", "(I)LLocihall$Table;"⟩ ∈ qw := qw_at 458 (by decide +kernel) (by decide +kernel)
theorem k460 : Cond.instanceMethod ⟨"Locihall", "tableAt", "(I)LLocihall$Table;"⟩ ∈ qw := qw_at 460 (by decide +kernel) (by decide +kernel)
theorem k461 : Cond.code ⟨"Locihall", "tableAt", "(I)LLocihall$Table;"⟩ prog_1_method_58_code 2 (some (.object "Locihall$Table")) ∈ qw := qw_at 461 (by decide +kernel) (by decide +kernel)
theorem k472 : Cond.static ⟨"Locihall", "isIn", "(III)Z"⟩ ∈ qw := qw_at 472 (by decide +kernel) (by decide +kernel)
theorem k473 : Cond.code ⟨"Locihall", "isIn", "(III)Z"⟩ prog_1_method_54_code 3 (some .boolean) ∈ qw := qw_at 473 (by decide +kernel) (by decide +kernel)
theorem k474 : Cond.methodLink "Locihall" 73 ⟨"Locihall", "isIn", "(III)Z"⟩ ∈ qw := qw_at 474 (by decide +kernel) (by decide +kernel)
theorem k495 : Cond.methodLink "Locihall$Mind" 29 ⟨"Locihall$Mind", "palaceAt", "(I)LLocihall$Palace;"⟩ ∈ qw := qw_at 495 (by decide +kernel) (by decide +kernel)
theorem k497 : Cond.instanceMethod ⟨"Locihall$Mind", "palaceAt", "(I)LLocihall$Palace;"⟩ ∈ qw := qw_at 497 (by decide +kernel) (by decide +kernel)
theorem k498 : Cond.code ⟨"Locihall$Mind", "palaceAt", "(I)LLocihall$Palace;"⟩ prog_6_method_3_code 2 (some (.object "Locihall$Palace")) ∈ qw := qw_at 498 (by decide +kernel) (by decide +kernel)
theorem k544 : Cond.classLink "Locihall" 77 "java/lang/IllegalArgumentException" ∈ qw := qw_at 544 (by decide +kernel) (by decide +kernel)
theorem k701 : Cond.classLink "Locihall" 115 "java/lang/IndexOutOfBoundsException" ∈ qw := qw_at 701 (by decide +kernel) (by decide +kernel)
theorem k744 : Cond.classLink "Locihall" 138 "java/util/NoSuchElementException" ∈ qw := qw_at 744 (by decide +kernel) (by decide +kernel)
theorem k952 : Cond.instanceMethod ⟨"Locihall$Mind", "locusAt", "(II)LLocihall$Locus;"⟩ ∈ qw := qw_at 952 (by decide +kernel) (by decide +kernel)
theorem k953 : Cond.code ⟨"Locihall$Mind", "locusAt", "(II)LLocihall$Locus;"⟩ prog_6_method_4_code 4 (some (.object "Locihall$Locus")) ∈ qw := qw_at 953 (by decide +kernel) (by decide +kernel)
theorem k1079 : Cond.static ⟨"java/lang/Math", "max", "(II)I"⟩ ∈ qw := qw_at 1079 (by decide +kernel) (by decide +kernel)
theorem k1080 : Cond.code ⟨"java/lang/Math", "max", "(II)I"⟩ prog_32_method_65_code 2 (some .int) ∈ qw := qw_at 1080 (by decide +kernel) (by decide +kernel)
theorem k1244 : Cond.methodLink "Locihall" 299 ⟨"Locihall", "isYear", "(I)Z"⟩ ∈ qw := qw_at 1244 (by decide +kernel) (by decide +kernel)
theorem k1245 : Cond.static ⟨"Locihall", "isYear", "(I)Z"⟩ ∈ qw := qw_at 1245 (by decide +kernel) (by decide +kernel)
theorem k1246 : Cond.code ⟨"Locihall", "isYear", "(I)Z"⟩ prog_1_method_57_code 1 (some .boolean) ∈ qw := qw_at 1246 (by decide +kernel) (by decide +kernel)
theorem k1252 : Cond.methodLink "Locihall$YearRows" 25 ⟨"Locihall$YearRows", "rowOf", "(I)I"⟩ ∈ qw := qw_at 1252 (by decide +kernel) (by decide +kernel)
theorem k1254 : Cond.instanceMethod ⟨"Locihall$YearRows", "rowOf", "(I)I"⟩ ∈ qw := qw_at 1254 (by decide +kernel) (by decide +kernel)
theorem k1255 : Cond.code ⟨"Locihall$YearRows", "rowOf", "(I)I"⟩ prog_12_method_2_code 3 (some .int) ∈ qw := qw_at 1255 (by decide +kernel) (by decide +kernel)
theorem k1261 : Cond.methodLink "Locihall$YearRows" 29 ⟨"java/lang/Math", "max", "(II)I"⟩ ∈ qw := qw_at 1261 (by decide +kernel) (by decide +kernel)
theorem k1419 : Cond.instanceMethod ⟨"Locihall$Contest", "bestUpTo", "(I)I"⟩ ∈ qw := qw_at 1419 (by decide +kernel) (by decide +kernel)
theorem k1420 : Cond.code ⟨"Locihall$Contest", "bestUpTo", "(I)I"⟩ prog_2_method_14_code 4 (some .int) ∈ qw := qw_at 1420 (by decide +kernel) (by decide +kernel)
theorem k1527 : Cond.instanceMethod ⟨"Locihall$Facts", "has", "(I)Z"⟩ ∈ qw := qw_at 1527 (by decide +kernel) (by decide +kernel)
theorem k1528 : Cond.code ⟨"Locihall$Facts", "has", "(I)Z"⟩ prog_3_method_3_code 2 (some .boolean) ∈ qw := qw_at 1528 (by decide +kernel) (by decide +kernel)
theorem k1614 : Cond.instanceMethod ⟨"Locihall$Mind", "countLaid", "()I"⟩ ∈ qw := qw_at 1614 (by decide +kernel) (by decide +kernel)
theorem k1615 : Cond.code ⟨"Locihall$Mind", "countLaid", "()I"⟩ prog_6_method_20_code 5 (some .int) ∈ qw := qw_at 1615 (by decide +kernel) (by decide +kernel)
theorem k1616 : Cond.classLink "Locihall" 498 "java/lang/ArithmeticException" ∈ qw := qw_at 1616 (by decide +kernel) (by decide +kernel)
theorem k1685 : Cond.fieldLink "LocihallModel" 73 "LocihallModel" "thrown" "I" ∈ qw := qw_at 1685 (by decide +kernel) (by decide +kernel)
theorem k1686 : Cond.fieldLink "LocihallModel" 76 "LocihallModel" "systems" "I" ∈ qw := qw_at 1686 (by decide +kernel) (by decide +kernel)
theorem k1767 : Cond.methodLink "LocihallModel" 79 ⟨"LocihallModel", "isIn", "(JJJ)Z"⟩ ∈ qw := qw_at 1767 (by decide +kernel) (by decide +kernel)
theorem k1768 : Cond.static ⟨"LocihallModel", "isIn", "(JJJ)Z"⟩ ∈ qw := qw_at 1768 (by decide +kernel) (by decide +kernel)
theorem k1769 : Cond.code ⟨"LocihallModel", "isIn", "(JJJ)Z"⟩ prog_14_method_4_code 6 (some .boolean) ∈ qw := qw_at 1769 (by decide +kernel) (by decide +kernel)
theorem j271 : Cond.fieldLinkNest "Locihall" 319 "Locihall$Contest" "isOpen" "Z" "Locihall" ∈ lw_tbl := List.mem_of_getElem? (i := 271) (by decide +kernel)
theorem j278 : Cond.fieldLinkNest "Locihall" 341 "Locihall$Contest" "count" "I" "Locihall" ∈ lw_tbl := List.mem_of_getElem? (i := 278) (by decide +kernel)
theorem j290 : Cond.fieldLinkNest "Locihall" 398 "Locihall$Contest" "closedCount" "I" "Locihall" ∈ lw_tbl := List.mem_of_getElem? (i := 290) (by decide +kernel)
theorem j342 : Cond.fieldLinkNest "Locihall" 424 "Locihall$Stage" "count" "I" "Locihall" ∈ lw_tbl := List.mem_of_getElem? (i := 342) (by decide +kernel)
theorem j345 : Cond.fieldLinkNest "Locihall" 434 "Locihall$Stage" "depth" "I" "Locihall" ∈ lw_tbl := List.mem_of_getElem? (i := 345) (by decide +kernel)
theorem j347 : Cond.fieldLinkNest "Locihall" 437 "Locihall$Stage" "isInterrupted" "Z" "Locihall" ∈ lw_tbl := List.mem_of_getElem? (i := 347) (by decide +kernel)
theorem j376 : Cond.fieldLinkNest "Locihall" 459 "Locihall$Facts" "count" "I" "Locihall" ∈ lw_tbl := List.mem_of_getElem? (i := 376) (by decide +kernel)
theorem j710 : Cond.stringRef "Locihall" 117 "no such system or image" ∈ lw_tbl := List.mem_of_getElem? (i := 710) (by decide +kernel)
theorem j735 : Cond.stringRef "Locihall" 133 "no such system" ∈ lw_tbl := List.mem_of_getElem? (i := 735) (by decide +kernel)
theorem j912 : Cond.methodLinkNest "Locihall" 201 ⟨"Locihall$Mind", "palaceAt", "(I)LLocihall$Palace;"⟩ "Locihall" ∈ lw_tbl := List.mem_of_getElem? (i := 912) (by decide +kernel)
theorem j913 : Cond.stringRef "Locihall" 205 "no such palace" ∈ lw_tbl := List.mem_of_getElem? (i := 913) (by decide +kernel)
theorem j950 : Cond.methodLinkNest "Locihall" 217 ⟨"Locihall$Mind", "locusAt", "(II)LLocihall$Locus;"⟩ "Locihall" ∈ lw_tbl := List.mem_of_getElem? (i := 950) (by decide +kernel)
theorem j954 : Cond.stringRef "Locihall" 221 "no such palace or locus" ∈ lw_tbl := List.mem_of_getElem? (i := 954) (by decide +kernel)
theorem j970 : Cond.stringRef "Locihall" 234 "no such palace, locus or system" ∈ lw_tbl := List.mem_of_getElem? (i := 970) (by decide +kernel)
theorem j1278 : Cond.stringRef "Locihall" 315 "no such palace or system" ∈ lw_tbl := List.mem_of_getElem? (i := 1278) (by decide +kernel)
theorem j1310 : Cond.stringRef "Locihall" 342 "no such key was drawn" ∈ lw_tbl := List.mem_of_getElem? (i := 1310) (by decide +kernel)
theorem j1318 : Cond.stringRef "Locihall" 344 "no contest is open" ∈ lw_tbl := List.mem_of_getElem? (i := 1318) (by decide +kernel)
theorem j1345 : Cond.stringRef "Locihall" 365 "no contest is open, or no such answer" ∈ lw_tbl := List.mem_of_getElem? (i := 1345) (by decide +kernel)
theorem j1408 : Cond.stringRef "Locihall" 401 "no contest was closed" ∈ lw_tbl := List.mem_of_getElem? (i := 1408) (by decide +kernel)
theorem j1416 : Cond.stringRef "Locihall" 409 "no such year" ∈ lw_tbl := List.mem_of_getElem? (i := 1416) (by decide +kernel)
theorem j1417 : Cond.methodLinkNest "Locihall" 411 ⟨"Locihall$Contest", "bestUpTo", "(I)I"⟩ "Locihall" ∈ lw_tbl := List.mem_of_getElem? (i := 1417) (by decide +kernel)
theorem j1421 : Cond.stringRef "Locihall" 414 "there is no record" ∈ lw_tbl := List.mem_of_getElem? (i := 1421) (by decide +kernel)
theorem j1429 : Cond.stringRef "Locihall" 416 "there was no contest" ∈ lw_tbl := List.mem_of_getElem? (i := 1429) (by decide +kernel)
theorem j1455 : Cond.stringRef "Locihall" 429 "no such speech" ∈ lw_tbl := List.mem_of_getElem? (i := 1455) (by decide +kernel)
theorem j1472 : Cond.stringRef "Locihall" 444 "no speech goes on, or it was interrupted" ∈ lw_tbl := List.mem_of_getElem? (i := 1472) (by decide +kernel)
theorem j1499 : Cond.stringRef "Locihall" 452 "no speech was interrupted" ∈ lw_tbl := List.mem_of_getElem? (i := 1499) (by decide +kernel)
theorem j1525 : Cond.methodLinkNest "Locihall" 463 ⟨"Locihall$Facts", "has", "(I)Z"⟩ "Locihall" ∈ lw_tbl := List.mem_of_getElem? (i := 1525) (by decide +kernel)
theorem j1529 : Cond.stringRef "Locihall" 464 "no such fact" ∈ lw_tbl := List.mem_of_getElem? (i := 1529) (by decide +kernel)
theorem j1567 : Cond.stringRef "Locihall" 477 "1 to 5 hours" ∈ lw_tbl := List.mem_of_getElem? (i := 1567) (by decide +kernel)
theorem j1569 : Cond.stringRef "Locihall" 481 "there are no facts" ∈ lw_tbl := List.mem_of_getElem? (i := 1569) (by decide +kernel)
theorem j1590 : Cond.stringRef "Locihall" 490 "1 to 5 hours, and one of them" ∈ lw_tbl := List.mem_of_getElem? (i := 1590) (by decide +kernel)
theorem j1612 : Cond.methodLinkNest "Locihall" 495 ⟨"Locihall$Mind", "countLaid", "()I"⟩ "Locihall" ∈ lw_tbl := List.mem_of_getElem? (i := 1612) (by decide +kernel)
theorem j1617 : Cond.stringRef "Locihall" 500 "no locus has traces" ∈ lw_tbl := List.mem_of_getElem? (i := 1617) (by decide +kernel)
theorem d_H_isIn_0 : decode prog_1_method_54_code 0 = .ok (.iload_n 0, 1) := by decide +kernel
theorem d_H_isIn_1 : decode prog_1_method_54_code 1 = .ok (.iload_n 1, 1) := by decide +kernel
theorem d_H_isIn_2 : decode prog_1_method_54_code 2 = .ok (.if_icmp .lt 12, 3) := by decide +kernel
theorem d_H_isIn_5 : decode prog_1_method_54_code 5 = .ok (.iload_n 0, 1) := by decide +kernel
theorem d_H_isIn_6 : decode prog_1_method_54_code 6 = .ok (.iload_n 2, 1) := by decide +kernel
theorem d_H_isIn_7 : decode prog_1_method_54_code 7 = .ok (.if_icmp .gt 7, 3) := by decide +kernel
theorem d_H_isIn_10 : decode prog_1_method_54_code 10 = .ok (.iconst 1, 1) := by decide +kernel
theorem d_H_isIn_11 : decode prog_1_method_54_code 11 = .ok (.goto 4, 3) := by decide +kernel
theorem d_H_isIn_14 : decode prog_1_method_54_code 14 = .ok (.iconst 0, 1) := by decide +kernel
theorem d_H_isIn_15 : decode prog_1_method_54_code 15 = .ok (.ireturn, 1) := by decide +kernel
theorem d_H_isKey_0 : decode prog_1_method_55_code 0 = .ok (.iload_n 0, 1) := by decide +kernel
theorem d_H_isKey_1 : decode prog_1_method_55_code 1 = .ok (.iconst 0, 1) := by decide +kernel
theorem d_H_isKey_2 : decode prog_1_method_55_code 2 = .ok (.bipush 99, 2) := by decide +kernel
theorem d_H_isKey_4 : decode prog_1_method_55_code 4 = .ok (.invokestatic 73, 3) := by decide +kernel
theorem d_H_isKey_7 : decode prog_1_method_55_code 7 = .ok (.ireturn, 1) := by decide +kernel
theorem d_H_isTongue_0 : decode prog_1_method_56_code 0 = .ok (.iload_n 0, 1) := by decide +kernel
theorem d_H_isTongue_1 : decode prog_1_method_56_code 1 = .ok (.iconst 0, 1) := by decide +kernel
theorem d_H_isTongue_2 : decode prog_1_method_56_code 2 = .ok (.iconst 2, 1) := by decide +kernel
theorem d_H_isTongue_3 : decode prog_1_method_56_code 3 = .ok (.invokestatic 73, 3) := by decide +kernel
theorem d_H_isTongue_6 : decode prog_1_method_56_code 6 = .ok (.ireturn, 1) := by decide +kernel
theorem d_H_isYear_0 : decode prog_1_method_57_code 0 = .ok (.iload_n 0, 1) := by decide +kernel
theorem d_H_isYear_1 : decode prog_1_method_57_code 1 = .ok (.iconst 0, 1) := by decide +kernel
theorem d_H_isYear_2 : decode prog_1_method_57_code 2 = .ok (.sipush 9999, 3) := by decide +kernel
theorem d_H_isYear_5 : decode prog_1_method_57_code 5 = .ok (.invokestatic 73, 3) := by decide +kernel
theorem d_H_isYear_8 : decode prog_1_method_57_code 8 = .ok (.ireturn, 1) := by decide +kernel
theorem d_H_tableAt_0 : decode prog_1_method_58_code 0 = .ok (.iload_n 1, 1) := by decide +kernel
theorem d_H_tableAt_1 : decode prog_1_method_58_code 1 = .ok (.ifCond .lt 29, 3) := by decide +kernel
theorem d_H_tableAt_4 : decode prog_1_method_58_code 4 = .ok (.iload_n 1, 1) := by decide +kernel
theorem d_H_tableAt_5 : decode prog_1_method_58_code 5 = .ok (.aload_n 0, 1) := by decide +kernel
theorem d_H_tableAt_6 : decode prog_1_method_58_code 6 = .ok (.getfield 99, 3) := by decide +kernel
theorem d_H_tableAt_9 : decode prog_1_method_58_code 9 = .ok (.if_icmp .ge 21, 3) := by decide +kernel
theorem d_H_tableAt_30 : decode prog_1_method_58_code 30 = .ok (.aconst_null, 1) := by decide +kernel
theorem d_H_tableAt_31 : decode prog_1_method_58_code 31 = .ok (.areturn, 1) := by decide +kernel
theorem d_HMind_palaceAt_0 : decode prog_6_method_3_code 0 = .ok (.iload_n 1, 1) := by decide +kernel
theorem d_HMind_palaceAt_1 : decode prog_6_method_3_code 1 = .ok (.ifCond .lt 29, 3) := by decide +kernel
theorem d_HMind_palaceAt_4 : decode prog_6_method_3_code 4 = .ok (.iload_n 1, 1) := by decide +kernel
theorem d_HMind_palaceAt_5 : decode prog_6_method_3_code 5 = .ok (.aload_n 0, 1) := by decide +kernel
theorem d_HMind_palaceAt_6 : decode prog_6_method_3_code 6 = .ok (.getfield 25, 3) := by decide +kernel
theorem d_HMind_palaceAt_9 : decode prog_6_method_3_code 9 = .ok (.if_icmp .ge 21, 3) := by decide +kernel
theorem d_HMind_palaceAt_30 : decode prog_6_method_3_code 30 = .ok (.aconst_null, 1) := by decide +kernel
theorem d_HMind_palaceAt_31 : decode prog_6_method_3_code 31 = .ok (.areturn, 1) := by decide +kernel
theorem d_HMind_locusAt_0 : decode prog_6_method_4_code 0 = .ok (.aload_n 0, 1) := by decide +kernel
theorem d_HMind_locusAt_1 : decode prog_6_method_4_code 1 = .ok (.iload_n 1, 1) := by decide +kernel
theorem d_HMind_locusAt_2 : decode prog_6_method_4_code 2 = .ok (.invokevirtual 29, 3) := by decide +kernel
theorem d_HMind_locusAt_5 : decode prog_6_method_4_code 5 = .ok (.astore_n 3, 1) := by decide +kernel
theorem d_HMind_locusAt_6 : decode prog_6_method_4_code 6 = .ok (.aload_n 3, 1) := by decide +kernel
theorem d_HMind_locusAt_7 : decode prog_6_method_4_code 7 = .ok (.ifnonnull 7, 3) := by decide +kernel
theorem d_HMind_locusAt_10 : decode prog_6_method_4_code 10 = .ok (.aconst_null, 1) := by decide +kernel
theorem d_HMind_locusAt_11 : decode prog_6_method_4_code 11 = .ok (.goto 8, 3) := by decide +kernel
theorem d_HMind_locusAt_19 : decode prog_6_method_4_code 19 = .ok (.areturn, 1) := by decide +kernel
theorem d_HFacts_has_0 : decode prog_3_method_3_code 0 = .ok (.iload_n 1, 1) := by decide +kernel
theorem d_HFacts_has_1 : decode prog_3_method_3_code 1 = .ok (.ifCond .lt 21, 3) := by decide +kernel
theorem d_HFacts_has_4 : decode prog_3_method_3_code 4 = .ok (.iload_n 1, 1) := by decide +kernel
theorem d_HFacts_has_5 : decode prog_3_method_3_code 5 = .ok (.aload_n 0, 1) := by decide +kernel
theorem d_HFacts_has_6 : decode prog_3_method_3_code 6 = .ok (.getfield 30, 3) := by decide +kernel
theorem d_HFacts_has_9 : decode prog_3_method_3_code 9 = .ok (.if_icmp .ge 13, 3) := by decide +kernel
theorem d_HFacts_has_22 : decode prog_3_method_3_code 22 = .ok (.iconst 0, 1) := by decide +kernel
theorem d_HFacts_has_23 : decode prog_3_method_3_code 23 = .ok (.ireturn, 1) := by decide +kernel
theorem d_M_isIn_0 : decode prog_14_method_4_code 0 = .ok (.lload_n 0, 1) := by decide +kernel
theorem d_M_isIn_1 : decode prog_14_method_4_code 1 = .ok (.lload_n 2, 1) := by decide +kernel
theorem d_M_isIn_2 : decode prog_14_method_4_code 2 = .ok (.lcmp, 1) := by decide +kernel
theorem d_M_isIn_3 : decode prog_14_method_4_code 3 = .ok (.ifCond .lt 14, 3) := by decide +kernel
theorem d_M_isIn_6 : decode prog_14_method_4_code 6 = .ok (.lload_n 0, 1) := by decide +kernel
theorem d_M_isIn_7 : decode prog_14_method_4_code 7 = .ok (.lload 4, 2) := by decide +kernel
theorem d_M_isIn_9 : decode prog_14_method_4_code 9 = .ok (.lcmp, 1) := by decide +kernel
theorem d_M_isIn_10 : decode prog_14_method_4_code 10 = .ok (.ifCond .gt 7, 3) := by decide +kernel
theorem d_M_isIn_13 : decode prog_14_method_4_code 13 = .ok (.iconst 1, 1) := by decide +kernel
theorem d_M_isIn_14 : decode prog_14_method_4_code 14 = .ok (.goto 4, 3) := by decide +kernel
theorem d_M_isIn_17 : decode prog_14_method_4_code 17 = .ok (.iconst 0, 1) := by decide +kernel
theorem d_M_isIn_18 : decode prog_14_method_4_code 18 = .ok (.ireturn, 1) := by decide +kernel
theorem d_M_isSystem_0 : decode prog_14_method_6_code 0 = .ok (.iload_n 1, 1) := by decide +kernel
theorem d_M_isSystem_1 : decode prog_14_method_6_code 1 = .ok (.i2l, 1) := by decide +kernel
theorem d_M_isSystem_2 : decode prog_14_method_6_code 2 = .ok (.lconst 0, 1) := by decide +kernel
theorem d_M_isSystem_3 : decode prog_14_method_6_code 3 = .ok (.aload_n 0, 1) := by decide +kernel
theorem d_M_isSystem_4 : decode prog_14_method_6_code 4 = .ok (.getfield 76, 3) := by decide +kernel
theorem d_M_isSystem_7 : decode prog_14_method_6_code 7 = .ok (.iconst 1, 1) := by decide +kernel
theorem d_M_isSystem_8 : decode prog_14_method_6_code 8 = .ok (.isub, 1) := by decide +kernel
theorem d_M_isSystem_9 : decode prog_14_method_6_code 9 = .ok (.i2l, 1) := by decide +kernel
theorem d_M_isSystem_10 : decode prog_14_method_6_code 10 = .ok (.invokestatic 79, 3) := by decide +kernel
theorem d_M_isSystem_13 : decode prog_14_method_6_code 13 = .ok (.ireturn, 1) := by decide +kernel
theorem d_M_thrown_0 : decode prog_14_method_2_code 0 = .ok (.aload_n 0, 1) := by decide +kernel
theorem d_M_thrown_1 : decode prog_14_method_2_code 1 = .ok (.getfield 73, 3) := by decide +kernel
theorem d_M_thrown_4 : decode prog_14_method_2_code 4 = .ok (.ireturn, 1) := by decide +kernel
theorem d_M_no_0 : decode prog_14_method_5_code 0 = .ok (.aload_n 0, 1) := by decide +kernel
theorem d_M_no_1 : decode prog_14_method_5_code 1 = .ok (.iload_n 1, 1) := by decide +kernel
theorem d_M_no_2 : decode prog_14_method_5_code 2 = .ok (.ifCond .eq 7, 3) := by decide +kernel
theorem d_M_no_5 : decode prog_14_method_5_code 5 = .ok (.iconst 0, 1) := by decide +kernel
theorem d_M_no_6 : decode prog_14_method_5_code 6 = .ok (.goto 4, 3) := by decide +kernel
theorem d_M_no_9 : decode prog_14_method_5_code 9 = .ok (.iload_n 2, 1) := by decide +kernel
theorem d_M_no_10 : decode prog_14_method_5_code 10 = .ok (.putfield 73, 3) := by decide +kernel
theorem d_M_no_13 : decode prog_14_method_5_code 13 = .ok (.iload_n 1, 1) := by decide +kernel
theorem d_M_no_14 : decode prog_14_method_5_code 14 = .ok (.ifCond .ne 7, 3) := by decide +kernel
theorem d_M_no_17 : decode prog_14_method_5_code 17 = .ok (.iconst 1, 1) := by decide +kernel
theorem d_M_no_18 : decode prog_14_method_5_code 18 = .ok (.goto 4, 3) := by decide +kernel
theorem d_M_no_21 : decode prog_14_method_5_code 21 = .ok (.iconst 0, 1) := by decide +kernel
theorem d_M_no_22 : decode prog_14_method_5_code 22 = .ok (.ireturn, 1) := by decide +kernel
theorem d_H_learn_0 : decode prog_1_method_4_code 0 = .ok (.aload_n 0, 1) := by decide +kernel
theorem d_H_learn_1 : decode prog_1_method_4_code 1 = .ok (.iload_n 1, 1) := by decide +kernel
theorem d_H_learn_2 : decode prog_1_method_4_code 2 = .ok (.invokevirtual 107, 3) := by decide +kernel
theorem d_H_learn_5 : decode prog_1_method_4_code 5 = .ok (.astore 4, 2) := by decide +kernel
theorem d_H_learn_7 : decode prog_1_method_4_code 7 = .ok (.aload 4, 2) := by decide +kernel
theorem d_H_learn_9 : decode prog_1_method_4_code 9 = .ok (.ifnull 14, 3) := by decide +kernel
theorem d_H_learn_23 : decode prog_1_method_4_code 23 = .ok (.new 115, 3) := by decide +kernel
theorem d_H_learn_26 : decode prog_1_method_4_code 26 = .ok (.dup, 1) := by decide +kernel
theorem d_H_learn_27 : decode prog_1_method_4_code 27 = .ok (.ldc 117, 2) := by decide +kernel
theorem d_H_learn_29 : decode prog_1_method_4_code 29 = .ok (.invokespecial 119, 3) := by decide +kernel
theorem d_H_learn_32 : decode prog_1_method_4_code 32 = .ok (.athrow, 1) := by decide +kernel
theorem d_H_imageOf_0 : decode prog_1_method_5_code 0 = .ok (.aload_n 0, 1) := by decide +kernel
theorem d_H_imageOf_1 : decode prog_1_method_5_code 1 = .ok (.iload_n 1, 1) := by decide +kernel
theorem d_H_imageOf_2 : decode prog_1_method_5_code 2 = .ok (.invokevirtual 107, 3) := by decide +kernel
theorem d_H_imageOf_5 : decode prog_1_method_5_code 5 = .ok (.astore_n 3, 1) := by decide +kernel
theorem d_H_imageOf_6 : decode prog_1_method_5_code 6 = .ok (.aload_n 3, 1) := by decide +kernel
theorem d_H_imageOf_7 : decode prog_1_method_5_code 7 = .ok (.ifnonnull 13, 3) := by decide +kernel
theorem d_H_imageOf_10 : decode prog_1_method_5_code 10 = .ok (.new 115, 3) := by decide +kernel
theorem d_H_imageOf_13 : decode prog_1_method_5_code 13 = .ok (.dup, 1) := by decide +kernel
theorem d_H_imageOf_14 : decode prog_1_method_5_code 14 = .ok (.ldc 133, 2) := by decide +kernel
theorem d_H_imageOf_16 : decode prog_1_method_5_code 16 = .ok (.invokespecial 119, 3) := by decide +kernel
theorem d_H_imageOf_19 : decode prog_1_method_5_code 19 = .ok (.athrow, 1) := by decide +kernel
theorem d_H_skill_0 : decode prog_1_method_6_code 0 = .ok (.aload_n 0, 1) := by decide +kernel
theorem d_H_skill_1 : decode prog_1_method_6_code 1 = .ok (.iload_n 1, 1) := by decide +kernel
theorem d_H_skill_2 : decode prog_1_method_6_code 2 = .ok (.invokevirtual 107, 3) := by decide +kernel
theorem d_H_skill_5 : decode prog_1_method_6_code 5 = .ok (.astore_n 3, 1) := by decide +kernel
theorem d_H_skill_6 : decode prog_1_method_6_code 6 = .ok (.aload_n 3, 1) := by decide +kernel
theorem d_H_skill_7 : decode prog_1_method_6_code 7 = .ok (.ifnonnull 13, 3) := by decide +kernel
theorem d_H_skill_10 : decode prog_1_method_6_code 10 = .ok (.new 115, 3) := by decide +kernel
theorem d_H_skill_13 : decode prog_1_method_6_code 13 = .ok (.dup, 1) := by decide +kernel
theorem d_H_skill_14 : decode prog_1_method_6_code 14 = .ok (.ldc 133, 2) := by decide +kernel
theorem d_H_skill_16 : decode prog_1_method_6_code 16 = .ok (.invokespecial 119, 3) := by decide +kernel
theorem d_H_skill_19 : decode prog_1_method_6_code 19 = .ok (.athrow, 1) := by decide +kernel
theorem d_H_takeOver_0 : decode prog_1_method_8_code 0 = .ok (.aload_n 0, 1) := by decide +kernel
theorem d_H_takeOver_1 : decode prog_1_method_8_code 1 = .ok (.iload_n 1, 1) := by decide +kernel
theorem d_H_takeOver_2 : decode prog_1_method_8_code 2 = .ok (.invokevirtual 107, 3) := by decide +kernel
theorem d_H_takeOver_5 : decode prog_1_method_8_code 5 = .ok (.astore 5, 2) := by decide +kernel
theorem d_H_takeOver_7 : decode prog_1_method_8_code 7 = .ok (.aload_n 0, 1) := by decide +kernel
theorem d_H_takeOver_8 : decode prog_1_method_8_code 8 = .ok (.iload_n 2, 1) := by decide +kernel
theorem d_H_takeOver_9 : decode prog_1_method_8_code 9 = .ok (.invokevirtual 107, 3) := by decide +kernel
theorem d_H_takeOver_12 : decode prog_1_method_8_code 12 = .ok (.astore 6, 2) := by decide +kernel
theorem d_H_takeOver_14 : decode prog_1_method_8_code 14 = .ok (.aload 5, 2) := by decide +kernel
theorem d_H_takeOver_16 : decode prog_1_method_8_code 16 = .ok (.ifnull 8, 3) := by decide +kernel
theorem d_H_takeOver_24 : decode prog_1_method_8_code 24 = .ok (.new 115, 3) := by decide +kernel
theorem d_H_takeOver_27 : decode prog_1_method_8_code 27 = .ok (.dup, 1) := by decide +kernel
theorem d_H_takeOver_28 : decode prog_1_method_8_code 28 = .ok (.ldc 133, 2) := by decide +kernel
theorem d_H_takeOver_30 : decode prog_1_method_8_code 30 = .ok (.invokespecial 119, 3) := by decide +kernel
theorem d_H_takeOver_33 : decode prog_1_method_8_code 33 = .ok (.athrow, 1) := by decide +kernel
theorem d_H_train_0 : decode prog_1_method_9_code 0 = .ok (.aload_n 0, 1) := by decide +kernel
theorem d_H_train_1 : decode prog_1_method_9_code 1 = .ok (.iload_n 1, 1) := by decide +kernel
theorem d_H_train_2 : decode prog_1_method_9_code 2 = .ok (.invokevirtual 107, 3) := by decide +kernel
theorem d_H_train_5 : decode prog_1_method_9_code 5 = .ok (.astore_n 3, 1) := by decide +kernel
theorem d_H_train_6 : decode prog_1_method_9_code 6 = .ok (.aload_n 3, 1) := by decide +kernel
theorem d_H_train_7 : decode prog_1_method_9_code 7 = .ok (.ifnonnull 13, 3) := by decide +kernel
theorem d_H_train_10 : decode prog_1_method_9_code 10 = .ok (.new 115, 3) := by decide +kernel
theorem d_H_train_13 : decode prog_1_method_9_code 13 = .ok (.dup, 1) := by decide +kernel
theorem d_H_train_14 : decode prog_1_method_9_code 14 = .ok (.ldc 133, 2) := by decide +kernel
theorem d_H_train_16 : decode prog_1_method_9_code 16 = .ok (.invokespecial 119, 3) := by decide +kernel
theorem d_H_train_19 : decode prog_1_method_9_code 19 = .ok (.athrow, 1) := by decide +kernel
theorem d_H_saved_0 : decode prog_1_method_10_code 0 = .ok (.aload_n 0, 1) := by decide +kernel
theorem d_H_saved_1 : decode prog_1_method_10_code 1 = .ok (.iload_n 1, 1) := by decide +kernel
theorem d_H_saved_2 : decode prog_1_method_10_code 2 = .ok (.invokevirtual 107, 3) := by decide +kernel
theorem d_H_saved_5 : decode prog_1_method_10_code 5 = .ok (.astore 4, 2) := by decide +kernel
theorem d_H_saved_7 : decode prog_1_method_10_code 7 = .ok (.aload 4, 2) := by decide +kernel
theorem d_H_saved_9 : decode prog_1_method_10_code 9 = .ok (.ifnonnull 13, 3) := by decide +kernel
theorem d_H_saved_12 : decode prog_1_method_10_code 12 = .ok (.new 115, 3) := by decide +kernel
theorem d_H_saved_15 : decode prog_1_method_10_code 15 = .ok (.dup, 1) := by decide +kernel
theorem d_H_saved_16 : decode prog_1_method_10_code 16 = .ok (.ldc 133, 2) := by decide +kernel
theorem d_H_saved_18 : decode prog_1_method_10_code 18 = .ok (.invokespecial 119, 3) := by decide +kernel
theorem d_H_saved_21 : decode prog_1_method_10_code 21 = .ok (.athrow, 1) := by decide +kernel
theorem d_H_paysBack_0 : decode prog_1_method_11_code 0 = .ok (.aload_n 0, 1) := by decide +kernel
theorem d_H_paysBack_1 : decode prog_1_method_11_code 1 = .ok (.iload_n 1, 1) := by decide +kernel
theorem d_H_paysBack_2 : decode prog_1_method_11_code 2 = .ok (.invokevirtual 107, 3) := by decide +kernel
theorem d_H_paysBack_5 : decode prog_1_method_11_code 5 = .ok (.astore 4, 2) := by decide +kernel
theorem d_H_paysBack_7 : decode prog_1_method_11_code 7 = .ok (.aload_n 0, 1) := by decide +kernel
theorem d_H_paysBack_8 : decode prog_1_method_11_code 8 = .ok (.iload_n 2, 1) := by decide +kernel
theorem d_H_paysBack_9 : decode prog_1_method_11_code 9 = .ok (.invokevirtual 107, 3) := by decide +kernel
theorem d_H_paysBack_12 : decode prog_1_method_11_code 12 = .ok (.astore 5, 2) := by decide +kernel
theorem d_H_paysBack_14 : decode prog_1_method_11_code 14 = .ok (.aload 4, 2) := by decide +kernel
theorem d_H_paysBack_16 : decode prog_1_method_11_code 16 = .ok (.ifnull 8, 3) := by decide +kernel
theorem d_H_paysBack_24 : decode prog_1_method_11_code 24 = .ok (.new 115, 3) := by decide +kernel
theorem d_H_paysBack_27 : decode prog_1_method_11_code 27 = .ok (.dup, 1) := by decide +kernel
theorem d_H_paysBack_28 : decode prog_1_method_11_code 28 = .ok (.ldc 133, 2) := by decide +kernel
theorem d_H_paysBack_30 : decode prog_1_method_11_code 30 = .ok (.invokespecial 119, 3) := by decide +kernel
theorem d_H_paysBack_33 : decode prog_1_method_11_code 33 = .ok (.athrow, 1) := by decide +kernel
theorem d_H_locus_0 : decode prog_1_method_13_code 0 = .ok (.aload_n 0, 1) := by decide +kernel
theorem d_H_locus_1 : decode prog_1_method_13_code 1 = .ok (.getfield 34, 3) := by decide +kernel
theorem d_H_locus_4 : decode prog_1_method_13_code 4 = .ok (.iload_n 1, 1) := by decide +kernel
theorem d_H_locus_5 : decode prog_1_method_13_code 5 = .ok (.invokevirtual 201, 3) := by decide +kernel
theorem d_H_locus_8 : decode prog_1_method_13_code 8 = .ok (.astore_n 3, 1) := by decide +kernel
theorem d_H_locus_9 : decode prog_1_method_13_code 9 = .ok (.aload_n 3, 1) := by decide +kernel
theorem d_H_locus_10 : decode prog_1_method_13_code 10 = .ok (.ifnonnull 13, 3) := by decide +kernel
theorem d_H_locus_13 : decode prog_1_method_13_code 13 = .ok (.new 115, 3) := by decide +kernel
theorem d_H_locus_16 : decode prog_1_method_13_code 16 = .ok (.dup, 1) := by decide +kernel
theorem d_H_locus_17 : decode prog_1_method_13_code 17 = .ok (.ldc 205, 2) := by decide +kernel
theorem d_H_locus_19 : decode prog_1_method_13_code 19 = .ok (.invokespecial 119, 3) := by decide +kernel
theorem d_H_locus_22 : decode prog_1_method_13_code 22 = .ok (.athrow, 1) := by decide +kernel
theorem d_H_cue_0 : decode prog_1_method_14_code 0 = .ok (.aload_n 0, 1) := by decide +kernel
theorem d_H_cue_1 : decode prog_1_method_14_code 1 = .ok (.getfield 34, 3) := by decide +kernel
theorem d_H_cue_4 : decode prog_1_method_14_code 4 = .ok (.iload_n 1, 1) := by decide +kernel
theorem d_H_cue_5 : decode prog_1_method_14_code 5 = .ok (.iload_n 2, 1) := by decide +kernel
theorem d_H_cue_6 : decode prog_1_method_14_code 6 = .ok (.invokevirtual 217, 3) := by decide +kernel
theorem d_H_cue_9 : decode prog_1_method_14_code 9 = .ok (.astore 4, 2) := by decide +kernel
theorem d_H_cue_11 : decode prog_1_method_14_code 11 = .ok (.aload 4, 2) := by decide +kernel
theorem d_H_cue_13 : decode prog_1_method_14_code 13 = .ok (.ifnonnull 13, 3) := by decide +kernel
theorem d_H_cue_16 : decode prog_1_method_14_code 16 = .ok (.new 115, 3) := by decide +kernel
theorem d_H_cue_19 : decode prog_1_method_14_code 19 = .ok (.dup, 1) := by decide +kernel
theorem d_H_cue_20 : decode prog_1_method_14_code 20 = .ok (.ldc 221, 2) := by decide +kernel
theorem d_H_cue_22 : decode prog_1_method_14_code 22 = .ok (.invokespecial 119, 3) := by decide +kernel
theorem d_H_cue_25 : decode prog_1_method_14_code 25 = .ok (.athrow, 1) := by decide +kernel
theorem d_H_lay_0 : decode prog_1_method_16_code 0 = .ok (.aload_n 0, 1) := by decide +kernel
theorem d_H_lay_1 : decode prog_1_method_16_code 1 = .ok (.getfield 34, 3) := by decide +kernel
theorem d_H_lay_4 : decode prog_1_method_16_code 4 = .ok (.iload_n 1, 1) := by decide +kernel
theorem d_H_lay_5 : decode prog_1_method_16_code 5 = .ok (.iload_n 2, 1) := by decide +kernel
theorem d_H_lay_6 : decode prog_1_method_16_code 6 = .ok (.invokevirtual 217, 3) := by decide +kernel
theorem d_H_lay_9 : decode prog_1_method_16_code 9 = .ok (.astore 5, 2) := by decide +kernel
theorem d_H_lay_11 : decode prog_1_method_16_code 11 = .ok (.aload_n 0, 1) := by decide +kernel
theorem d_H_lay_12 : decode prog_1_method_16_code 12 = .ok (.iload_n 3, 1) := by decide +kernel
theorem d_H_lay_13 : decode prog_1_method_16_code 13 = .ok (.invokevirtual 107, 3) := by decide +kernel
theorem d_H_lay_16 : decode prog_1_method_16_code 16 = .ok (.astore 6, 2) := by decide +kernel
theorem d_H_lay_18 : decode prog_1_method_16_code 18 = .ok (.aload 5, 2) := by decide +kernel
theorem d_H_lay_20 : decode prog_1_method_16_code 20 = .ok (.ifnull 8, 3) := by decide +kernel
theorem d_H_lay_28 : decode prog_1_method_16_code 28 = .ok (.new 115, 3) := by decide +kernel
theorem d_H_lay_31 : decode prog_1_method_16_code 31 = .ok (.dup, 1) := by decide +kernel
theorem d_H_lay_32 : decode prog_1_method_16_code 32 = .ok (.ldc 234, 2) := by decide +kernel
theorem d_H_lay_34 : decode prog_1_method_16_code 34 = .ok (.invokespecial 119, 3) := by decide +kernel
theorem d_H_lay_37 : decode prog_1_method_16_code 37 = .ok (.athrow, 1) := by decide +kernel
theorem d_H_traces_0 : decode prog_1_method_17_code 0 = .ok (.aload_n 0, 1) := by decide +kernel
theorem d_H_traces_1 : decode prog_1_method_17_code 1 = .ok (.getfield 34, 3) := by decide +kernel
theorem d_H_traces_4 : decode prog_1_method_17_code 4 = .ok (.iload_n 1, 1) := by decide +kernel
theorem d_H_traces_5 : decode prog_1_method_17_code 5 = .ok (.iload_n 2, 1) := by decide +kernel
theorem d_H_traces_6 : decode prog_1_method_17_code 6 = .ok (.invokevirtual 217, 3) := by decide +kernel
theorem d_H_traces_9 : decode prog_1_method_17_code 9 = .ok (.astore_n 3, 1) := by decide +kernel
theorem d_H_traces_10 : decode prog_1_method_17_code 10 = .ok (.aload_n 3, 1) := by decide +kernel
theorem d_H_traces_11 : decode prog_1_method_17_code 11 = .ok (.ifnonnull 13, 3) := by decide +kernel
theorem d_H_traces_14 : decode prog_1_method_17_code 14 = .ok (.new 115, 3) := by decide +kernel
theorem d_H_traces_17 : decode prog_1_method_17_code 17 = .ok (.dup, 1) := by decide +kernel
theorem d_H_traces_18 : decode prog_1_method_17_code 18 = .ok (.ldc 221, 2) := by decide +kernel
theorem d_H_traces_20 : decode prog_1_method_17_code 20 = .ok (.invokespecial 119, 3) := by decide +kernel
theorem d_H_traces_23 : decode prog_1_method_17_code 23 = .ok (.athrow, 1) := by decide +kernel
theorem d_H_hold_0 : decode prog_1_method_18_code 0 = .ok (.aload_n 0, 1) := by decide +kernel
theorem d_H_hold_1 : decode prog_1_method_18_code 1 = .ok (.getfield 34, 3) := by decide +kernel
theorem d_H_hold_4 : decode prog_1_method_18_code 4 = .ok (.iload_n 1, 1) := by decide +kernel
theorem d_H_hold_5 : decode prog_1_method_18_code 5 = .ok (.invokevirtual 201, 3) := by decide +kernel
theorem d_H_hold_8 : decode prog_1_method_18_code 8 = .ok (.astore 4, 2) := by decide +kernel
theorem d_H_hold_10 : decode prog_1_method_18_code 10 = .ok (.aload_n 0, 1) := by decide +kernel
theorem d_H_hold_11 : decode prog_1_method_18_code 11 = .ok (.getfield 34, 3) := by decide +kernel
theorem d_H_hold_14 : decode prog_1_method_18_code 14 = .ok (.iload_n 1, 1) := by decide +kernel
theorem d_H_hold_15 : decode prog_1_method_18_code 15 = .ok (.iload_n 2, 1) := by decide +kernel
theorem d_H_hold_16 : decode prog_1_method_18_code 16 = .ok (.invokevirtual 217, 3) := by decide +kernel
theorem d_H_hold_19 : decode prog_1_method_18_code 19 = .ok (.astore 5, 2) := by decide +kernel
theorem d_H_hold_21 : decode prog_1_method_18_code 21 = .ok (.aload 4, 2) := by decide +kernel
theorem d_H_hold_23 : decode prog_1_method_18_code 23 = .ok (.ifnull 8, 3) := by decide +kernel
theorem d_H_hold_31 : decode prog_1_method_18_code 31 = .ok (.new 115, 3) := by decide +kernel
theorem d_H_hold_34 : decode prog_1_method_18_code 34 = .ok (.dup, 1) := by decide +kernel
theorem d_H_hold_35 : decode prog_1_method_18_code 35 = .ok (.ldc 221, 2) := by decide +kernel
theorem d_H_hold_37 : decode prog_1_method_18_code 37 = .ok (.invokespecial 119, 3) := by decide +kernel
theorem d_H_hold_40 : decode prog_1_method_18_code 40 = .ok (.athrow, 1) := by decide +kernel
theorem d_H_recall_0 : decode prog_1_method_19_code 0 = .ok (.aload_n 0, 1) := by decide +kernel
theorem d_H_recall_1 : decode prog_1_method_19_code 1 = .ok (.getfield 34, 3) := by decide +kernel
theorem d_H_recall_4 : decode prog_1_method_19_code 4 = .ok (.iload_n 1, 1) := by decide +kernel
theorem d_H_recall_5 : decode prog_1_method_19_code 5 = .ok (.invokevirtual 201, 3) := by decide +kernel
theorem d_H_recall_8 : decode prog_1_method_19_code 8 = .ok (.astore_n 3, 1) := by decide +kernel
theorem d_H_recall_9 : decode prog_1_method_19_code 9 = .ok (.aload_n 3, 1) := by decide +kernel
theorem d_H_recall_10 : decode prog_1_method_19_code 10 = .ok (.ifnull 15, 3) := by decide +kernel
theorem d_H_recall_25 : decode prog_1_method_19_code 25 = .ok (.new 115, 3) := by decide +kernel
theorem d_H_recall_28 : decode prog_1_method_19_code 28 = .ok (.dup, 1) := by decide +kernel
theorem d_H_recall_29 : decode prog_1_method_19_code 29 = .ok (.ldc 221, 2) := by decide +kernel
theorem d_H_recall_31 : decode prog_1_method_19_code 31 = .ok (.invokespecial 119, 3) := by decide +kernel
theorem d_H_recall_34 : decode prog_1_method_19_code 34 = .ok (.athrow, 1) := by decide +kernel
theorem d_H_recalled_0 : decode prog_1_method_20_code 0 = .ok (.aload_n 0, 1) := by decide +kernel
theorem d_H_recalled_1 : decode prog_1_method_20_code 1 = .ok (.getfield 34, 3) := by decide +kernel
theorem d_H_recalled_4 : decode prog_1_method_20_code 4 = .ok (.iload_n 1, 1) := by decide +kernel
theorem d_H_recalled_5 : decode prog_1_method_20_code 5 = .ok (.invokevirtual 201, 3) := by decide +kernel
theorem d_H_recalled_8 : decode prog_1_method_20_code 8 = .ok (.astore 4, 2) := by decide +kernel
theorem d_H_recalled_10 : decode prog_1_method_20_code 10 = .ok (.aload 4, 2) := by decide +kernel
theorem d_H_recalled_12 : decode prog_1_method_20_code 12 = .ok (.ifnull 15, 3) := by decide +kernel
theorem d_H_recalled_27 : decode prog_1_method_20_code 27 = .ok (.new 115, 3) := by decide +kernel
theorem d_H_recalled_30 : decode prog_1_method_20_code 30 = .ok (.dup, 1) := by decide +kernel
theorem d_H_recalled_31 : decode prog_1_method_20_code 31 = .ok (.ldc 221, 2) := by decide +kernel
theorem d_H_recalled_33 : decode prog_1_method_20_code 33 = .ok (.invokespecial 119, 3) := by decide +kernel
theorem d_H_recalled_36 : decode prog_1_method_20_code 36 = .ok (.athrow, 1) := by decide +kernel
theorem d_H_walk_0 : decode prog_1_method_21_code 0 = .ok (.aload_n 0, 1) := by decide +kernel
theorem d_H_walk_1 : decode prog_1_method_21_code 1 = .ok (.getfield 34, 3) := by decide +kernel
theorem d_H_walk_4 : decode prog_1_method_21_code 4 = .ok (.iload_n 1, 1) := by decide +kernel
theorem d_H_walk_5 : decode prog_1_method_21_code 5 = .ok (.invokevirtual 201, 3) := by decide +kernel
theorem d_H_walk_8 : decode prog_1_method_21_code 8 = .ok (.astore_n 2, 1) := by decide +kernel
theorem d_H_walk_9 : decode prog_1_method_21_code 9 = .ok (.aload_n 2, 1) := by decide +kernel
theorem d_H_walk_10 : decode prog_1_method_21_code 10 = .ok (.ifnonnull 13, 3) := by decide +kernel
theorem d_H_walk_13 : decode prog_1_method_21_code 13 = .ok (.new 115, 3) := by decide +kernel
theorem d_H_walk_16 : decode prog_1_method_21_code 16 = .ok (.dup, 1) := by decide +kernel
theorem d_H_walk_17 : decode prog_1_method_21_code 17 = .ok (.ldc 205, 2) := by decide +kernel
theorem d_H_walk_19 : decode prog_1_method_21_code 19 = .ok (.invokespecial 119, 3) := by decide +kernel
theorem d_H_walk_22 : decode prog_1_method_21_code 22 = .ok (.athrow, 1) := by decide +kernel
theorem d_H_groups_0 : decode prog_1_method_22_code 0 = .ok (.aload_n 0, 1) := by decide +kernel
theorem d_H_groups_1 : decode prog_1_method_22_code 1 = .ok (.getfield 34, 3) := by decide +kernel
theorem d_H_groups_4 : decode prog_1_method_22_code 4 = .ok (.iload_n 1, 1) := by decide +kernel
theorem d_H_groups_5 : decode prog_1_method_22_code 5 = .ok (.invokevirtual 201, 3) := by decide +kernel
theorem d_H_groups_8 : decode prog_1_method_22_code 8 = .ok (.astore_n 3, 1) := by decide +kernel
theorem d_H_groups_9 : decode prog_1_method_22_code 9 = .ok (.aload_n 3, 1) := by decide +kernel
theorem d_H_groups_10 : decode prog_1_method_22_code 10 = .ok (.ifnonnull 13, 3) := by decide +kernel
theorem d_H_groups_13 : decode prog_1_method_22_code 13 = .ok (.new 115, 3) := by decide +kernel
theorem d_H_groups_16 : decode prog_1_method_22_code 16 = .ok (.dup, 1) := by decide +kernel
theorem d_H_groups_17 : decode prog_1_method_22_code 17 = .ok (.ldc 205, 2) := by decide +kernel
theorem d_H_groups_19 : decode prog_1_method_22_code 19 = .ok (.invokespecial 119, 3) := by decide +kernel
theorem d_H_groups_22 : decode prog_1_method_22_code 22 = .ok (.athrow, 1) := by decide +kernel
theorem d_H_wipe_0 : decode prog_1_method_23_code 0 = .ok (.aload_n 0, 1) := by decide +kernel
theorem d_H_wipe_1 : decode prog_1_method_23_code 1 = .ok (.getfield 34, 3) := by decide +kernel
theorem d_H_wipe_4 : decode prog_1_method_23_code 4 = .ok (.iload_n 1, 1) := by decide +kernel
theorem d_H_wipe_5 : decode prog_1_method_23_code 5 = .ok (.iload_n 2, 1) := by decide +kernel
theorem d_H_wipe_6 : decode prog_1_method_23_code 6 = .ok (.invokevirtual 217, 3) := by decide +kernel
theorem d_H_wipe_9 : decode prog_1_method_23_code 9 = .ok (.astore_n 3, 1) := by decide +kernel
theorem d_H_wipe_10 : decode prog_1_method_23_code 10 = .ok (.aload_n 3, 1) := by decide +kernel
theorem d_H_wipe_11 : decode prog_1_method_23_code 11 = .ok (.ifnonnull 13, 3) := by decide +kernel
theorem d_H_wipe_14 : decode prog_1_method_23_code 14 = .ok (.new 115, 3) := by decide +kernel
theorem d_H_wipe_17 : decode prog_1_method_23_code 17 = .ok (.dup, 1) := by decide +kernel
theorem d_H_wipe_18 : decode prog_1_method_23_code 18 = .ok (.ldc 221, 2) := by decide +kernel
theorem d_H_wipe_20 : decode prog_1_method_23_code 20 = .ok (.invokespecial 119, 3) := by decide +kernel
theorem d_H_wipe_23 : decode prog_1_method_23_code 23 = .ok (.athrow, 1) := by decide +kernel
theorem d_H_contest_0 : decode prog_1_method_29_code 0 = .ok (.aload_n 0, 1) := by decide +kernel
theorem d_H_contest_1 : decode prog_1_method_29_code 1 = .ok (.getfield 34, 3) := by decide +kernel
theorem d_H_contest_4 : decode prog_1_method_29_code 4 = .ok (.iload_n 3, 1) := by decide +kernel
theorem d_H_contest_5 : decode prog_1_method_29_code 5 = .ok (.invokevirtual 201, 3) := by decide +kernel
theorem d_H_contest_8 : decode prog_1_method_29_code 8 = .ok (.astore 6, 2) := by decide +kernel
theorem d_H_contest_10 : decode prog_1_method_29_code 10 = .ok (.aload_n 0, 1) := by decide +kernel
theorem d_H_contest_11 : decode prog_1_method_29_code 11 = .ok (.iload 4, 2) := by decide +kernel
theorem d_H_contest_13 : decode prog_1_method_29_code 13 = .ok (.invokevirtual 107, 3) := by decide +kernel
theorem d_H_contest_16 : decode prog_1_method_29_code 16 = .ok (.astore 7, 2) := by decide +kernel
theorem d_H_contest_18 : decode prog_1_method_29_code 18 = .ok (.aload 6, 2) := by decide +kernel
theorem d_H_contest_20 : decode prog_1_method_29_code 20 = .ok (.ifnull 8, 3) := by decide +kernel
theorem d_H_contest_28 : decode prog_1_method_29_code 28 = .ok (.new 115, 3) := by decide +kernel
theorem d_H_contest_31 : decode prog_1_method_29_code 31 = .ok (.dup, 1) := by decide +kernel
theorem d_H_contest_32 : decode prog_1_method_29_code 32 = .ok (.ldc_w 315, 3) := by decide +kernel
theorem d_H_contest_35 : decode prog_1_method_29_code 35 = .ok (.invokespecial 119, 3) := by decide +kernel
theorem d_H_contest_38 : decode prog_1_method_29_code 38 = .ok (.athrow, 1) := by decide +kernel
theorem d_H_speech_0 : decode prog_1_method_38_code 0 = .ok (.aload_n 0, 1) := by decide +kernel
theorem d_H_speech_1 : decode prog_1_method_38_code 1 = .ok (.getfield 34, 3) := by decide +kernel
theorem d_H_speech_4 : decode prog_1_method_38_code 4 = .ok (.iload_n 1, 1) := by decide +kernel
theorem d_H_speech_5 : decode prog_1_method_38_code 5 = .ok (.invokevirtual 201, 3) := by decide +kernel
theorem d_H_speech_8 : decode prog_1_method_38_code 8 = .ok (.astore_n 3, 1) := by decide +kernel
theorem d_H_speech_9 : decode prog_1_method_38_code 9 = .ok (.aload_n 3, 1) := by decide +kernel
theorem d_H_speech_10 : decode prog_1_method_38_code 10 = .ok (.ifnonnull 13, 3) := by decide +kernel
theorem d_H_speech_13 : decode prog_1_method_38_code 13 = .ok (.new 115, 3) := by decide +kernel
theorem d_H_speech_16 : decode prog_1_method_38_code 16 = .ok (.dup, 1) := by decide +kernel
theorem d_H_speech_17 : decode prog_1_method_38_code 17 = .ok (.ldc 205, 2) := by decide +kernel
theorem d_H_speech_19 : decode prog_1_method_38_code 19 = .ok (.invokespecial 119, 3) := by decide +kernel
theorem d_H_speech_22 : decode prog_1_method_38_code 22 = .ok (.athrow, 1) := by decide +kernel
theorem d_H_drawn_0 : decode prog_1_method_30_code 0 = .ok (.iload_n 1, 1) := by decide +kernel
theorem d_H_drawn_1 : decode prog_1_method_30_code 1 = .ok (.ifCond .lt 26, 3) := by decide +kernel
theorem d_H_drawn_4 : decode prog_1_method_30_code 4 = .ok (.iload_n 1, 1) := by decide +kernel
theorem d_H_drawn_5 : decode prog_1_method_30_code 5 = .ok (.aload_n 0, 1) := by decide +kernel
theorem d_H_drawn_6 : decode prog_1_method_30_code 6 = .ok (.getfield 55, 3) := by decide +kernel
theorem d_H_drawn_9 : decode prog_1_method_30_code 9 = .ok (.getfield 341, 3) := by decide +kernel
theorem d_H_drawn_12 : decode prog_1_method_30_code 12 = .ok (.if_icmp .ge 15, 3) := by decide +kernel
theorem d_H_drawn_27 : decode prog_1_method_30_code 27 = .ok (.new 138, 3) := by decide +kernel
theorem d_H_drawn_30 : decode prog_1_method_30_code 30 = .ok (.dup, 1) := by decide +kernel
theorem d_H_drawn_31 : decode prog_1_method_30_code 31 = .ok (.ldc_w 342, 3) := by decide +kernel
theorem d_H_drawn_34 : decode prog_1_method_30_code 34 = .ok (.invokespecial 142, 3) := by decide +kernel
theorem d_H_drawn_37 : decode prog_1_method_30_code 37 = .ok (.athrow, 1) := by decide +kernel
theorem d_H_answer_0 : decode prog_1_method_31_code 0 = .ok (.aload_n 0, 1) := by decide +kernel
theorem d_H_answer_1 : decode prog_1_method_31_code 1 = .ok (.getfield 55, 3) := by decide +kernel
theorem d_H_answer_4 : decode prog_1_method_31_code 4 = .ok (.getfield 319, 3) := by decide +kernel
theorem d_H_answer_7 : decode prog_1_method_31_code 7 = .ok (.ifCond .ne 14, 3) := by decide +kernel
theorem d_H_answer_10 : decode prog_1_method_31_code 10 = .ok (.new 138, 3) := by decide +kernel
theorem d_H_answer_13 : decode prog_1_method_31_code 13 = .ok (.dup, 1) := by decide +kernel
theorem d_H_answer_14 : decode prog_1_method_31_code 14 = .ok (.ldc_w 344, 3) := by decide +kernel
theorem d_H_answer_17 : decode prog_1_method_31_code 17 = .ok (.invokespecial 142, 3) := by decide +kernel
theorem d_H_answer_20 : decode prog_1_method_31_code 20 = .ok (.athrow, 1) := by decide +kernel
theorem d_H_answerAll_0 : decode prog_1_method_32_code 0 = .ok (.aload_n 0, 1) := by decide +kernel
theorem d_H_answerAll_1 : decode prog_1_method_32_code 1 = .ok (.getfield 55, 3) := by decide +kernel
theorem d_H_answerAll_4 : decode prog_1_method_32_code 4 = .ok (.getfield 319, 3) := by decide +kernel
theorem d_H_answerAll_7 : decode prog_1_method_32_code 7 = .ok (.ifCond .ne 14, 3) := by decide +kernel
theorem d_H_answerAll_10 : decode prog_1_method_32_code 10 = .ok (.new 138, 3) := by decide +kernel
theorem d_H_answerAll_13 : decode prog_1_method_32_code 13 = .ok (.dup, 1) := by decide +kernel
theorem d_H_answerAll_14 : decode prog_1_method_32_code 14 = .ok (.ldc_w 344, 3) := by decide +kernel
theorem d_H_answerAll_17 : decode prog_1_method_32_code 17 = .ok (.invokespecial 142, 3) := by decide +kernel
theorem d_H_answerAll_20 : decode prog_1_method_32_code 20 = .ok (.athrow, 1) := by decide +kernel
theorem d_H_appeal_0 : decode prog_1_method_33_code 0 = .ok (.aload_n 0, 1) := by decide +kernel
theorem d_H_appeal_1 : decode prog_1_method_33_code 1 = .ok (.getfield 55, 3) := by decide +kernel
theorem d_H_appeal_4 : decode prog_1_method_33_code 4 = .ok (.getfield 319, 3) := by decide +kernel
theorem d_H_appeal_7 : decode prog_1_method_33_code 7 = .ok (.ifCond .eq 18, 3) := by decide +kernel
theorem d_H_appeal_25 : decode prog_1_method_33_code 25 = .ok (.new 138, 3) := by decide +kernel
theorem d_H_appeal_28 : decode prog_1_method_33_code 28 = .ok (.dup, 1) := by decide +kernel
theorem d_H_appeal_29 : decode prog_1_method_33_code 29 = .ok (.ldc_w 365, 3) := by decide +kernel
theorem d_H_appeal_32 : decode prog_1_method_33_code 32 = .ok (.invokespecial 142, 3) := by decide +kernel
theorem d_H_appeal_35 : decode prog_1_method_33_code 35 = .ok (.athrow, 1) := by decide +kernel
theorem d_H_close_0 : decode prog_1_method_34_code 0 = .ok (.aload_n 0, 1) := by decide +kernel
theorem d_H_close_1 : decode prog_1_method_34_code 1 = .ok (.getfield 55, 3) := by decide +kernel
theorem d_H_close_4 : decode prog_1_method_34_code 4 = .ok (.getfield 319, 3) := by decide +kernel
theorem d_H_close_7 : decode prog_1_method_34_code 7 = .ok (.ifCond .ne 14, 3) := by decide +kernel
theorem d_H_close_10 : decode prog_1_method_34_code 10 = .ok (.new 138, 3) := by decide +kernel
theorem d_H_close_13 : decode prog_1_method_34_code 13 = .ok (.dup, 1) := by decide +kernel
theorem d_H_close_14 : decode prog_1_method_34_code 14 = .ok (.ldc_w 344, 3) := by decide +kernel
theorem d_H_close_17 : decode prog_1_method_34_code 17 = .ok (.invokespecial 142, 3) := by decide +kernel
theorem d_H_close_20 : decode prog_1_method_34_code 20 = .ok (.athrow, 1) := by decide +kernel
theorem d_H_points_0 : decode prog_1_method_35_code 0 = .ok (.aload_n 0, 1) := by decide +kernel
theorem d_H_points_1 : decode prog_1_method_35_code 1 = .ok (.getfield 55, 3) := by decide +kernel
theorem d_H_points_4 : decode prog_1_method_35_code 4 = .ok (.getfield 398, 3) := by decide +kernel
theorem d_H_points_7 : decode prog_1_method_35_code 7 = .ok (.ifCond .ne 14, 3) := by decide +kernel
theorem d_H_points_10 : decode prog_1_method_35_code 10 = .ok (.new 138, 3) := by decide +kernel
theorem d_H_points_13 : decode prog_1_method_35_code 13 = .ok (.dup, 1) := by decide +kernel
theorem d_H_points_14 : decode prog_1_method_35_code 14 = .ok (.ldc_w 401, 3) := by decide +kernel
theorem d_H_points_17 : decode prog_1_method_35_code 17 = .ok (.invokespecial 142, 3) := by decide +kernel
theorem d_H_points_20 : decode prog_1_method_35_code 20 = .ok (.athrow, 1) := by decide +kernel
theorem d_HContest_bestUpTo_0 : decode prog_2_method_14_code 0 = .ok (.iconst (-1), 1) := by decide +kernel
theorem d_HContest_bestUpTo_1 : decode prog_2_method_14_code 1 = .ok (.istore_n 2, 1) := by decide +kernel
theorem d_HContest_bestUpTo_2 : decode prog_2_method_14_code 2 = .ok (.iconst 0, 1) := by decide +kernel
theorem d_HContest_bestUpTo_3 : decode prog_2_method_14_code 3 = .ok (.istore_n 3, 1) := by decide +kernel
theorem d_HContest_bestUpTo_4 : decode prog_2_method_14_code 4 = .ok (.iload_n 3, 1) := by decide +kernel
theorem d_HContest_bestUpTo_5 : decode prog_2_method_14_code 5 = .ok (.aload_n 0, 1) := by decide +kernel
theorem d_HContest_bestUpTo_6 : decode prog_2_method_14_code 6 = .ok (.getfield 116, 3) := by decide +kernel
theorem d_HContest_bestUpTo_9 : decode prog_2_method_14_code 9 = .ok (.if_icmp .ge 39, 3) := by decide +kernel
theorem d_HContest_bestUpTo_48 : decode prog_2_method_14_code 48 = .ok (.iload_n 2, 1) := by decide +kernel
theorem d_HContest_bestUpTo_49 : decode prog_2_method_14_code 49 = .ok (.ireturn, 1) := by decide +kernel
theorem d_H_record_0 : decode prog_1_method_36_code 0 = .ok (.iload_n 1, 1) := by decide +kernel
theorem d_H_record_1 : decode prog_1_method_36_code 1 = .ok (.invokestatic 299, 3) := by decide +kernel
theorem d_H_record_4 : decode prog_1_method_36_code 4 = .ok (.ifCond .ne 14, 3) := by decide +kernel
theorem d_H_record_7 : decode prog_1_method_36_code 7 = .ok (.new 77, 3) := by decide +kernel
theorem d_H_record_10 : decode prog_1_method_36_code 10 = .ok (.dup, 1) := by decide +kernel
theorem d_H_record_11 : decode prog_1_method_36_code 11 = .ok (.ldc_w 409, 3) := by decide +kernel
theorem d_H_record_14 : decode prog_1_method_36_code 14 = .ok (.invokespecial 81, 3) := by decide +kernel
theorem d_H_record_17 : decode prog_1_method_36_code 17 = .ok (.athrow, 1) := by decide +kernel
theorem d_H_record_18 : decode prog_1_method_36_code 18 = .ok (.aload_n 0, 1) := by decide +kernel
theorem d_H_record_19 : decode prog_1_method_36_code 19 = .ok (.getfield 55, 3) := by decide +kernel
theorem d_H_record_22 : decode prog_1_method_36_code 22 = .ok (.iload_n 1, 1) := by decide +kernel
theorem d_H_record_23 : decode prog_1_method_36_code 23 = .ok (.invokevirtual 411, 3) := by decide +kernel
theorem d_H_record_26 : decode prog_1_method_36_code 26 = .ok (.istore_n 2, 1) := by decide +kernel
theorem d_H_record_27 : decode prog_1_method_36_code 27 = .ok (.iload_n 2, 1) := by decide +kernel
theorem d_H_record_28 : decode prog_1_method_36_code 28 = .ok (.iconst (-1), 1) := by decide +kernel
theorem d_H_record_29 : decode prog_1_method_36_code 29 = .ok (.if_icmp .ne 14, 3) := by decide +kernel
theorem d_H_record_32 : decode prog_1_method_36_code 32 = .ok (.new 138, 3) := by decide +kernel
theorem d_H_record_35 : decode prog_1_method_36_code 35 = .ok (.dup, 1) := by decide +kernel
theorem d_H_record_36 : decode prog_1_method_36_code 36 = .ok (.ldc_w 414, 3) := by decide +kernel
theorem d_H_record_39 : decode prog_1_method_36_code 39 = .ok (.invokespecial 142, 3) := by decide +kernel
theorem d_H_record_42 : decode prog_1_method_36_code 42 = .ok (.athrow, 1) := by decide +kernel
theorem d_H_isSuspect_0 : decode prog_1_method_37_code 0 = .ok (.aload_n 0, 1) := by decide +kernel
theorem d_H_isSuspect_1 : decode prog_1_method_37_code 1 = .ok (.getfield 55, 3) := by decide +kernel
theorem d_H_isSuspect_4 : decode prog_1_method_37_code 4 = .ok (.getfield 341, 3) := by decide +kernel
theorem d_H_isSuspect_7 : decode prog_1_method_37_code 7 = .ok (.ifCond .ne 14, 3) := by decide +kernel
theorem d_H_isSuspect_10 : decode prog_1_method_37_code 10 = .ok (.new 138, 3) := by decide +kernel
theorem d_H_isSuspect_13 : decode prog_1_method_37_code 13 = .ok (.dup, 1) := by decide +kernel
theorem d_H_isSuspect_14 : decode prog_1_method_37_code 14 = .ok (.ldc_w 416, 3) := by decide +kernel
theorem d_H_isSuspect_17 : decode prog_1_method_37_code 17 = .ok (.invokespecial 142, 3) := by decide +kernel
theorem d_H_isSuspect_20 : decode prog_1_method_37_code 20 = .ok (.athrow, 1) := by decide +kernel
theorem d_H_speak_0 : decode prog_1_method_39_code 0 = .ok (.iload_n 1, 1) := by decide +kernel
theorem d_H_speak_1 : decode prog_1_method_39_code 1 = .ok (.ifCond .lt 14, 3) := by decide +kernel
theorem d_H_speak_4 : decode prog_1_method_39_code 4 = .ok (.iload_n 1, 1) := by decide +kernel
theorem d_H_speak_5 : decode prog_1_method_39_code 5 = .ok (.aload_n 0, 1) := by decide +kernel
theorem d_H_speak_6 : decode prog_1_method_39_code 6 = .ok (.getfield 62, 3) := by decide +kernel
theorem d_H_speak_9 : decode prog_1_method_39_code 9 = .ok (.getfield 424, 3) := by decide +kernel
theorem d_H_speak_12 : decode prog_1_method_39_code 12 = .ok (.if_icmp .lt 14, 3) := by decide +kernel
theorem d_H_speak_15 : decode prog_1_method_39_code 15 = .ok (.new 115, 3) := by decide +kernel
theorem d_H_speak_18 : decode prog_1_method_39_code 18 = .ok (.dup, 1) := by decide +kernel
theorem d_H_speak_19 : decode prog_1_method_39_code 19 = .ok (.ldc_w 429, 3) := by decide +kernel
theorem d_H_speak_22 : decode prog_1_method_39_code 22 = .ok (.invokespecial 119, 3) := by decide +kernel
theorem d_H_speak_25 : decode prog_1_method_39_code 25 = .ok (.athrow, 1) := by decide +kernel
theorem d_H_point_0 : decode prog_1_method_40_code 0 = .ok (.aload_n 0, 1) := by decide +kernel
theorem d_H_point_1 : decode prog_1_method_40_code 1 = .ok (.getfield 62, 3) := by decide +kernel
theorem d_H_point_4 : decode prog_1_method_40_code 4 = .ok (.getfield 434, 3) := by decide +kernel
theorem d_H_point_7 : decode prog_1_method_40_code 7 = .ok (.ifCond .eq 13, 3) := by decide +kernel
theorem d_H_point_20 : decode prog_1_method_40_code 20 = .ok (.new 138, 3) := by decide +kernel
theorem d_H_point_23 : decode prog_1_method_40_code 23 = .ok (.dup, 1) := by decide +kernel
theorem d_H_point_24 : decode prog_1_method_40_code 24 = .ok (.ldc_w 444, 3) := by decide +kernel
theorem d_H_point_27 : decode prog_1_method_40_code 27 = .ok (.invokespecial 142, 3) := by decide +kernel
theorem d_H_point_30 : decode prog_1_method_40_code 30 = .ok (.athrow, 1) := by decide +kernel
theorem d_H_interrupt_0 : decode prog_1_method_41_code 0 = .ok (.aload_n 0, 1) := by decide +kernel
theorem d_H_interrupt_1 : decode prog_1_method_41_code 1 = .ok (.getfield 62, 3) := by decide +kernel
theorem d_H_interrupt_4 : decode prog_1_method_41_code 4 = .ok (.getfield 434, 3) := by decide +kernel
theorem d_H_interrupt_7 : decode prog_1_method_41_code 7 = .ok (.ifCond .eq 13, 3) := by decide +kernel
theorem d_H_interrupt_20 : decode prog_1_method_41_code 20 = .ok (.new 138, 3) := by decide +kernel
theorem d_H_interrupt_23 : decode prog_1_method_41_code 23 = .ok (.dup, 1) := by decide +kernel
theorem d_H_interrupt_24 : decode prog_1_method_41_code 24 = .ok (.ldc_w 444, 3) := by decide +kernel
theorem d_H_interrupt_27 : decode prog_1_method_41_code 27 = .ok (.invokespecial 142, 3) := by decide +kernel
theorem d_H_interrupt_30 : decode prog_1_method_41_code 30 = .ok (.athrow, 1) := by decide +kernel
theorem d_H_resume_0 : decode prog_1_method_42_code 0 = .ok (.aload_n 0, 1) := by decide +kernel
theorem d_H_resume_1 : decode prog_1_method_42_code 1 = .ok (.getfield 62, 3) := by decide +kernel
theorem d_H_resume_4 : decode prog_1_method_42_code 4 = .ok (.getfield 437, 3) := by decide +kernel
theorem d_H_resume_7 : decode prog_1_method_42_code 7 = .ok (.ifCond .ne 14, 3) := by decide +kernel
theorem d_H_resume_10 : decode prog_1_method_42_code 10 = .ok (.new 138, 3) := by decide +kernel
theorem d_H_resume_13 : decode prog_1_method_42_code 13 = .ok (.dup, 1) := by decide +kernel
theorem d_H_resume_14 : decode prog_1_method_42_code 14 = .ok (.ldc_w 452, 3) := by decide +kernel
theorem d_H_resume_17 : decode prog_1_method_42_code 17 = .ok (.invokespecial 142, 3) := by decide +kernel
theorem d_H_resume_20 : decode prog_1_method_42_code 20 = .ok (.athrow, 1) := by decide +kernel
theorem d_H_review_0 : decode prog_1_method_44_code 0 = .ok (.aload_n 0, 1) := by decide +kernel
theorem d_H_review_1 : decode prog_1_method_44_code 1 = .ok (.getfield 69, 3) := by decide +kernel
theorem d_H_review_4 : decode prog_1_method_44_code 4 = .ok (.iload_n 1, 1) := by decide +kernel
theorem d_H_review_5 : decode prog_1_method_44_code 5 = .ok (.invokevirtual 463, 3) := by decide +kernel
theorem d_H_review_8 : decode prog_1_method_44_code 8 = .ok (.ifCond .ne 14, 3) := by decide +kernel
theorem d_H_review_11 : decode prog_1_method_44_code 11 = .ok (.new 115, 3) := by decide +kernel
theorem d_H_review_14 : decode prog_1_method_44_code 14 = .ok (.dup, 1) := by decide +kernel
theorem d_H_review_15 : decode prog_1_method_44_code 15 = .ok (.ldc_w 464, 3) := by decide +kernel
theorem d_H_review_18 : decode prog_1_method_44_code 18 = .ok (.invokespecial 119, 3) := by decide +kernel
theorem d_H_review_21 : decode prog_1_method_44_code 21 = .ok (.athrow, 1) := by decide +kernel
theorem d_H_strength_0 : decode prog_1_method_45_code 0 = .ok (.aload_n 0, 1) := by decide +kernel
theorem d_H_strength_1 : decode prog_1_method_45_code 1 = .ok (.getfield 69, 3) := by decide +kernel
theorem d_H_strength_4 : decode prog_1_method_45_code 4 = .ok (.iload_n 1, 1) := by decide +kernel
theorem d_H_strength_5 : decode prog_1_method_45_code 5 = .ok (.invokevirtual 463, 3) := by decide +kernel
theorem d_H_strength_8 : decode prog_1_method_45_code 8 = .ok (.ifCond .ne 14, 3) := by decide +kernel
theorem d_H_strength_11 : decode prog_1_method_45_code 11 = .ok (.new 115, 3) := by decide +kernel
theorem d_H_strength_14 : decode prog_1_method_45_code 14 = .ok (.dup, 1) := by decide +kernel
theorem d_H_strength_15 : decode prog_1_method_45_code 15 = .ok (.ldc_w 464, 3) := by decide +kernel
theorem d_H_strength_18 : decode prog_1_method_45_code 18 = .ok (.invokespecial 119, 3) := by decide +kernel
theorem d_H_strength_21 : decode prog_1_method_45_code 21 = .ok (.athrow, 1) := by decide +kernel
theorem d_H_isDue_0 : decode prog_1_method_46_code 0 = .ok (.aload_n 0, 1) := by decide +kernel
theorem d_H_isDue_1 : decode prog_1_method_46_code 1 = .ok (.getfield 69, 3) := by decide +kernel
theorem d_H_isDue_4 : decode prog_1_method_46_code 4 = .ok (.iload_n 1, 1) := by decide +kernel
theorem d_H_isDue_5 : decode prog_1_method_46_code 5 = .ok (.invokevirtual 463, 3) := by decide +kernel
theorem d_H_isDue_8 : decode prog_1_method_46_code 8 = .ok (.ifCond .ne 14, 3) := by decide +kernel
theorem d_H_isDue_11 : decode prog_1_method_46_code 11 = .ok (.new 115, 3) := by decide +kernel
theorem d_H_isDue_14 : decode prog_1_method_46_code 14 = .ok (.dup, 1) := by decide +kernel
theorem d_H_isDue_15 : decode prog_1_method_46_code 15 = .ok (.ldc_w 464, 3) := by decide +kernel
theorem d_H_isDue_18 : decode prog_1_method_46_code 18 = .ok (.invokespecial 119, 3) := by decide +kernel
theorem d_H_isDue_21 : decode prog_1_method_46_code 21 = .ok (.athrow, 1) := by decide +kernel
theorem d_H_bestSum_0 : decode prog_1_method_48_code 0 = .ok (.iload_n 1, 1) := by decide +kernel
theorem d_H_bestSum_1 : decode prog_1_method_48_code 1 = .ok (.iconst 1, 1) := by decide +kernel
theorem d_H_bestSum_2 : decode prog_1_method_48_code 2 = .ok (.iconst 5, 1) := by decide +kernel
theorem d_H_bestSum_3 : decode prog_1_method_48_code 3 = .ok (.invokestatic 73, 3) := by decide +kernel
theorem d_H_bestSum_6 : decode prog_1_method_48_code 6 = .ok (.ifCond .ne 14, 3) := by decide +kernel
theorem d_H_bestSum_9 : decode prog_1_method_48_code 9 = .ok (.new 77, 3) := by decide +kernel
theorem d_H_bestSum_12 : decode prog_1_method_48_code 12 = .ok (.dup, 1) := by decide +kernel
theorem d_H_bestSum_13 : decode prog_1_method_48_code 13 = .ok (.ldc_w 477, 3) := by decide +kernel
theorem d_H_bestSum_16 : decode prog_1_method_48_code 16 = .ok (.invokespecial 81, 3) := by decide +kernel
theorem d_H_bestSum_19 : decode prog_1_method_48_code 19 = .ok (.athrow, 1) := by decide +kernel
theorem d_H_bestSum_20 : decode prog_1_method_48_code 20 = .ok (.aload_n 0, 1) := by decide +kernel
theorem d_H_bestSum_21 : decode prog_1_method_48_code 21 = .ok (.getfield 69, 3) := by decide +kernel
theorem d_H_bestSum_24 : decode prog_1_method_48_code 24 = .ok (.getfield 459, 3) := by decide +kernel
theorem d_H_bestSum_27 : decode prog_1_method_48_code 27 = .ok (.iconst 4, 1) := by decide +kernel
theorem d_H_bestSum_28 : decode prog_1_method_48_code 28 = .ok (.if_icmp .le 14, 3) := by decide +kernel
theorem d_H_bestSum_42 : decode prog_1_method_48_code 42 = .ok (.aload_n 0, 1) := by decide +kernel
theorem d_H_bestSum_43 : decode prog_1_method_48_code 43 = .ok (.getfield 69, 3) := by decide +kernel
theorem d_H_bestSum_46 : decode prog_1_method_48_code 46 = .ok (.getfield 459, 3) := by decide +kernel
theorem d_H_bestSum_49 : decode prog_1_method_48_code 49 = .ok (.ifCond .ne 14, 3) := by decide +kernel
theorem d_H_bestSum_52 : decode prog_1_method_48_code 52 = .ok (.new 138, 3) := by decide +kernel
theorem d_H_bestSum_55 : decode prog_1_method_48_code 55 = .ok (.dup, 1) := by decide +kernel
theorem d_H_bestSum_56 : decode prog_1_method_48_code 56 = .ok (.ldc_w 481, 3) := by decide +kernel
theorem d_H_bestSum_59 : decode prog_1_method_48_code 59 = .ok (.invokespecial 142, 3) := by decide +kernel
theorem d_H_bestSum_62 : decode prog_1_method_48_code 62 = .ok (.athrow, 1) := by decide +kernel
theorem d_H_bestAt_0 : decode prog_1_method_49_code 0 = .ok (.iload_n 1, 1) := by decide +kernel
theorem d_H_bestAt_1 : decode prog_1_method_49_code 1 = .ok (.iconst 1, 1) := by decide +kernel
theorem d_H_bestAt_2 : decode prog_1_method_49_code 2 = .ok (.iconst 5, 1) := by decide +kernel
theorem d_H_bestAt_3 : decode prog_1_method_49_code 3 = .ok (.invokestatic 73, 3) := by decide +kernel
theorem d_H_bestAt_6 : decode prog_1_method_49_code 6 = .ok (.ifCond .eq 12, 3) := by decide +kernel
theorem d_H_bestAt_9 : decode prog_1_method_49_code 9 = .ok (.iload_n 2, 1) := by decide +kernel
theorem d_H_bestAt_10 : decode prog_1_method_49_code 10 = .ok (.ifCond .lt 8, 3) := by decide +kernel
theorem d_H_bestAt_13 : decode prog_1_method_49_code 13 = .ok (.iload_n 2, 1) := by decide +kernel
theorem d_H_bestAt_14 : decode prog_1_method_49_code 14 = .ok (.iload_n 1, 1) := by decide +kernel
theorem d_H_bestAt_15 : decode prog_1_method_49_code 15 = .ok (.if_icmp .lt 14, 3) := by decide +kernel
theorem d_H_bestAt_18 : decode prog_1_method_49_code 18 = .ok (.new 77, 3) := by decide +kernel
theorem d_H_bestAt_21 : decode prog_1_method_49_code 21 = .ok (.dup, 1) := by decide +kernel
theorem d_H_bestAt_22 : decode prog_1_method_49_code 22 = .ok (.ldc_w 490, 3) := by decide +kernel
theorem d_H_bestAt_25 : decode prog_1_method_49_code 25 = .ok (.invokespecial 81, 3) := by decide +kernel
theorem d_H_bestAt_28 : decode prog_1_method_49_code 28 = .ok (.athrow, 1) := by decide +kernel
theorem d_H_bestAt_29 : decode prog_1_method_49_code 29 = .ok (.aload_n 0, 1) := by decide +kernel
theorem d_H_bestAt_30 : decode prog_1_method_49_code 30 = .ok (.getfield 69, 3) := by decide +kernel
theorem d_H_bestAt_33 : decode prog_1_method_49_code 33 = .ok (.getfield 459, 3) := by decide +kernel
theorem d_H_bestAt_36 : decode prog_1_method_49_code 36 = .ok (.iconst 4, 1) := by decide +kernel
theorem d_H_bestAt_37 : decode prog_1_method_49_code 37 = .ok (.if_icmp .le 14, 3) := by decide +kernel
theorem d_H_bestAt_51 : decode prog_1_method_49_code 51 = .ok (.aload_n 0, 1) := by decide +kernel
theorem d_H_bestAt_52 : decode prog_1_method_49_code 52 = .ok (.getfield 69, 3) := by decide +kernel
theorem d_H_bestAt_55 : decode prog_1_method_49_code 55 = .ok (.getfield 459, 3) := by decide +kernel
theorem d_H_bestAt_58 : decode prog_1_method_49_code 58 = .ok (.ifCond .ne 14, 3) := by decide +kernel
theorem d_H_bestAt_61 : decode prog_1_method_49_code 61 = .ok (.new 138, 3) := by decide +kernel
theorem d_H_bestAt_64 : decode prog_1_method_49_code 64 = .ok (.dup, 1) := by decide +kernel
theorem d_H_bestAt_65 : decode prog_1_method_49_code 65 = .ok (.ldc_w 481, 3) := by decide +kernel
theorem d_H_bestAt_68 : decode prog_1_method_49_code 68 = .ok (.invokespecial 142, 3) := by decide +kernel
theorem d_H_bestAt_71 : decode prog_1_method_49_code 71 = .ok (.athrow, 1) := by decide +kernel
theorem d_HMind_countLaid_0 : decode prog_6_method_20_code 0 = .ok (.iconst 0, 1) := by decide +kernel
theorem d_HMind_countLaid_1 : decode prog_6_method_20_code 1 = .ok (.istore_n 1, 1) := by decide +kernel
theorem d_HMind_countLaid_2 : decode prog_6_method_20_code 2 = .ok (.iconst 0, 1) := by decide +kernel
theorem d_HMind_countLaid_3 : decode prog_6_method_20_code 3 = .ok (.istore_n 2, 1) := by decide +kernel
theorem d_HMind_countLaid_4 : decode prog_6_method_20_code 4 = .ok (.iload_n 2, 1) := by decide +kernel
theorem d_HMind_countLaid_5 : decode prog_6_method_20_code 5 = .ok (.aload_n 0, 1) := by decide +kernel
theorem d_HMind_countLaid_6 : decode prog_6_method_20_code 6 = .ok (.getfield 25, 3) := by decide +kernel
theorem d_HMind_countLaid_9 : decode prog_6_method_20_code 9 = .ok (.if_icmp .ge 49, 3) := by decide +kernel
theorem d_HMind_countLaid_58 : decode prog_6_method_20_code 58 = .ok (.iload_n 1, 1) := by decide +kernel
theorem d_HMind_countLaid_59 : decode prog_6_method_20_code 59 = .ok (.ireturn, 1) := by decide +kernel
theorem d_H_heldShare_0 : decode prog_1_method_51_code 0 = .ok (.aload_n 0, 1) := by decide +kernel
theorem d_H_heldShare_1 : decode prog_1_method_51_code 1 = .ok (.getfield 34, 3) := by decide +kernel
theorem d_H_heldShare_4 : decode prog_1_method_51_code 4 = .ok (.invokevirtual 495, 3) := by decide +kernel
theorem d_H_heldShare_7 : decode prog_1_method_51_code 7 = .ok (.istore_n 1, 1) := by decide +kernel
theorem d_H_heldShare_8 : decode prog_1_method_51_code 8 = .ok (.iload_n 1, 1) := by decide +kernel
theorem d_H_heldShare_9 : decode prog_1_method_51_code 9 = .ok (.ifCond .ne 14, 3) := by decide +kernel
theorem d_H_heldShare_12 : decode prog_1_method_51_code 12 = .ok (.new 498, 3) := by decide +kernel
theorem d_H_heldShare_15 : decode prog_1_method_51_code 15 = .ok (.dup, 1) := by decide +kernel
theorem d_H_heldShare_16 : decode prog_1_method_51_code 16 = .ok (.ldc_w 500, 3) := by decide +kernel
theorem d_H_heldShare_19 : decode prog_1_method_51_code 19 = .ok (.invokespecial 502, 3) := by decide +kernel
theorem d_H_heldShare_22 : decode prog_1_method_51_code 22 = .ok (.athrow, 1) := by decide +kernel
theorem d_H_meanHold_0 : decode prog_1_method_52_code 0 = .ok (.aload_n 0, 1) := by decide +kernel
theorem d_H_meanHold_1 : decode prog_1_method_52_code 1 = .ok (.getfield 34, 3) := by decide +kernel
theorem d_H_meanHold_4 : decode prog_1_method_52_code 4 = .ok (.invokevirtual 495, 3) := by decide +kernel
theorem d_H_meanHold_7 : decode prog_1_method_52_code 7 = .ok (.istore_n 1, 1) := by decide +kernel
theorem d_H_meanHold_8 : decode prog_1_method_52_code 8 = .ok (.iload_n 1, 1) := by decide +kernel
theorem d_H_meanHold_9 : decode prog_1_method_52_code 9 = .ok (.ifCond .ne 14, 3) := by decide +kernel
theorem d_H_meanHold_12 : decode prog_1_method_52_code 12 = .ok (.new 498, 3) := by decide +kernel
theorem d_H_meanHold_15 : decode prog_1_method_52_code 15 = .ok (.dup, 1) := by decide +kernel
theorem d_H_meanHold_16 : decode prog_1_method_52_code 16 = .ok (.ldc_w 500, 3) := by decide +kernel
theorem d_H_meanHold_19 : decode prog_1_method_52_code 19 = .ok (.invokespecial 502, 3) := by decide +kernel
theorem d_H_meanHold_22 : decode prog_1_method_52_code 22 = .ok (.athrow, 1) := by decide +kernel
theorem d_HImages_add_0 : decode prog_4_method_2_code 0 = .ok (.aload_n 0, 1) := by decide +kernel
theorem d_HImages_add_1 : decode prog_4_method_2_code 1 = .ok (.getfield 18, 3) := by decide +kernel
theorem d_HImages_add_4 : decode prog_4_method_2_code 4 = .ok (.aload_n 0, 1) := by decide +kernel
theorem d_HImages_add_5 : decode prog_4_method_2_code 5 = .ok (.getfield 9, 3) := by decide +kernel
theorem d_HImages_add_8 : decode prog_4_method_2_code 8 = .ok (.arraylength, 1) := by decide +kernel
theorem d_HImages_add_9 : decode prog_4_method_2_code 9 = .ok (.if_icmp .ge 45, 3) := by decide +kernel
theorem d_HImages_add_12 : decode prog_4_method_2_code 12 = .ok (.aload_n 0, 1) := by decide +kernel
theorem d_HImages_add_13 : decode prog_4_method_2_code 13 = .ok (.getfield 18, 3) := by decide +kernel
theorem d_HImages_add_16 : decode prog_4_method_2_code 16 = .ok (.aload_n 0, 1) := by decide +kernel
theorem d_HImages_add_17 : decode prog_4_method_2_code 17 = .ok (.getfield 15, 3) := by decide +kernel
theorem d_HImages_add_20 : decode prog_4_method_2_code 20 = .ok (.arraylength, 1) := by decide +kernel
theorem d_HImages_add_21 : decode prog_4_method_2_code 21 = .ok (.if_icmp .ge 33, 3) := by decide +kernel
theorem d_HImages_add_24 : decode prog_4_method_2_code 24 = .ok (.aload_n 0, 1) := by decide +kernel
theorem d_HImages_add_25 : decode prog_4_method_2_code 25 = .ok (.getfield 9, 3) := by decide +kernel
theorem d_HImages_add_28 : decode prog_4_method_2_code 28 = .ok (.aload_n 0, 1) := by decide +kernel
theorem d_HImages_add_29 : decode prog_4_method_2_code 29 = .ok (.getfield 18, 3) := by decide +kernel
theorem d_HImages_add_32 : decode prog_4_method_2_code 32 = .ok (.iload_n 1, 1) := by decide +kernel
theorem d_HImages_add_33 : decode prog_4_method_2_code 33 = .ok (.iastore, 1) := by decide +kernel
theorem d_HImages_add_34 : decode prog_4_method_2_code 34 = .ok (.aload_n 0, 1) := by decide +kernel
theorem d_HImages_add_35 : decode prog_4_method_2_code 35 = .ok (.getfield 15, 3) := by decide +kernel
theorem d_HImages_add_38 : decode prog_4_method_2_code 38 = .ok (.aload_n 0, 1) := by decide +kernel
theorem d_HImages_add_39 : decode prog_4_method_2_code 39 = .ok (.getfield 18, 3) := by decide +kernel
theorem d_HImages_add_42 : decode prog_4_method_2_code 42 = .ok (.iload_n 2, 1) := by decide +kernel
theorem d_HImages_add_43 : decode prog_4_method_2_code 43 = .ok (.iastore, 1) := by decide +kernel
theorem d_HImages_add_44 : decode prog_4_method_2_code 44 = .ok (.aload_n 0, 1) := by decide +kernel
theorem d_HImages_add_45 : decode prog_4_method_2_code 45 = .ok (.dup, 1) := by decide +kernel
theorem d_HImages_add_46 : decode prog_4_method_2_code 46 = .ok (.getfield 18, 3) := by decide +kernel
theorem d_HImages_add_49 : decode prog_4_method_2_code 49 = .ok (.iconst 1, 1) := by decide +kernel
theorem d_HImages_add_50 : decode prog_4_method_2_code 50 = .ok (.iadd, 1) := by decide +kernel
theorem d_HImages_add_51 : decode prog_4_method_2_code 51 = .ok (.putfield 18, 3) := by decide +kernel
theorem d_HImages_add_54 : decode prog_4_method_2_code 54 = .ok (.aload_n 0, 1) := by decide +kernel
theorem d_HImages_add_55 : decode prog_4_method_2_code 55 = .ok (.getfield 18, 3) := by decide +kernel
theorem d_HImages_add_58 : decode prog_4_method_2_code 58 = .ok (.iconst 1, 1) := by decide +kernel
theorem d_HImages_add_59 : decode prog_4_method_2_code 59 = .ok (.isub, 1) := by decide +kernel
theorem d_HImages_add_60 : decode prog_4_method_2_code 60 = .ok (.ireturn, 1) := by decide +kernel
theorem d_HYearRows_rowOf_0 : decode prog_12_method_2_code 0 = .ok (.iconst 0, 1) := by decide +kernel
theorem d_HYearRows_rowOf_1 : decode prog_12_method_2_code 1 = .ok (.istore_n 2, 1) := by decide +kernel
theorem d_HYearRows_rowOf_2 : decode prog_12_method_2_code 2 = .ok (.iload_n 2, 1) := by decide +kernel
theorem d_HYearRows_rowOf_3 : decode prog_12_method_2_code 3 = .ok (.aload_n 0, 1) := by decide +kernel
theorem d_HYearRows_rowOf_4 : decode prog_12_method_2_code 4 = .ok (.getfield 21, 3) := by decide +kernel
theorem d_HYearRows_rowOf_7 : decode prog_12_method_2_code 7 = .ok (.if_icmp .ge 30, 3) := by decide +kernel
theorem d_HYearRows_rowOf_37 : decode prog_12_method_2_code 37 = .ok (.iconst (-1), 1) := by decide +kernel
theorem d_HYearRows_rowOf_38 : decode prog_12_method_2_code 38 = .ok (.ireturn, 1) := by decide +kernel
theorem d_HYearRows_isFullFor_0 : decode prog_12_method_3_code 0 = .ok (.aload_n 0, 1) := by decide +kernel
theorem d_HYearRows_isFullFor_1 : decode prog_12_method_3_code 1 = .ok (.getfield 21, 3) := by decide +kernel
theorem d_HYearRows_isFullFor_4 : decode prog_12_method_3_code 4 = .ok (.aload_n 0, 1) := by decide +kernel
theorem d_HYearRows_isFullFor_5 : decode prog_12_method_3_code 5 = .ok (.getfield 9, 3) := by decide +kernel
theorem d_HYearRows_isFullFor_8 : decode prog_12_method_3_code 8 = .ok (.arraylength, 1) := by decide +kernel
theorem d_HYearRows_isFullFor_9 : decode prog_12_method_3_code 9 = .ok (.if_icmp .lt 16, 3) := by decide +kernel
theorem d_HYearRows_isFullFor_25 : decode prog_12_method_3_code 25 = .ok (.iconst 0, 1) := by decide +kernel
theorem d_HYearRows_isFullFor_26 : decode prog_12_method_3_code 26 = .ok (.ireturn, 1) := by decide +kernel
theorem d_HYearRows_put_0 : decode prog_12_method_4_code 0 = .ok (.aload_n 0, 1) := by decide +kernel
theorem d_HYearRows_put_1 : decode prog_12_method_4_code 1 = .ok (.iload_n 1, 1) := by decide +kernel
theorem d_HYearRows_put_2 : decode prog_12_method_4_code 2 = .ok (.invokevirtual 25, 3) := by decide +kernel
theorem d_HYearRows_put_5 : decode prog_12_method_4_code 5 = .ok (.istore 4, 2) := by decide +kernel
theorem d_HYearRows_put_7 : decode prog_12_method_4_code 7 = .ok (.iload 4, 2) := by decide +kernel
theorem d_HYearRows_put_9 : decode prog_12_method_4_code 9 = .ok (.iconst (-1), 1) := by decide +kernel
theorem d_HYearRows_put_10 : decode prog_12_method_4_code 10 = .ok (.if_icmp .ne 10, 3) := by decide +kernel
theorem d_HYearRows_put_13 : decode prog_12_method_4_code 13 = .ok (.aload_n 0, 1) := by decide +kernel
theorem d_HYearRows_put_14 : decode prog_12_method_4_code 14 = .ok (.getfield 21, 3) := by decide +kernel
theorem d_HYearRows_put_17 : decode prog_12_method_4_code 17 = .ok (.goto 5, 3) := by decide +kernel
theorem d_HYearRows_put_22 : decode prog_12_method_4_code 22 = .ok (.istore 5, 2) := by decide +kernel
theorem d_HYearRows_put_24 : decode prog_12_method_4_code 24 = .ok (.iload 5, 2) := by decide +kernel
theorem d_HYearRows_put_26 : decode prog_12_method_4_code 26 = .ok (.ifCond .lt 72, 3) := by decide +kernel
theorem d_HYearRows_put_29 : decode prog_12_method_4_code 29 = .ok (.iload 5, 2) := by decide +kernel
theorem d_HYearRows_put_31 : decode prog_12_method_4_code 31 = .ok (.aload_n 0, 1) := by decide +kernel
theorem d_HYearRows_put_32 : decode prog_12_method_4_code 32 = .ok (.getfield 9, 3) := by decide +kernel
theorem d_HYearRows_put_35 : decode prog_12_method_4_code 35 = .ok (.arraylength, 1) := by decide +kernel
theorem d_HYearRows_put_36 : decode prog_12_method_4_code 36 = .ok (.if_icmp .ge 62, 3) := by decide +kernel
theorem d_HYearRows_put_39 : decode prog_12_method_4_code 39 = .ok (.iload 5, 2) := by decide +kernel
theorem d_HYearRows_put_41 : decode prog_12_method_4_code 41 = .ok (.aload_n 0, 1) := by decide +kernel
theorem d_HYearRows_put_42 : decode prog_12_method_4_code 42 = .ok (.getfield 15, 3) := by decide +kernel
theorem d_HYearRows_put_45 : decode prog_12_method_4_code 45 = .ok (.arraylength, 1) := by decide +kernel
theorem d_HYearRows_put_46 : decode prog_12_method_4_code 46 = .ok (.if_icmp .ge 52, 3) := by decide +kernel
theorem d_HYearRows_put_49 : decode prog_12_method_4_code 49 = .ok (.iload 5, 2) := by decide +kernel
theorem d_HYearRows_put_51 : decode prog_12_method_4_code 51 = .ok (.aload_n 0, 1) := by decide +kernel
theorem d_HYearRows_put_52 : decode prog_12_method_4_code 52 = .ok (.getfield 18, 3) := by decide +kernel
theorem d_HYearRows_put_55 : decode prog_12_method_4_code 55 = .ok (.arraylength, 1) := by decide +kernel
theorem d_HYearRows_put_56 : decode prog_12_method_4_code 56 = .ok (.if_icmp .ge 42, 3) := by decide +kernel
theorem d_HYearRows_put_59 : decode prog_12_method_4_code 59 = .ok (.aload_n 0, 1) := by decide +kernel
theorem d_HYearRows_put_60 : decode prog_12_method_4_code 60 = .ok (.getfield 9, 3) := by decide +kernel
theorem d_HYearRows_put_63 : decode prog_12_method_4_code 63 = .ok (.iload 5, 2) := by decide +kernel
theorem d_HYearRows_put_65 : decode prog_12_method_4_code 65 = .ok (.iload_n 1, 1) := by decide +kernel
theorem d_HYearRows_put_66 : decode prog_12_method_4_code 66 = .ok (.iastore, 1) := by decide +kernel
theorem d_HYearRows_put_67 : decode prog_12_method_4_code 67 = .ok (.aload_n 0, 1) := by decide +kernel
theorem d_HYearRows_put_68 : decode prog_12_method_4_code 68 = .ok (.getfield 15, 3) := by decide +kernel
theorem d_HYearRows_put_71 : decode prog_12_method_4_code 71 = .ok (.iload 5, 2) := by decide +kernel
theorem d_HYearRows_put_73 : decode prog_12_method_4_code 73 = .ok (.iload_n 2, 1) := by decide +kernel
theorem d_HYearRows_put_74 : decode prog_12_method_4_code 74 = .ok (.iastore, 1) := by decide +kernel
theorem d_HYearRows_put_75 : decode prog_12_method_4_code 75 = .ok (.aload_n 0, 1) := by decide +kernel
theorem d_HYearRows_put_76 : decode prog_12_method_4_code 76 = .ok (.getfield 18, 3) := by decide +kernel
theorem d_HYearRows_put_79 : decode prog_12_method_4_code 79 = .ok (.iload 5, 2) := by decide +kernel
theorem d_HYearRows_put_81 : decode prog_12_method_4_code 81 = .ok (.iload_n 3, 1) := by decide +kernel
theorem d_HYearRows_put_82 : decode prog_12_method_4_code 82 = .ok (.iastore, 1) := by decide +kernel
theorem d_HYearRows_put_83 : decode prog_12_method_4_code 83 = .ok (.aload_n 0, 1) := by decide +kernel
theorem d_HYearRows_put_84 : decode prog_12_method_4_code 84 = .ok (.aload_n 0, 1) := by decide +kernel
theorem d_HYearRows_put_85 : decode prog_12_method_4_code 85 = .ok (.getfield 21, 3) := by decide +kernel
theorem d_HYearRows_put_88 : decode prog_12_method_4_code 88 = .ok (.iload 5, 2) := by decide +kernel
theorem d_HYearRows_put_90 : decode prog_12_method_4_code 90 = .ok (.iconst 1, 1) := by decide +kernel
theorem d_HYearRows_put_91 : decode prog_12_method_4_code 91 = .ok (.iadd, 1) := by decide +kernel
theorem d_HYearRows_put_92 : decode prog_12_method_4_code 92 = .ok (.invokestatic 29, 3) := by decide +kernel
theorem d_HYearRows_put_95 : decode prog_12_method_4_code 95 = .ok (.putfield 21, 3) := by decide +kernel
theorem d_HYearRows_put_98 : decode prog_12_method_4_code 98 = .ok (.aload_n 0, 1) := by decide +kernel
theorem d_HYearRows_put_99 : decode prog_12_method_4_code 99 = .ok (.getfield 21, 3) := by decide +kernel
theorem d_HYearRows_put_102 : decode prog_12_method_4_code 102 = .ok (.ireturn, 1) := by decide +kernel
theorem d_HFacts_add_0 : decode prog_3_method_2_code 0 = .ok (.aload_n 0, 1) := by decide +kernel
theorem d_HFacts_add_1 : decode prog_3_method_2_code 1 = .ok (.getfield 30, 3) := by decide +kernel
theorem d_HFacts_add_4 : decode prog_3_method_2_code 4 = .ok (.bipush 12, 2) := by decide +kernel
theorem d_HFacts_add_6 : decode prog_3_method_2_code 6 = .ok (.if_icmp .ge 43, 3) := by decide +kernel
theorem d_HFacts_add_9 : decode prog_3_method_2_code 9 = .ok (.aload_n 0, 1) := by decide +kernel
theorem d_HFacts_add_10 : decode prog_3_method_2_code 10 = .ok (.getfield 9, 3) := by decide +kernel
theorem d_HFacts_add_13 : decode prog_3_method_2_code 13 = .ok (.aload_n 0, 1) := by decide +kernel
theorem d_HFacts_add_14 : decode prog_3_method_2_code 14 = .ok (.getfield 30, 3) := by decide +kernel
theorem d_HFacts_add_17 : decode prog_3_method_2_code 17 = .ok (.iload_n 1, 1) := by decide +kernel
theorem d_HFacts_add_18 : decode prog_3_method_2_code 18 = .ok (.iastore, 1) := by decide +kernel
theorem d_HFacts_add_19 : decode prog_3_method_2_code 19 = .ok (.aload_n 0, 1) := by decide +kernel
theorem d_HFacts_add_20 : decode prog_3_method_2_code 20 = .ok (.getfield 15, 3) := by decide +kernel
theorem d_HFacts_add_23 : decode prog_3_method_2_code 23 = .ok (.aload_n 0, 1) := by decide +kernel
theorem d_HFacts_add_24 : decode prog_3_method_2_code 24 = .ok (.getfield 30, 3) := by decide +kernel
theorem d_HFacts_add_27 : decode prog_3_method_2_code 27 = .ok (.iconst 1, 1) := by decide +kernel
theorem d_HFacts_add_28 : decode prog_3_method_2_code 28 = .ok (.iastore, 1) := by decide +kernel
theorem d_HFacts_add_29 : decode prog_3_method_2_code 29 = .ok (.aload_n 0, 1) := by decide +kernel
theorem d_HFacts_add_30 : decode prog_3_method_2_code 30 = .ok (.getfield 18, 3) := by decide +kernel
theorem d_HFacts_add_33 : decode prog_3_method_2_code 33 = .ok (.aload_n 0, 1) := by decide +kernel
theorem d_HFacts_add_34 : decode prog_3_method_2_code 34 = .ok (.getfield 30, 3) := by decide +kernel
theorem d_HFacts_add_37 : decode prog_3_method_2_code 37 = .ok (.iload_n 2, 1) := by decide +kernel
theorem d_HFacts_add_38 : decode prog_3_method_2_code 38 = .ok (.iastore, 1) := by decide +kernel
theorem d_HFacts_add_39 : decode prog_3_method_2_code 39 = .ok (.aload_n 0, 1) := by decide +kernel
theorem d_HFacts_add_40 : decode prog_3_method_2_code 40 = .ok (.dup, 1) := by decide +kernel
theorem d_HFacts_add_41 : decode prog_3_method_2_code 41 = .ok (.getfield 30, 3) := by decide +kernel
theorem d_HFacts_add_44 : decode prog_3_method_2_code 44 = .ok (.iconst 1, 1) := by decide +kernel
theorem d_HFacts_add_45 : decode prog_3_method_2_code 45 = .ok (.iadd, 1) := by decide +kernel
theorem d_HFacts_add_46 : decode prog_3_method_2_code 46 = .ok (.putfield 30, 3) := by decide +kernel
theorem d_HFacts_add_49 : decode prog_3_method_2_code 49 = .ok (.aload_n 0, 1) := by decide +kernel
theorem d_HFacts_add_50 : decode prog_3_method_2_code 50 = .ok (.getfield 30, 3) := by decide +kernel
theorem d_HFacts_add_53 : decode prog_3_method_2_code 53 = .ok (.iconst 1, 1) := by decide +kernel
theorem d_HFacts_add_54 : decode prog_3_method_2_code 54 = .ok (.isub, 1) := by decide +kernel
theorem d_HFacts_add_55 : decode prog_3_method_2_code 55 = .ok (.ireturn, 1) := by decide +kernel
theorem d_HMind_strengthenBySleep_0 : decode prog_6_method_18_code 0 = .ok (.iconst 0, 1) := by decide +kernel
theorem d_HMind_strengthenBySleep_1 : decode prog_6_method_18_code 1 = .ok (.istore_n 1, 1) := by decide +kernel
theorem d_HMind_strengthenBySleep_2 : decode prog_6_method_18_code 2 = .ok (.iconst 0, 1) := by decide +kernel
theorem d_HMind_strengthenBySleep_3 : decode prog_6_method_18_code 3 = .ok (.istore_n 2, 1) := by decide +kernel
theorem d_HMind_strengthenBySleep_4 : decode prog_6_method_18_code 4 = .ok (.iload_n 2, 1) := by decide +kernel
theorem d_HMind_strengthenBySleep_5 : decode prog_6_method_18_code 5 = .ok (.aload_n 0, 1) := by decide +kernel
theorem d_HMind_strengthenBySleep_6 : decode prog_6_method_18_code 6 = .ok (.getfield 25, 3) := by decide +kernel
theorem d_HMind_strengthenBySleep_9 : decode prog_6_method_18_code 9 = .ok (.if_icmp .ge 50, 3) := by decide +kernel
theorem d_HMind_strengthenBySleep_59 : decode prog_6_method_18_code 59 = .ok (.aload_n 0, 1) := by decide +kernel
theorem d_HMind_strengthenBySleep_60 : decode prog_6_method_18_code 60 = .ok (.aload_n 0, 1) := by decide +kernel
theorem d_HMind_strengthenBySleep_61 : decode prog_6_method_18_code 61 = .ok (.getfield 43, 3) := by decide +kernel
theorem d_HMind_strengthenBySleep_64 : decode prog_6_method_18_code 64 = .ok (.putfield 206, 3) := by decide +kernel
theorem d_HMind_strengthenBySleep_67 : decode prog_6_method_18_code 67 = .ok (.iload_n 1, 1) := by decide +kernel
theorem d_HMind_strengthenBySleep_68 : decode prog_6_method_18_code 68 = .ok (.ireturn, 1) := by decide +kernel
set_option maxRecDepth 100000 in
theorem hat_81 : ∀ w ∈ vx_atS "Locihall" 81 "java/lang/IllegalArgumentException" ["java/lang/RuntimeException", "java/lang/Exception"], w ∈ lw_tbl ∧ (goodWord w || qn_ok w) = true := by
  have h : (vx_atS "Locihall" 81 "java/lang/IllegalArgumentException" ["java/lang/RuntimeException", "java/lang/Exception"]).all (fun w => decide (w ∈ lw_tbl) && (goodWord w || qn_ok w)) = true := by decide +kernel
  intro w hw
  have h1 := List.all_eq_true.mp h w hw
  rw [Bool.and_eq_true, decide_eq_true_eq] at h1
  exact h1
set_option maxRecDepth 100000 in
theorem hgd_81 : ∀ w ∈ Cond.classLink "Locihall" 77 "java/lang/IllegalArgumentException" :: Cond.initialized "java/lang/IllegalArgumentException" :: vx_atS "Locihall" 81 "java/lang/IllegalArgumentException" ["java/lang/RuntimeException", "java/lang/Exception"], vx_ot w = true := List.all_eq_true.mp (by decide +kernel)
set_option maxRecDepth 100000 in
theorem hat_119 : ∀ w ∈ vx_atS "Locihall" 119 "java/lang/IndexOutOfBoundsException" ["java/lang/RuntimeException", "java/lang/Exception"], w ∈ lw_tbl ∧ (goodWord w || qn_ok w) = true := by
  have h : (vx_atS "Locihall" 119 "java/lang/IndexOutOfBoundsException" ["java/lang/RuntimeException", "java/lang/Exception"]).all (fun w => decide (w ∈ lw_tbl) && (goodWord w || qn_ok w)) = true := by decide +kernel
  intro w hw
  have h1 := List.all_eq_true.mp h w hw
  rw [Bool.and_eq_true, decide_eq_true_eq] at h1
  exact h1
set_option maxRecDepth 100000 in
theorem hgd_119 : ∀ w ∈ Cond.classLink "Locihall" 115 "java/lang/IndexOutOfBoundsException" :: Cond.initialized "java/lang/IndexOutOfBoundsException" :: vx_atS "Locihall" 119 "java/lang/IndexOutOfBoundsException" ["java/lang/RuntimeException", "java/lang/Exception"], vx_ot w = true := List.all_eq_true.mp (by decide +kernel)
theorem cx0 : decode prog_50_method_4_code 0 = .ok (.aload_n 0, 1) := by decide +kernel
theorem cx1 : decode prog_50_method_4_code 1 = .ok (.aload_n 1, 1) := by decide +kernel
theorem cx2 : decode prog_50_method_4_code 2 = .ok (.invokespecial 13, 3) := by decide +kernel
theorem cx5 : decode prog_50_method_4_code 5 = .ok (.return_, 1) := by decide +kernel
set_option maxRecDepth 100000 in
theorem hat_142 : ∀ w ∈ qx_atS "Locihall" 142 "java/util/NoSuchElementException" 13 prog_50_method_4_code ["java/lang/RuntimeException", "java/lang/Exception"], w ∈ lw_tbl ∧ (goodWord w || qn_ok w) = true := by
  have h : (qx_atS "Locihall" 142 "java/util/NoSuchElementException" 13 prog_50_method_4_code ["java/lang/RuntimeException", "java/lang/Exception"]).all (fun w => decide (w ∈ lw_tbl) && (goodWord w || qn_ok w)) = true := by decide +kernel
  intro w hw
  have h1 := List.all_eq_true.mp h w hw
  rw [Bool.and_eq_true, decide_eq_true_eq] at h1
  exact h1
set_option maxRecDepth 100000 in
theorem hgd_142 : ∀ w ∈ Cond.classLink "Locihall" 138 "java/util/NoSuchElementException" :: Cond.initialized "java/util/NoSuchElementException" :: qx_atS "Locihall" 142 "java/util/NoSuchElementException" 13 prog_50_method_4_code ["java/lang/RuntimeException", "java/lang/Exception"], vx_ot w = true := List.all_eq_true.mp (by decide +kernel)
set_option maxRecDepth 100000 in
theorem hat_502 : ∀ w ∈ vx_atS "Locihall" 502 "java/lang/ArithmeticException" ["java/lang/RuntimeException", "java/lang/Exception"], w ∈ lw_tbl ∧ (goodWord w || qn_ok w) = true := by
  have h : (vx_atS "Locihall" 502 "java/lang/ArithmeticException" ["java/lang/RuntimeException", "java/lang/Exception"]).all (fun w => decide (w ∈ lw_tbl) && (goodWord w || qn_ok w)) = true := by decide +kernel
  intro w hw
  have h1 := List.all_eq_true.mp h w hw
  rw [Bool.and_eq_true, decide_eq_true_eq] at h1
  exact h1
set_option maxRecDepth 100000 in
theorem hgd_502 : ∀ w ∈ Cond.classLink "Locihall" 498 "java/lang/ArithmeticException" :: Cond.initialized "java/lang/ArithmeticException" :: vx_atS "Locihall" 502 "java/lang/ArithmeticException" ["java/lang/RuntimeException", "java/lang/Exception"], vx_ot w = true := List.all_eq_true.mp (by decide +kernel)
