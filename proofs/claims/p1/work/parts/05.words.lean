theorem qw_list {ws : List Cond} (is : List Nat) (h : is.map (fun i => lw_tbl[i]?) = ws.map some) (hg : ws.all goodWord = true) : ∀ w ∈ ws, w ∈ qw := by
  intro w hw
  obtain ⟨k, hk⟩ := List.mem_iff_getElem?.mp hw
  have h1 : (is.map (fun i => lw_tbl[i]?))[k]? = some (some w) := by rw [h, List.getElem?_map, hk]; rfl
  rw [List.getElem?_map] at h1
  obtain ⟨i, hi, e⟩ := Option.map_eq_some_iff.mp h1
  exact List.mem_filter.mpr ⟨List.mem_of_getElem? e, List.all_eq_true.mp hg w hw⟩
theorem qc_0 : qCl 0 RJ0 TJ0 2 tyJ0 := ⟨rfl, qw_list [691, 693] (by decide +kernel) (by decide +kernel), tyJ0_ok, nmJ0⟩
theorem qc_1 : qCl 1 RJ6 TJ6 1 tyJ6 := ⟨rfl, qw_list [2031] (by decide +kernel) (by decide +kernel), tyJ6_ok, nmJ6⟩
theorem qc_2 : qCl 2 RJx00060 TJx00060 6 tyJx00060 := ⟨rfl, qw_list [679, 680, 681, 682, 683, 684] (by decide +kernel) (by decide +kernel), tyJx00060_ok, nmJx00060⟩
theorem qc_3 : qCl 3 RJx35411 TJx35411 4 tyJx35411 := ⟨rfl, qw_list [2150, 2152, 2154, 2156] (by decide +kernel) (by decide +kernel), tyJx35411_ok, nmJx35411⟩
theorem qc_4 : qCl 4 RJx4a65c TJx4a65c 3 tyJx4a65c := ⟨rfl, qw_list [1661, 1657, 1659] (by decide +kernel) (by decide +kernel), tyJx4a65c_ok, nmJx4a65c⟩
theorem qc_5 : qCl 5 RX0 TX0 17 tyX0 := ⟨rfl, qw_list [296, 298, 300, 302, 304, 306, 308, 310, 312, 314, 316, 318, 320, 322, 324, 326, 328] (by decide +kernel) (by decide +kernel), tyX0_ok, nmX0⟩
theorem qc_6 : qCl 6 RX1 TX1 9 tyX1 := ⟨rfl, qw_list [382, 384, 386, 388, 390, 392, 394, 396, 398] (by decide +kernel) (by decide +kernel), tyX1_ok, nmX1⟩
theorem qc_7 : qCl 7 RX2 TX2 3 tyX2 := ⟨rfl, qw_list [192, 194, 196] (by decide +kernel) (by decide +kernel), tyX2_ok, nmX2⟩
theorem qc_8 : qCl 8 RX3 TX3 4 tyX3 := ⟨rfl, qw_list [933, 935, 937, 939] (by decide +kernel) (by decide +kernel), tyX3_ok, nmX3⟩
theorem qc_9 : qCl 9 RX4 TX4 6 tyX4 := ⟨rfl, qw_list [231, 233, 235, 237, 239, 241] (by decide +kernel) (by decide +kernel), tyX4_ok, nmX4⟩
theorem qc_10 : qCl 10 RX5 TX5 5 tyX5 := ⟨rfl, qw_list [893, 895, 897, 899, 901] (by decide +kernel) (by decide +kernel), tyX5_ok, nmX5⟩
theorem qc_11 : qCl 11 RX6 TX6 7 tyX6 := ⟨rfl, qw_list [348, 350, 352, 354, 356, 358, 360] (by decide +kernel) (by decide +kernel), tyX6_ok, nmX6⟩
theorem qc_12 : qCl 12 RX7 TX7 4 tyX7 := ⟨rfl, qw_list [659, 661, 663, 665] (by decide +kernel) (by decide +kernel), tyX7_ok, nmX7⟩
theorem qc_13 : qCl 13 RX8 TX8 1 tyX8 := ⟨rfl, qw_list [209] (by decide +kernel) (by decide +kernel), tyX8_ok, nmX8⟩
theorem qc_14 : qCl 14 RX9 TX9 8 tyX9 := ⟨rfl, qw_list [1004, 1006, 1008, 1010, 1012, 1014, 1016, 1018] (by decide +kernel) (by decide +kernel), tyX9_ok, nmX9⟩
theorem qc_15 : qCl 15 RX10 TX10 4 tyX10 := ⟨rfl, qw_list [254, 256, 258, 260] (by decide +kernel) (by decide +kernel), tyX10_ok, nmX10⟩
theorem qc_16 : qCl 16 RX11 TX11 13 tyX11 := ⟨rfl, qw_list [414, 416, 418, 420, 422, 424, 426, 428, 430, 432, 434, 436, 438] (by decide +kernel) (by decide +kernel), tyX11_ok, nmX11⟩
theorem qc_17 : qCl 17 RX12 TX12 3 tyX12 := ⟨rfl, qw_list [1991, 1993, 1995] (by decide +kernel) (by decide +kernel), tyX12_ok, nmX12⟩
theorem qc_18 : qCl 18 RX13 TX13 4 tyX13 := ⟨rfl, qw_list [1961, 1963, 1965, 1967] (by decide +kernel) (by decide +kernel), tyX13_ok, nmX13⟩
theorem qc_19 : qCl 19 RX14 TX14 7 tyX14 := ⟨rfl, qw_list [2090, 2092, 2094, 2096, 2098, 2100, 2102] (by decide +kernel) (by decide +kernel), tyX14_ok, nmX14⟩
theorem qc_20 : qCl 20 RX15 TX15 28 tyX15 := ⟨rfl, qw_list [1695, 1697, 1699, 1701, 1703, 1705, 1707, 1709, 1711, 1713, 1715, 1717, 1719, 1721, 1723, 1725, 1727, 1729, 1731, 1733, 1735, 1737, 1739, 1741, 1743, 1745, 1747, 1749] (by decide +kernel) (by decide +kernel), tyX15_ok, nmX15⟩
/-! the words, the code, the decode rows that are used -/
theorem k1 : Cond.selects "Locihall" ⟨"Locihall", "tableAt", "(I)LLocihall$Table;"⟩ ⟨"Locihall", "tableAt", "(I)LLocihall$Table;"⟩ ∈ qw := qw_at 1 (by decide +kernel) (by decide +kernel)
theorem k8 : Cond.selects "Locihall$Mind" ⟨"Locihall$Mind", "palaceAt", "(I)LLocihall$Palace;"⟩ ⟨"Locihall$Mind", "palaceAt", "(I)LLocihall$Palace;"⟩ ∈ qw := qw_at 8 (by decide +kernel) (by decide +kernel)
theorem k32 : Cond.selects "Locihall$Mind" ⟨"Locihall$Mind", "locusAt", "(II)LLocihall$Locus;"⟩ ⟨"Locihall$Mind", "locusAt", "(II)LLocihall$Locus;"⟩ ∈ qw := qw_at 32 (by decide +kernel) (by decide +kernel)
theorem k132 : Cond.initialized "Locihall" ∈ qw := qw_at 132 (by decide +kernel) (by decide +kernel)
theorem k135 : Cond.initialized "Locihall$Mind" ∈ qw := qw_at 135 (by decide +kernel) (by decide +kernel)
theorem k140 : Cond.initialized "LocihallModel" ∈ qw := qw_at 140 (by decide +kernel) (by decide +kernel)
theorem k154 : Cond.initialized "java/lang/IndexOutOfBoundsException" ∈ qw := qw_at 154 (by decide +kernel) (by decide +kernel)
theorem k224 : Cond.fieldLink "Locihall$Mind" 25 "Locihall$Mind" "palaceCount" "I" ∈ qw := qw_at 224 (by decide +kernel) (by decide +kernel)
theorem k374 : Cond.fieldLink "Locihall$Facts" 30 "Locihall$Facts" "count" "I" ∈ qw := qw_at 374 (by decide +kernel) (by decide +kernel)
theorem k404 : Cond.fieldLink "Locihall" 99 "Locihall" "tableCount" "I" ∈ qw := qw_at 404 (by decide +kernel) (by decide +kernel)
theorem k405 : Cond.fieldLink "Locihall" 34 "Locihall" "mind" "LLocihall$Mind;" ∈ qw := qw_at 405 (by decide +kernel) (by decide +kernel)
theorem k457 : Cond.methodLink "Locihall" 107 ⟨"Locihall", "tableAt", "(I)LLocihall$Table;"⟩ ∈ qw := qw_at 457 (by decide +kernel) (by decide +kernel)
theorem k459 : Cond.instanceMethod ⟨"Locihall", "tableAt", "(I)LLocihall$Table;"⟩ ∈ qw := qw_at 459 (by decide +kernel) (by decide +kernel)
theorem k460 : Cond.code ⟨"Locihall", "tableAt", "(I)LLocihall$Table;"⟩ prog_1_method_58_code 2 (some (.object "Locihall$Table")) ∈ qw := qw_at 460 (by decide +kernel) (by decide +kernel)
theorem k471 : Cond.static ⟨"Locihall", "isIn", "(III)Z"⟩ ∈ qw := qw_at 471 (by decide +kernel) (by decide +kernel)
theorem k472 : Cond.code ⟨"Locihall", "isIn", "(III)Z"⟩ prog_1_method_54_code 3 (some .boolean) ∈ qw := qw_at 472 (by decide +kernel) (by decide +kernel)
theorem k473 : Cond.methodLink "Locihall" 73 ⟨"Locihall", "isIn", "(III)Z"⟩ ∈ qw := qw_at 473 (by decide +kernel) (by decide +kernel)
theorem k494 : Cond.methodLink "Locihall$Mind" 29 ⟨"Locihall$Mind", "palaceAt", "(I)LLocihall$Palace;"⟩ ∈ qw := qw_at 494 (by decide +kernel) (by decide +kernel)
theorem k496 : Cond.instanceMethod ⟨"Locihall$Mind", "palaceAt", "(I)LLocihall$Palace;"⟩ ∈ qw := qw_at 496 (by decide +kernel) (by decide +kernel)
theorem k497 : Cond.code ⟨"Locihall$Mind", "palaceAt", "(I)LLocihall$Palace;"⟩ prog_6_method_3_code 2 (some (.object "Locihall$Palace")) ∈ qw := qw_at 497 (by decide +kernel) (by decide +kernel)
theorem k700 : Cond.classLink "Locihall" 115 "java/lang/IndexOutOfBoundsException" ∈ qw := qw_at 700 (by decide +kernel) (by decide +kernel)
theorem k951 : Cond.instanceMethod ⟨"Locihall$Mind", "locusAt", "(II)LLocihall$Locus;"⟩ ∈ qw := qw_at 951 (by decide +kernel) (by decide +kernel)
theorem k952 : Cond.code ⟨"Locihall$Mind", "locusAt", "(II)LLocihall$Locus;"⟩ prog_6_method_4_code 4 (some (.object "Locihall$Locus")) ∈ qw := qw_at 952 (by decide +kernel) (by decide +kernel)
theorem k1680 : Cond.fieldLink "LocihallModel" 73 "LocihallModel" "thrown" "I" ∈ qw := qw_at 1680 (by decide +kernel) (by decide +kernel)
theorem k1681 : Cond.fieldLink "LocihallModel" 76 "LocihallModel" "systems" "I" ∈ qw := qw_at 1681 (by decide +kernel) (by decide +kernel)
theorem k1762 : Cond.methodLink "LocihallModel" 79 ⟨"LocihallModel", "isIn", "(JJJ)Z"⟩ ∈ qw := qw_at 1762 (by decide +kernel) (by decide +kernel)
theorem k1763 : Cond.static ⟨"LocihallModel", "isIn", "(JJJ)Z"⟩ ∈ qw := qw_at 1763 (by decide +kernel) (by decide +kernel)
theorem k1764 : Cond.code ⟨"LocihallModel", "isIn", "(JJJ)Z"⟩ prog_14_method_4_code 6 (some .boolean) ∈ qw := qw_at 1764 (by decide +kernel) (by decide +kernel)
theorem j709 : Cond.stringRef "Locihall" 117 "no such system or image" ∈ lw_tbl := List.mem_of_getElem? (i := 709) (by decide +kernel)
theorem j734 : Cond.stringRef "Locihall" 133 "no such system" ∈ lw_tbl := List.mem_of_getElem? (i := 734) (by decide +kernel)
theorem j911 : Cond.methodLinkNest "Locihall" 201 ⟨"Locihall$Mind", "palaceAt", "(I)LLocihall$Palace;"⟩ "Locihall" ∈ lw_tbl := List.mem_of_getElem? (i := 911) (by decide +kernel)
theorem j912 : Cond.stringRef "Locihall" 205 "no such palace" ∈ lw_tbl := List.mem_of_getElem? (i := 912) (by decide +kernel)
theorem j949 : Cond.methodLinkNest "Locihall" 217 ⟨"Locihall$Mind", "locusAt", "(II)LLocihall$Locus;"⟩ "Locihall" ∈ lw_tbl := List.mem_of_getElem? (i := 949) (by decide +kernel)
theorem j953 : Cond.stringRef "Locihall" 221 "no such palace or locus" ∈ lw_tbl := List.mem_of_getElem? (i := 953) (by decide +kernel)
theorem j969 : Cond.stringRef "Locihall" 234 "no such palace, locus or system" ∈ lw_tbl := List.mem_of_getElem? (i := 969) (by decide +kernel)
theorem j1273 : Cond.stringRef "Locihall" 315 "no such palace or system" ∈ lw_tbl := List.mem_of_getElem? (i := 1273) (by decide +kernel)
theorem d_H_isIn_0 : decode prog_1_method_54_code 0 = .ok (.iload_n 0, 1) := by decide +kernel
theorem d_H_isIn_1 : decode prog_1_method_54_code 1 = .ok (.iload_n 1, 1) := by decide +kernel
theorem d_H_isIn_2 : decode prog_1_method_54_code 2 = .ok (.if_icmp .lt 12, 3) := by decide +kernel
theorem d_H_isIn_5 : decode prog_1_method_54_code 5 = .ok (.iload_n 0, 1) := by decide +kernel
theorem d_H_isIn_6 : decode prog_1_method_54_code 6 = .ok (.iload_n 2, 1) := by decide +kernel
theorem d_H_isIn_7 : decode prog_1_method_54_code 7 = .ok (.if_icmp .gt 7, 3) := by decide +kernel
theorem d_H_isIn_10 : decode prog_1_method_54_code 10 = .ok (.iconst 1, 1) := by decide +kernel
theorem d_H_isIn_11 : decode prog_1_method_54_code 11 = .ok (.goto 4, 3) := by decide +kernel
theorem d_H_isIn_14 : decode prog_1_method_54_code 14 = .ok (.iconst 0, 1) := by decide +kernel
theorem d_H_isIn_15 : decode prog_1_method_54_code 15 = .ok (.ireturn, 1) := by decide +kernel
theorem d_H_isKey_0 : decode prog_1_method_55_code 0 = .ok (.iload_n 0, 1) := by decide +kernel
theorem d_H_isKey_1 : decode prog_1_method_55_code 1 = .ok (.iconst 0, 1) := by decide +kernel
theorem d_H_isKey_2 : decode prog_1_method_55_code 2 = .ok (.bipush 99, 2) := by decide +kernel
theorem d_H_isKey_4 : decode prog_1_method_55_code 4 = .ok (.invokestatic 73, 3) := by decide +kernel
theorem d_H_isKey_7 : decode prog_1_method_55_code 7 = .ok (.ireturn, 1) := by decide +kernel
theorem d_H_isTongue_0 : decode prog_1_method_56_code 0 = .ok (.iload_n 0, 1) := by decide +kernel
theorem d_H_isTongue_1 : decode prog_1_method_56_code 1 = .ok (.iconst 0, 1) := by decide +kernel
theorem d_H_isTongue_2 : decode prog_1_method_56_code 2 = .ok (.iconst 2, 1) := by decide +kernel
theorem d_H_isTongue_3 : decode prog_1_method_56_code 3 = .ok (.invokestatic 73, 3) := by decide +kernel
theorem d_H_isTongue_6 : decode prog_1_method_56_code 6 = .ok (.ireturn, 1) := by decide +kernel
theorem d_H_isYear_0 : decode prog_1_method_57_code 0 = .ok (.iload_n 0, 1) := by decide +kernel
theorem d_H_isYear_1 : decode prog_1_method_57_code 1 = .ok (.iconst 0, 1) := by decide +kernel
theorem d_H_isYear_2 : decode prog_1_method_57_code 2 = .ok (.sipush 9999, 3) := by decide +kernel
theorem d_H_isYear_5 : decode prog_1_method_57_code 5 = .ok (.invokestatic 73, 3) := by decide +kernel
theorem d_H_isYear_8 : decode prog_1_method_57_code 8 = .ok (.ireturn, 1) := by decide +kernel
theorem d_H_tableAt_0 : decode prog_1_method_58_code 0 = .ok (.iload_n 1, 1) := by decide +kernel
theorem d_H_tableAt_1 : decode prog_1_method_58_code 1 = .ok (.ifCond .lt 29, 3) := by decide +kernel
theorem d_H_tableAt_4 : decode prog_1_method_58_code 4 = .ok (.iload_n 1, 1) := by decide +kernel
theorem d_H_tableAt_5 : decode prog_1_method_58_code 5 = .ok (.aload_n 0, 1) := by decide +kernel
theorem d_H_tableAt_6 : decode prog_1_method_58_code 6 = .ok (.getfield 99, 3) := by decide +kernel
theorem d_H_tableAt_9 : decode prog_1_method_58_code 9 = .ok (.if_icmp .ge 21, 3) := by decide +kernel
theorem d_H_tableAt_30 : decode prog_1_method_58_code 30 = .ok (.aconst_null, 1) := by decide +kernel
theorem d_H_tableAt_31 : decode prog_1_method_58_code 31 = .ok (.areturn, 1) := by decide +kernel
theorem d_HMind_palaceAt_0 : decode prog_6_method_3_code 0 = .ok (.iload_n 1, 1) := by decide +kernel
theorem d_HMind_palaceAt_1 : decode prog_6_method_3_code 1 = .ok (.ifCond .lt 29, 3) := by decide +kernel
theorem d_HMind_palaceAt_4 : decode prog_6_method_3_code 4 = .ok (.iload_n 1, 1) := by decide +kernel
theorem d_HMind_palaceAt_5 : decode prog_6_method_3_code 5 = .ok (.aload_n 0, 1) := by decide +kernel
theorem d_HMind_palaceAt_6 : decode prog_6_method_3_code 6 = .ok (.getfield 25, 3) := by decide +kernel
theorem d_HMind_palaceAt_9 : decode prog_6_method_3_code 9 = .ok (.if_icmp .ge 21, 3) := by decide +kernel
theorem d_HMind_palaceAt_30 : decode prog_6_method_3_code 30 = .ok (.aconst_null, 1) := by decide +kernel
theorem d_HMind_palaceAt_31 : decode prog_6_method_3_code 31 = .ok (.areturn, 1) := by decide +kernel
theorem d_HMind_locusAt_0 : decode prog_6_method_4_code 0 = .ok (.aload_n 0, 1) := by decide +kernel
theorem d_HMind_locusAt_1 : decode prog_6_method_4_code 1 = .ok (.iload_n 1, 1) := by decide +kernel
theorem d_HMind_locusAt_2 : decode prog_6_method_4_code 2 = .ok (.invokevirtual 29, 3) := by decide +kernel
theorem d_HMind_locusAt_5 : decode prog_6_method_4_code 5 = .ok (.astore_n 3, 1) := by decide +kernel
theorem d_HMind_locusAt_6 : decode prog_6_method_4_code 6 = .ok (.aload_n 3, 1) := by decide +kernel
theorem d_HMind_locusAt_7 : decode prog_6_method_4_code 7 = .ok (.ifnonnull 7, 3) := by decide +kernel
theorem d_HMind_locusAt_10 : decode prog_6_method_4_code 10 = .ok (.aconst_null, 1) := by decide +kernel
theorem d_HMind_locusAt_11 : decode prog_6_method_4_code 11 = .ok (.goto 8, 3) := by decide +kernel
theorem d_HMind_locusAt_19 : decode prog_6_method_4_code 19 = .ok (.areturn, 1) := by decide +kernel
theorem d_HFacts_has_0 : decode prog_3_method_3_code 0 = .ok (.iload_n 1, 1) := by decide +kernel
theorem d_HFacts_has_1 : decode prog_3_method_3_code 1 = .ok (.ifCond .lt 21, 3) := by decide +kernel
theorem d_HFacts_has_4 : decode prog_3_method_3_code 4 = .ok (.iload_n 1, 1) := by decide +kernel
theorem d_HFacts_has_5 : decode prog_3_method_3_code 5 = .ok (.aload_n 0, 1) := by decide +kernel
theorem d_HFacts_has_6 : decode prog_3_method_3_code 6 = .ok (.getfield 30, 3) := by decide +kernel
theorem d_HFacts_has_9 : decode prog_3_method_3_code 9 = .ok (.if_icmp .ge 13, 3) := by decide +kernel
theorem d_HFacts_has_22 : decode prog_3_method_3_code 22 = .ok (.iconst 0, 1) := by decide +kernel
theorem d_HFacts_has_23 : decode prog_3_method_3_code 23 = .ok (.ireturn, 1) := by decide +kernel
theorem d_M_isIn_0 : decode prog_14_method_4_code 0 = .ok (.lload_n 0, 1) := by decide +kernel
theorem d_M_isIn_1 : decode prog_14_method_4_code 1 = .ok (.lload_n 2, 1) := by decide +kernel
theorem d_M_isIn_2 : decode prog_14_method_4_code 2 = .ok (.lcmp, 1) := by decide +kernel
theorem d_M_isIn_3 : decode prog_14_method_4_code 3 = .ok (.ifCond .lt 14, 3) := by decide +kernel
theorem d_M_isIn_6 : decode prog_14_method_4_code 6 = .ok (.lload_n 0, 1) := by decide +kernel
theorem d_M_isIn_7 : decode prog_14_method_4_code 7 = .ok (.lload 4, 2) := by decide +kernel
theorem d_M_isIn_9 : decode prog_14_method_4_code 9 = .ok (.lcmp, 1) := by decide +kernel
theorem d_M_isIn_10 : decode prog_14_method_4_code 10 = .ok (.ifCond .gt 7, 3) := by decide +kernel
theorem d_M_isIn_13 : decode prog_14_method_4_code 13 = .ok (.iconst 1, 1) := by decide +kernel
theorem d_M_isIn_14 : decode prog_14_method_4_code 14 = .ok (.goto 4, 3) := by decide +kernel
theorem d_M_isIn_17 : decode prog_14_method_4_code 17 = .ok (.iconst 0, 1) := by decide +kernel
theorem d_M_isIn_18 : decode prog_14_method_4_code 18 = .ok (.ireturn, 1) := by decide +kernel
theorem d_M_isSystem_0 : decode prog_14_method_6_code 0 = .ok (.iload_n 1, 1) := by decide +kernel
theorem d_M_isSystem_1 : decode prog_14_method_6_code 1 = .ok (.i2l, 1) := by decide +kernel
theorem d_M_isSystem_2 : decode prog_14_method_6_code 2 = .ok (.lconst 0, 1) := by decide +kernel
theorem d_M_isSystem_3 : decode prog_14_method_6_code 3 = .ok (.aload_n 0, 1) := by decide +kernel
theorem d_M_isSystem_4 : decode prog_14_method_6_code 4 = .ok (.getfield 76, 3) := by decide +kernel
theorem d_M_isSystem_7 : decode prog_14_method_6_code 7 = .ok (.iconst 1, 1) := by decide +kernel
theorem d_M_isSystem_8 : decode prog_14_method_6_code 8 = .ok (.isub, 1) := by decide +kernel
theorem d_M_isSystem_9 : decode prog_14_method_6_code 9 = .ok (.i2l, 1) := by decide +kernel
theorem d_M_isSystem_10 : decode prog_14_method_6_code 10 = .ok (.invokestatic 79, 3) := by decide +kernel
theorem d_M_isSystem_13 : decode prog_14_method_6_code 13 = .ok (.ireturn, 1) := by decide +kernel
theorem d_M_thrown_0 : decode prog_14_method_2_code 0 = .ok (.aload_n 0, 1) := by decide +kernel
theorem d_M_thrown_1 : decode prog_14_method_2_code 1 = .ok (.getfield 73, 3) := by decide +kernel
theorem d_M_thrown_4 : decode prog_14_method_2_code 4 = .ok (.ireturn, 1) := by decide +kernel
theorem d_M_no_0 : decode prog_14_method_5_code 0 = .ok (.aload_n 0, 1) := by decide +kernel
theorem d_M_no_1 : decode prog_14_method_5_code 1 = .ok (.iload_n 1, 1) := by decide +kernel
theorem d_M_no_2 : decode prog_14_method_5_code 2 = .ok (.ifCond .eq 7, 3) := by decide +kernel
theorem d_M_no_5 : decode prog_14_method_5_code 5 = .ok (.iconst 0, 1) := by decide +kernel
theorem d_M_no_6 : decode prog_14_method_5_code 6 = .ok (.goto 4, 3) := by decide +kernel
theorem d_M_no_9 : decode prog_14_method_5_code 9 = .ok (.iload_n 2, 1) := by decide +kernel
theorem d_M_no_10 : decode prog_14_method_5_code 10 = .ok (.putfield 73, 3) := by decide +kernel
theorem d_M_no_13 : decode prog_14_method_5_code 13 = .ok (.iload_n 1, 1) := by decide +kernel
theorem d_M_no_14 : decode prog_14_method_5_code 14 = .ok (.ifCond .ne 7, 3) := by decide +kernel
theorem d_M_no_17 : decode prog_14_method_5_code 17 = .ok (.iconst 1, 1) := by decide +kernel
theorem d_M_no_18 : decode prog_14_method_5_code 18 = .ok (.goto 4, 3) := by decide +kernel
theorem d_M_no_21 : decode prog_14_method_5_code 21 = .ok (.iconst 0, 1) := by decide +kernel
theorem d_M_no_22 : decode prog_14_method_5_code 22 = .ok (.ireturn, 1) := by decide +kernel
theorem d_H_learn_0 : decode prog_1_method_4_code 0 = .ok (.aload_n 0, 1) := by decide +kernel
theorem d_H_learn_1 : decode prog_1_method_4_code 1 = .ok (.iload_n 1, 1) := by decide +kernel
theorem d_H_learn_2 : decode prog_1_method_4_code 2 = .ok (.invokevirtual 107, 3) := by decide +kernel
theorem d_H_learn_5 : decode prog_1_method_4_code 5 = .ok (.astore 4, 2) := by decide +kernel
theorem d_H_learn_7 : decode prog_1_method_4_code 7 = .ok (.aload 4, 2) := by decide +kernel
theorem d_H_learn_9 : decode prog_1_method_4_code 9 = .ok (.ifnull 14, 3) := by decide +kernel
theorem d_H_learn_23 : decode prog_1_method_4_code 23 = .ok (.new 115, 3) := by decide +kernel
theorem d_H_learn_26 : decode prog_1_method_4_code 26 = .ok (.dup, 1) := by decide +kernel
theorem d_H_learn_27 : decode prog_1_method_4_code 27 = .ok (.ldc 117, 2) := by decide +kernel
theorem d_H_learn_29 : decode prog_1_method_4_code 29 = .ok (.invokespecial 119, 3) := by decide +kernel
theorem d_H_learn_32 : decode prog_1_method_4_code 32 = .ok (.athrow, 1) := by decide +kernel
theorem d_H_imageOf_0 : decode prog_1_method_5_code 0 = .ok (.aload_n 0, 1) := by decide +kernel
theorem d_H_imageOf_1 : decode prog_1_method_5_code 1 = .ok (.iload_n 1, 1) := by decide +kernel
theorem d_H_imageOf_2 : decode prog_1_method_5_code 2 = .ok (.invokevirtual 107, 3) := by decide +kernel
theorem d_H_imageOf_5 : decode prog_1_method_5_code 5 = .ok (.astore_n 3, 1) := by decide +kernel
theorem d_H_imageOf_6 : decode prog_1_method_5_code 6 = .ok (.aload_n 3, 1) := by decide +kernel
theorem d_H_imageOf_7 : decode prog_1_method_5_code 7 = .ok (.ifnonnull 13, 3) := by decide +kernel
theorem d_H_imageOf_10 : decode prog_1_method_5_code 10 = .ok (.new 115, 3) := by decide +kernel
theorem d_H_imageOf_13 : decode prog_1_method_5_code 13 = .ok (.dup, 1) := by decide +kernel
theorem d_H_imageOf_14 : decode prog_1_method_5_code 14 = .ok (.ldc 133, 2) := by decide +kernel
theorem d_H_imageOf_16 : decode prog_1_method_5_code 16 = .ok (.invokespecial 119, 3) := by decide +kernel
theorem d_H_imageOf_19 : decode prog_1_method_5_code 19 = .ok (.athrow, 1) := by decide +kernel
theorem d_H_skill_0 : decode prog_1_method_6_code 0 = .ok (.aload_n 0, 1) := by decide +kernel
theorem d_H_skill_1 : decode prog_1_method_6_code 1 = .ok (.iload_n 1, 1) := by decide +kernel
theorem d_H_skill_2 : decode prog_1_method_6_code 2 = .ok (.invokevirtual 107, 3) := by decide +kernel
theorem d_H_skill_5 : decode prog_1_method_6_code 5 = .ok (.astore_n 3, 1) := by decide +kernel
theorem d_H_skill_6 : decode prog_1_method_6_code 6 = .ok (.aload_n 3, 1) := by decide +kernel
theorem d_H_skill_7 : decode prog_1_method_6_code 7 = .ok (.ifnonnull 13, 3) := by decide +kernel
theorem d_H_skill_10 : decode prog_1_method_6_code 10 = .ok (.new 115, 3) := by decide +kernel
theorem d_H_skill_13 : decode prog_1_method_6_code 13 = .ok (.dup, 1) := by decide +kernel
theorem d_H_skill_14 : decode prog_1_method_6_code 14 = .ok (.ldc 133, 2) := by decide +kernel
theorem d_H_skill_16 : decode prog_1_method_6_code 16 = .ok (.invokespecial 119, 3) := by decide +kernel
theorem d_H_skill_19 : decode prog_1_method_6_code 19 = .ok (.athrow, 1) := by decide +kernel
theorem d_H_takeOver_0 : decode prog_1_method_8_code 0 = .ok (.aload_n 0, 1) := by decide +kernel
theorem d_H_takeOver_1 : decode prog_1_method_8_code 1 = .ok (.iload_n 1, 1) := by decide +kernel
theorem d_H_takeOver_2 : decode prog_1_method_8_code 2 = .ok (.invokevirtual 107, 3) := by decide +kernel
theorem d_H_takeOver_5 : decode prog_1_method_8_code 5 = .ok (.astore 5, 2) := by decide +kernel
theorem d_H_takeOver_7 : decode prog_1_method_8_code 7 = .ok (.aload_n 0, 1) := by decide +kernel
theorem d_H_takeOver_8 : decode prog_1_method_8_code 8 = .ok (.iload_n 2, 1) := by decide +kernel
theorem d_H_takeOver_9 : decode prog_1_method_8_code 9 = .ok (.invokevirtual 107, 3) := by decide +kernel
theorem d_H_takeOver_12 : decode prog_1_method_8_code 12 = .ok (.astore 6, 2) := by decide +kernel
theorem d_H_takeOver_14 : decode prog_1_method_8_code 14 = .ok (.aload 5, 2) := by decide +kernel
theorem d_H_takeOver_16 : decode prog_1_method_8_code 16 = .ok (.ifnull 8, 3) := by decide +kernel
theorem d_H_takeOver_24 : decode prog_1_method_8_code 24 = .ok (.new 115, 3) := by decide +kernel
theorem d_H_takeOver_27 : decode prog_1_method_8_code 27 = .ok (.dup, 1) := by decide +kernel
theorem d_H_takeOver_28 : decode prog_1_method_8_code 28 = .ok (.ldc 133, 2) := by decide +kernel
theorem d_H_takeOver_30 : decode prog_1_method_8_code 30 = .ok (.invokespecial 119, 3) := by decide +kernel
theorem d_H_takeOver_33 : decode prog_1_method_8_code 33 = .ok (.athrow, 1) := by decide +kernel
theorem d_H_train_0 : decode prog_1_method_9_code 0 = .ok (.aload_n 0, 1) := by decide +kernel
theorem d_H_train_1 : decode prog_1_method_9_code 1 = .ok (.iload_n 1, 1) := by decide +kernel
theorem d_H_train_2 : decode prog_1_method_9_code 2 = .ok (.invokevirtual 107, 3) := by decide +kernel
theorem d_H_train_5 : decode prog_1_method_9_code 5 = .ok (.astore_n 3, 1) := by decide +kernel
theorem d_H_train_6 : decode prog_1_method_9_code 6 = .ok (.aload_n 3, 1) := by decide +kernel
theorem d_H_train_7 : decode prog_1_method_9_code 7 = .ok (.ifnonnull 13, 3) := by decide +kernel
theorem d_H_train_10 : decode prog_1_method_9_code 10 = .ok (.new 115, 3) := by decide +kernel
theorem d_H_train_13 : decode prog_1_method_9_code 13 = .ok (.dup, 1) := by decide +kernel
theorem d_H_train_14 : decode prog_1_method_9_code 14 = .ok (.ldc 133, 2) := by decide +kernel
theorem d_H_train_16 : decode prog_1_method_9_code 16 = .ok (.invokespecial 119, 3) := by decide +kernel
theorem d_H_train_19 : decode prog_1_method_9_code 19 = .ok (.athrow, 1) := by decide +kernel
theorem d_H_saved_0 : decode prog_1_method_10_code 0 = .ok (.aload_n 0, 1) := by decide +kernel
theorem d_H_saved_1 : decode prog_1_method_10_code 1 = .ok (.iload_n 1, 1) := by decide +kernel
theorem d_H_saved_2 : decode prog_1_method_10_code 2 = .ok (.invokevirtual 107, 3) := by decide +kernel
theorem d_H_saved_5 : decode prog_1_method_10_code 5 = .ok (.astore 4, 2) := by decide +kernel
theorem d_H_saved_7 : decode prog_1_method_10_code 7 = .ok (.aload 4, 2) := by decide +kernel
theorem d_H_saved_9 : decode prog_1_method_10_code 9 = .ok (.ifnonnull 13, 3) := by decide +kernel
theorem d_H_saved_12 : decode prog_1_method_10_code 12 = .ok (.new 115, 3) := by decide +kernel
theorem d_H_saved_15 : decode prog_1_method_10_code 15 = .ok (.dup, 1) := by decide +kernel
theorem d_H_saved_16 : decode prog_1_method_10_code 16 = .ok (.ldc 133, 2) := by decide +kernel
theorem d_H_saved_18 : decode prog_1_method_10_code 18 = .ok (.invokespecial 119, 3) := by decide +kernel
theorem d_H_saved_21 : decode prog_1_method_10_code 21 = .ok (.athrow, 1) := by decide +kernel
theorem d_H_paysBack_0 : decode prog_1_method_11_code 0 = .ok (.aload_n 0, 1) := by decide +kernel
theorem d_H_paysBack_1 : decode prog_1_method_11_code 1 = .ok (.iload_n 1, 1) := by decide +kernel
theorem d_H_paysBack_2 : decode prog_1_method_11_code 2 = .ok (.invokevirtual 107, 3) := by decide +kernel
theorem d_H_paysBack_5 : decode prog_1_method_11_code 5 = .ok (.astore 4, 2) := by decide +kernel
theorem d_H_paysBack_7 : decode prog_1_method_11_code 7 = .ok (.aload_n 0, 1) := by decide +kernel
theorem d_H_paysBack_8 : decode prog_1_method_11_code 8 = .ok (.iload_n 2, 1) := by decide +kernel
theorem d_H_paysBack_9 : decode prog_1_method_11_code 9 = .ok (.invokevirtual 107, 3) := by decide +kernel
theorem d_H_paysBack_12 : decode prog_1_method_11_code 12 = .ok (.astore 5, 2) := by decide +kernel
theorem d_H_paysBack_14 : decode prog_1_method_11_code 14 = .ok (.aload 4, 2) := by decide +kernel
theorem d_H_paysBack_16 : decode prog_1_method_11_code 16 = .ok (.ifnull 8, 3) := by decide +kernel
theorem d_H_paysBack_24 : decode prog_1_method_11_code 24 = .ok (.new 115, 3) := by decide +kernel
theorem d_H_paysBack_27 : decode prog_1_method_11_code 27 = .ok (.dup, 1) := by decide +kernel
theorem d_H_paysBack_28 : decode prog_1_method_11_code 28 = .ok (.ldc 133, 2) := by decide +kernel
theorem d_H_paysBack_30 : decode prog_1_method_11_code 30 = .ok (.invokespecial 119, 3) := by decide +kernel
theorem d_H_paysBack_33 : decode prog_1_method_11_code 33 = .ok (.athrow, 1) := by decide +kernel
theorem d_H_locus_0 : decode prog_1_method_13_code 0 = .ok (.aload_n 0, 1) := by decide +kernel
theorem d_H_locus_1 : decode prog_1_method_13_code 1 = .ok (.getfield 34, 3) := by decide +kernel
theorem d_H_locus_4 : decode prog_1_method_13_code 4 = .ok (.iload_n 1, 1) := by decide +kernel
theorem d_H_locus_5 : decode prog_1_method_13_code 5 = .ok (.invokevirtual 201, 3) := by decide +kernel
theorem d_H_locus_8 : decode prog_1_method_13_code 8 = .ok (.astore_n 3, 1) := by decide +kernel
theorem d_H_locus_9 : decode prog_1_method_13_code 9 = .ok (.aload_n 3, 1) := by decide +kernel
theorem d_H_locus_10 : decode prog_1_method_13_code 10 = .ok (.ifnonnull 13, 3) := by decide +kernel
theorem d_H_locus_13 : decode prog_1_method_13_code 13 = .ok (.new 115, 3) := by decide +kernel
theorem d_H_locus_16 : decode prog_1_method_13_code 16 = .ok (.dup, 1) := by decide +kernel
theorem d_H_locus_17 : decode prog_1_method_13_code 17 = .ok (.ldc 205, 2) := by decide +kernel
theorem d_H_locus_19 : decode prog_1_method_13_code 19 = .ok (.invokespecial 119, 3) := by decide +kernel
theorem d_H_locus_22 : decode prog_1_method_13_code 22 = .ok (.athrow, 1) := by decide +kernel
theorem d_H_cue_0 : decode prog_1_method_14_code 0 = .ok (.aload_n 0, 1) := by decide +kernel
theorem d_H_cue_1 : decode prog_1_method_14_code 1 = .ok (.getfield 34, 3) := by decide +kernel
theorem d_H_cue_4 : decode prog_1_method_14_code 4 = .ok (.iload_n 1, 1) := by decide +kernel
theorem d_H_cue_5 : decode prog_1_method_14_code 5 = .ok (.iload_n 2, 1) := by decide +kernel
theorem d_H_cue_6 : decode prog_1_method_14_code 6 = .ok (.invokevirtual 217, 3) := by decide +kernel
theorem d_H_cue_9 : decode prog_1_method_14_code 9 = .ok (.astore 4, 2) := by decide +kernel
theorem d_H_cue_11 : decode prog_1_method_14_code 11 = .ok (.aload 4, 2) := by decide +kernel
theorem d_H_cue_13 : decode prog_1_method_14_code 13 = .ok (.ifnonnull 13, 3) := by decide +kernel
theorem d_H_cue_16 : decode prog_1_method_14_code 16 = .ok (.new 115, 3) := by decide +kernel
theorem d_H_cue_19 : decode prog_1_method_14_code 19 = .ok (.dup, 1) := by decide +kernel
theorem d_H_cue_20 : decode prog_1_method_14_code 20 = .ok (.ldc 221, 2) := by decide +kernel
theorem d_H_cue_22 : decode prog_1_method_14_code 22 = .ok (.invokespecial 119, 3) := by decide +kernel
theorem d_H_cue_25 : decode prog_1_method_14_code 25 = .ok (.athrow, 1) := by decide +kernel
theorem d_H_lay_0 : decode prog_1_method_16_code 0 = .ok (.aload_n 0, 1) := by decide +kernel
theorem d_H_lay_1 : decode prog_1_method_16_code 1 = .ok (.getfield 34, 3) := by decide +kernel
theorem d_H_lay_4 : decode prog_1_method_16_code 4 = .ok (.iload_n 1, 1) := by decide +kernel
theorem d_H_lay_5 : decode prog_1_method_16_code 5 = .ok (.iload_n 2, 1) := by decide +kernel
theorem d_H_lay_6 : decode prog_1_method_16_code 6 = .ok (.invokevirtual 217, 3) := by decide +kernel
theorem d_H_lay_9 : decode prog_1_method_16_code 9 = .ok (.astore 5, 2) := by decide +kernel
theorem d_H_lay_11 : decode prog_1_method_16_code 11 = .ok (.aload_n 0, 1) := by decide +kernel
theorem d_H_lay_12 : decode prog_1_method_16_code 12 = .ok (.iload_n 3, 1) := by decide +kernel
theorem d_H_lay_13 : decode prog_1_method_16_code 13 = .ok (.invokevirtual 107, 3) := by decide +kernel
theorem d_H_lay_16 : decode prog_1_method_16_code 16 = .ok (.astore 6, 2) := by decide +kernel
theorem d_H_lay_18 : decode prog_1_method_16_code 18 = .ok (.aload 5, 2) := by decide +kernel
theorem d_H_lay_20 : decode prog_1_method_16_code 20 = .ok (.ifnull 8, 3) := by decide +kernel
theorem d_H_lay_28 : decode prog_1_method_16_code 28 = .ok (.new 115, 3) := by decide +kernel
theorem d_H_lay_31 : decode prog_1_method_16_code 31 = .ok (.dup, 1) := by decide +kernel
theorem d_H_lay_32 : decode prog_1_method_16_code 32 = .ok (.ldc 234, 2) := by decide +kernel
theorem d_H_lay_34 : decode prog_1_method_16_code 34 = .ok (.invokespecial 119, 3) := by decide +kernel
theorem d_H_lay_37 : decode prog_1_method_16_code 37 = .ok (.athrow, 1) := by decide +kernel
theorem d_H_traces_0 : decode prog_1_method_17_code 0 = .ok (.aload_n 0, 1) := by decide +kernel
theorem d_H_traces_1 : decode prog_1_method_17_code 1 = .ok (.getfield 34, 3) := by decide +kernel
theorem d_H_traces_4 : decode prog_1_method_17_code 4 = .ok (.iload_n 1, 1) := by decide +kernel
theorem d_H_traces_5 : decode prog_1_method_17_code 5 = .ok (.iload_n 2, 1) := by decide +kernel
theorem d_H_traces_6 : decode prog_1_method_17_code 6 = .ok (.invokevirtual 217, 3) := by decide +kernel
theorem d_H_traces_9 : decode prog_1_method_17_code 9 = .ok (.astore_n 3, 1) := by decide +kernel
theorem d_H_traces_10 : decode prog_1_method_17_code 10 = .ok (.aload_n 3, 1) := by decide +kernel
theorem d_H_traces_11 : decode prog_1_method_17_code 11 = .ok (.ifnonnull 13, 3) := by decide +kernel
theorem d_H_traces_14 : decode prog_1_method_17_code 14 = .ok (.new 115, 3) := by decide +kernel
theorem d_H_traces_17 : decode prog_1_method_17_code 17 = .ok (.dup, 1) := by decide +kernel
theorem d_H_traces_18 : decode prog_1_method_17_code 18 = .ok (.ldc 221, 2) := by decide +kernel
theorem d_H_traces_20 : decode prog_1_method_17_code 20 = .ok (.invokespecial 119, 3) := by decide +kernel
theorem d_H_traces_23 : decode prog_1_method_17_code 23 = .ok (.athrow, 1) := by decide +kernel
theorem d_H_hold_0 : decode prog_1_method_18_code 0 = .ok (.aload_n 0, 1) := by decide +kernel
theorem d_H_hold_1 : decode prog_1_method_18_code 1 = .ok (.getfield 34, 3) := by decide +kernel
theorem d_H_hold_4 : decode prog_1_method_18_code 4 = .ok (.iload_n 1, 1) := by decide +kernel
theorem d_H_hold_5 : decode prog_1_method_18_code 5 = .ok (.invokevirtual 201, 3) := by decide +kernel
theorem d_H_hold_8 : decode prog_1_method_18_code 8 = .ok (.astore 4, 2) := by decide +kernel
theorem d_H_hold_10 : decode prog_1_method_18_code 10 = .ok (.aload_n 0, 1) := by decide +kernel
theorem d_H_hold_11 : decode prog_1_method_18_code 11 = .ok (.getfield 34, 3) := by decide +kernel
theorem d_H_hold_14 : decode prog_1_method_18_code 14 = .ok (.iload_n 1, 1) := by decide +kernel
theorem d_H_hold_15 : decode prog_1_method_18_code 15 = .ok (.iload_n 2, 1) := by decide +kernel
theorem d_H_hold_16 : decode prog_1_method_18_code 16 = .ok (.invokevirtual 217, 3) := by decide +kernel
theorem d_H_hold_19 : decode prog_1_method_18_code 19 = .ok (.astore 5, 2) := by decide +kernel
theorem d_H_hold_21 : decode prog_1_method_18_code 21 = .ok (.aload 4, 2) := by decide +kernel
theorem d_H_hold_23 : decode prog_1_method_18_code 23 = .ok (.ifnull 8, 3) := by decide +kernel
theorem d_H_hold_31 : decode prog_1_method_18_code 31 = .ok (.new 115, 3) := by decide +kernel
theorem d_H_hold_34 : decode prog_1_method_18_code 34 = .ok (.dup, 1) := by decide +kernel
theorem d_H_hold_35 : decode prog_1_method_18_code 35 = .ok (.ldc 221, 2) := by decide +kernel
theorem d_H_hold_37 : decode prog_1_method_18_code 37 = .ok (.invokespecial 119, 3) := by decide +kernel
theorem d_H_hold_40 : decode prog_1_method_18_code 40 = .ok (.athrow, 1) := by decide +kernel
theorem d_H_recall_0 : decode prog_1_method_19_code 0 = .ok (.aload_n 0, 1) := by decide +kernel
theorem d_H_recall_1 : decode prog_1_method_19_code 1 = .ok (.getfield 34, 3) := by decide +kernel
theorem d_H_recall_4 : decode prog_1_method_19_code 4 = .ok (.iload_n 1, 1) := by decide +kernel
theorem d_H_recall_5 : decode prog_1_method_19_code 5 = .ok (.invokevirtual 201, 3) := by decide +kernel
theorem d_H_recall_8 : decode prog_1_method_19_code 8 = .ok (.astore_n 3, 1) := by decide +kernel
theorem d_H_recall_9 : decode prog_1_method_19_code 9 = .ok (.aload_n 3, 1) := by decide +kernel
theorem d_H_recall_10 : decode prog_1_method_19_code 10 = .ok (.ifnull 15, 3) := by decide +kernel
theorem d_H_recall_25 : decode prog_1_method_19_code 25 = .ok (.new 115, 3) := by decide +kernel
theorem d_H_recall_28 : decode prog_1_method_19_code 28 = .ok (.dup, 1) := by decide +kernel
theorem d_H_recall_29 : decode prog_1_method_19_code 29 = .ok (.ldc 221, 2) := by decide +kernel
theorem d_H_recall_31 : decode prog_1_method_19_code 31 = .ok (.invokespecial 119, 3) := by decide +kernel
theorem d_H_recall_34 : decode prog_1_method_19_code 34 = .ok (.athrow, 1) := by decide +kernel
theorem d_H_recalled_0 : decode prog_1_method_20_code 0 = .ok (.aload_n 0, 1) := by decide +kernel
theorem d_H_recalled_1 : decode prog_1_method_20_code 1 = .ok (.getfield 34, 3) := by decide +kernel
theorem d_H_recalled_4 : decode prog_1_method_20_code 4 = .ok (.iload_n 1, 1) := by decide +kernel
theorem d_H_recalled_5 : decode prog_1_method_20_code 5 = .ok (.invokevirtual 201, 3) := by decide +kernel
theorem d_H_recalled_8 : decode prog_1_method_20_code 8 = .ok (.astore 4, 2) := by decide +kernel
theorem d_H_recalled_10 : decode prog_1_method_20_code 10 = .ok (.aload 4, 2) := by decide +kernel
theorem d_H_recalled_12 : decode prog_1_method_20_code 12 = .ok (.ifnull 15, 3) := by decide +kernel
theorem d_H_recalled_27 : decode prog_1_method_20_code 27 = .ok (.new 115, 3) := by decide +kernel
theorem d_H_recalled_30 : decode prog_1_method_20_code 30 = .ok (.dup, 1) := by decide +kernel
theorem d_H_recalled_31 : decode prog_1_method_20_code 31 = .ok (.ldc 221, 2) := by decide +kernel
theorem d_H_recalled_33 : decode prog_1_method_20_code 33 = .ok (.invokespecial 119, 3) := by decide +kernel
theorem d_H_recalled_36 : decode prog_1_method_20_code 36 = .ok (.athrow, 1) := by decide +kernel
theorem d_H_walk_0 : decode prog_1_method_21_code 0 = .ok (.aload_n 0, 1) := by decide +kernel
theorem d_H_walk_1 : decode prog_1_method_21_code 1 = .ok (.getfield 34, 3) := by decide +kernel
theorem d_H_walk_4 : decode prog_1_method_21_code 4 = .ok (.iload_n 1, 1) := by decide +kernel
theorem d_H_walk_5 : decode prog_1_method_21_code 5 = .ok (.invokevirtual 201, 3) := by decide +kernel
theorem d_H_walk_8 : decode prog_1_method_21_code 8 = .ok (.astore_n 2, 1) := by decide +kernel
theorem d_H_walk_9 : decode prog_1_method_21_code 9 = .ok (.aload_n 2, 1) := by decide +kernel
theorem d_H_walk_10 : decode prog_1_method_21_code 10 = .ok (.ifnonnull 13, 3) := by decide +kernel
theorem d_H_walk_13 : decode prog_1_method_21_code 13 = .ok (.new 115, 3) := by decide +kernel
theorem d_H_walk_16 : decode prog_1_method_21_code 16 = .ok (.dup, 1) := by decide +kernel
theorem d_H_walk_17 : decode prog_1_method_21_code 17 = .ok (.ldc 205, 2) := by decide +kernel
theorem d_H_walk_19 : decode prog_1_method_21_code 19 = .ok (.invokespecial 119, 3) := by decide +kernel
theorem d_H_walk_22 : decode prog_1_method_21_code 22 = .ok (.athrow, 1) := by decide +kernel
theorem d_H_groups_0 : decode prog_1_method_22_code 0 = .ok (.aload_n 0, 1) := by decide +kernel
theorem d_H_groups_1 : decode prog_1_method_22_code 1 = .ok (.getfield 34, 3) := by decide +kernel
theorem d_H_groups_4 : decode prog_1_method_22_code 4 = .ok (.iload_n 1, 1) := by decide +kernel
theorem d_H_groups_5 : decode prog_1_method_22_code 5 = .ok (.invokevirtual 201, 3) := by decide +kernel
theorem d_H_groups_8 : decode prog_1_method_22_code 8 = .ok (.astore_n 3, 1) := by decide +kernel
theorem d_H_groups_9 : decode prog_1_method_22_code 9 = .ok (.aload_n 3, 1) := by decide +kernel
theorem d_H_groups_10 : decode prog_1_method_22_code 10 = .ok (.ifnonnull 13, 3) := by decide +kernel
theorem d_H_groups_13 : decode prog_1_method_22_code 13 = .ok (.new 115, 3) := by decide +kernel
theorem d_H_groups_16 : decode prog_1_method_22_code 16 = .ok (.dup, 1) := by decide +kernel
theorem d_H_groups_17 : decode prog_1_method_22_code 17 = .ok (.ldc 205, 2) := by decide +kernel
theorem d_H_groups_19 : decode prog_1_method_22_code 19 = .ok (.invokespecial 119, 3) := by decide +kernel
theorem d_H_groups_22 : decode prog_1_method_22_code 22 = .ok (.athrow, 1) := by decide +kernel
theorem d_H_wipe_0 : decode prog_1_method_23_code 0 = .ok (.aload_n 0, 1) := by decide +kernel
theorem d_H_wipe_1 : decode prog_1_method_23_code 1 = .ok (.getfield 34, 3) := by decide +kernel
theorem d_H_wipe_4 : decode prog_1_method_23_code 4 = .ok (.iload_n 1, 1) := by decide +kernel
theorem d_H_wipe_5 : decode prog_1_method_23_code 5 = .ok (.iload_n 2, 1) := by decide +kernel
theorem d_H_wipe_6 : decode prog_1_method_23_code 6 = .ok (.invokevirtual 217, 3) := by decide +kernel
theorem d_H_wipe_9 : decode prog_1_method_23_code 9 = .ok (.astore_n 3, 1) := by decide +kernel
theorem d_H_wipe_10 : decode prog_1_method_23_code 10 = .ok (.aload_n 3, 1) := by decide +kernel
theorem d_H_wipe_11 : decode prog_1_method_23_code 11 = .ok (.ifnonnull 13, 3) := by decide +kernel
theorem d_H_wipe_14 : decode prog_1_method_23_code 14 = .ok (.new 115, 3) := by decide +kernel
theorem d_H_wipe_17 : decode prog_1_method_23_code 17 = .ok (.dup, 1) := by decide +kernel
theorem d_H_wipe_18 : decode prog_1_method_23_code 18 = .ok (.ldc 221, 2) := by decide +kernel
theorem d_H_wipe_20 : decode prog_1_method_23_code 20 = .ok (.invokespecial 119, 3) := by decide +kernel
theorem d_H_wipe_23 : decode prog_1_method_23_code 23 = .ok (.athrow, 1) := by decide +kernel
theorem d_H_contest_0 : decode prog_1_method_29_code 0 = .ok (.aload_n 0, 1) := by decide +kernel
theorem d_H_contest_1 : decode prog_1_method_29_code 1 = .ok (.getfield 34, 3) := by decide +kernel
theorem d_H_contest_4 : decode prog_1_method_29_code 4 = .ok (.iload_n 3, 1) := by decide +kernel
theorem d_H_contest_5 : decode prog_1_method_29_code 5 = .ok (.invokevirtual 201, 3) := by decide +kernel
theorem d_H_contest_8 : decode prog_1_method_29_code 8 = .ok (.astore 6, 2) := by decide +kernel
theorem d_H_contest_10 : decode prog_1_method_29_code 10 = .ok (.aload_n 0, 1) := by decide +kernel
theorem d_H_contest_11 : decode prog_1_method_29_code 11 = .ok (.iload 4, 2) := by decide +kernel
theorem d_H_contest_13 : decode prog_1_method_29_code 13 = .ok (.invokevirtual 107, 3) := by decide +kernel
theorem d_H_contest_16 : decode prog_1_method_29_code 16 = .ok (.astore 7, 2) := by decide +kernel
theorem d_H_contest_18 : decode prog_1_method_29_code 18 = .ok (.aload 6, 2) := by decide +kernel
theorem d_H_contest_20 : decode prog_1_method_29_code 20 = .ok (.ifnull 8, 3) := by decide +kernel
theorem d_H_contest_28 : decode prog_1_method_29_code 28 = .ok (.new 115, 3) := by decide +kernel
theorem d_H_contest_31 : decode prog_1_method_29_code 31 = .ok (.dup, 1) := by decide +kernel
theorem d_H_contest_32 : decode prog_1_method_29_code 32 = .ok (.ldc_w 315, 3) := by decide +kernel
theorem d_H_contest_35 : decode prog_1_method_29_code 35 = .ok (.invokespecial 119, 3) := by decide +kernel
theorem d_H_contest_38 : decode prog_1_method_29_code 38 = .ok (.athrow, 1) := by decide +kernel
theorem d_H_speech_0 : decode prog_1_method_38_code 0 = .ok (.aload_n 0, 1) := by decide +kernel
theorem d_H_speech_1 : decode prog_1_method_38_code 1 = .ok (.getfield 34, 3) := by decide +kernel
theorem d_H_speech_4 : decode prog_1_method_38_code 4 = .ok (.iload_n 1, 1) := by decide +kernel
theorem d_H_speech_5 : decode prog_1_method_38_code 5 = .ok (.invokevirtual 201, 3) := by decide +kernel
theorem d_H_speech_8 : decode prog_1_method_38_code 8 = .ok (.astore_n 3, 1) := by decide +kernel
theorem d_H_speech_9 : decode prog_1_method_38_code 9 = .ok (.aload_n 3, 1) := by decide +kernel
theorem d_H_speech_10 : decode prog_1_method_38_code 10 = .ok (.ifnonnull 13, 3) := by decide +kernel
theorem d_H_speech_13 : decode prog_1_method_38_code 13 = .ok (.new 115, 3) := by decide +kernel
theorem d_H_speech_16 : decode prog_1_method_38_code 16 = .ok (.dup, 1) := by decide +kernel
theorem d_H_speech_17 : decode prog_1_method_38_code 17 = .ok (.ldc 205, 2) := by decide +kernel
theorem d_H_speech_19 : decode prog_1_method_38_code 19 = .ok (.invokespecial 119, 3) := by decide +kernel
theorem d_H_speech_22 : decode prog_1_method_38_code 22 = .ok (.athrow, 1) := by decide +kernel
set_option maxRecDepth 100000 in
theorem hat_119 : ∀ w ∈ vx_atS "Locihall" 119 "java/lang/IndexOutOfBoundsException" ["java/lang/RuntimeException", "java/lang/Exception"], w ∈ lw_tbl ∧ (goodWord w || qn_ok w) = true := by
  have h : (vx_atS "Locihall" 119 "java/lang/IndexOutOfBoundsException" ["java/lang/RuntimeException", "java/lang/Exception"]).all (fun w => decide (w ∈ lw_tbl) && (goodWord w || qn_ok w)) = true := by decide +kernel
  intro w hw
  have h1 := List.all_eq_true.mp h w hw
  rw [Bool.and_eq_true, decide_eq_true_eq] at h1
  exact h1
set_option maxRecDepth 100000 in
theorem hgd_119 : ∀ w ∈ Cond.classLink "Locihall" 115 "java/lang/IndexOutOfBoundsException" :: Cond.initialized "java/lang/IndexOutOfBoundsException" :: vx_atS "Locihall" 119 "java/lang/IndexOutOfBoundsException" ["java/lang/RuntimeException", "java/lang/Exception"], vx_ot w = true := List.all_eq_true.mp (by decide +kernel)
