theorem qw_list {ws : List Cond} (is : List Nat) (h : is.map (fun i => lw_tbl[i]?) = ws.map some) (hg : ws.all goodWord = true) : ∀ w ∈ ws, w ∈ qw := by
  intro w hw
  obtain ⟨k, hk⟩ := List.mem_iff_getElem?.mp hw
  have h1 : (is.map (fun i => lw_tbl[i]?))[k]? = some (some w) := by rw [h, List.getElem?_map, hk]; rfl
  rw [List.getElem?_map] at h1
  obtain ⟨i, hi, e⟩ := Option.map_eq_some_iff.mp h1
  exact List.mem_filter.mpr ⟨List.mem_of_getElem? e, List.all_eq_true.mp hg w hw⟩
theorem qc_0 : qCl 0 RJ0 TJ0 2 tyJ0 := ⟨rfl, qw_list [691, 693] (by decide +kernel) (by decide +kernel), tyJ0_ok, nmJ0⟩
theorem qc_1 : qCl 1 RJ6 TJ6 1 tyJ6 := ⟨rfl, qw_list [2031] (by decide +kernel) (by decide +kernel), tyJ6_ok, nmJ6⟩
theorem qc_2 : qCl 2 RJx00060 TJx00060 6 tyJx00060 := ⟨rfl, qw_list [679, 680, 681, 682, 683, 684] (by decide +kernel) (by decide +kernel), tyJx00060_ok, nmJx00060⟩
theorem qc_3 : qCl 3 RJx35411 TJx35411 4 tyJx35411 := ⟨rfl, qw_list [2150, 2152, 2154, 2156] (by decide +kernel) (by decide +kernel), tyJx35411_ok, nmJx35411⟩
theorem qc_4 : qCl 4 RJx4a65c TJx4a65c 3 tyJx4a65c := ⟨rfl, qw_list [1661, 1657, 1659] (by decide +kernel) (by decide +kernel), tyJx4a65c_ok, nmJx4a65c⟩
theorem qc_5 : qCl 5 RX0 TX0 17 tyX0 := ⟨rfl, qw_list [296, 298, 300, 302, 304, 306, 308, 310, 312, 314, 316, 318, 320, 322, 324, 326, 328] (by decide +kernel) (by decide +kernel), tyX0_ok, nmX0⟩
theorem qc_6 : qCl 6 RX1 TX1 9 tyX1 := ⟨rfl, qw_list [382, 384, 386, 388, 390, 392, 394, 396, 398] (by decide +kernel) (by decide +kernel), tyX1_ok, nmX1⟩
theorem qc_7 : qCl 7 RX2 TX2 3 tyX2 := ⟨rfl, qw_list [192, 194, 196] (by decide +kernel) (by decide +kernel), tyX2_ok, nmX2⟩
theorem qc_8 : qCl 8 RX3 TX3 4 tyX3 := ⟨rfl, qw_list [933, 935, 937, 939] (by decide +kernel) (by decide +kernel), tyX3_ok, nmX3⟩
theorem qc_9 : qCl 9 RX4 TX4 6 tyX4 := ⟨rfl, qw_list [231, 233, 235, 237, 239, 241] (by decide +kernel) (by decide +kernel), tyX4_ok, nmX4⟩
theorem qc_10 : qCl 10 RX5 TX5 5 tyX5 := ⟨rfl, qw_list [893, 895, 897, 899, 901] (by decide +kernel) (by decide +kernel), tyX5_ok, nmX5⟩
theorem qc_11 : qCl 11 RX6 TX6 7 tyX6 := ⟨rfl, qw_list [348, 350, 352, 354, 356, 358, 360] (by decide +kernel) (by decide +kernel), tyX6_ok, nmX6⟩
theorem qc_12 : qCl 12 RX7 TX7 4 tyX7 := ⟨rfl, qw_list [659, 661, 663, 665] (by decide +kernel) (by decide +kernel), tyX7_ok, nmX7⟩
theorem qc_13 : qCl 13 RX8 TX8 1 tyX8 := ⟨rfl, qw_list [209] (by decide +kernel) (by decide +kernel), tyX8_ok, nmX8⟩
theorem qc_14 : qCl 14 RX9 TX9 8 tyX9 := ⟨rfl, qw_list [1004, 1006, 1008, 1010, 1012, 1014, 1016, 1018] (by decide +kernel) (by decide +kernel), tyX9_ok, nmX9⟩
theorem qc_15 : qCl 15 RX10 TX10 4 tyX10 := ⟨rfl, qw_list [254, 256, 258, 260] (by decide +kernel) (by decide +kernel), tyX10_ok, nmX10⟩
theorem qc_16 : qCl 16 RX11 TX11 13 tyX11 := ⟨rfl, qw_list [414, 416, 418, 420, 422, 424, 426, 428, 430, 432, 434, 436, 438] (by decide +kernel) (by decide +kernel), tyX11_ok, nmX11⟩
theorem qc_17 : qCl 17 RX12 TX12 3 tyX12 := ⟨rfl, qw_list [1991, 1993, 1995] (by decide +kernel) (by decide +kernel), tyX12_ok, nmX12⟩
theorem qc_18 : qCl 18 RX13 TX13 4 tyX13 := ⟨rfl, qw_list [1961, 1963, 1965, 1967] (by decide +kernel) (by decide +kernel), tyX13_ok, nmX13⟩
theorem qc_19 : qCl 19 RX14 TX14 7 tyX14 := ⟨rfl, qw_list [2090, 2092, 2094, 2096, 2098, 2100, 2102] (by decide +kernel) (by decide +kernel), tyX14_ok, nmX14⟩
theorem qc_20 : qCl 20 RX15 TX15 28 tyX15 := ⟨rfl, qw_list [1695, 1697, 1699, 1701, 1703, 1705, 1707, 1709, 1711, 1713, 1715, 1717, 1719, 1721, 1723, 1725, 1727, 1729, 1731, 1733, 1735, 1737, 1739, 1741, 1743, 1745, 1747, 1749] (by decide +kernel) (by decide +kernel), tyX15_ok, nmX15⟩
/-! the words, the code, the decode rows that are used -/
theorem k8 : Cond.selects "Locihall$Mind" ⟨"Locihall$Mind", "palaceAt", "(I)LLocihall$Palace;"⟩ ⟨"Locihall$Mind", "palaceAt", "(I)LLocihall$Palace;"⟩ ∈ qw := qw_at 8 (by decide +kernel) (by decide +kernel)
theorem k132 : Cond.initialized "Locihall" ∈ qw := qw_at 132 (by decide +kernel) (by decide +kernel)
theorem k135 : Cond.initialized "Locihall$Mind" ∈ qw := qw_at 135 (by decide +kernel) (by decide +kernel)
theorem k140 : Cond.initialized "LocihallModel" ∈ qw := qw_at 140 (by decide +kernel) (by decide +kernel)
theorem k224 : Cond.fieldLink "Locihall$Mind" 25 "Locihall$Mind" "palaceCount" "I" ∈ qw := qw_at 224 (by decide +kernel) (by decide +kernel)
theorem k374 : Cond.fieldLink "Locihall$Facts" 30 "Locihall$Facts" "count" "I" ∈ qw := qw_at 374 (by decide +kernel) (by decide +kernel)
theorem k404 : Cond.fieldLink "Locihall" 99 "Locihall" "tableCount" "I" ∈ qw := qw_at 404 (by decide +kernel) (by decide +kernel)
theorem k471 : Cond.static ⟨"Locihall", "isIn", "(III)Z"⟩ ∈ qw := qw_at 471 (by decide +kernel) (by decide +kernel)
theorem k472 : Cond.code ⟨"Locihall", "isIn", "(III)Z"⟩ prog_1_method_54_code 3 (some .boolean) ∈ qw := qw_at 472 (by decide +kernel) (by decide +kernel)
theorem k473 : Cond.methodLink "Locihall" 73 ⟨"Locihall", "isIn", "(III)Z"⟩ ∈ qw := qw_at 473 (by decide +kernel) (by decide +kernel)
theorem k494 : Cond.methodLink "Locihall$Mind" 29 ⟨"Locihall$Mind", "palaceAt", "(I)LLocihall$Palace;"⟩ ∈ qw := qw_at 494 (by decide +kernel) (by decide +kernel)
theorem k496 : Cond.instanceMethod ⟨"Locihall$Mind", "palaceAt", "(I)LLocihall$Palace;"⟩ ∈ qw := qw_at 496 (by decide +kernel) (by decide +kernel)
theorem k497 : Cond.code ⟨"Locihall$Mind", "palaceAt", "(I)LLocihall$Palace;"⟩ prog_6_method_3_code 2 (some (.object "Locihall$Palace")) ∈ qw := qw_at 497 (by decide +kernel) (by decide +kernel)
theorem k1680 : Cond.fieldLink "LocihallModel" 73 "LocihallModel" "thrown" "I" ∈ qw := qw_at 1680 (by decide +kernel) (by decide +kernel)
theorem k1681 : Cond.fieldLink "LocihallModel" 76 "LocihallModel" "systems" "I" ∈ qw := qw_at 1681 (by decide +kernel) (by decide +kernel)
theorem k1762 : Cond.methodLink "LocihallModel" 79 ⟨"LocihallModel", "isIn", "(JJJ)Z"⟩ ∈ qw := qw_at 1762 (by decide +kernel) (by decide +kernel)
theorem k1763 : Cond.static ⟨"LocihallModel", "isIn", "(JJJ)Z"⟩ ∈ qw := qw_at 1763 (by decide +kernel) (by decide +kernel)
theorem k1764 : Cond.code ⟨"LocihallModel", "isIn", "(JJJ)Z"⟩ prog_14_method_4_code 6 (some .boolean) ∈ qw := qw_at 1764 (by decide +kernel) (by decide +kernel)
theorem d_H_isIn_0 : decode prog_1_method_54_code 0 = .ok (.iload_n 0, 1) := by decide +kernel
theorem d_H_isIn_1 : decode prog_1_method_54_code 1 = .ok (.iload_n 1, 1) := by decide +kernel
theorem d_H_isIn_2 : decode prog_1_method_54_code 2 = .ok (.if_icmp .lt 12, 3) := by decide +kernel
theorem d_H_isIn_5 : decode prog_1_method_54_code 5 = .ok (.iload_n 0, 1) := by decide +kernel
theorem d_H_isIn_6 : decode prog_1_method_54_code 6 = .ok (.iload_n 2, 1) := by decide +kernel
theorem d_H_isIn_7 : decode prog_1_method_54_code 7 = .ok (.if_icmp .gt 7, 3) := by decide +kernel
theorem d_H_isIn_10 : decode prog_1_method_54_code 10 = .ok (.iconst 1, 1) := by decide +kernel
theorem d_H_isIn_11 : decode prog_1_method_54_code 11 = .ok (.goto 4, 3) := by decide +kernel
theorem d_H_isIn_14 : decode prog_1_method_54_code 14 = .ok (.iconst 0, 1) := by decide +kernel
theorem d_H_isIn_15 : decode prog_1_method_54_code 15 = .ok (.ireturn, 1) := by decide +kernel
theorem d_H_isKey_0 : decode prog_1_method_55_code 0 = .ok (.iload_n 0, 1) := by decide +kernel
theorem d_H_isKey_1 : decode prog_1_method_55_code 1 = .ok (.iconst 0, 1) := by decide +kernel
theorem d_H_isKey_2 : decode prog_1_method_55_code 2 = .ok (.bipush 99, 2) := by decide +kernel
theorem d_H_isKey_4 : decode prog_1_method_55_code 4 = .ok (.invokestatic 73, 3) := by decide +kernel
theorem d_H_isKey_7 : decode prog_1_method_55_code 7 = .ok (.ireturn, 1) := by decide +kernel
theorem d_H_isTongue_0 : decode prog_1_method_56_code 0 = .ok (.iload_n 0, 1) := by decide +kernel
theorem d_H_isTongue_1 : decode prog_1_method_56_code 1 = .ok (.iconst 0, 1) := by decide +kernel
theorem d_H_isTongue_2 : decode prog_1_method_56_code 2 = .ok (.iconst 2, 1) := by decide +kernel
theorem d_H_isTongue_3 : decode prog_1_method_56_code 3 = .ok (.invokestatic 73, 3) := by decide +kernel
theorem d_H_isTongue_6 : decode prog_1_method_56_code 6 = .ok (.ireturn, 1) := by decide +kernel
theorem d_H_isYear_0 : decode prog_1_method_57_code 0 = .ok (.iload_n 0, 1) := by decide +kernel
theorem d_H_isYear_1 : decode prog_1_method_57_code 1 = .ok (.iconst 0, 1) := by decide +kernel
theorem d_H_isYear_2 : decode prog_1_method_57_code 2 = .ok (.sipush 9999, 3) := by decide +kernel
theorem d_H_isYear_5 : decode prog_1_method_57_code 5 = .ok (.invokestatic 73, 3) := by decide +kernel
theorem d_H_isYear_8 : decode prog_1_method_57_code 8 = .ok (.ireturn, 1) := by decide +kernel
theorem d_H_tableAt_0 : decode prog_1_method_58_code 0 = .ok (.iload_n 1, 1) := by decide +kernel
theorem d_H_tableAt_1 : decode prog_1_method_58_code 1 = .ok (.ifCond .lt 29, 3) := by decide +kernel
theorem d_H_tableAt_4 : decode prog_1_method_58_code 4 = .ok (.iload_n 1, 1) := by decide +kernel
theorem d_H_tableAt_5 : decode prog_1_method_58_code 5 = .ok (.aload_n 0, 1) := by decide +kernel
theorem d_H_tableAt_6 : decode prog_1_method_58_code 6 = .ok (.getfield 99, 3) := by decide +kernel
theorem d_H_tableAt_9 : decode prog_1_method_58_code 9 = .ok (.if_icmp .ge 21, 3) := by decide +kernel
theorem d_H_tableAt_30 : decode prog_1_method_58_code 30 = .ok (.aconst_null, 1) := by decide +kernel
theorem d_H_tableAt_31 : decode prog_1_method_58_code 31 = .ok (.areturn, 1) := by decide +kernel
theorem d_HMind_palaceAt_0 : decode prog_6_method_3_code 0 = .ok (.iload_n 1, 1) := by decide +kernel
theorem d_HMind_palaceAt_1 : decode prog_6_method_3_code 1 = .ok (.ifCond .lt 29, 3) := by decide +kernel
theorem d_HMind_palaceAt_4 : decode prog_6_method_3_code 4 = .ok (.iload_n 1, 1) := by decide +kernel
theorem d_HMind_palaceAt_5 : decode prog_6_method_3_code 5 = .ok (.aload_n 0, 1) := by decide +kernel
theorem d_HMind_palaceAt_6 : decode prog_6_method_3_code 6 = .ok (.getfield 25, 3) := by decide +kernel
theorem d_HMind_palaceAt_9 : decode prog_6_method_3_code 9 = .ok (.if_icmp .ge 21, 3) := by decide +kernel
theorem d_HMind_palaceAt_30 : decode prog_6_method_3_code 30 = .ok (.aconst_null, 1) := by decide +kernel
theorem d_HMind_palaceAt_31 : decode prog_6_method_3_code 31 = .ok (.areturn, 1) := by decide +kernel
theorem d_HMind_locusAt_0 : decode prog_6_method_4_code 0 = .ok (.aload_n 0, 1) := by decide +kernel
theorem d_HMind_locusAt_1 : decode prog_6_method_4_code 1 = .ok (.iload_n 1, 1) := by decide +kernel
theorem d_HMind_locusAt_2 : decode prog_6_method_4_code 2 = .ok (.invokevirtual 29, 3) := by decide +kernel
theorem d_HMind_locusAt_5 : decode prog_6_method_4_code 5 = .ok (.astore_n 3, 1) := by decide +kernel
theorem d_HMind_locusAt_6 : decode prog_6_method_4_code 6 = .ok (.aload_n 3, 1) := by decide +kernel
theorem d_HMind_locusAt_7 : decode prog_6_method_4_code 7 = .ok (.ifnonnull 7, 3) := by decide +kernel
theorem d_HMind_locusAt_10 : decode prog_6_method_4_code 10 = .ok (.aconst_null, 1) := by decide +kernel
theorem d_HMind_locusAt_11 : decode prog_6_method_4_code 11 = .ok (.goto 8, 3) := by decide +kernel
theorem d_HMind_locusAt_19 : decode prog_6_method_4_code 19 = .ok (.areturn, 1) := by decide +kernel
theorem d_HFacts_has_0 : decode prog_3_method_3_code 0 = .ok (.iload_n 1, 1) := by decide +kernel
theorem d_HFacts_has_1 : decode prog_3_method_3_code 1 = .ok (.ifCond .lt 21, 3) := by decide +kernel
theorem d_HFacts_has_4 : decode prog_3_method_3_code 4 = .ok (.iload_n 1, 1) := by decide +kernel
theorem d_HFacts_has_5 : decode prog_3_method_3_code 5 = .ok (.aload_n 0, 1) := by decide +kernel
theorem d_HFacts_has_6 : decode prog_3_method_3_code 6 = .ok (.getfield 30, 3) := by decide +kernel
theorem d_HFacts_has_9 : decode prog_3_method_3_code 9 = .ok (.if_icmp .ge 13, 3) := by decide +kernel
theorem d_HFacts_has_22 : decode prog_3_method_3_code 22 = .ok (.iconst 0, 1) := by decide +kernel
theorem d_HFacts_has_23 : decode prog_3_method_3_code 23 = .ok (.ireturn, 1) := by decide +kernel
theorem d_M_isIn_0 : decode prog_14_method_4_code 0 = .ok (.lload_n 0, 1) := by decide +kernel
theorem d_M_isIn_1 : decode prog_14_method_4_code 1 = .ok (.lload_n 2, 1) := by decide +kernel
theorem d_M_isIn_2 : decode prog_14_method_4_code 2 = .ok (.lcmp, 1) := by decide +kernel
theorem d_M_isIn_3 : decode prog_14_method_4_code 3 = .ok (.ifCond .lt 14, 3) := by decide +kernel
theorem d_M_isIn_6 : decode prog_14_method_4_code 6 = .ok (.lload_n 0, 1) := by decide +kernel
theorem d_M_isIn_7 : decode prog_14_method_4_code 7 = .ok (.lload 4, 2) := by decide +kernel
theorem d_M_isIn_9 : decode prog_14_method_4_code 9 = .ok (.lcmp, 1) := by decide +kernel
theorem d_M_isIn_10 : decode prog_14_method_4_code 10 = .ok (.ifCond .gt 7, 3) := by decide +kernel
theorem d_M_isIn_13 : decode prog_14_method_4_code 13 = .ok (.iconst 1, 1) := by decide +kernel
theorem d_M_isIn_14 : decode prog_14_method_4_code 14 = .ok (.goto 4, 3) := by decide +kernel
theorem d_M_isIn_17 : decode prog_14_method_4_code 17 = .ok (.iconst 0, 1) := by decide +kernel
theorem d_M_isIn_18 : decode prog_14_method_4_code 18 = .ok (.ireturn, 1) := by decide +kernel
theorem d_M_isSystem_0 : decode prog_14_method_6_code 0 = .ok (.iload_n 1, 1) := by decide +kernel
theorem d_M_isSystem_1 : decode prog_14_method_6_code 1 = .ok (.i2l, 1) := by decide +kernel
theorem d_M_isSystem_2 : decode prog_14_method_6_code 2 = .ok (.lconst 0, 1) := by decide +kernel
theorem d_M_isSystem_3 : decode prog_14_method_6_code 3 = .ok (.aload_n 0, 1) := by decide +kernel
theorem d_M_isSystem_4 : decode prog_14_method_6_code 4 = .ok (.getfield 76, 3) := by decide +kernel
theorem d_M_isSystem_7 : decode prog_14_method_6_code 7 = .ok (.iconst 1, 1) := by decide +kernel
theorem d_M_isSystem_8 : decode prog_14_method_6_code 8 = .ok (.isub, 1) := by decide +kernel
theorem d_M_isSystem_9 : decode prog_14_method_6_code 9 = .ok (.i2l, 1) := by decide +kernel
theorem d_M_isSystem_10 : decode prog_14_method_6_code 10 = .ok (.invokestatic 79, 3) := by decide +kernel
theorem d_M_isSystem_13 : decode prog_14_method_6_code 13 = .ok (.ireturn, 1) := by decide +kernel
theorem d_M_thrown_0 : decode prog_14_method_2_code 0 = .ok (.aload_n 0, 1) := by decide +kernel
theorem d_M_thrown_1 : decode prog_14_method_2_code 1 = .ok (.getfield 73, 3) := by decide +kernel
theorem d_M_thrown_4 : decode prog_14_method_2_code 4 = .ok (.ireturn, 1) := by decide +kernel
theorem d_M_no_0 : decode prog_14_method_5_code 0 = .ok (.aload_n 0, 1) := by decide +kernel
theorem d_M_no_1 : decode prog_14_method_5_code 1 = .ok (.iload_n 1, 1) := by decide +kernel
theorem d_M_no_2 : decode prog_14_method_5_code 2 = .ok (.ifCond .eq 7, 3) := by decide +kernel
theorem d_M_no_5 : decode prog_14_method_5_code 5 = .ok (.iconst 0, 1) := by decide +kernel
theorem d_M_no_6 : decode prog_14_method_5_code 6 = .ok (.goto 4, 3) := by decide +kernel
theorem d_M_no_9 : decode prog_14_method_5_code 9 = .ok (.iload_n 2, 1) := by decide +kernel
theorem d_M_no_10 : decode prog_14_method_5_code 10 = .ok (.putfield 73, 3) := by decide +kernel
theorem d_M_no_13 : decode prog_14_method_5_code 13 = .ok (.iload_n 1, 1) := by decide +kernel
theorem d_M_no_14 : decode prog_14_method_5_code 14 = .ok (.ifCond .ne 7, 3) := by decide +kernel
theorem d_M_no_17 : decode prog_14_method_5_code 17 = .ok (.iconst 1, 1) := by decide +kernel
theorem d_M_no_18 : decode prog_14_method_5_code 18 = .ok (.goto 4, 3) := by decide +kernel
theorem d_M_no_21 : decode prog_14_method_5_code 21 = .ok (.iconst 0, 1) := by decide +kernel
theorem d_M_no_22 : decode prog_14_method_5_code 22 = .ok (.ireturn, 1) := by decide +kernel
