set_option maxHeartbeats 4000000 in
set_option maxRecDepth 100000 in
/-- drawn -/
theorem cx_drawn (l : Launch) (hfl : l.stackTraces = false) (D : va_G) (sz : Nat) (h0 : Nat) (fs : List Value) (p0 : Int32) (o9 : Nat) (f9 : List Value) (g9_4 : f9[4]? = some (.int 0)) (h9 : fs[9]? = some (.ref o9)) : vx_Met l ⟨"Locihall", "drawn", "(I)I"⟩ (.code ⟨"Locihall", "drawn", "(I)I"⟩ prog_1_method_30_code 2 (some .int) :: qw) ({ frames := 6, cells := 1, slots := 6, locals := 82 }) (va_Pc [.ref h0, .int p0] (qPre D [(h0, .inr (16, fs)), (o9, .inr (5, f9))] [] sz)) (va_Qi (fun (r : Int32) (_ : Unit) => 1 = 0 ∧ r = 0) (fun _ _ => True) (va_A [(h0, .inr (16, fs)), (o9, .inr (5, f9))] sz)) (qX (qx ["java/util/NoSuchElementException"] (1)) (va_A [(h0, .inr (16, fs)), (o9, .inr (5, f9))] sz)) 1 6 (va_A [(h0, .inr (16, fs)), (o9, .inr (5, f9))] sz) := by
  refine q_startX (by decide) (Nat.le_of_ble_eq_true rfl) ?_
  intro p e s m below meth c hB hno hpre ls hl
  have hW := qH_start hpre
  have hx := hB.1
  have hb := hB.2.1
  have hq := hB.2.2.2.2.2.1
  have hl : lv_has ls 2 [(0, .ref h0), (1, .int p0)] := hl
  refine lv_iload_n hx hb d_H_drawn_0 rfl (lv_at hl 1 rfl) ?_
  refine lv_if_lt (tgt := 27) hx hb d_H_drawn_1 (by decide) (fun c_1 => ?_) (fun c_1 => ?_)
  · exact q_throwWX cx0 cx1 cx2 cx5 hB hW hfl hno (cls := "java/util/NoSuchElementException") (text := "no such key was drawn") (by decide +kernel) k744 k158 j1310 hat_142 hgd_142 hl.1 d_H_drawn_27 d_H_drawn_30 d_H_drawn_31 d_H_drawn_34 d_H_drawn_37 (Nat.le_of_ble_eq_true rfl) (Nat.le_of_ble_eq_true rfl) (Nat.le_of_ble_eq_true rfl) (Nat.le_of_ble_eq_true rfl) (Nat.le_of_ble_eq_true rfl) (Nat.le_of_ble_eq_true rfl) ⟨0, rfl, rfl⟩
  · refine lv_iload_n hx hb d_H_drawn_4 rfl (lv_at hl 1 rfl) ?_
    refine lv_aload_n hx hb d_H_drawn_5 rfl (lv_at hl 0 rfl) ?_
    refine q_get hB hW qc_16 0 rfl 9 (by decide) k411 h9 d_H_drawn_6 ?_
    refine q_getN hB hW qc_5 1 rfl 4 (by decide) j278 g9_4 d_H_drawn_9 ?_
    refine lv_icmp_ge (tgt := 27) hx hb d_H_drawn_12 (by decide) (fun c_2 => ?_) (fun c_2 => ?_)
    · have c_2 := Int32.not_lt.mpr c_2
      exact q_throwWX cx0 cx1 cx2 cx5 hB hW hfl hno (cls := "java/util/NoSuchElementException") (text := "no such key was drawn") (by decide +kernel) k744 k158 j1310 hat_142 hgd_142 hl.1 d_H_drawn_27 d_H_drawn_30 d_H_drawn_31 d_H_drawn_34 d_H_drawn_37 (Nat.le_of_ble_eq_true rfl) (Nat.le_of_ble_eq_true rfl) (Nat.le_of_ble_eq_true rfl) (Nat.le_of_ble_eq_true rfl) (Nat.le_of_ble_eq_true rfl) (Nat.le_of_ble_eq_true rfl) ⟨0, rfl, rfl⟩
    · have c_2 := Int32.not_le.mp c_2
      exact absurd c_2 c_1
set_option maxHeartbeats 4000000 in
set_option maxRecDepth 100000 in
/-- answer -/
theorem cx_answer (l : Launch) (hfl : l.stackTraces = false) (D : va_G) (sz : Nat) (h0 : Nat) (fs : List Value) (p0 : Int32) (p1 : Int32) (o9 : Nat) (f9 : List Value) (g9_0 : f9[0]? = some (.int 0)) (h9 : fs[9]? = some (.ref o9)) : vx_Met l ⟨"Locihall", "answer", "(II)I"⟩ (.code ⟨"Locihall", "answer", "(II)I"⟩ prog_1_method_31_code 3 (some .int) :: qw) ({ frames := 6, cells := 1, slots := 6, locals := 82 }) (va_Pc [.ref h0, .int p0, .int p1] (qPre D [(h0, .inr (16, fs)), (o9, .inr (5, f9))] [] sz)) (va_Qi (fun (r : Int32) (_ : Unit) => 1 = 0 ∧ r = 0) (fun _ _ => True) (va_A [(h0, .inr (16, fs)), (o9, .inr (5, f9))] sz)) (qX (qx ["java/util/NoSuchElementException", "java/lang/IllegalArgumentException", "java/lang/IllegalStateException"] (1)) (va_A [(h0, .inr (16, fs)), (o9, .inr (5, f9))] sz)) 1 6 (va_A [(h0, .inr (16, fs)), (o9, .inr (5, f9))] sz) := by
  refine q_startX (by decide) (Nat.le_of_ble_eq_true rfl) ?_
  intro p e s m below meth c hB hno hpre ls hl
  have hW := qH_start hpre
  have hx := hB.1
  have hb := hB.2.1
  have hq := hB.2.2.2.2.2.1
  have hl : lv_has ls 3 [(0, .ref h0), (1, .int p0), (2, .int p1)] := hl
  refine lv_aload_n hx hb d_H_answer_0 rfl (lv_at hl 0 rfl) ?_
  refine q_get hB hW qc_16 0 rfl 9 (by decide) k411 h9 d_H_answer_1 ?_
  refine q_getN hB hW qc_5 1 rfl 0 (by decide) j271 g9_0 d_H_answer_4 ?_
  refine lv_if_ne (tgt := 21) hx hb d_H_answer_7 (by decide) (fun c_1 => ?_) (fun c_1 => ?_)
  · exact absurd c_1 (by decide)
  · exact q_throwWX cx0 cx1 cx2 cx5 hB hW hfl hno (cls := "java/util/NoSuchElementException") (text := "no contest is open") (by decide +kernel) k744 k158 j1318 hat_142 hgd_142 hl.1 d_H_answer_10 d_H_answer_13 d_H_answer_14 d_H_answer_17 d_H_answer_20 (Nat.le_of_ble_eq_true rfl) (Nat.le_of_ble_eq_true rfl) (Nat.le_of_ble_eq_true rfl) (Nat.le_of_ble_eq_true rfl) (Nat.le_of_ble_eq_true rfl) (Nat.le_of_ble_eq_true rfl) ⟨0, rfl, rfl⟩
set_option maxHeartbeats 4000000 in
set_option maxRecDepth 100000 in
/-- answerAll -/
theorem cx_answerAll (l : Launch) (hfl : l.stackTraces = false) (D : va_G) (sz : Nat) (h0 : Nat) (fs : List Value) (p0 : Int32) (o9 : Nat) (f9 : List Value) (g9_0 : f9[0]? = some (.int 0)) (h9 : fs[9]? = some (.ref o9)) : vx_Met l ⟨"Locihall", "answerAll", "(I)I"⟩ (.code ⟨"Locihall", "answerAll", "(I)I"⟩ prog_1_method_32_code 6 (some .int) :: qw) ({ frames := 6, cells := 1, slots := 6, locals := 82 }) (va_Pc [.ref h0, .int p0] (qPre D [(h0, .inr (16, fs)), (o9, .inr (5, f9))] [] sz)) (va_Qi (fun (r : Int32) (_ : Unit) => 1 = 0 ∧ r = 0) (fun _ _ => True) (va_A [(h0, .inr (16, fs)), (o9, .inr (5, f9))] sz)) (qX (qx ["java/util/NoSuchElementException", "java/lang/IllegalArgumentException"] (1)) (va_A [(h0, .inr (16, fs)), (o9, .inr (5, f9))] sz)) 1 6 (va_A [(h0, .inr (16, fs)), (o9, .inr (5, f9))] sz) := by
  refine q_startX (by decide) (Nat.le_of_ble_eq_true rfl) ?_
  intro p e s m below meth c hB hno hpre ls hl
  have hW := qH_start hpre
  have hx := hB.1
  have hb := hB.2.1
  have hq := hB.2.2.2.2.2.1
  have hl : lv_has ls 6 [(0, .ref h0), (1, .int p0)] := hl
  refine lv_aload_n hx hb d_H_answerAll_0 rfl (lv_at hl 0 rfl) ?_
  refine q_get hB hW qc_16 0 rfl 9 (by decide) k411 h9 d_H_answerAll_1 ?_
  refine q_getN hB hW qc_5 1 rfl 0 (by decide) j271 g9_0 d_H_answerAll_4 ?_
  refine lv_if_ne (tgt := 21) hx hb d_H_answerAll_7 (by decide) (fun c_1 => ?_) (fun c_1 => ?_)
  · exact absurd c_1 (by decide)
  · exact q_throwWX cx0 cx1 cx2 cx5 hB hW hfl hno (cls := "java/util/NoSuchElementException") (text := "no contest is open") (by decide +kernel) k744 k158 j1318 hat_142 hgd_142 hl.1 d_H_answerAll_10 d_H_answerAll_13 d_H_answerAll_14 d_H_answerAll_17 d_H_answerAll_20 (Nat.le_of_ble_eq_true rfl) (Nat.le_of_ble_eq_true rfl) (Nat.le_of_ble_eq_true rfl) (Nat.le_of_ble_eq_true rfl) (Nat.le_of_ble_eq_true rfl) (Nat.le_of_ble_eq_true rfl) ⟨0, rfl, rfl⟩
set_option maxHeartbeats 4000000 in
set_option maxRecDepth 100000 in
/-- appeal -/
theorem cx_appeal (l : Launch) (hfl : l.stackTraces = false) (D : va_G) (sz : Nat) (h0 : Nat) (fs : List Value) (p0 : Int32) (o9 : Nat) (f9 : List Value) (g9_0 : f9[0]? = some (.int 0)) (h9 : fs[9]? = some (.ref o9)) : vx_Met l ⟨"Locihall", "appeal", "(I)Z"⟩ (.code ⟨"Locihall", "appeal", "(I)Z"⟩ prog_1_method_33_code 2 (some .boolean) :: qw) ({ frames := 6, cells := 1, slots := 6, locals := 82 }) (va_Pc [.ref h0, .int p0] (qPre D [(h0, .inr (16, fs)), (o9, .inr (5, f9))] [] sz)) (va_Qi (fun (r : Int32) (_ : Unit) => 1 = 0 ∧ r = 0) (fun _ _ => True) (va_A [(h0, .inr (16, fs)), (o9, .inr (5, f9))] sz)) (qX (qx ["java/util/NoSuchElementException", "java/lang/UnsupportedOperationException"] (1)) (va_A [(h0, .inr (16, fs)), (o9, .inr (5, f9))] sz)) 1 6 (va_A [(h0, .inr (16, fs)), (o9, .inr (5, f9))] sz) := by
  refine q_startX (by decide) (Nat.le_of_ble_eq_true rfl) ?_
  intro p e s m below meth c hB hno hpre ls hl
  have hW := qH_start hpre
  have hx := hB.1
  have hb := hB.2.1
  have hq := hB.2.2.2.2.2.1
  have hl : lv_has ls 2 [(0, .ref h0), (1, .int p0)] := hl
  refine lv_aload_n hx hb d_H_appeal_0 rfl (lv_at hl 0 rfl) ?_
  refine q_get hB hW qc_16 0 rfl 9 (by decide) k411 h9 d_H_appeal_1 ?_
  refine q_getN hB hW qc_5 1 rfl 0 (by decide) j271 g9_0 d_H_appeal_4 ?_
  refine lv_if_eq (tgt := 25) hx hb d_H_appeal_7 (by decide) (fun c_1 => ?_) (fun c_1 => ?_)
  · exact q_throwWX cx0 cx1 cx2 cx5 hB hW hfl hno (cls := "java/util/NoSuchElementException") (text := "no contest is open, or no such answer") (by decide +kernel) k744 k158 j1345 hat_142 hgd_142 hl.1 d_H_appeal_25 d_H_appeal_28 d_H_appeal_29 d_H_appeal_32 d_H_appeal_35 (Nat.le_of_ble_eq_true rfl) (Nat.le_of_ble_eq_true rfl) (Nat.le_of_ble_eq_true rfl) (Nat.le_of_ble_eq_true rfl) (Nat.le_of_ble_eq_true rfl) (Nat.le_of_ble_eq_true rfl) ⟨0, rfl, rfl⟩
  · exact absurd c_1 (by decide)
set_option maxHeartbeats 4000000 in
set_option maxRecDepth 100000 in
/-- close -/
theorem cx_close (l : Launch) (hfl : l.stackTraces = false) (D : va_G) (sz : Nat) (h0 : Nat) (fs : List Value) (o9 : Nat) (f9 : List Value) (g9_0 : f9[0]? = some (.int 0)) (h9 : fs[9]? = some (.ref o9)) : vx_Met l ⟨"Locihall", "close", "()I"⟩ (.code ⟨"Locihall", "close", "()I"⟩ prog_1_method_34_code 4 (some .int) :: qw) ({ frames := 6, cells := 1, slots := 6, locals := 82 }) (va_Pc [.ref h0] (qPre D [(h0, .inr (16, fs)), (o9, .inr (5, f9))] [] sz)) (va_Qi (fun (r : Int32) (_ : Unit) => 1 = 0 ∧ r = 0) (fun _ _ => True) (va_A [(h0, .inr (16, fs)), (o9, .inr (5, f9))] sz)) (qX (qx ["java/util/NoSuchElementException", "java/lang/IllegalStateException"] (1)) (va_A [(h0, .inr (16, fs)), (o9, .inr (5, f9))] sz)) 1 6 (va_A [(h0, .inr (16, fs)), (o9, .inr (5, f9))] sz) := by
  refine q_startX (by decide) (Nat.le_of_ble_eq_true rfl) ?_
  intro p e s m below meth c hB hno hpre ls hl
  have hW := qH_start hpre
  have hx := hB.1
  have hb := hB.2.1
  have hq := hB.2.2.2.2.2.1
  have hl : lv_has ls 4 [(0, .ref h0)] := hl
  refine lv_aload_n hx hb d_H_close_0 rfl (lv_at hl 0 rfl) ?_
  refine q_get hB hW qc_16 0 rfl 9 (by decide) k411 h9 d_H_close_1 ?_
  refine q_getN hB hW qc_5 1 rfl 0 (by decide) j271 g9_0 d_H_close_4 ?_
  refine lv_if_ne (tgt := 21) hx hb d_H_close_7 (by decide) (fun c_1 => ?_) (fun c_1 => ?_)
  · exact absurd c_1 (by decide)
  · exact q_throwWX cx0 cx1 cx2 cx5 hB hW hfl hno (cls := "java/util/NoSuchElementException") (text := "no contest is open") (by decide +kernel) k744 k158 j1318 hat_142 hgd_142 hl.1 d_H_close_10 d_H_close_13 d_H_close_14 d_H_close_17 d_H_close_20 (Nat.le_of_ble_eq_true rfl) (Nat.le_of_ble_eq_true rfl) (Nat.le_of_ble_eq_true rfl) (Nat.le_of_ble_eq_true rfl) (Nat.le_of_ble_eq_true rfl) (Nat.le_of_ble_eq_true rfl) ⟨0, rfl, rfl⟩
set_option maxHeartbeats 4000000 in
set_option maxRecDepth 100000 in
/-- points -/
theorem cx_points (l : Launch) (hfl : l.stackTraces = false) (D : va_G) (sz : Nat) (h0 : Nat) (fs : List Value) (o9 : Nat) (f9 : List Value) (g9_12 : f9[12]? = some (.int 0)) (h9 : fs[9]? = some (.ref o9)) : vx_Met l ⟨"Locihall", "points", "()I"⟩ (.code ⟨"Locihall", "points", "()I"⟩ prog_1_method_35_code 2 (some .int) :: qw) ({ frames := 6, cells := 1, slots := 6, locals := 82 }) (va_Pc [.ref h0] (qPre D [(h0, .inr (16, fs)), (o9, .inr (5, f9))] [] sz)) (va_Qi (fun (r : Int32) (_ : Unit) => 1 = 0 ∧ r = 0) (fun _ _ => True) (va_A [(h0, .inr (16, fs)), (o9, .inr (5, f9))] sz)) (qX (qx ["java/util/NoSuchElementException"] (1)) (va_A [(h0, .inr (16, fs)), (o9, .inr (5, f9))] sz)) 1 6 (va_A [(h0, .inr (16, fs)), (o9, .inr (5, f9))] sz) := by
  refine q_startX (by decide) (Nat.le_of_ble_eq_true rfl) ?_
  intro p e s m below meth c hB hno hpre ls hl
  have hW := qH_start hpre
  have hx := hB.1
  have hb := hB.2.1
  have hq := hB.2.2.2.2.2.1
  have hl : lv_has ls 2 [(0, .ref h0)] := hl
  refine lv_aload_n hx hb d_H_points_0 rfl (lv_at hl 0 rfl) ?_
  refine q_get hB hW qc_16 0 rfl 9 (by decide) k411 h9 d_H_points_1 ?_
  refine q_getN hB hW qc_5 1 rfl 12 (by decide) j290 g9_12 d_H_points_4 ?_
  refine lv_if_ne (tgt := 21) hx hb d_H_points_7 (by decide) (fun c_1 => ?_) (fun c_1 => ?_)
  · exact absurd c_1 (by decide)
  · exact q_throwWX cx0 cx1 cx2 cx5 hB hW hfl hno (cls := "java/util/NoSuchElementException") (text := "no contest was closed") (by decide +kernel) k744 k158 j1408 hat_142 hgd_142 hl.1 d_H_points_10 d_H_points_13 d_H_points_14 d_H_points_17 d_H_points_20 (Nat.le_of_ble_eq_true rfl) (Nat.le_of_ble_eq_true rfl) (Nat.le_of_ble_eq_true rfl) (Nat.le_of_ble_eq_true rfl) (Nat.le_of_ble_eq_true rfl) (Nat.le_of_ble_eq_true rfl) ⟨0, rfl, rfl⟩
set_option maxHeartbeats 4000000 in
set_option maxRecDepth 100000 in
/-- bestUpTo, without a closed contest -/
theorem ct_Co_bestUpTo (l : Launch) (D : va_G) (sz : Nat) (h0 : Nat) (fs : List Value) (h12 : fs[12]? = some (.int 0)) (v : Int32) : Met l ⟨"Locihall$Contest", "bestUpTo", "(I)I"⟩ (.code ⟨"Locihall$Contest", "bestUpTo", "(I)I"⟩ prog_2_method_14_code 4 (some .int) :: qw) ({ frames := 0, cells := 0, slots := 0, locals := 0 }) (va_Pc [.ref h0, .int v] (qPre D [(h0, .inr (5, fs))] [] sz)) (k2_QcV (.int (-1))) 0 0 (fun _ => False) := by
  refine q_start (by decide) (Nat.le_of_ble_eq_true rfl) ?_
  intro p e s m below meth c hB hin hpre ls hl
  have hW := qH_start hpre
  have hx := hB.1
  have hb := hB.2.1
  have hq := hB.2.2.2.2.2.1
  have hl : lv_has ls 4 [(0, .ref h0), (1, .int v)] := hl
  refine lv_iconst (v := (-1)) hx hb d_HContest_bestUpTo_0 (by decide) ?_
  refine lv_istore_n (lv' := [(2, .int (-1)), (0, .ref h0), (1, .int v)]) hx hb d_HContest_bestUpTo_1 rfl hl (by decide) rfl (fun ls hl => ?_)
  refine lv_iconst (v := 0) hx hb d_HContest_bestUpTo_2 (by decide) ?_
  refine lv_istore_n (lv' := [(3, .int 0), (2, .int (-1)), (0, .ref h0), (1, .int v)]) hx hb d_HContest_bestUpTo_3 rfl hl (by decide) rfl (fun ls hl => ?_)
  refine lv_iload_n hx hb d_HContest_bestUpTo_4 rfl (lv_at hl 0 rfl) ?_
  refine lv_aload_n hx hb d_HContest_bestUpTo_5 rfl (lv_at hl 2 rfl) ?_
  refine q_get hB hW qc_5 0 rfl 12 (by decide) k289 h12 d_HContest_bestUpTo_6 ?_
  refine lv_icmp_ge (tgt := 48) hx hb d_HContest_bestUpTo_9 (by decide) (fun c_1 => ?_) (fun c_1 => ?_)
  · refine lv_iload_n hx hb d_HContest_bestUpTo_48 rfl (lv_at hl 1 rfl) ?_
    exact W.iret hx hb hB.2.2.1 (fun t ht _ => ⟨rfl, ht⟩) (fun _ h => by cases h) d_HContest_bestUpTo_49 hB.2.2.2.2.2.2.1
  · exact absurd c_1 (by decide)
def kf_record (p0 : Int32) : Int32 := if f_isIn p0 0 9999 = 0 then 1 else 2
set_option maxHeartbeats 4000000 in
set_option maxRecDepth 100000 in
/-- record -/
theorem cx_record (l : Launch) (hfl : l.stackTraces = false) (D : va_G) (sz : Nat) (h0 : Nat) (fs : List Value) (p0 : Int32) (o9 : Nat) (f9 : List Value) (g9_12 : f9[12]? = some (.int 0)) (h9 : fs[9]? = some (.ref o9)) : vx_Met l ⟨"Locihall", "record", "(I)I"⟩ (.code ⟨"Locihall", "record", "(I)I"⟩ prog_1_method_36_code 3 (some .int) :: qw) ({ frames := 6, cells := 1, slots := 6, locals := 82 }) (va_Pc [.ref h0, .int p0] (qPre D [(h0, .inr (16, fs)), (o9, .inr (5, f9))] [] sz)) (va_Qi (fun (r : Int32) (_ : Unit) => kf_record p0 = 0 ∧ r = 0) (fun _ _ => True) (va_A [(h0, .inr (16, fs)), (o9, .inr (5, f9))] sz)) (qX (qx ["java/lang/IllegalArgumentException", "java/util/NoSuchElementException"] (kf_record p0)) (va_A [(h0, .inr (16, fs)), (o9, .inr (5, f9))] sz)) 1 6 (va_A [(h0, .inr (16, fs)), (o9, .inr (5, f9))] sz) := by
  refine q_startX (by decide) (Nat.le_of_ble_eq_true rfl) ?_
  intro p e s m below meth c hB hno hpre ls hl
  have hW := qH_start hpre
  have hx := hB.1
  have hb := hB.2.1
  have hq := hB.2.2.2.2.2.1
  have hl : lv_has ls 3 [(0, .ref h0), (1, .int p0)] := hl
  refine lv_iload_n hx hb d_H_record_0 rfl (lv_at hl 1 rfl) ?_
  refine q_readS (As := [.int p0]) (rest := []) hB hW (ct_H_isYear l D _ p0) k1244 k1245 k133 k1246 1 ⟨rfl, rfl⟩ (by decide +kernel) rfl ⟨Nat.le_of_ble_eq_true rfl, Nat.le_of_ble_eq_true rfl⟩ [] [] rfl rfl rfl rfl hl.1 (Nat.le_of_ble_eq_true rfl) ⟨Nat.le_of_ble_eq_true rfl, Nat.le_of_ble_eq_true rfl⟩ (st := [.int p0]) (by rfl) d_H_record_1 ?_
  refine lv_if_ne (tgt := 18) hx hb d_H_record_4 (by decide) (fun c_1 => ?_) (fun c_1 => ?_)
  · refine lv_aload_n hx hb d_H_record_18 rfl (lv_at hl 0 rfl) ?_
    refine q_get hB hW qc_16 0 rfl 9 (by decide) k411 h9 d_H_record_19 ?_
    refine lv_iload_n hx hb d_H_record_22 rfl (lv_at hl 1 rfl) ?_
    refine q_readVN (As := [.int p0]) (rest := []) hB hW (ct_Co_bestUpTo l D _ o9 f9 g9_12 p0) (ci := 5) (q0 := 1) rfl rfl j1417 k1419 k83 k138 k1420 1 ⟨rfl, rfl⟩ (by decide +kernel) rfl ⟨Nat.le_of_ble_eq_true rfl, Nat.le_of_ble_eq_true rfl⟩ [1] [] rfl rfl rfl rfl hl.1 (Nat.le_of_ble_eq_true rfl) ⟨Nat.le_of_ble_eq_true rfl, Nat.le_of_ble_eq_true rfl⟩ (st := [.int p0, .ref o9]) (by rfl) d_H_record_23 ?_
    refine lv_istore_n (lv' := [(2, .int (-1)), (0, .ref h0), (1, .int p0)]) hx hb d_H_record_26 rfl hl (by decide) rfl (fun ls hl => ?_)
    refine lv_iload_n hx hb d_H_record_27 rfl (lv_at hl 0 rfl) ?_
    refine lv_iconst (v := (-1)) hx hb d_H_record_28 (by decide) ?_
    refine lv_icmp_ne (tgt := 43) hx hb d_H_record_29 (by decide) (fun c_2 => ?_) (fun c_2 => ?_)
    · exact absurd c_2 (by decide)
    · exact q_throwWX cx0 cx1 cx2 cx5 hB hW hfl hno (cls := "java/util/NoSuchElementException") (text := "there is no record") (by decide +kernel) k744 k158 j1421 hat_142 hgd_142 hl.1 d_H_record_32 d_H_record_35 d_H_record_36 d_H_record_39 d_H_record_42 (Nat.le_of_ble_eq_true rfl) (Nat.le_of_ble_eq_true rfl) (Nat.le_of_ble_eq_true rfl) (Nat.le_of_ble_eq_true rfl) (Nat.le_of_ble_eq_true rfl) (Nat.le_of_ble_eq_true rfl) ⟨1, rfl, (by first | (simp only [kf_record, c_1, if_true, if_false, ite_true, ite_false, reduceIte]; rfl) | simp only [kf_record, c_1, if_true, if_false, ite_true, ite_false, reduceIte])⟩
  · exact q_throwW hB hW hfl hno (cls := "java/lang/IllegalArgumentException") (text := "no such year") (by decide +kernel) k544 k148 j1416 hat_81 hgd_81 hl.1 d_H_record_7 d_H_record_10 d_H_record_11 d_H_record_14 d_H_record_17 (Nat.le_of_ble_eq_true rfl) (Nat.le_of_ble_eq_true rfl) (Nat.le_of_ble_eq_true rfl) (Nat.le_of_ble_eq_true rfl) (Nat.le_of_ble_eq_true rfl) (Nat.le_of_ble_eq_true rfl) ⟨0, rfl, (by first | (simp only [kf_record, c_1, if_true, if_false, ite_true, ite_false, reduceIte]; rfl) | simp only [kf_record, c_1, if_true, if_false, ite_true, ite_false, reduceIte])⟩
set_option maxHeartbeats 4000000 in
set_option maxRecDepth 100000 in
/-- isSuspect -/
theorem cx_isSuspect (l : Launch) (hfl : l.stackTraces = false) (D : va_G) (sz : Nat) (h0 : Nat) (fs : List Value) (o9 : Nat) (f9 : List Value) (g9_4 : f9[4]? = some (.int 0)) (h9 : fs[9]? = some (.ref o9)) : vx_Met l ⟨"Locihall", "isSuspect", "()Z"⟩ (.code ⟨"Locihall", "isSuspect", "()Z"⟩ prog_1_method_37_code 1 (some .boolean) :: qw) ({ frames := 6, cells := 1, slots := 6, locals := 82 }) (va_Pc [.ref h0] (qPre D [(h0, .inr (16, fs)), (o9, .inr (5, f9))] [] sz)) (va_Qi (fun (r : Int32) (_ : Unit) => 1 = 0 ∧ r = 0) (fun _ _ => True) (va_A [(h0, .inr (16, fs)), (o9, .inr (5, f9))] sz)) (qX (qx ["java/util/NoSuchElementException"] (1)) (va_A [(h0, .inr (16, fs)), (o9, .inr (5, f9))] sz)) 1 6 (va_A [(h0, .inr (16, fs)), (o9, .inr (5, f9))] sz) := by
  refine q_startX (by decide) (Nat.le_of_ble_eq_true rfl) ?_
  intro p e s m below meth c hB hno hpre ls hl
  have hW := qH_start hpre
  have hx := hB.1
  have hb := hB.2.1
  have hq := hB.2.2.2.2.2.1
  have hl : lv_has ls 1 [(0, .ref h0)] := hl
  refine lv_aload_n hx hb d_H_isSuspect_0 rfl (lv_at hl 0 rfl) ?_
  refine q_get hB hW qc_16 0 rfl 9 (by decide) k411 h9 d_H_isSuspect_1 ?_
  refine q_getN hB hW qc_5 1 rfl 4 (by decide) j278 g9_4 d_H_isSuspect_4 ?_
  refine lv_if_ne (tgt := 21) hx hb d_H_isSuspect_7 (by decide) (fun c_1 => ?_) (fun c_1 => ?_)
  · exact absurd c_1 (by decide)
  · exact q_throwWX cx0 cx1 cx2 cx5 hB hW hfl hno (cls := "java/util/NoSuchElementException") (text := "there was no contest") (by decide +kernel) k744 k158 j1429 hat_142 hgd_142 hl.1 d_H_isSuspect_10 d_H_isSuspect_13 d_H_isSuspect_14 d_H_isSuspect_17 d_H_isSuspect_20 (Nat.le_of_ble_eq_true rfl) (Nat.le_of_ble_eq_true rfl) (Nat.le_of_ble_eq_true rfl) (Nat.le_of_ble_eq_true rfl) (Nat.le_of_ble_eq_true rfl) (Nat.le_of_ble_eq_true rfl) ⟨0, rfl, rfl⟩
set_option maxHeartbeats 4000000 in
set_option maxRecDepth 100000 in
/-- speak -/
theorem cx_speak (l : Launch) (hfl : l.stackTraces = false) (D : va_G) (sz : Nat) (h0 : Nat) (fs : List Value) (p0 : Int32) (o10 : Nat) (f10 : List Value) (g10_2 : f10[2]? = some (.int 0)) (h10 : fs[10]? = some (.ref o10)) : vx_Met l ⟨"Locihall", "speak", "(I)I"⟩ (.code ⟨"Locihall", "speak", "(I)I"⟩ prog_1_method_39_code 2 (some .int) :: qw) ({ frames := 6, cells := 1, slots := 6, locals := 82 }) (va_Pc [.ref h0, .int p0] (qPre D [(h0, .inr (16, fs)), (o10, .inr (11, f10))] [] sz)) (va_Qi (fun (r : Int32) (_ : Unit) => 1 = 0 ∧ r = 0) (fun _ _ => True) (va_A [(h0, .inr (16, fs)), (o10, .inr (11, f10))] sz)) (qX (qx ["java/lang/IndexOutOfBoundsException", "java/lang/UnsupportedOperationException"] (1)) (va_A [(h0, .inr (16, fs)), (o10, .inr (11, f10))] sz)) 1 6 (va_A [(h0, .inr (16, fs)), (o10, .inr (11, f10))] sz) := by
  refine q_startX (by decide) (Nat.le_of_ble_eq_true rfl) ?_
  intro p e s m below meth c hB hno hpre ls hl
  have hW := qH_start hpre
  have hx := hB.1
  have hb := hB.2.1
  have hq := hB.2.2.2.2.2.1
  have hl : lv_has ls 2 [(0, .ref h0), (1, .int p0)] := hl
  refine lv_iload_n hx hb d_H_speak_0 rfl (lv_at hl 1 rfl) ?_
  refine lv_if_lt (tgt := 15) hx hb d_H_speak_1 (by decide) (fun c_1 => ?_) (fun c_1 => ?_)
  · exact q_throwW hB hW hfl hno (cls := "java/lang/IndexOutOfBoundsException") (text := "no such speech") (by decide +kernel) k701 k155 j1455 hat_119 hgd_119 hl.1 d_H_speak_15 d_H_speak_18 d_H_speak_19 d_H_speak_22 d_H_speak_25 (Nat.le_of_ble_eq_true rfl) (Nat.le_of_ble_eq_true rfl) (Nat.le_of_ble_eq_true rfl) (Nat.le_of_ble_eq_true rfl) (Nat.le_of_ble_eq_true rfl) (Nat.le_of_ble_eq_true rfl) ⟨0, rfl, rfl⟩
  · refine lv_iload_n hx hb d_H_speak_4 rfl (lv_at hl 1 rfl) ?_
    refine lv_aload_n hx hb d_H_speak_5 rfl (lv_at hl 0 rfl) ?_
    refine q_get hB hW qc_16 0 rfl 10 (by decide) k412 h10 d_H_speak_6 ?_
    refine q_getN hB hW qc_11 1 rfl 2 (by decide) j342 g10_2 d_H_speak_9 ?_
    refine lv_icmp_lt (tgt := 26) hx hb d_H_speak_12 (by decide) (fun c_2 => ?_) (fun c_2 => ?_)
    · exact absurd c_2 c_1
    · exact q_throwW hB hW hfl hno (cls := "java/lang/IndexOutOfBoundsException") (text := "no such speech") (by decide +kernel) k701 k155 j1455 hat_119 hgd_119 hl.1 d_H_speak_15 d_H_speak_18 d_H_speak_19 d_H_speak_22 d_H_speak_25 (Nat.le_of_ble_eq_true rfl) (Nat.le_of_ble_eq_true rfl) (Nat.le_of_ble_eq_true rfl) (Nat.le_of_ble_eq_true rfl) (Nat.le_of_ble_eq_true rfl) (Nat.le_of_ble_eq_true rfl) ⟨0, rfl, rfl⟩
set_option maxHeartbeats 4000000 in
set_option maxRecDepth 100000 in
/-- point -/
theorem cx_point (l : Launch) (hfl : l.stackTraces = false) (D : va_G) (sz : Nat) (h0 : Nat) (fs : List Value) (o10 : Nat) (f10 : List Value) (g10_4 : f10[4]? = some (.int 0)) (h10 : fs[10]? = some (.ref o10)) : vx_Met l ⟨"Locihall", "point", "()I"⟩ (.code ⟨"Locihall", "point", "()I"⟩ prog_1_method_40_code 1 (some .int) :: qw) ({ frames := 6, cells := 1, slots := 6, locals := 82 }) (va_Pc [.ref h0] (qPre D [(h0, .inr (16, fs)), (o10, .inr (11, f10))] [] sz)) (va_Qi (fun (r : Int32) (_ : Unit) => 1 = 0 ∧ r = 0) (fun _ _ => True) (va_A [(h0, .inr (16, fs)), (o10, .inr (11, f10))] sz)) (qX (qx ["java/util/NoSuchElementException"] (1)) (va_A [(h0, .inr (16, fs)), (o10, .inr (11, f10))] sz)) 1 6 (va_A [(h0, .inr (16, fs)), (o10, .inr (11, f10))] sz) := by
  refine q_startX (by decide) (Nat.le_of_ble_eq_true rfl) ?_
  intro p e s m below meth c hB hno hpre ls hl
  have hW := qH_start hpre
  have hx := hB.1
  have hb := hB.2.1
  have hq := hB.2.2.2.2.2.1
  have hl : lv_has ls 1 [(0, .ref h0)] := hl
  refine lv_aload_n hx hb d_H_point_0 rfl (lv_at hl 0 rfl) ?_
  refine q_get hB hW qc_16 0 rfl 10 (by decide) k412 h10 d_H_point_1 ?_
  refine q_getN hB hW qc_11 1 rfl 4 (by decide) j345 g10_4 d_H_point_4 ?_
  refine lv_if_eq (tgt := 20) hx hb d_H_point_7 (by decide) (fun c_1 => ?_) (fun c_1 => ?_)
  · exact q_throwWX cx0 cx1 cx2 cx5 hB hW hfl hno (cls := "java/util/NoSuchElementException") (text := "no speech goes on, or it was interrupted") (by decide +kernel) k744 k158 j1472 hat_142 hgd_142 hl.1 d_H_point_20 d_H_point_23 d_H_point_24 d_H_point_27 d_H_point_30 (Nat.le_of_ble_eq_true rfl) (Nat.le_of_ble_eq_true rfl) (Nat.le_of_ble_eq_true rfl) (Nat.le_of_ble_eq_true rfl) (Nat.le_of_ble_eq_true rfl) (Nat.le_of_ble_eq_true rfl) ⟨0, rfl, rfl⟩
  · exact absurd c_1 (by decide)
set_option maxHeartbeats 4000000 in
set_option maxRecDepth 100000 in
/-- interrupt -/
theorem cx_interrupt (l : Launch) (hfl : l.stackTraces = false) (D : va_G) (sz : Nat) (h0 : Nat) (fs : List Value) (o10 : Nat) (f10 : List Value) (g10_4 : f10[4]? = some (.int 0)) (h10 : fs[10]? = some (.ref o10)) : vx_Met l ⟨"Locihall", "interrupt", "()I"⟩ (.code ⟨"Locihall", "interrupt", "()I"⟩ prog_1_method_41_code 1 (some .int) :: qw) ({ frames := 6, cells := 1, slots := 6, locals := 82 }) (va_Pc [.ref h0] (qPre D [(h0, .inr (16, fs)), (o10, .inr (11, f10))] [] sz)) (va_Qi (fun (r : Int32) (_ : Unit) => 1 = 0 ∧ r = 0) (fun _ _ => True) (va_A [(h0, .inr (16, fs)), (o10, .inr (11, f10))] sz)) (qX (qx ["java/util/NoSuchElementException"] (1)) (va_A [(h0, .inr (16, fs)), (o10, .inr (11, f10))] sz)) 1 6 (va_A [(h0, .inr (16, fs)), (o10, .inr (11, f10))] sz) := by
  refine q_startX (by decide) (Nat.le_of_ble_eq_true rfl) ?_
  intro p e s m below meth c hB hno hpre ls hl
  have hW := qH_start hpre
  have hx := hB.1
  have hb := hB.2.1
  have hq := hB.2.2.2.2.2.1
  have hl : lv_has ls 1 [(0, .ref h0)] := hl
  refine lv_aload_n hx hb d_H_interrupt_0 rfl (lv_at hl 0 rfl) ?_
  refine q_get hB hW qc_16 0 rfl 10 (by decide) k412 h10 d_H_interrupt_1 ?_
  refine q_getN hB hW qc_11 1 rfl 4 (by decide) j345 g10_4 d_H_interrupt_4 ?_
  refine lv_if_eq (tgt := 20) hx hb d_H_interrupt_7 (by decide) (fun c_1 => ?_) (fun c_1 => ?_)
  · exact q_throwWX cx0 cx1 cx2 cx5 hB hW hfl hno (cls := "java/util/NoSuchElementException") (text := "no speech goes on, or it was interrupted") (by decide +kernel) k744 k158 j1472 hat_142 hgd_142 hl.1 d_H_interrupt_20 d_H_interrupt_23 d_H_interrupt_24 d_H_interrupt_27 d_H_interrupt_30 (Nat.le_of_ble_eq_true rfl) (Nat.le_of_ble_eq_true rfl) (Nat.le_of_ble_eq_true rfl) (Nat.le_of_ble_eq_true rfl) (Nat.le_of_ble_eq_true rfl) (Nat.le_of_ble_eq_true rfl) ⟨0, rfl, rfl⟩
  · exact absurd c_1 (by decide)
set_option maxHeartbeats 4000000 in
set_option maxRecDepth 100000 in
/-- resume -/
theorem cx_resume (l : Launch) (hfl : l.stackTraces = false) (D : va_G) (sz : Nat) (h0 : Nat) (fs : List Value) (o10 : Nat) (f10 : List Value) (g10_5 : f10[5]? = some (.int 0)) (h10 : fs[10]? = some (.ref o10)) : vx_Met l ⟨"Locihall", "resume", "()I"⟩ (.code ⟨"Locihall", "resume", "()I"⟩ prog_1_method_42_code 1 (some .int) :: qw) ({ frames := 6, cells := 1, slots := 6, locals := 82 }) (va_Pc [.ref h0] (qPre D [(h0, .inr (16, fs)), (o10, .inr (11, f10))] [] sz)) (va_Qi (fun (r : Int32) (_ : Unit) => 1 = 0 ∧ r = 0) (fun _ _ => True) (va_A [(h0, .inr (16, fs)), (o10, .inr (11, f10))] sz)) (qX (qx ["java/util/NoSuchElementException"] (1)) (va_A [(h0, .inr (16, fs)), (o10, .inr (11, f10))] sz)) 1 6 (va_A [(h0, .inr (16, fs)), (o10, .inr (11, f10))] sz) := by
  refine q_startX (by decide) (Nat.le_of_ble_eq_true rfl) ?_
  intro p e s m below meth c hB hno hpre ls hl
  have hW := qH_start hpre
  have hx := hB.1
  have hb := hB.2.1
  have hq := hB.2.2.2.2.2.1
  have hl : lv_has ls 1 [(0, .ref h0)] := hl
  refine lv_aload_n hx hb d_H_resume_0 rfl (lv_at hl 0 rfl) ?_
  refine q_get hB hW qc_16 0 rfl 10 (by decide) k412 h10 d_H_resume_1 ?_
  refine q_getN hB hW qc_11 1 rfl 5 (by decide) j347 g10_5 d_H_resume_4 ?_
  refine lv_if_ne (tgt := 21) hx hb d_H_resume_7 (by decide) (fun c_1 => ?_) (fun c_1 => ?_)
  · exact absurd c_1 (by decide)
  · exact q_throwWX cx0 cx1 cx2 cx5 hB hW hfl hno (cls := "java/util/NoSuchElementException") (text := "no speech was interrupted") (by decide +kernel) k744 k158 j1499 hat_142 hgd_142 hl.1 d_H_resume_10 d_H_resume_13 d_H_resume_14 d_H_resume_17 d_H_resume_20 (Nat.le_of_ble_eq_true rfl) (Nat.le_of_ble_eq_true rfl) (Nat.le_of_ble_eq_true rfl) (Nat.le_of_ble_eq_true rfl) (Nat.le_of_ble_eq_true rfl) (Nat.le_of_ble_eq_true rfl) ⟨0, rfl, rfl⟩
set_option maxHeartbeats 4000000 in
set_option maxRecDepth 100000 in
/-- review -/
theorem cx_review (l : Launch) (hfl : l.stackTraces = false) (D : va_G) (sz : Nat) (h0 : Nat) (fs : List Value) (p0 : Int32) (o11 : Nat) (f11 : List Value) (g11_4 : f11[4]? = some (.int 0)) (h11 : fs[11]? = some (.ref o11)) : vx_Met l ⟨"Locihall", "review", "(I)Z"⟩ (.code ⟨"Locihall", "review", "(I)Z"⟩ prog_1_method_44_code 2 (some .boolean) :: qw) ({ frames := 6, cells := 1, slots := 6, locals := 82 }) (va_Pc [.ref h0, .int p0] (qPre D [(h0, .inr (16, fs)), (o11, .inr (6, f11))] [] sz)) (va_Qi (fun (r : Int32) (_ : Unit) => 1 = 0 ∧ r = 0) (fun _ _ => True) (va_A [(h0, .inr (16, fs)), (o11, .inr (6, f11))] sz)) (qX (qx ["java/lang/IndexOutOfBoundsException"] (1)) (va_A [(h0, .inr (16, fs)), (o11, .inr (6, f11))] sz)) 1 6 (va_A [(h0, .inr (16, fs)), (o11, .inr (6, f11))] sz) := by
  refine q_startX (by decide) (Nat.le_of_ble_eq_true rfl) ?_
  intro p e s m below meth c hB hno hpre ls hl
  have hW := qH_start hpre
  have hx := hB.1
  have hb := hB.2.1
  have hq := hB.2.2.2.2.2.1
  have hl : lv_has ls 2 [(0, .ref h0), (1, .int p0)] := hl
  refine lv_aload_n hx hb d_H_review_0 rfl (lv_at hl 0 rfl) ?_
  refine q_get hB hW qc_16 0 rfl 11 (by decide) k413 h11 d_H_review_1 ?_
  refine lv_iload_n hx hb d_H_review_4 rfl (lv_at hl 1 rfl) ?_
  refine q_readVN (As := [.int p0]) (rest := []) hB hW (ct_Fa_has l D _ o11 f11 g11_4 p0) (ci := 6) (q0 := 1) rfl rfl j1525 k1527 k93 k140 k1528 1 ⟨rfl, rfl⟩ (by decide +kernel) rfl ⟨Nat.le_of_ble_eq_true rfl, Nat.le_of_ble_eq_true rfl⟩ [1] [] rfl rfl rfl rfl hl.1 (Nat.le_of_ble_eq_true rfl) ⟨Nat.le_of_ble_eq_true rfl, Nat.le_of_ble_eq_true rfl⟩ (st := [.int p0, .ref o11]) (by rfl) d_H_review_5 ?_
  refine lv_if_ne (tgt := 22) hx hb d_H_review_8 (by decide) (fun c_1 => ?_) (fun c_1 => ?_)
  · exact absurd c_1 (by decide)
  · exact q_throwW hB hW hfl hno (cls := "java/lang/IndexOutOfBoundsException") (text := "no such fact") (by decide +kernel) k701 k155 j1529 hat_119 hgd_119 hl.1 d_H_review_11 d_H_review_14 d_H_review_15 d_H_review_18 d_H_review_21 (Nat.le_of_ble_eq_true rfl) (Nat.le_of_ble_eq_true rfl) (Nat.le_of_ble_eq_true rfl) (Nat.le_of_ble_eq_true rfl) (Nat.le_of_ble_eq_true rfl) (Nat.le_of_ble_eq_true rfl) ⟨0, rfl, rfl⟩
set_option maxHeartbeats 4000000 in
set_option maxRecDepth 100000 in
/-- strength -/
theorem cx_strength (l : Launch) (hfl : l.stackTraces = false) (D : va_G) (sz : Nat) (h0 : Nat) (fs : List Value) (p0 : Int32) (o11 : Nat) (f11 : List Value) (g11_4 : f11[4]? = some (.int 0)) (h11 : fs[11]? = some (.ref o11)) : vx_Met l ⟨"Locihall", "strength", "(I)I"⟩ (.code ⟨"Locihall", "strength", "(I)I"⟩ prog_1_method_45_code 2 (some .int) :: qw) ({ frames := 6, cells := 1, slots := 6, locals := 82 }) (va_Pc [.ref h0, .int p0] (qPre D [(h0, .inr (16, fs)), (o11, .inr (6, f11))] [] sz)) (va_Qi (fun (r : Int32) (_ : Unit) => 1 = 0 ∧ r = 0) (fun _ _ => True) (va_A [(h0, .inr (16, fs)), (o11, .inr (6, f11))] sz)) (qX (qx ["java/lang/IndexOutOfBoundsException"] (1)) (va_A [(h0, .inr (16, fs)), (o11, .inr (6, f11))] sz)) 1 6 (va_A [(h0, .inr (16, fs)), (o11, .inr (6, f11))] sz) := by
  refine q_startX (by decide) (Nat.le_of_ble_eq_true rfl) ?_
  intro p e s m below meth c hB hno hpre ls hl
  have hW := qH_start hpre
  have hx := hB.1
  have hb := hB.2.1
  have hq := hB.2.2.2.2.2.1
  have hl : lv_has ls 2 [(0, .ref h0), (1, .int p0)] := hl
  refine lv_aload_n hx hb d_H_strength_0 rfl (lv_at hl 0 rfl) ?_
  refine q_get hB hW qc_16 0 rfl 11 (by decide) k413 h11 d_H_strength_1 ?_
  refine lv_iload_n hx hb d_H_strength_4 rfl (lv_at hl 1 rfl) ?_
  refine q_readVN (As := [.int p0]) (rest := []) hB hW (ct_Fa_has l D _ o11 f11 g11_4 p0) (ci := 6) (q0 := 1) rfl rfl j1525 k1527 k93 k140 k1528 1 ⟨rfl, rfl⟩ (by decide +kernel) rfl ⟨Nat.le_of_ble_eq_true rfl, Nat.le_of_ble_eq_true rfl⟩ [1] [] rfl rfl rfl rfl hl.1 (Nat.le_of_ble_eq_true rfl) ⟨Nat.le_of_ble_eq_true rfl, Nat.le_of_ble_eq_true rfl⟩ (st := [.int p0, .ref o11]) (by rfl) d_H_strength_5 ?_
  refine lv_if_ne (tgt := 22) hx hb d_H_strength_8 (by decide) (fun c_1 => ?_) (fun c_1 => ?_)
  · exact absurd c_1 (by decide)
  · exact q_throwW hB hW hfl hno (cls := "java/lang/IndexOutOfBoundsException") (text := "no such fact") (by decide +kernel) k701 k155 j1529 hat_119 hgd_119 hl.1 d_H_strength_11 d_H_strength_14 d_H_strength_15 d_H_strength_18 d_H_strength_21 (Nat.le_of_ble_eq_true rfl) (Nat.le_of_ble_eq_true rfl) (Nat.le_of_ble_eq_true rfl) (Nat.le_of_ble_eq_true rfl) (Nat.le_of_ble_eq_true rfl) (Nat.le_of_ble_eq_true rfl) ⟨0, rfl, rfl⟩
set_option maxHeartbeats 4000000 in
set_option maxRecDepth 100000 in
/-- isDue -/
theorem cx_isDue (l : Launch) (hfl : l.stackTraces = false) (D : va_G) (sz : Nat) (h0 : Nat) (fs : List Value) (p0 : Int32) (o11 : Nat) (f11 : List Value) (g11_4 : f11[4]? = some (.int 0)) (h11 : fs[11]? = some (.ref o11)) : vx_Met l ⟨"Locihall", "isDue", "(I)Z"⟩ (.code ⟨"Locihall", "isDue", "(I)Z"⟩ prog_1_method_46_code 2 (some .boolean) :: qw) ({ frames := 6, cells := 1, slots := 6, locals := 82 }) (va_Pc [.ref h0, .int p0] (qPre D [(h0, .inr (16, fs)), (o11, .inr (6, f11))] [] sz)) (va_Qi (fun (r : Int32) (_ : Unit) => 1 = 0 ∧ r = 0) (fun _ _ => True) (va_A [(h0, .inr (16, fs)), (o11, .inr (6, f11))] sz)) (qX (qx ["java/lang/IndexOutOfBoundsException"] (1)) (va_A [(h0, .inr (16, fs)), (o11, .inr (6, f11))] sz)) 1 6 (va_A [(h0, .inr (16, fs)), (o11, .inr (6, f11))] sz) := by
  refine q_startX (by decide) (Nat.le_of_ble_eq_true rfl) ?_
  intro p e s m below meth c hB hno hpre ls hl
  have hW := qH_start hpre
  have hx := hB.1
  have hb := hB.2.1
  have hq := hB.2.2.2.2.2.1
  have hl : lv_has ls 2 [(0, .ref h0), (1, .int p0)] := hl
  refine lv_aload_n hx hb d_H_isDue_0 rfl (lv_at hl 0 rfl) ?_
  refine q_get hB hW qc_16 0 rfl 11 (by decide) k413 h11 d_H_isDue_1 ?_
  refine lv_iload_n hx hb d_H_isDue_4 rfl (lv_at hl 1 rfl) ?_
  refine q_readVN (As := [.int p0]) (rest := []) hB hW (ct_Fa_has l D _ o11 f11 g11_4 p0) (ci := 6) (q0 := 1) rfl rfl j1525 k1527 k93 k140 k1528 1 ⟨rfl, rfl⟩ (by decide +kernel) rfl ⟨Nat.le_of_ble_eq_true rfl, Nat.le_of_ble_eq_true rfl⟩ [1] [] rfl rfl rfl rfl hl.1 (Nat.le_of_ble_eq_true rfl) ⟨Nat.le_of_ble_eq_true rfl, Nat.le_of_ble_eq_true rfl⟩ (st := [.int p0, .ref o11]) (by rfl) d_H_isDue_5 ?_
  refine lv_if_ne (tgt := 22) hx hb d_H_isDue_8 (by decide) (fun c_1 => ?_) (fun c_1 => ?_)
  · exact absurd c_1 (by decide)
  · exact q_throwW hB hW hfl hno (cls := "java/lang/IndexOutOfBoundsException") (text := "no such fact") (by decide +kernel) k701 k155 j1529 hat_119 hgd_119 hl.1 d_H_isDue_11 d_H_isDue_14 d_H_isDue_15 d_H_isDue_18 d_H_isDue_21 (Nat.le_of_ble_eq_true rfl) (Nat.le_of_ble_eq_true rfl) (Nat.le_of_ble_eq_true rfl) (Nat.le_of_ble_eq_true rfl) (Nat.le_of_ble_eq_true rfl) (Nat.le_of_ble_eq_true rfl) ⟨0, rfl, rfl⟩
def kf_bestSum (p0 : Int32) : Int32 := if f_isIn p0 1 5 = 0 then 1 else 3
def kf_bestAt (p0 p1 : Int32) : Int32 := if f_isIn p0 1 5 = 0 then 1 else if p1 < 0 then 1 else if p1 < p0 then 3 else 1
set_option maxHeartbeats 4000000 in
set_option maxRecDepth 100000 in
/-- bestSum -/
theorem cx_bestSum (l : Launch) (hfl : l.stackTraces = false) (D : va_G) (sz : Nat) (h0 : Nat) (fs : List Value) (p0 : Int32) (o11 : Nat) (f11 : List Value) (g11_4 : f11[4]? = some (.int 0)) (h11 : fs[11]? = some (.ref o11)) : vx_Met l ⟨"Locihall", "bestSum", "(I)I"⟩ (.code ⟨"Locihall", "bestSum", "(I)I"⟩ prog_1_method_48_code 2 (some .int) :: qw) ({ frames := 6, cells := 1, slots := 6, locals := 82 }) (va_Pc [.ref h0, .int p0] (qPre D [(h0, .inr (16, fs)), (o11, .inr (6, f11))] [] sz)) (va_Qi (fun (r : Int32) (_ : Unit) => kf_bestSum p0 = 0 ∧ r = 0) (fun _ _ => True) (va_A [(h0, .inr (16, fs)), (o11, .inr (6, f11))] sz)) (qX (qx ["java/lang/IllegalArgumentException", "java/lang/IllegalStateException", "java/util/NoSuchElementException"] (kf_bestSum p0)) (va_A [(h0, .inr (16, fs)), (o11, .inr (6, f11))] sz)) 1 6 (va_A [(h0, .inr (16, fs)), (o11, .inr (6, f11))] sz) := by
  refine q_startX (by decide) (Nat.le_of_ble_eq_true rfl) ?_
  intro p e s m below meth c hB hno hpre ls hl
  have hW := qH_start hpre
  have hx := hB.1
  have hb := hB.2.1
  have hq := hB.2.2.2.2.2.1
  have hl : lv_has ls 2 [(0, .ref h0), (1, .int p0)] := hl
  refine lv_iload_n hx hb d_H_bestSum_0 rfl (lv_at hl 1 rfl) ?_
  refine lv_iconst (v := 1) hx hb d_H_bestSum_1 (by decide) ?_
  refine lv_iconst (v := 5) hx hb d_H_bestSum_2 (by decide) ?_
  refine q_readS (As := [.int p0, .int 1, .int 5]) (rest := []) hB hW (ct_H_isIn l D _ p0 1 5) k474 k472 k133 k473 3 ⟨rfl, rfl⟩ (by decide +kernel) rfl ⟨Nat.le_of_ble_eq_true rfl, Nat.le_of_ble_eq_true rfl⟩ [] [] rfl rfl rfl rfl hl.1 (Nat.le_of_ble_eq_true rfl) ⟨Nat.le_of_ble_eq_true rfl, Nat.le_of_ble_eq_true rfl⟩ (st := [.int 5, .int 1, .int p0]) (by rfl) d_H_bestSum_3 ?_
  refine lv_if_ne (tgt := 20) hx hb d_H_bestSum_6 (by decide) (fun c_1 => ?_) (fun c_1 => ?_)
  · refine lv_aload_n hx hb d_H_bestSum_20 rfl (lv_at hl 0 rfl) ?_
    refine q_get hB hW qc_16 0 rfl 11 (by decide) k413 h11 d_H_bestSum_21 ?_
    refine q_getN hB hW qc_6 1 rfl 4 (by decide) j376 g11_4 d_H_bestSum_24 ?_
    refine lv_iconst (v := 4) hx hb d_H_bestSum_27 (by decide) ?_
    refine lv_icmp_le (tgt := 42) hx hb d_H_bestSum_28 (by decide) (fun c_2 => ?_) (fun c_2 => ?_)
    · refine lv_aload_n hx hb d_H_bestSum_42 rfl (lv_at hl 0 rfl) ?_
      refine q_get hB hW qc_16 0 rfl 11 (by decide) k413 h11 d_H_bestSum_43 ?_
      refine q_getN hB hW qc_6 1 rfl 4 (by decide) j376 g11_4 d_H_bestSum_46 ?_
      refine lv_if_ne (tgt := 63) hx hb d_H_bestSum_49 (by decide) (fun c_3 => ?_) (fun c_3 => ?_)
      · exact absurd c_3 (by decide)
      · exact q_throwWX cx0 cx1 cx2 cx5 hB hW hfl hno (cls := "java/util/NoSuchElementException") (text := "there are no facts") (by decide +kernel) k744 k158 j1569 hat_142 hgd_142 hl.1 d_H_bestSum_52 d_H_bestSum_55 d_H_bestSum_56 d_H_bestSum_59 d_H_bestSum_62 (Nat.le_of_ble_eq_true rfl) (Nat.le_of_ble_eq_true rfl) (Nat.le_of_ble_eq_true rfl) (Nat.le_of_ble_eq_true rfl) (Nat.le_of_ble_eq_true rfl) (Nat.le_of_ble_eq_true rfl) ⟨2, rfl, (by first | (simp only [kf_bestSum, c_1, if_true, if_false, ite_true, ite_false, reduceIte]; rfl) | simp only [kf_bestSum, c_1, if_true, if_false, ite_true, ite_false, reduceIte])⟩
    · exact absurd c_2 (by decide)
  · exact q_throwW hB hW hfl hno (cls := "java/lang/IllegalArgumentException") (text := "1 to 5 hours") (by decide +kernel) k544 k148 j1567 hat_81 hgd_81 hl.1 d_H_bestSum_9 d_H_bestSum_12 d_H_bestSum_13 d_H_bestSum_16 d_H_bestSum_19 (Nat.le_of_ble_eq_true rfl) (Nat.le_of_ble_eq_true rfl) (Nat.le_of_ble_eq_true rfl) (Nat.le_of_ble_eq_true rfl) (Nat.le_of_ble_eq_true rfl) (Nat.le_of_ble_eq_true rfl) ⟨0, rfl, (by first | (simp only [kf_bestSum, c_1, if_true, if_false, ite_true, ite_false, reduceIte]; rfl) | simp only [kf_bestSum, c_1, if_true, if_false, ite_true, ite_false, reduceIte])⟩
set_option maxHeartbeats 4000000 in
set_option maxRecDepth 100000 in
/-- bestAt -/
theorem cx_bestAt (l : Launch) (hfl : l.stackTraces = false) (D : va_G) (sz : Nat) (h0 : Nat) (fs : List Value) (p0 : Int32) (p1 : Int32) (o11 : Nat) (f11 : List Value) (g11_4 : f11[4]? = some (.int 0)) (h11 : fs[11]? = some (.ref o11)) : vx_Met l ⟨"Locihall", "bestAt", "(II)I"⟩ (.code ⟨"Locihall", "bestAt", "(II)I"⟩ prog_1_method_49_code 3 (some .int) :: qw) ({ frames := 6, cells := 1, slots := 6, locals := 82 }) (va_Pc [.ref h0, .int p0, .int p1] (qPre D [(h0, .inr (16, fs)), (o11, .inr (6, f11))] [] sz)) (va_Qi (fun (r : Int32) (_ : Unit) => kf_bestAt p0 p1 = 0 ∧ r = 0) (fun _ _ => True) (va_A [(h0, .inr (16, fs)), (o11, .inr (6, f11))] sz)) (qX (qx ["java/lang/IllegalArgumentException", "java/lang/IllegalStateException", "java/util/NoSuchElementException"] (kf_bestAt p0 p1)) (va_A [(h0, .inr (16, fs)), (o11, .inr (6, f11))] sz)) 1 6 (va_A [(h0, .inr (16, fs)), (o11, .inr (6, f11))] sz) := by
  refine q_startX (by decide) (Nat.le_of_ble_eq_true rfl) ?_
  intro p e s m below meth c hB hno hpre ls hl
  have hW := qH_start hpre
  have hx := hB.1
  have hb := hB.2.1
  have hq := hB.2.2.2.2.2.1
  have hl : lv_has ls 3 [(0, .ref h0), (1, .int p0), (2, .int p1)] := hl
  refine lv_iload_n hx hb d_H_bestAt_0 rfl (lv_at hl 1 rfl) ?_
  refine lv_iconst (v := 1) hx hb d_H_bestAt_1 (by decide) ?_
  refine lv_iconst (v := 5) hx hb d_H_bestAt_2 (by decide) ?_
  refine q_readS (As := [.int p0, .int 1, .int 5]) (rest := []) hB hW (ct_H_isIn l D _ p0 1 5) k474 k472 k133 k473 3 ⟨rfl, rfl⟩ (by decide +kernel) rfl ⟨Nat.le_of_ble_eq_true rfl, Nat.le_of_ble_eq_true rfl⟩ [] [] rfl rfl rfl rfl hl.1 (Nat.le_of_ble_eq_true rfl) ⟨Nat.le_of_ble_eq_true rfl, Nat.le_of_ble_eq_true rfl⟩ (st := [.int 5, .int 1, .int p0]) (by rfl) d_H_bestAt_3 ?_
  refine lv_if_eq (tgt := 18) hx hb d_H_bestAt_6 (by decide) (fun c_1 => ?_) (fun c_1 => ?_)
  · exact q_throwW hB hW hfl hno (cls := "java/lang/IllegalArgumentException") (text := "1 to 5 hours, and one of them") (by decide +kernel) k544 k148 j1590 hat_81 hgd_81 hl.1 d_H_bestAt_18 d_H_bestAt_21 d_H_bestAt_22 d_H_bestAt_25 d_H_bestAt_28 (Nat.le_of_ble_eq_true rfl) (Nat.le_of_ble_eq_true rfl) (Nat.le_of_ble_eq_true rfl) (Nat.le_of_ble_eq_true rfl) (Nat.le_of_ble_eq_true rfl) (Nat.le_of_ble_eq_true rfl) ⟨0, rfl, (by first | (simp only [kf_bestAt, c_1, if_true, if_false, ite_true, ite_false, reduceIte]; rfl) | simp only [kf_bestAt, c_1, if_true, if_false, ite_true, ite_false, reduceIte])⟩
  · refine lv_iload_n hx hb d_H_bestAt_9 rfl (lv_at hl 2 rfl) ?_
    refine lv_if_lt (tgt := 18) hx hb d_H_bestAt_10 (by decide) (fun c_2 => ?_) (fun c_2 => ?_)
    · exact q_throwW hB hW hfl hno (cls := "java/lang/IllegalArgumentException") (text := "1 to 5 hours, and one of them") (by decide +kernel) k544 k148 j1590 hat_81 hgd_81 hl.1 d_H_bestAt_18 d_H_bestAt_21 d_H_bestAt_22 d_H_bestAt_25 d_H_bestAt_28 (Nat.le_of_ble_eq_true rfl) (Nat.le_of_ble_eq_true rfl) (Nat.le_of_ble_eq_true rfl) (Nat.le_of_ble_eq_true rfl) (Nat.le_of_ble_eq_true rfl) (Nat.le_of_ble_eq_true rfl) ⟨0, rfl, (by first | (simp only [kf_bestAt, c_1, c_2, if_true, if_false, ite_true, ite_false, reduceIte]; rfl) | simp only [kf_bestAt, c_1, c_2, if_true, if_false, ite_true, ite_false, reduceIte])⟩
    · refine lv_iload_n hx hb d_H_bestAt_13 rfl (lv_at hl 2 rfl) ?_
      refine lv_iload_n hx hb d_H_bestAt_14 rfl (lv_at hl 1 rfl) ?_
      refine lv_icmp_lt (tgt := 29) hx hb d_H_bestAt_15 (by decide) (fun c_3 => ?_) (fun c_3 => ?_)
      · refine lv_aload_n hx hb d_H_bestAt_29 rfl (lv_at hl 0 rfl) ?_
        refine q_get hB hW qc_16 0 rfl 11 (by decide) k413 h11 d_H_bestAt_30 ?_
        refine q_getN hB hW qc_6 1 rfl 4 (by decide) j376 g11_4 d_H_bestAt_33 ?_
        refine lv_iconst (v := 4) hx hb d_H_bestAt_36 (by decide) ?_
        refine lv_icmp_le (tgt := 51) hx hb d_H_bestAt_37 (by decide) (fun c_4 => ?_) (fun c_4 => ?_)
        · refine lv_aload_n hx hb d_H_bestAt_51 rfl (lv_at hl 0 rfl) ?_
          refine q_get hB hW qc_16 0 rfl 11 (by decide) k413 h11 d_H_bestAt_52 ?_
          refine q_getN hB hW qc_6 1 rfl 4 (by decide) j376 g11_4 d_H_bestAt_55 ?_
          refine lv_if_ne (tgt := 72) hx hb d_H_bestAt_58 (by decide) (fun c_5 => ?_) (fun c_5 => ?_)
          · exact absurd c_5 (by decide)
          · exact q_throwWX cx0 cx1 cx2 cx5 hB hW hfl hno (cls := "java/util/NoSuchElementException") (text := "there are no facts") (by decide +kernel) k744 k158 j1569 hat_142 hgd_142 hl.1 d_H_bestAt_61 d_H_bestAt_64 d_H_bestAt_65 d_H_bestAt_68 d_H_bestAt_71 (Nat.le_of_ble_eq_true rfl) (Nat.le_of_ble_eq_true rfl) (Nat.le_of_ble_eq_true rfl) (Nat.le_of_ble_eq_true rfl) (Nat.le_of_ble_eq_true rfl) (Nat.le_of_ble_eq_true rfl) ⟨2, rfl, (by first | (simp only [kf_bestAt, c_1, c_2, c_3, if_true, if_false, ite_true, ite_false, reduceIte]; rfl) | simp only [kf_bestAt, c_1, c_2, c_3, if_true, if_false, ite_true, ite_false, reduceIte])⟩
        · exact absurd c_4 (by decide)
      · exact q_throwW hB hW hfl hno (cls := "java/lang/IllegalArgumentException") (text := "1 to 5 hours, and one of them") (by decide +kernel) k544 k148 j1590 hat_81 hgd_81 hl.1 d_H_bestAt_18 d_H_bestAt_21 d_H_bestAt_22 d_H_bestAt_25 d_H_bestAt_28 (Nat.le_of_ble_eq_true rfl) (Nat.le_of_ble_eq_true rfl) (Nat.le_of_ble_eq_true rfl) (Nat.le_of_ble_eq_true rfl) (Nat.le_of_ble_eq_true rfl) (Nat.le_of_ble_eq_true rfl) ⟨0, rfl, (by first | (simp only [kf_bestAt, c_1, c_2, c_3, if_true, if_false, ite_true, ite_false, reduceIte]; rfl) | simp only [kf_bestAt, c_1, c_2, c_3, if_true, if_false, ite_true, ite_false, reduceIte])⟩
set_option maxHeartbeats 4000000 in
set_option maxRecDepth 100000 in
/-- countLaid, without a palace -/
theorem ct_Mi_countLaid (l : Launch) (D : va_G) (sz : Nat) (h0 : Nat) (fs : List Value) (h2 : fs[2]? = some (.int 0)) : Met l ⟨"Locihall$Mind", "countLaid", "()I"⟩ (.code ⟨"Locihall$Mind", "countLaid", "()I"⟩ prog_6_method_20_code 5 (some .int) :: qw) ({ frames := 0, cells := 0, slots := 0, locals := 0 }) (va_Pc [.ref h0] (qPre D [(h0, .inr (9, fs))] [] sz)) (k2_QcV (.int 0)) 0 0 (fun _ => False) := by
  refine q_start (by decide) (Nat.le_of_ble_eq_true rfl) ?_
  intro p e s m below meth c hB hin hpre ls hl
  have hW := qH_start hpre
  have hx := hB.1
  have hb := hB.2.1
  have hq := hB.2.2.2.2.2.1
  have hl : lv_has ls 5 [(0, .ref h0)] := hl
  refine lv_iconst (v := 0) hx hb d_HMind_countLaid_0 (by decide) ?_
  refine lv_istore_n (lv' := [(1, .int 0), (0, .ref h0)]) hx hb d_HMind_countLaid_1 rfl hl (by decide) rfl (fun ls hl => ?_)
  refine lv_iconst (v := 0) hx hb d_HMind_countLaid_2 (by decide) ?_
  refine lv_istore_n (lv' := [(2, .int 0), (1, .int 0), (0, .ref h0)]) hx hb d_HMind_countLaid_3 rfl hl (by decide) rfl (fun ls hl => ?_)
  refine lv_iload_n hx hb d_HMind_countLaid_4 rfl (lv_at hl 0 rfl) ?_
  refine lv_aload_n hx hb d_HMind_countLaid_5 rfl (lv_at hl 2 rfl) ?_
  refine q_get hB hW qc_9 0 rfl 2 (by decide) k225 h2 d_HMind_countLaid_6 ?_
  refine lv_icmp_ge (tgt := 58) hx hb d_HMind_countLaid_9 (by decide) (fun c_1 => ?_) (fun c_1 => ?_)
  · refine lv_iload_n hx hb d_HMind_countLaid_58 rfl (lv_at hl 1 rfl) ?_
    exact W.iret hx hb hB.2.2.1 (fun t ht _ => ⟨rfl, ht⟩) (fun _ h => by cases h) d_HMind_countLaid_59 hB.2.2.2.2.2.2.1
  · exact absurd c_1 (by decide)
set_option maxHeartbeats 4000000 in
set_option maxRecDepth 100000 in
/-- heldShare -/
theorem cx_heldShare (l : Launch) (hfl : l.stackTraces = false) (D : va_G) (sz : Nat) (h0 : Nat) (fs : List Value) (o4 : Nat) (f4 : List Value) (g4_2 : f4[2]? = some (.int 0)) (h4 : fs[4]? = some (.ref o4)) : vx_Met l ⟨"Locihall", "heldShare", "()F"⟩ (.code ⟨"Locihall", "heldShare", "()F"⟩ prog_1_method_51_code 2 (some .float) :: qw) ({ frames := 6, cells := 1, slots := 6, locals := 82 }) (va_Pc [.ref h0] (qPre D [(h0, .inr (16, fs)), (o4, .inr (9, f4))] [] sz)) (va_Qf (fun (r : UInt32) (_ : Unit) => 1 = 0 ∧ r = 0) (fun _ _ => True) (va_A [(h0, .inr (16, fs)), (o4, .inr (9, f4))] sz)) (qX (qx ["java/lang/ArithmeticException"] (1)) (va_A [(h0, .inr (16, fs)), (o4, .inr (9, f4))] sz)) 1 6 (va_A [(h0, .inr (16, fs)), (o4, .inr (9, f4))] sz) := by
  refine q_startX (by decide) (Nat.le_of_ble_eq_true rfl) ?_
  intro p e s m below meth c hB hno hpre ls hl
  have hW := qH_start hpre
  have hx := hB.1
  have hb := hB.2.1
  have hq := hB.2.2.2.2.2.1
  have hl : lv_has ls 2 [(0, .ref h0)] := hl
  refine lv_aload_n hx hb d_H_heldShare_0 rfl (lv_at hl 0 rfl) ?_
  refine q_get hB hW qc_16 0 rfl 4 (by decide) k406 h4 d_H_heldShare_1 ?_
  refine q_readVN (As := []) (rest := []) hB hW (ct_Mi_countLaid l D _ o4 f4 g4_2) (ci := 9) (q0 := 1) rfl rfl j1612 k1614 k100 k136 k1615 0 ⟨rfl, rfl⟩ (by decide +kernel) rfl ⟨Nat.le_of_ble_eq_true rfl, Nat.le_of_ble_eq_true rfl⟩ [1] [] rfl rfl rfl rfl hl.1 (Nat.le_of_ble_eq_true rfl) ⟨Nat.le_of_ble_eq_true rfl, Nat.le_of_ble_eq_true rfl⟩ (st := [.ref o4]) (by rfl) d_H_heldShare_4 ?_
  refine lv_istore_n (lv' := [(1, .int 0), (0, .ref h0)]) hx hb d_H_heldShare_7 rfl hl (by decide) rfl (fun ls hl => ?_)
  refine lv_iload_n hx hb d_H_heldShare_8 rfl (lv_at hl 0 rfl) ?_
  refine lv_if_ne (tgt := 23) hx hb d_H_heldShare_9 (by decide) (fun c_1 => ?_) (fun c_1 => ?_)
  · exact absurd c_1 (by decide)
  · exact q_throwW hB hW hfl hno (cls := "java/lang/ArithmeticException") (text := "no locus has traces") (by decide +kernel) k1616 k174 j1617 hat_502 hgd_502 hl.1 d_H_heldShare_12 d_H_heldShare_15 d_H_heldShare_16 d_H_heldShare_19 d_H_heldShare_22 (Nat.le_of_ble_eq_true rfl) (Nat.le_of_ble_eq_true rfl) (Nat.le_of_ble_eq_true rfl) (Nat.le_of_ble_eq_true rfl) (Nat.le_of_ble_eq_true rfl) (Nat.le_of_ble_eq_true rfl) ⟨0, rfl, rfl⟩
set_option maxHeartbeats 4000000 in
set_option maxRecDepth 100000 in
/-- meanHold -/
theorem cx_meanHold (l : Launch) (hfl : l.stackTraces = false) (D : va_G) (sz : Nat) (h0 : Nat) (fs : List Value) (o4 : Nat) (f4 : List Value) (g4_2 : f4[2]? = some (.int 0)) (h4 : fs[4]? = some (.ref o4)) : vx_Met l ⟨"Locihall", "meanHold", "()D"⟩ (.code ⟨"Locihall", "meanHold", "()D"⟩ prog_1_method_52_code 2 (some .double) :: qw) ({ frames := 6, cells := 1, slots := 6, locals := 82 }) (va_Pc [.ref h0] (qPre D [(h0, .inr (16, fs)), (o4, .inr (9, f4))] [] sz)) (va_Qd (fun (r : UInt64) (_ : Unit) => 1 = 0 ∧ r = 0) (fun _ _ => True) (va_A [(h0, .inr (16, fs)), (o4, .inr (9, f4))] sz)) (qX (qx ["java/lang/ArithmeticException"] (1)) (va_A [(h0, .inr (16, fs)), (o4, .inr (9, f4))] sz)) 1 6 (va_A [(h0, .inr (16, fs)), (o4, .inr (9, f4))] sz) := by
  refine q_startX (by decide) (Nat.le_of_ble_eq_true rfl) ?_
  intro p e s m below meth c hB hno hpre ls hl
  have hW := qH_start hpre
  have hx := hB.1
  have hb := hB.2.1
  have hq := hB.2.2.2.2.2.1
  have hl : lv_has ls 2 [(0, .ref h0)] := hl
  refine lv_aload_n hx hb d_H_meanHold_0 rfl (lv_at hl 0 rfl) ?_
  refine q_get hB hW qc_16 0 rfl 4 (by decide) k406 h4 d_H_meanHold_1 ?_
  refine q_readVN (As := []) (rest := []) hB hW (ct_Mi_countLaid l D _ o4 f4 g4_2) (ci := 9) (q0 := 1) rfl rfl j1612 k1614 k100 k136 k1615 0 ⟨rfl, rfl⟩ (by decide +kernel) rfl ⟨Nat.le_of_ble_eq_true rfl, Nat.le_of_ble_eq_true rfl⟩ [1] [] rfl rfl rfl rfl hl.1 (Nat.le_of_ble_eq_true rfl) ⟨Nat.le_of_ble_eq_true rfl, Nat.le_of_ble_eq_true rfl⟩ (st := [.ref o4]) (by rfl) d_H_meanHold_4 ?_
  refine lv_istore_n (lv' := [(1, .int 0), (0, .ref h0)]) hx hb d_H_meanHold_7 rfl hl (by decide) rfl (fun ls hl => ?_)
  refine lv_iload_n hx hb d_H_meanHold_8 rfl (lv_at hl 0 rfl) ?_
  refine lv_if_ne (tgt := 23) hx hb d_H_meanHold_9 (by decide) (fun c_1 => ?_) (fun c_1 => ?_)
  · exact absurd c_1 (by decide)
  · exact q_throwW hB hW hfl hno (cls := "java/lang/ArithmeticException") (text := "no locus has traces") (by decide +kernel) k1616 k174 j1617 hat_502 hgd_502 hl.1 d_H_meanHold_12 d_H_meanHold_15 d_H_meanHold_16 d_H_meanHold_19 d_H_meanHold_22 (Nat.le_of_ble_eq_true rfl) (Nat.le_of_ble_eq_true rfl) (Nat.le_of_ble_eq_true rfl) (Nat.le_of_ble_eq_true rfl) (Nat.le_of_ble_eq_true rfl) (Nat.le_of_ble_eq_true rfl) ⟨0, rfl, rfl⟩
