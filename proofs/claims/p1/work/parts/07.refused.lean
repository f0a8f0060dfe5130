set_option maxHeartbeats 4000000 in
set_option maxRecDepth 100000 in
/-- learn -/
theorem cx_learn (l : Launch) (hfl : l.stackTraces = false) (D : va_G) (sz : Nat) (h0 : Nat) (fs : List Value) (p0 : Int32) (p1 : Int32) (p2 : Int32) (h3 : fs[3]? = some (.int 0)) : vx_Met l ⟨"Locihall", "learn", "(III)I"⟩ (.code ⟨"Locihall", "learn", "(III)I"⟩ prog_1_method_4_code 5 (some .int) :: qw) ({ frames := 6, cells := 1, slots := 6, locals := 82 }) (va_Pc [.ref h0, .int p0, .int p1, .int p2] (qPre D [(h0, .inr (16, fs))] [] sz)) (va_Qi (fun (r : Int32) (_ : Unit) => 1 = 0 ∧ r = 0) (fun _ _ => True) (va_A [(h0, .inr (16, fs))] sz)) (qX (qx ["java/lang/IndexOutOfBoundsException", "java/lang/IllegalArgumentException"] (1)) (va_A [(h0, .inr (16, fs))] sz)) 1 6 (va_A [(h0, .inr (16, fs))] sz) := by
  refine q_startX (by decide) (Nat.le_of_ble_eq_true rfl) ?_
  intro p e s m below meth c hB hno hpre ls hl
  have hW := qH_start hpre
  have hx := hB.1
  have hb := hB.2.1
  have hq := hB.2.2.2.2.2.1
  have hl : lv_has ls 5 [(0, .ref h0), (1, .int p0), (2, .int p1), (3, .int p2)] := hl
  refine lv_aload_n hx hb d_H_learn_0 rfl (lv_at hl 0 rfl) ?_
  refine lv_iload_n hx hb d_H_learn_1 rfl (lv_at hl 1 rfl) ?_
  refine q_readV (As := [.int p0]) (rest := []) hB hW (ct_H_tableAt l D _ h0 fs h3 p0) (ci := 16) (q0 := 0) rfl rfl k458 k460 k1 k133 k461 1 ⟨rfl, rfl⟩ (by decide +kernel) rfl ⟨Nat.le_of_ble_eq_true rfl, Nat.le_of_ble_eq_true rfl⟩ [0] [] rfl rfl rfl rfl hl.1 (Nat.le_of_ble_eq_true rfl) ⟨Nat.le_of_ble_eq_true rfl, Nat.le_of_ble_eq_true rfl⟩ (st := [.int p0, .ref h0]) (by rfl) d_H_learn_2 ?_
  refine lv_astoreN (lv' := [(4, .null), (0, .ref h0), (1, .int p0), (2, .int p1), (3, .int p2)]) hx hb d_H_learn_5 hl (by decide) rfl (fun ls hl => ?_)
  refine lv_aloadN hx hb d_H_learn_7 (lv_at hl 0 rfl) ?_
  refine lv_ifnullN (tgt := 23) hx hb d_H_learn_9 (by decide) ?_
  exact q_throw hB hW hfl hno (cls := "java/lang/IndexOutOfBoundsException") (text := "no such system or image") (by decide +kernel) k701 k155 j710 hat_119 hgd_119 hl.1 d_H_learn_23 d_H_learn_26 d_H_learn_27 d_H_learn_29 d_H_learn_32 (Nat.le_of_ble_eq_true rfl) (Nat.le_of_ble_eq_true rfl) (Nat.le_of_ble_eq_true rfl) (Nat.le_of_ble_eq_true rfl) (Nat.le_of_ble_eq_true rfl) (Nat.le_of_ble_eq_true rfl) ⟨0, rfl, rfl⟩
set_option maxHeartbeats 4000000 in
set_option maxRecDepth 100000 in
/-- imageOf -/
theorem cx_imageOf (l : Launch) (hfl : l.stackTraces = false) (D : va_G) (sz : Nat) (h0 : Nat) (fs : List Value) (p0 : Int32) (p1 : Int32) (h3 : fs[3]? = some (.int 0)) : vx_Met l ⟨"Locihall", "imageOf", "(II)I"⟩ (.code ⟨"Locihall", "imageOf", "(II)I"⟩ prog_1_method_5_code 4 (some .int) :: qw) ({ frames := 6, cells := 1, slots := 6, locals := 82 }) (va_Pc [.ref h0, .int p0, .int p1] (qPre D [(h0, .inr (16, fs))] [] sz)) (va_Qi (fun (r : Int32) (_ : Unit) => 1 = 0 ∧ r = 0) (fun _ _ => True) (va_A [(h0, .inr (16, fs))] sz)) (qX (qx ["java/lang/IndexOutOfBoundsException", "java/lang/IllegalArgumentException", "java/util/NoSuchElementException"] (1)) (va_A [(h0, .inr (16, fs))] sz)) 1 6 (va_A [(h0, .inr (16, fs))] sz) := by
  refine q_startX (by decide) (Nat.le_of_ble_eq_true rfl) ?_
  intro p e s m below meth c hB hno hpre ls hl
  have hW := qH_start hpre
  have hx := hB.1
  have hb := hB.2.1
  have hq := hB.2.2.2.2.2.1
  have hl : lv_has ls 4 [(0, .ref h0), (1, .int p0), (2, .int p1)] := hl
  refine lv_aload_n hx hb d_H_imageOf_0 rfl (lv_at hl 0 rfl) ?_
  refine lv_iload_n hx hb d_H_imageOf_1 rfl (lv_at hl 1 rfl) ?_
  refine q_readV (As := [.int p0]) (rest := []) hB hW (ct_H_tableAt l D _ h0 fs h3 p0) (ci := 16) (q0 := 0) rfl rfl k458 k460 k1 k133 k461 1 ⟨rfl, rfl⟩ (by decide +kernel) rfl ⟨Nat.le_of_ble_eq_true rfl, Nat.le_of_ble_eq_true rfl⟩ [0] [] rfl rfl rfl rfl hl.1 (Nat.le_of_ble_eq_true rfl) ⟨Nat.le_of_ble_eq_true rfl, Nat.le_of_ble_eq_true rfl⟩ (st := [.int p0, .ref h0]) (by rfl) d_H_imageOf_2 ?_
  refine lv_astore_nN (lv' := [(3, .null), (0, .ref h0), (1, .int p0), (2, .int p1)]) hx hb d_H_imageOf_5 rfl hl (by decide) rfl (fun ls hl => ?_)
  refine lv_aload_nN hx hb d_H_imageOf_6 rfl (lv_at hl 0 rfl) ?_
  refine lv_ifnonnullN hx hb d_H_imageOf_7 ?_
  exact q_throw hB hW hfl hno (cls := "java/lang/IndexOutOfBoundsException") (text := "no such system") (by decide +kernel) k701 k155 j735 hat_119 hgd_119 hl.1 d_H_imageOf_10 d_H_imageOf_13 d_H_imageOf_14 d_H_imageOf_16 d_H_imageOf_19 (Nat.le_of_ble_eq_true rfl) (Nat.le_of_ble_eq_true rfl) (Nat.le_of_ble_eq_true rfl) (Nat.le_of_ble_eq_true rfl) (Nat.le_of_ble_eq_true rfl) (Nat.le_of_ble_eq_true rfl) ⟨0, rfl, rfl⟩
set_option maxHeartbeats 4000000 in
set_option maxRecDepth 100000 in
/-- skill -/
theorem cx_skill (l : Launch) (hfl : l.stackTraces = false) (D : va_G) (sz : Nat) (h0 : Nat) (fs : List Value) (p0 : Int32) (p1 : Int32) (h3 : fs[3]? = some (.int 0)) : vx_Met l ⟨"Locihall", "skill", "(II)I"⟩ (.code ⟨"Locihall", "skill", "(II)I"⟩ prog_1_method_6_code 4 (some .int) :: qw) ({ frames := 6, cells := 1, slots := 6, locals := 82 }) (va_Pc [.ref h0, .int p0, .int p1] (qPre D [(h0, .inr (16, fs))] [] sz)) (va_Qi (fun (r : Int32) (_ : Unit) => 1 = 0 ∧ r = 0) (fun _ _ => True) (va_A [(h0, .inr (16, fs))] sz)) (qX (qx ["java/lang/IndexOutOfBoundsException", "java/lang/IllegalArgumentException"] (1)) (va_A [(h0, .inr (16, fs))] sz)) 1 6 (va_A [(h0, .inr (16, fs))] sz) := by
  refine q_startX (by decide) (Nat.le_of_ble_eq_true rfl) ?_
  intro p e s m below meth c hB hno hpre ls hl
  have hW := qH_start hpre
  have hx := hB.1
  have hb := hB.2.1
  have hq := hB.2.2.2.2.2.1
  have hl : lv_has ls 4 [(0, .ref h0), (1, .int p0), (2, .int p1)] := hl
  refine lv_aload_n hx hb d_H_skill_0 rfl (lv_at hl 0 rfl) ?_
  refine lv_iload_n hx hb d_H_skill_1 rfl (lv_at hl 1 rfl) ?_
  refine q_readV (As := [.int p0]) (rest := []) hB hW (ct_H_tableAt l D _ h0 fs h3 p0) (ci := 16) (q0 := 0) rfl rfl k458 k460 k1 k133 k461 1 ⟨rfl, rfl⟩ (by decide +kernel) rfl ⟨Nat.le_of_ble_eq_true rfl, Nat.le_of_ble_eq_true rfl⟩ [0] [] rfl rfl rfl rfl hl.1 (Nat.le_of_ble_eq_true rfl) ⟨Nat.le_of_ble_eq_true rfl, Nat.le_of_ble_eq_true rfl⟩ (st := [.int p0, .ref h0]) (by rfl) d_H_skill_2 ?_
  refine lv_astore_nN (lv' := [(3, .null), (0, .ref h0), (1, .int p0), (2, .int p1)]) hx hb d_H_skill_5 rfl hl (by decide) rfl (fun ls hl => ?_)
  refine lv_aload_nN hx hb d_H_skill_6 rfl (lv_at hl 0 rfl) ?_
  refine lv_ifnonnullN hx hb d_H_skill_7 ?_
  exact q_throw hB hW hfl hno (cls := "java/lang/IndexOutOfBoundsException") (text := "no such system") (by decide +kernel) k701 k155 j735 hat_119 hgd_119 hl.1 d_H_skill_10 d_H_skill_13 d_H_skill_14 d_H_skill_16 d_H_skill_19 (Nat.le_of_ble_eq_true rfl) (Nat.le_of_ble_eq_true rfl) (Nat.le_of_ble_eq_true rfl) (Nat.le_of_ble_eq_true rfl) (Nat.le_of_ble_eq_true rfl) (Nat.le_of_ble_eq_true rfl) ⟨0, rfl, rfl⟩
set_option maxHeartbeats 4000000 in
set_option maxRecDepth 100000 in
/-- takeOver -/
theorem cx_takeOver (l : Launch) (hfl : l.stackTraces = false) (D : va_G) (sz : Nat) (h0 : Nat) (fs : List Value) (p0 : Int32) (p1 : Int32) (p2 : Int32) (p3 : Int32) (h3 : fs[3]? = some (.int 0)) : vx_Met l ⟨"Locihall", "takeOver", "(IIII)I"⟩ (.code ⟨"Locihall", "takeOver", "(IIII)I"⟩ prog_1_method_8_code 10 (some .int) :: qw) ({ frames := 6, cells := 1, slots := 6, locals := 82 }) (va_Pc [.ref h0, .int p0, .int p1, .int p2, .int p3] (qPre D [(h0, .inr (16, fs))] [] sz)) (va_Qi (fun (r : Int32) (_ : Unit) => 1 = 0 ∧ r = 0) (fun _ _ => True) (va_A [(h0, .inr (16, fs))] sz)) (qX (qx ["java/lang/IndexOutOfBoundsException", "java/lang/IllegalArgumentException"] (1)) (va_A [(h0, .inr (16, fs))] sz)) 1 6 (va_A [(h0, .inr (16, fs))] sz) := by
  refine q_startX (by decide) (Nat.le_of_ble_eq_true rfl) ?_
  intro p e s m below meth c hB hno hpre ls hl
  have hW := qH_start hpre
  have hx := hB.1
  have hb := hB.2.1
  have hq := hB.2.2.2.2.2.1
  have hl : lv_has ls 10 [(0, .ref h0), (1, .int p0), (2, .int p1), (3, .int p2), (4, .int p3)] := hl
  refine lv_aload_n hx hb d_H_takeOver_0 rfl (lv_at hl 0 rfl) ?_
  refine lv_iload_n hx hb d_H_takeOver_1 rfl (lv_at hl 1 rfl) ?_
  refine q_readV (As := [.int p0]) (rest := []) hB hW (ct_H_tableAt l D _ h0 fs h3 p0) (ci := 16) (q0 := 0) rfl rfl k458 k460 k1 k133 k461 1 ⟨rfl, rfl⟩ (by decide +kernel) rfl ⟨Nat.le_of_ble_eq_true rfl, Nat.le_of_ble_eq_true rfl⟩ [0] [] rfl rfl rfl rfl hl.1 (Nat.le_of_ble_eq_true rfl) ⟨Nat.le_of_ble_eq_true rfl, Nat.le_of_ble_eq_true rfl⟩ (st := [.int p0, .ref h0]) (by rfl) d_H_takeOver_2 ?_
  refine lv_astoreN (lv' := [(5, .null), (0, .ref h0), (1, .int p0), (2, .int p1), (3, .int p2), (4, .int p3)]) hx hb d_H_takeOver_5 hl (by decide) rfl (fun ls hl => ?_)
  refine lv_aload_n hx hb d_H_takeOver_7 rfl (lv_at hl 1 rfl) ?_
  refine lv_iload_n hx hb d_H_takeOver_8 rfl (lv_at hl 3 rfl) ?_
  refine q_readV (As := [.int p1]) (rest := []) hB hW (ct_H_tableAt l D _ h0 fs h3 p1) (ci := 16) (q0 := 0) rfl rfl k458 k460 k1 k133 k461 1 ⟨rfl, rfl⟩ (by decide +kernel) rfl ⟨Nat.le_of_ble_eq_true rfl, Nat.le_of_ble_eq_true rfl⟩ [0] [] rfl rfl rfl rfl hl.1 (Nat.le_of_ble_eq_true rfl) ⟨Nat.le_of_ble_eq_true rfl, Nat.le_of_ble_eq_true rfl⟩ (st := [.int p1, .ref h0]) (by rfl) d_H_takeOver_9 ?_
  refine lv_astoreN (lv' := [(6, .null), (5, .null), (0, .ref h0), (1, .int p0), (2, .int p1), (3, .int p2), (4, .int p3)]) hx hb d_H_takeOver_12 hl (by decide) rfl (fun ls hl => ?_)
  refine lv_aloadN hx hb d_H_takeOver_14 (lv_at hl 1 rfl) ?_
  refine lv_ifnullN (tgt := 24) hx hb d_H_takeOver_16 (by decide) ?_
  exact q_throw hB hW hfl hno (cls := "java/lang/IndexOutOfBoundsException") (text := "no such system") (by decide +kernel) k701 k155 j735 hat_119 hgd_119 hl.1 d_H_takeOver_24 d_H_takeOver_27 d_H_takeOver_28 d_H_takeOver_30 d_H_takeOver_33 (Nat.le_of_ble_eq_true rfl) (Nat.le_of_ble_eq_true rfl) (Nat.le_of_ble_eq_true rfl) (Nat.le_of_ble_eq_true rfl) (Nat.le_of_ble_eq_true rfl) (Nat.le_of_ble_eq_true rfl) ⟨0, rfl, rfl⟩
set_option maxHeartbeats 4000000 in
set_option maxRecDepth 100000 in
/-- train -/
theorem cx_train (l : Launch) (hfl : l.stackTraces = false) (D : va_G) (sz : Nat) (h0 : Nat) (fs : List Value) (p0 : Int32) (p1 : Int32) (h3 : fs[3]? = some (.int 0)) : vx_Met l ⟨"Locihall", "train", "(II)I"⟩ (.code ⟨"Locihall", "train", "(II)I"⟩ prog_1_method_9_code 4 (some .int) :: qw) ({ frames := 6, cells := 1, slots := 6, locals := 82 }) (va_Pc [.ref h0, .int p0, .int p1] (qPre D [(h0, .inr (16, fs))] [] sz)) (va_Qi (fun (r : Int32) (_ : Unit) => 1 = 0 ∧ r = 0) (fun _ _ => True) (va_A [(h0, .inr (16, fs))] sz)) (qX (qx ["java/lang/IndexOutOfBoundsException", "java/lang/IllegalArgumentException"] (1)) (va_A [(h0, .inr (16, fs))] sz)) 1 6 (va_A [(h0, .inr (16, fs))] sz) := by
  refine q_startX (by decide) (Nat.le_of_ble_eq_true rfl) ?_
  intro p e s m below meth c hB hno hpre ls hl
  have hW := qH_start hpre
  have hx := hB.1
  have hb := hB.2.1
  have hq := hB.2.2.2.2.2.1
  have hl : lv_has ls 4 [(0, .ref h0), (1, .int p0), (2, .int p1)] := hl
  refine lv_aload_n hx hb d_H_train_0 rfl (lv_at hl 0 rfl) ?_
  refine lv_iload_n hx hb d_H_train_1 rfl (lv_at hl 1 rfl) ?_
  refine q_readV (As := [.int p0]) (rest := []) hB hW (ct_H_tableAt l D _ h0 fs h3 p0) (ci := 16) (q0 := 0) rfl rfl k458 k460 k1 k133 k461 1 ⟨rfl, rfl⟩ (by decide +kernel) rfl ⟨Nat.le_of_ble_eq_true rfl, Nat.le_of_ble_eq_true rfl⟩ [0] [] rfl rfl rfl rfl hl.1 (Nat.le_of_ble_eq_true rfl) ⟨Nat.le_of_ble_eq_true rfl, Nat.le_of_ble_eq_true rfl⟩ (st := [.int p0, .ref h0]) (by rfl) d_H_train_2 ?_
  refine lv_astore_nN (lv' := [(3, .null), (0, .ref h0), (1, .int p0), (2, .int p1)]) hx hb d_H_train_5 rfl hl (by decide) rfl (fun ls hl => ?_)
  refine lv_aload_nN hx hb d_H_train_6 rfl (lv_at hl 0 rfl) ?_
  refine lv_ifnonnullN hx hb d_H_train_7 ?_
  exact q_throw hB hW hfl hno (cls := "java/lang/IndexOutOfBoundsException") (text := "no such system") (by decide +kernel) k701 k155 j735 hat_119 hgd_119 hl.1 d_H_train_10 d_H_train_13 d_H_train_14 d_H_train_16 d_H_train_19 (Nat.le_of_ble_eq_true rfl) (Nat.le_of_ble_eq_true rfl) (Nat.le_of_ble_eq_true rfl) (Nat.le_of_ble_eq_true rfl) (Nat.le_of_ble_eq_true rfl) (Nat.le_of_ble_eq_true rfl) ⟨0, rfl, rfl⟩
set_option maxHeartbeats 4000000 in
set_option maxRecDepth 100000 in
/-- saved -/
theorem cx_saved (l : Launch) (hfl : l.stackTraces = false) (D : va_G) (sz : Nat) (h0 : Nat) (fs : List Value) (p0 : Int32) (p1 : Int32) (p2 : Int32) (h3 : fs[3]? = some (.int 0)) : vx_Met l ⟨"Locihall", "saved", "(III)F"⟩ (.code ⟨"Locihall", "saved", "(III)F"⟩ prog_1_method_10_code 8 (some .float) :: qw) ({ frames := 6, cells := 1, slots := 6, locals := 82 }) (va_Pc [.ref h0, .int p0, .int p1, .int p2] (qPre D [(h0, .inr (16, fs))] [] sz)) (va_Qf (fun (r : UInt32) (_ : Unit) => 1 = 0 ∧ r = 0) (fun _ _ => True) (va_A [(h0, .inr (16, fs))] sz)) (qX (qx ["java/lang/IndexOutOfBoundsException", "java/lang/IllegalArgumentException", "java/util/NoSuchElementException"] (1)) (va_A [(h0, .inr (16, fs))] sz)) 1 6 (va_A [(h0, .inr (16, fs))] sz) := by
  refine q_startX (by decide) (Nat.le_of_ble_eq_true rfl) ?_
  intro p e s m below meth c hB hno hpre ls hl
  have hW := qH_start hpre
  have hx := hB.1
  have hb := hB.2.1
  have hq := hB.2.2.2.2.2.1
  have hl : lv_has ls 8 [(0, .ref h0), (1, .int p0), (2, .int p1), (3, .int p2)] := hl
  refine lv_aload_n hx hb d_H_saved_0 rfl (lv_at hl 0 rfl) ?_
  refine lv_iload_n hx hb d_H_saved_1 rfl (lv_at hl 1 rfl) ?_
  refine q_readV (As := [.int p0]) (rest := []) hB hW (ct_H_tableAt l D _ h0 fs h3 p0) (ci := 16) (q0 := 0) rfl rfl k458 k460 k1 k133 k461 1 ⟨rfl, rfl⟩ (by decide +kernel) rfl ⟨Nat.le_of_ble_eq_true rfl, Nat.le_of_ble_eq_true rfl⟩ [0] [] rfl rfl rfl rfl hl.1 (Nat.le_of_ble_eq_true rfl) ⟨Nat.le_of_ble_eq_true rfl, Nat.le_of_ble_eq_true rfl⟩ (st := [.int p0, .ref h0]) (by rfl) d_H_saved_2 ?_
  refine lv_astoreN (lv' := [(4, .null), (0, .ref h0), (1, .int p0), (2, .int p1), (3, .int p2)]) hx hb d_H_saved_5 hl (by decide) rfl (fun ls hl => ?_)
  refine lv_aloadN hx hb d_H_saved_7 (lv_at hl 0 rfl) ?_
  refine lv_ifnonnullN hx hb d_H_saved_9 ?_
  exact q_throw hB hW hfl hno (cls := "java/lang/IndexOutOfBoundsException") (text := "no such system") (by decide +kernel) k701 k155 j735 hat_119 hgd_119 hl.1 d_H_saved_12 d_H_saved_15 d_H_saved_16 d_H_saved_18 d_H_saved_21 (Nat.le_of_ble_eq_true rfl) (Nat.le_of_ble_eq_true rfl) (Nat.le_of_ble_eq_true rfl) (Nat.le_of_ble_eq_true rfl) (Nat.le_of_ble_eq_true rfl) (Nat.le_of_ble_eq_true rfl) ⟨0, rfl, rfl⟩
set_option maxHeartbeats 4000000 in
set_option maxRecDepth 100000 in
/-- paysBack -/
theorem cx_paysBack (l : Launch) (hfl : l.stackTraces = false) (D : va_G) (sz : Nat) (h0 : Nat) (fs : List Value) (p0 : Int32) (p1 : Int32) (p2 : Int32) (h3 : fs[3]? = some (.int 0)) : vx_Met l ⟨"Locihall", "paysBack", "(III)Z"⟩ (.code ⟨"Locihall", "paysBack", "(III)Z"⟩ prog_1_method_11_code 8 (some .boolean) :: qw) ({ frames := 6, cells := 1, slots := 6, locals := 82 }) (va_Pc [.ref h0, .int p0, .int p1, .int p2] (qPre D [(h0, .inr (16, fs))] [] sz)) (va_Qi (fun (r : Int32) (_ : Unit) => 1 = 0 ∧ r = 0) (fun _ _ => True) (va_A [(h0, .inr (16, fs))] sz)) (qX (qx ["java/lang/IndexOutOfBoundsException", "java/lang/IllegalArgumentException", "java/util/NoSuchElementException"] (1)) (va_A [(h0, .inr (16, fs))] sz)) 1 6 (va_A [(h0, .inr (16, fs))] sz) := by
  refine q_startX (by decide) (Nat.le_of_ble_eq_true rfl) ?_
  intro p e s m below meth c hB hno hpre ls hl
  have hW := qH_start hpre
  have hx := hB.1
  have hb := hB.2.1
  have hq := hB.2.2.2.2.2.1
  have hl : lv_has ls 8 [(0, .ref h0), (1, .int p0), (2, .int p1), (3, .int p2)] := hl
  refine lv_aload_n hx hb d_H_paysBack_0 rfl (lv_at hl 0 rfl) ?_
  refine lv_iload_n hx hb d_H_paysBack_1 rfl (lv_at hl 1 rfl) ?_
  refine q_readV (As := [.int p0]) (rest := []) hB hW (ct_H_tableAt l D _ h0 fs h3 p0) (ci := 16) (q0 := 0) rfl rfl k458 k460 k1 k133 k461 1 ⟨rfl, rfl⟩ (by decide +kernel) rfl ⟨Nat.le_of_ble_eq_true rfl, Nat.le_of_ble_eq_true rfl⟩ [0] [] rfl rfl rfl rfl hl.1 (Nat.le_of_ble_eq_true rfl) ⟨Nat.le_of_ble_eq_true rfl, Nat.le_of_ble_eq_true rfl⟩ (st := [.int p0, .ref h0]) (by rfl) d_H_paysBack_2 ?_
  refine lv_astoreN (lv' := [(4, .null), (0, .ref h0), (1, .int p0), (2, .int p1), (3, .int p2)]) hx hb d_H_paysBack_5 hl (by decide) rfl (fun ls hl => ?_)
  refine lv_aload_n hx hb d_H_paysBack_7 rfl (lv_at hl 1 rfl) ?_
  refine lv_iload_n hx hb d_H_paysBack_8 rfl (lv_at hl 3 rfl) ?_
  refine q_readV (As := [.int p1]) (rest := []) hB hW (ct_H_tableAt l D _ h0 fs h3 p1) (ci := 16) (q0 := 0) rfl rfl k458 k460 k1 k133 k461 1 ⟨rfl, rfl⟩ (by decide +kernel) rfl ⟨Nat.le_of_ble_eq_true rfl, Nat.le_of_ble_eq_true rfl⟩ [0] [] rfl rfl rfl rfl hl.1 (Nat.le_of_ble_eq_true rfl) ⟨Nat.le_of_ble_eq_true rfl, Nat.le_of_ble_eq_true rfl⟩ (st := [.int p1, .ref h0]) (by rfl) d_H_paysBack_9 ?_
  refine lv_astoreN (lv' := [(5, .null), (4, .null), (0, .ref h0), (1, .int p0), (2, .int p1), (3, .int p2)]) hx hb d_H_paysBack_12 hl (by decide) rfl (fun ls hl => ?_)
  refine lv_aloadN hx hb d_H_paysBack_14 (lv_at hl 1 rfl) ?_
  refine lv_ifnullN (tgt := 24) hx hb d_H_paysBack_16 (by decide) ?_
  exact q_throw hB hW hfl hno (cls := "java/lang/IndexOutOfBoundsException") (text := "no such system") (by decide +kernel) k701 k155 j735 hat_119 hgd_119 hl.1 d_H_paysBack_24 d_H_paysBack_27 d_H_paysBack_28 d_H_paysBack_30 d_H_paysBack_33 (Nat.le_of_ble_eq_true rfl) (Nat.le_of_ble_eq_true rfl) (Nat.le_of_ble_eq_true rfl) (Nat.le_of_ble_eq_true rfl) (Nat.le_of_ble_eq_true rfl) (Nat.le_of_ble_eq_true rfl) ⟨0, rfl, rfl⟩
set_option maxHeartbeats 4000000 in
set_option maxRecDepth 100000 in
/-- locus -/
theorem cx_locus (l : Launch) (hfl : l.stackTraces = false) (D : va_G) (sz : Nat) (h0 : Nat) (fs : List Value) (p0 : Int32) (p1 : Int32) (o4 : Nat) (f4 : List Value) (g2 : f4[2]? = some (.int 0)) (h4 : fs[4]? = some (.ref o4)) : vx_Met l ⟨"Locihall", "locus", "(II)I"⟩ (.code ⟨"Locihall", "locus", "(II)I"⟩ prog_1_method_13_code 4 (some .int) :: qw) ({ frames := 6, cells := 1, slots := 6, locals := 82 }) (va_Pc [.ref h0, .int p0, .int p1] (qPre D [(h0, .inr (16, fs)), (o4, .inr (9, f4))] [] sz)) (va_Qi (fun (r : Int32) (_ : Unit) => 1 = 0 ∧ r = 0) (fun _ _ => True) (va_A [(h0, .inr (16, fs)), (o4, .inr (9, f4))] sz)) (qX (qx ["java/lang/IndexOutOfBoundsException", "java/lang/IllegalArgumentException", "java/lang/IllegalStateException"] (1)) (va_A [(h0, .inr (16, fs)), (o4, .inr (9, f4))] sz)) 1 6 (va_A [(h0, .inr (16, fs)), (o4, .inr (9, f4))] sz) := by
  refine q_startX (by decide) (Nat.le_of_ble_eq_true rfl) ?_
  intro p e s m below meth c hB hno hpre ls hl
  have hW := qH_start hpre
  have hx := hB.1
  have hb := hB.2.1
  have hq := hB.2.2.2.2.2.1
  have hl : lv_has ls 4 [(0, .ref h0), (1, .int p0), (2, .int p1)] := hl
  refine lv_aload_n hx hb d_H_locus_0 rfl (lv_at hl 0 rfl) ?_
  refine q_get hB hW qc_16 0 rfl 4 (by decide) k406 h4 d_H_locus_1 ?_
  refine lv_iload_n hx hb d_H_locus_4 rfl (lv_at hl 1 rfl) ?_
  refine q_readVN (As := [.int p0]) (rest := []) hB hW (ct_Mi_palaceAt l D _ o4 f4 g2 p0) (ci := 9) (q0 := 1) rfl rfl j912 k497 k8 k136 k498 1 ⟨rfl, rfl⟩ (by decide +kernel) rfl ⟨Nat.le_of_ble_eq_true rfl, Nat.le_of_ble_eq_true rfl⟩ [1] [] rfl rfl rfl rfl hl.1 (Nat.le_of_ble_eq_true rfl) ⟨Nat.le_of_ble_eq_true rfl, Nat.le_of_ble_eq_true rfl⟩ (st := [.int p0, .ref o4]) (by rfl) d_H_locus_5 ?_
  refine lv_astore_nN (lv' := [(3, .null), (0, .ref h0), (1, .int p0), (2, .int p1)]) hx hb d_H_locus_8 rfl hl (by decide) rfl (fun ls hl => ?_)
  refine lv_aload_nN hx hb d_H_locus_9 rfl (lv_at hl 0 rfl) ?_
  refine lv_ifnonnullN hx hb d_H_locus_10 ?_
  exact q_throw hB hW hfl hno (cls := "java/lang/IndexOutOfBoundsException") (text := "no such palace") (by decide +kernel) k701 k155 j913 hat_119 hgd_119 hl.1 d_H_locus_13 d_H_locus_16 d_H_locus_17 d_H_locus_19 d_H_locus_22 (Nat.le_of_ble_eq_true rfl) (Nat.le_of_ble_eq_true rfl) (Nat.le_of_ble_eq_true rfl) (Nat.le_of_ble_eq_true rfl) (Nat.le_of_ble_eq_true rfl) (Nat.le_of_ble_eq_true rfl) ⟨0, rfl, rfl⟩
set_option maxHeartbeats 4000000 in
set_option maxRecDepth 100000 in
/-- cue -/
theorem cx_cue (l : Launch) (hfl : l.stackTraces = false) (D : va_G) (sz : Nat) (h0 : Nat) (fs : List Value) (p0 : Int32) (p1 : Int32) (p2 : Int32) (o4 : Nat) (f4 : List Value) (g2 : f4[2]? = some (.int 0)) (h4 : fs[4]? = some (.ref o4)) : vx_Met l ⟨"Locihall", "cue", "(IIZ)Z"⟩ (.code ⟨"Locihall", "cue", "(IIZ)Z"⟩ prog_1_method_14_code 6 (some .boolean) :: qw) ({ frames := 6, cells := 1, slots := 6, locals := 82 }) (va_Pc [.ref h0, .int p0, .int p1, .int p2] (qPre D [(h0, .inr (16, fs)), (o4, .inr (9, f4))] [] sz)) (va_Qi (fun (r : Int32) (_ : Unit) => 1 = 0 ∧ r = 0) (fun _ _ => True) (va_A [(h0, .inr (16, fs)), (o4, .inr (9, f4))] sz)) (qX (qx ["java/lang/IndexOutOfBoundsException"] (1)) (va_A [(h0, .inr (16, fs)), (o4, .inr (9, f4))] sz)) 1 6 (va_A [(h0, .inr (16, fs)), (o4, .inr (9, f4))] sz) := by
  refine q_startX (by decide) (Nat.le_of_ble_eq_true rfl) ?_
  intro p e s m below meth c hB hno hpre ls hl
  have hW := qH_start hpre
  have hx := hB.1
  have hb := hB.2.1
  have hq := hB.2.2.2.2.2.1
  have hl : lv_has ls 6 [(0, .ref h0), (1, .int p0), (2, .int p1), (3, .int p2)] := hl
  refine lv_aload_n hx hb d_H_cue_0 rfl (lv_at hl 0 rfl) ?_
  refine q_get hB hW qc_16 0 rfl 4 (by decide) k406 h4 d_H_cue_1 ?_
  refine lv_iload_n hx hb d_H_cue_4 rfl (lv_at hl 1 rfl) ?_
  refine lv_iload_n hx hb d_H_cue_5 rfl (lv_at hl 2 rfl) ?_
  refine q_readVN (As := [.int p0, .int p1]) (rest := []) hB hW (ct_Mi_locusAt l D _ o4 f4 g2 p0 p1) (ci := 9) (q0 := 1) rfl rfl j950 k952 k32 k136 k953 2 ⟨rfl, rfl⟩ (by decide +kernel) rfl ⟨Nat.le_of_ble_eq_true rfl, Nat.le_of_ble_eq_true rfl⟩ [1] [] rfl rfl rfl rfl hl.1 (Nat.le_of_ble_eq_true rfl) ⟨Nat.le_of_ble_eq_true rfl, Nat.le_of_ble_eq_true rfl⟩ (st := [.int p1, .int p0, .ref o4]) (by rfl) d_H_cue_6 ?_
  refine lv_astoreN (lv' := [(4, .null), (0, .ref h0), (1, .int p0), (2, .int p1), (3, .int p2)]) hx hb d_H_cue_9 hl (by decide) rfl (fun ls hl => ?_)
  refine lv_aloadN hx hb d_H_cue_11 (lv_at hl 0 rfl) ?_
  refine lv_ifnonnullN hx hb d_H_cue_13 ?_
  exact q_throw hB hW hfl hno (cls := "java/lang/IndexOutOfBoundsException") (text := "no such palace or locus") (by decide +kernel) k701 k155 j954 hat_119 hgd_119 hl.1 d_H_cue_16 d_H_cue_19 d_H_cue_20 d_H_cue_22 d_H_cue_25 (Nat.le_of_ble_eq_true rfl) (Nat.le_of_ble_eq_true rfl) (Nat.le_of_ble_eq_true rfl) (Nat.le_of_ble_eq_true rfl) (Nat.le_of_ble_eq_true rfl) (Nat.le_of_ble_eq_true rfl) ⟨0, rfl, rfl⟩
set_option maxHeartbeats 4000000 in
set_option maxRecDepth 100000 in
/-- lay -/
theorem cx_lay (l : Launch) (hfl : l.stackTraces = false) (D : va_G) (sz : Nat) (h0 : Nat) (fs : List Value) (p0 : Int32) (p1 : Int32) (p2 : Int32) (p3 : Int32) (o4 : Nat) (f4 : List Value) (g2 : f4[2]? = some (.int 0)) (h4 : fs[4]? = some (.ref o4)) (h3 : fs[3]? = some (.int 0)) : vx_Met l ⟨"Locihall", "lay", "(IIIZ)I"⟩ (.code ⟨"Locihall", "lay", "(IIIZ)I"⟩ prog_1_method_16_code 8 (some .int) :: qw) ({ frames := 6, cells := 1, slots := 6, locals := 82 }) (va_Pc [.ref h0, .int p0, .int p1, .int p2, .int p3] (qPre D [(h0, .inr (16, fs)), (o4, .inr (9, f4))] [] sz)) (va_Qi (fun (r : Int32) (_ : Unit) => 1 = 0 ∧ r = 0) (fun _ _ => True) (va_A [(h0, .inr (16, fs)), (o4, .inr (9, f4))] sz)) (qX (qx ["java/lang/IndexOutOfBoundsException", "java/lang/UnsupportedOperationException"] (1)) (va_A [(h0, .inr (16, fs)), (o4, .inr (9, f4))] sz)) 1 6 (va_A [(h0, .inr (16, fs)), (o4, .inr (9, f4))] sz) := by
  refine q_startX (by decide) (Nat.le_of_ble_eq_true rfl) ?_
  intro p e s m below meth c hB hno hpre ls hl
  have hW := qH_start hpre
  have hx := hB.1
  have hb := hB.2.1
  have hq := hB.2.2.2.2.2.1
  have hl : lv_has ls 8 [(0, .ref h0), (1, .int p0), (2, .int p1), (3, .int p2), (4, .int p3)] := hl
  refine lv_aload_n hx hb d_H_lay_0 rfl (lv_at hl 0 rfl) ?_
  refine q_get hB hW qc_16 0 rfl 4 (by decide) k406 h4 d_H_lay_1 ?_
  refine lv_iload_n hx hb d_H_lay_4 rfl (lv_at hl 1 rfl) ?_
  refine lv_iload_n hx hb d_H_lay_5 rfl (lv_at hl 2 rfl) ?_
  refine q_readVN (As := [.int p0, .int p1]) (rest := []) hB hW (ct_Mi_locusAt l D _ o4 f4 g2 p0 p1) (ci := 9) (q0 := 1) rfl rfl j950 k952 k32 k136 k953 2 ⟨rfl, rfl⟩ (by decide +kernel) rfl ⟨Nat.le_of_ble_eq_true rfl, Nat.le_of_ble_eq_true rfl⟩ [1] [] rfl rfl rfl rfl hl.1 (Nat.le_of_ble_eq_true rfl) ⟨Nat.le_of_ble_eq_true rfl, Nat.le_of_ble_eq_true rfl⟩ (st := [.int p1, .int p0, .ref o4]) (by rfl) d_H_lay_6 ?_
  refine lv_astoreN (lv' := [(5, .null), (0, .ref h0), (1, .int p0), (2, .int p1), (3, .int p2), (4, .int p3)]) hx hb d_H_lay_9 hl (by decide) rfl (fun ls hl => ?_)
  refine lv_aload_n hx hb d_H_lay_11 rfl (lv_at hl 1 rfl) ?_
  refine lv_iload_n hx hb d_H_lay_12 rfl (lv_at hl 4 rfl) ?_
  refine q_readV (As := [.int p2]) (rest := []) hB hW (ct_H_tableAt l D _ h0 fs h3 p2) (ci := 16) (q0 := 0) rfl rfl k458 k460 k1 k133 k461 1 ⟨rfl, rfl⟩ (by decide +kernel) rfl ⟨Nat.le_of_ble_eq_true rfl, Nat.le_of_ble_eq_true rfl⟩ [0] [] rfl rfl rfl rfl hl.1 (Nat.le_of_ble_eq_true rfl) ⟨Nat.le_of_ble_eq_true rfl, Nat.le_of_ble_eq_true rfl⟩ (st := [.int p2, .ref h0]) (by rfl) d_H_lay_13 ?_
  refine lv_astoreN (lv' := [(6, .null), (5, .null), (0, .ref h0), (1, .int p0), (2, .int p1), (3, .int p2), (4, .int p3)]) hx hb d_H_lay_16 hl (by decide) rfl (fun ls hl => ?_)
  refine lv_aloadN hx hb d_H_lay_18 (lv_at hl 1 rfl) ?_
  refine lv_ifnullN (tgt := 28) hx hb d_H_lay_20 (by decide) ?_
  exact q_throw hB hW hfl hno (cls := "java/lang/IndexOutOfBoundsException") (text := "no such palace, locus or system") (by decide +kernel) k701 k155 j970 hat_119 hgd_119 hl.1 d_H_lay_28 d_H_lay_31 d_H_lay_32 d_H_lay_34 d_H_lay_37 (Nat.le_of_ble_eq_true rfl) (Nat.le_of_ble_eq_true rfl) (Nat.le_of_ble_eq_true rfl) (Nat.le_of_ble_eq_true rfl) (Nat.le_of_ble_eq_true rfl) (Nat.le_of_ble_eq_true rfl) ⟨0, rfl, rfl⟩
set_option maxHeartbeats 4000000 in
set_option maxRecDepth 100000 in
/-- traces -/
theorem cx_traces (l : Launch) (hfl : l.stackTraces = false) (D : va_G) (sz : Nat) (h0 : Nat) (fs : List Value) (p0 : Int32) (p1 : Int32) (o4 : Nat) (f4 : List Value) (g2 : f4[2]? = some (.int 0)) (h4 : fs[4]? = some (.ref o4)) : vx_Met l ⟨"Locihall", "traces", "(II)I"⟩ (.code ⟨"Locihall", "traces", "(II)I"⟩ prog_1_method_17_code 4 (some .int) :: qw) ({ frames := 6, cells := 1, slots := 6, locals := 82 }) (va_Pc [.ref h0, .int p0, .int p1] (qPre D [(h0, .inr (16, fs)), (o4, .inr (9, f4))] [] sz)) (va_Qi (fun (r : Int32) (_ : Unit) => 1 = 0 ∧ r = 0) (fun _ _ => True) (va_A [(h0, .inr (16, fs)), (o4, .inr (9, f4))] sz)) (qX (qx ["java/lang/IndexOutOfBoundsException"] (1)) (va_A [(h0, .inr (16, fs)), (o4, .inr (9, f4))] sz)) 1 6 (va_A [(h0, .inr (16, fs)), (o4, .inr (9, f4))] sz) := by
  refine q_startX (by decide) (Nat.le_of_ble_eq_true rfl) ?_
  intro p e s m below meth c hB hno hpre ls hl
  have hW := qH_start hpre
  have hx := hB.1
  have hb := hB.2.1
  have hq := hB.2.2.2.2.2.1
  have hl : lv_has ls 4 [(0, .ref h0), (1, .int p0), (2, .int p1)] := hl
  refine lv_aload_n hx hb d_H_traces_0 rfl (lv_at hl 0 rfl) ?_
  refine q_get hB hW qc_16 0 rfl 4 (by decide) k406 h4 d_H_traces_1 ?_
  refine lv_iload_n hx hb d_H_traces_4 rfl (lv_at hl 1 rfl) ?_
  refine lv_iload_n hx hb d_H_traces_5 rfl (lv_at hl 2 rfl) ?_
  refine q_readVN (As := [.int p0, .int p1]) (rest := []) hB hW (ct_Mi_locusAt l D _ o4 f4 g2 p0 p1) (ci := 9) (q0 := 1) rfl rfl j950 k952 k32 k136 k953 2 ⟨rfl, rfl⟩ (by decide +kernel) rfl ⟨Nat.le_of_ble_eq_true rfl, Nat.le_of_ble_eq_true rfl⟩ [1] [] rfl rfl rfl rfl hl.1 (Nat.le_of_ble_eq_true rfl) ⟨Nat.le_of_ble_eq_true rfl, Nat.le_of_ble_eq_true rfl⟩ (st := [.int p1, .int p0, .ref o4]) (by rfl) d_H_traces_6 ?_
  refine lv_astore_nN (lv' := [(3, .null), (0, .ref h0), (1, .int p0), (2, .int p1)]) hx hb d_H_traces_9 rfl hl (by decide) rfl (fun ls hl => ?_)
  refine lv_aload_nN hx hb d_H_traces_10 rfl (lv_at hl 0 rfl) ?_
  refine lv_ifnonnullN hx hb d_H_traces_11 ?_
  exact q_throw hB hW hfl hno (cls := "java/lang/IndexOutOfBoundsException") (text := "no such palace or locus") (by decide +kernel) k701 k155 j954 hat_119 hgd_119 hl.1 d_H_traces_14 d_H_traces_17 d_H_traces_18 d_H_traces_20 d_H_traces_23 (Nat.le_of_ble_eq_true rfl) (Nat.le_of_ble_eq_true rfl) (Nat.le_of_ble_eq_true rfl) (Nat.le_of_ble_eq_true rfl) (Nat.le_of_ble_eq_true rfl) (Nat.le_of_ble_eq_true rfl) ⟨0, rfl, rfl⟩
set_option maxHeartbeats 4000000 in
set_option maxRecDepth 100000 in
/-- hold -/
theorem cx_hold (l : Launch) (hfl : l.stackTraces = false) (D : va_G) (sz : Nat) (h0 : Nat) (fs : List Value) (p0 : Int32) (p1 : Int32) (p2 : Int32) (o4 : Nat) (f4 : List Value) (g2 : f4[2]? = some (.int 0)) (h4 : fs[4]? = some (.ref o4)) : vx_Met l ⟨"Locihall", "hold", "(III)F"⟩ (.code ⟨"Locihall", "hold", "(III)F"⟩ prog_1_method_18_code 7 (some .float) :: qw) ({ frames := 6, cells := 1, slots := 6, locals := 82 }) (va_Pc [.ref h0, .int p0, .int p1, .int p2] (qPre D [(h0, .inr (16, fs)), (o4, .inr (9, f4))] [] sz)) (va_Qf (fun (r : UInt32) (_ : Unit) => 1 = 0 ∧ r = 0) (fun _ _ => True) (va_A [(h0, .inr (16, fs)), (o4, .inr (9, f4))] sz)) (qX (qx ["java/lang/IndexOutOfBoundsException", "java/util/NoSuchElementException"] (1)) (va_A [(h0, .inr (16, fs)), (o4, .inr (9, f4))] sz)) 1 6 (va_A [(h0, .inr (16, fs)), (o4, .inr (9, f4))] sz) := by
  refine q_startX (by decide) (Nat.le_of_ble_eq_true rfl) ?_
  intro p e s m below meth c hB hno hpre ls hl
  have hW := qH_start hpre
  have hx := hB.1
  have hb := hB.2.1
  have hq := hB.2.2.2.2.2.1
  have hl : lv_has ls 7 [(0, .ref h0), (1, .int p0), (2, .int p1), (3, .int p2)] := hl
  refine lv_aload_n hx hb d_H_hold_0 rfl (lv_at hl 0 rfl) ?_
  refine q_get hB hW qc_16 0 rfl 4 (by decide) k406 h4 d_H_hold_1 ?_
  refine lv_iload_n hx hb d_H_hold_4 rfl (lv_at hl 1 rfl) ?_
  refine q_readVN (As := [.int p0]) (rest := []) hB hW (ct_Mi_palaceAt l D _ o4 f4 g2 p0) (ci := 9) (q0 := 1) rfl rfl j912 k497 k8 k136 k498 1 ⟨rfl, rfl⟩ (by decide +kernel) rfl ⟨Nat.le_of_ble_eq_true rfl, Nat.le_of_ble_eq_true rfl⟩ [1] [] rfl rfl rfl rfl hl.1 (Nat.le_of_ble_eq_true rfl) ⟨Nat.le_of_ble_eq_true rfl, Nat.le_of_ble_eq_true rfl⟩ (st := [.int p0, .ref o4]) (by rfl) d_H_hold_5 ?_
  refine lv_astoreN (lv' := [(4, .null), (0, .ref h0), (1, .int p0), (2, .int p1), (3, .int p2)]) hx hb d_H_hold_8 hl (by decide) rfl (fun ls hl => ?_)
  refine lv_aload_n hx hb d_H_hold_10 rfl (lv_at hl 1 rfl) ?_
  refine q_get hB hW qc_16 0 rfl 4 (by decide) k406 h4 d_H_hold_11 ?_
  refine lv_iload_n hx hb d_H_hold_14 rfl (lv_at hl 2 rfl) ?_
  refine lv_iload_n hx hb d_H_hold_15 rfl (lv_at hl 3 rfl) ?_
  refine q_readVN (As := [.int p0, .int p1]) (rest := []) hB hW (ct_Mi_locusAt l D _ o4 f4 g2 p0 p1) (ci := 9) (q0 := 1) rfl rfl j950 k952 k32 k136 k953 2 ⟨rfl, rfl⟩ (by decide +kernel) rfl ⟨Nat.le_of_ble_eq_true rfl, Nat.le_of_ble_eq_true rfl⟩ [1] [] rfl rfl rfl rfl hl.1 (Nat.le_of_ble_eq_true rfl) ⟨Nat.le_of_ble_eq_true rfl, Nat.le_of_ble_eq_true rfl⟩ (st := [.int p1, .int p0, .ref o4]) (by rfl) d_H_hold_16 ?_
  refine lv_astoreN (lv' := [(5, .null), (4, .null), (0, .ref h0), (1, .int p0), (2, .int p1), (3, .int p2)]) hx hb d_H_hold_19 hl (by decide) rfl (fun ls hl => ?_)
  refine lv_aloadN hx hb d_H_hold_21 (lv_at hl 1 rfl) ?_
  refine lv_ifnullN (tgt := 31) hx hb d_H_hold_23 (by decide) ?_
  exact q_throw hB hW hfl hno (cls := "java/lang/IndexOutOfBoundsException") (text := "no such palace or locus") (by decide +kernel) k701 k155 j954 hat_119 hgd_119 hl.1 d_H_hold_31 d_H_hold_34 d_H_hold_35 d_H_hold_37 d_H_hold_40 (Nat.le_of_ble_eq_true rfl) (Nat.le_of_ble_eq_true rfl) (Nat.le_of_ble_eq_true rfl) (Nat.le_of_ble_eq_true rfl) (Nat.le_of_ble_eq_true rfl) (Nat.le_of_ble_eq_true rfl) ⟨0, rfl, rfl⟩
set_option maxHeartbeats 4000000 in
set_option maxRecDepth 100000 in
/-- recall -/
theorem cx_recall (l : Launch) (hfl : l.stackTraces = false) (D : va_G) (sz : Nat) (h0 : Nat) (fs : List Value) (p0 : Int32) (p1 : Int32) (o4 : Nat) (f4 : List Value) (g2 : f4[2]? = some (.int 0)) (h4 : fs[4]? = some (.ref o4)) : vx_Met l ⟨"Locihall", "recall", "(II)C"⟩ (.code ⟨"Locihall", "recall", "(II)C"⟩ prog_1_method_19_code 4 (some .char) :: qw) ({ frames := 6, cells := 1, slots := 6, locals := 82 }) (va_Pc [.ref h0, .int p0, .int p1] (qPre D [(h0, .inr (16, fs)), (o4, .inr (9, f4))] [] sz)) (va_Qi (fun (r : Int32) (_ : Unit) => 1 = 0 ∧ r = 0) (fun _ _ => True) (va_A [(h0, .inr (16, fs)), (o4, .inr (9, f4))] sz)) (qX (qx ["java/lang/IndexOutOfBoundsException"] (1)) (va_A [(h0, .inr (16, fs)), (o4, .inr (9, f4))] sz)) 1 6 (va_A [(h0, .inr (16, fs)), (o4, .inr (9, f4))] sz) := by
  refine q_startX (by decide) (Nat.le_of_ble_eq_true rfl) ?_
  intro p e s m below meth c hB hno hpre ls hl
  have hW := qH_start hpre
  have hx := hB.1
  have hb := hB.2.1
  have hq := hB.2.2.2.2.2.1
  have hl : lv_has ls 4 [(0, .ref h0), (1, .int p0), (2, .int p1)] := hl
  refine lv_aload_n hx hb d_H_recall_0 rfl (lv_at hl 0 rfl) ?_
  refine q_get hB hW qc_16 0 rfl 4 (by decide) k406 h4 d_H_recall_1 ?_
  refine lv_iload_n hx hb d_H_recall_4 rfl (lv_at hl 1 rfl) ?_
  refine q_readVN (As := [.int p0]) (rest := []) hB hW (ct_Mi_palaceAt l D _ o4 f4 g2 p0) (ci := 9) (q0 := 1) rfl rfl j912 k497 k8 k136 k498 1 ⟨rfl, rfl⟩ (by decide +kernel) rfl ⟨Nat.le_of_ble_eq_true rfl, Nat.le_of_ble_eq_true rfl⟩ [1] [] rfl rfl rfl rfl hl.1 (Nat.le_of_ble_eq_true rfl) ⟨Nat.le_of_ble_eq_true rfl, Nat.le_of_ble_eq_true rfl⟩ (st := [.int p0, .ref o4]) (by rfl) d_H_recall_5 ?_
  refine lv_astore_nN (lv' := [(3, .null), (0, .ref h0), (1, .int p0), (2, .int p1)]) hx hb d_H_recall_8 rfl hl (by decide) rfl (fun ls hl => ?_)
  refine lv_aload_nN hx hb d_H_recall_9 rfl (lv_at hl 0 rfl) ?_
  refine lv_ifnullN (tgt := 25) hx hb d_H_recall_10 (by decide) ?_
  exact q_throw hB hW hfl hno (cls := "java/lang/IndexOutOfBoundsException") (text := "no such palace or locus") (by decide +kernel) k701 k155 j954 hat_119 hgd_119 hl.1 d_H_recall_25 d_H_recall_28 d_H_recall_29 d_H_recall_31 d_H_recall_34 (Nat.le_of_ble_eq_true rfl) (Nat.le_of_ble_eq_true rfl) (Nat.le_of_ble_eq_true rfl) (Nat.le_of_ble_eq_true rfl) (Nat.le_of_ble_eq_true rfl) (Nat.le_of_ble_eq_true rfl) ⟨0, rfl, rfl⟩
set_option maxHeartbeats 4000000 in
set_option maxRecDepth 100000 in
/-- recalled -/
theorem cx_recalled (l : Launch) (hfl : l.stackTraces = false) (D : va_G) (sz : Nat) (h0 : Nat) (fs : List Value) (p0 : Int32) (p1 : Int32) (p2 : Int32) (o4 : Nat) (f4 : List Value) (g2 : f4[2]? = some (.int 0)) (h4 : fs[4]? = some (.ref o4)) : vx_Met l ⟨"Locihall", "recalled", "(III)I"⟩ (.code ⟨"Locihall", "recalled", "(III)I"⟩ prog_1_method_20_code 6 (some .int) :: qw) ({ frames := 6, cells := 1, slots := 6, locals := 82 }) (va_Pc [.ref h0, .int p0, .int p1, .int p2] (qPre D [(h0, .inr (16, fs)), (o4, .inr (9, f4))] [] sz)) (va_Qi (fun (r : Int32) (_ : Unit) => 1 = 0 ∧ r = 0) (fun _ _ => True) (va_A [(h0, .inr (16, fs)), (o4, .inr (9, f4))] sz)) (qX (qx ["java/lang/IndexOutOfBoundsException", "java/lang/IllegalArgumentException", "java/util/NoSuchElementException"] (1)) (va_A [(h0, .inr (16, fs)), (o4, .inr (9, f4))] sz)) 1 6 (va_A [(h0, .inr (16, fs)), (o4, .inr (9, f4))] sz) := by
  refine q_startX (by decide) (Nat.le_of_ble_eq_true rfl) ?_
  intro p e s m below meth c hB hno hpre ls hl
  have hW := qH_start hpre
  have hx := hB.1
  have hb := hB.2.1
  have hq := hB.2.2.2.2.2.1
  have hl : lv_has ls 6 [(0, .ref h0), (1, .int p0), (2, .int p1), (3, .int p2)] := hl
  refine lv_aload_n hx hb d_H_recalled_0 rfl (lv_at hl 0 rfl) ?_
  refine q_get hB hW qc_16 0 rfl 4 (by decide) k406 h4 d_H_recalled_1 ?_
  refine lv_iload_n hx hb d_H_recalled_4 rfl (lv_at hl 1 rfl) ?_
  refine q_readVN (As := [.int p0]) (rest := []) hB hW (ct_Mi_palaceAt l D _ o4 f4 g2 p0) (ci := 9) (q0 := 1) rfl rfl j912 k497 k8 k136 k498 1 ⟨rfl, rfl⟩ (by decide +kernel) rfl ⟨Nat.le_of_ble_eq_true rfl, Nat.le_of_ble_eq_true rfl⟩ [1] [] rfl rfl rfl rfl hl.1 (Nat.le_of_ble_eq_true rfl) ⟨Nat.le_of_ble_eq_true rfl, Nat.le_of_ble_eq_true rfl⟩ (st := [.int p0, .ref o4]) (by rfl) d_H_recalled_5 ?_
  refine lv_astoreN (lv' := [(4, .null), (0, .ref h0), (1, .int p0), (2, .int p1), (3, .int p2)]) hx hb d_H_recalled_8 hl (by decide) rfl (fun ls hl => ?_)
  refine lv_aloadN hx hb d_H_recalled_10 (lv_at hl 0 rfl) ?_
  refine lv_ifnullN (tgt := 27) hx hb d_H_recalled_12 (by decide) ?_
  exact q_throw hB hW hfl hno (cls := "java/lang/IndexOutOfBoundsException") (text := "no such palace or locus") (by decide +kernel) k701 k155 j954 hat_119 hgd_119 hl.1 d_H_recalled_27 d_H_recalled_30 d_H_recalled_31 d_H_recalled_33 d_H_recalled_36 (Nat.le_of_ble_eq_true rfl) (Nat.le_of_ble_eq_true rfl) (Nat.le_of_ble_eq_true rfl) (Nat.le_of_ble_eq_true rfl) (Nat.le_of_ble_eq_true rfl) (Nat.le_of_ble_eq_true rfl) ⟨0, rfl, rfl⟩
set_option maxHeartbeats 4000000 in
set_option maxRecDepth 100000 in
/-- walk -/
theorem cx_walk (l : Launch) (hfl : l.stackTraces = false) (D : va_G) (sz : Nat) (h0 : Nat) (fs : List Value) (p0 : Int32) (o4 : Nat) (f4 : List Value) (g2 : f4[2]? = some (.int 0)) (h4 : fs[4]? = some (.ref o4)) : vx_Met l ⟨"Locihall", "walk", "(I)I"⟩ (.code ⟨"Locihall", "walk", "(I)I"⟩ prog_1_method_21_code 3 (some .int) :: qw) ({ frames := 6, cells := 1, slots := 6, locals := 82 }) (va_Pc [.ref h0, .int p0] (qPre D [(h0, .inr (16, fs)), (o4, .inr (9, f4))] [] sz)) (va_Qi (fun (r : Int32) (_ : Unit) => 1 = 0 ∧ r = 0) (fun _ _ => True) (va_A [(h0, .inr (16, fs)), (o4, .inr (9, f4))] sz)) (qX (qx ["java/lang/IndexOutOfBoundsException"] (1)) (va_A [(h0, .inr (16, fs)), (o4, .inr (9, f4))] sz)) 1 6 (va_A [(h0, .inr (16, fs)), (o4, .inr (9, f4))] sz) := by
  refine q_startX (by decide) (Nat.le_of_ble_eq_true rfl) ?_
  intro p e s m below meth c hB hno hpre ls hl
  have hW := qH_start hpre
  have hx := hB.1
  have hb := hB.2.1
  have hq := hB.2.2.2.2.2.1
  have hl : lv_has ls 3 [(0, .ref h0), (1, .int p0)] := hl
  refine lv_aload_n hx hb d_H_walk_0 rfl (lv_at hl 0 rfl) ?_
  refine q_get hB hW qc_16 0 rfl 4 (by decide) k406 h4 d_H_walk_1 ?_
  refine lv_iload_n hx hb d_H_walk_4 rfl (lv_at hl 1 rfl) ?_
  refine q_readVN (As := [.int p0]) (rest := []) hB hW (ct_Mi_palaceAt l D _ o4 f4 g2 p0) (ci := 9) (q0 := 1) rfl rfl j912 k497 k8 k136 k498 1 ⟨rfl, rfl⟩ (by decide +kernel) rfl ⟨Nat.le_of_ble_eq_true rfl, Nat.le_of_ble_eq_true rfl⟩ [1] [] rfl rfl rfl rfl hl.1 (Nat.le_of_ble_eq_true rfl) ⟨Nat.le_of_ble_eq_true rfl, Nat.le_of_ble_eq_true rfl⟩ (st := [.int p0, .ref o4]) (by rfl) d_H_walk_5 ?_
  refine lv_astore_nN (lv' := [(2, .null), (0, .ref h0), (1, .int p0)]) hx hb d_H_walk_8 rfl hl (by decide) rfl (fun ls hl => ?_)
  refine lv_aload_nN hx hb d_H_walk_9 rfl (lv_at hl 0 rfl) ?_
  refine lv_ifnonnullN hx hb d_H_walk_10 ?_
  exact q_throw hB hW hfl hno (cls := "java/lang/IndexOutOfBoundsException") (text := "no such palace") (by decide +kernel) k701 k155 j913 hat_119 hgd_119 hl.1 d_H_walk_13 d_H_walk_16 d_H_walk_17 d_H_walk_19 d_H_walk_22 (Nat.le_of_ble_eq_true rfl) (Nat.le_of_ble_eq_true rfl) (Nat.le_of_ble_eq_true rfl) (Nat.le_of_ble_eq_true rfl) (Nat.le_of_ble_eq_true rfl) (Nat.le_of_ble_eq_true rfl) ⟨0, rfl, rfl⟩
set_option maxHeartbeats 4000000 in
set_option maxRecDepth 100000 in
/-- groups -/
theorem cx_groups (l : Launch) (hfl : l.stackTraces = false) (D : va_G) (sz : Nat) (h0 : Nat) (fs : List Value) (p0 : Int32) (p1 : Int32) (o4 : Nat) (f4 : List Value) (g2 : f4[2]? = some (.int 0)) (h4 : fs[4]? = some (.ref o4)) : vx_Met l ⟨"Locihall", "groups", "(II)I"⟩ (.code ⟨"Locihall", "groups", "(II)I"⟩ prog_1_method_22_code 4 (some .int) :: qw) ({ frames := 6, cells := 1, slots := 6, locals := 82 }) (va_Pc [.ref h0, .int p0, .int p1] (qPre D [(h0, .inr (16, fs)), (o4, .inr (9, f4))] [] sz)) (va_Qi (fun (r : Int32) (_ : Unit) => 1 = 0 ∧ r = 0) (fun _ _ => True) (va_A [(h0, .inr (16, fs)), (o4, .inr (9, f4))] sz)) (qX (qx ["java/lang/IndexOutOfBoundsException", "java/lang/IllegalArgumentException"] (1)) (va_A [(h0, .inr (16, fs)), (o4, .inr (9, f4))] sz)) 1 6 (va_A [(h0, .inr (16, fs)), (o4, .inr (9, f4))] sz) := by
  refine q_startX (by decide) (Nat.le_of_ble_eq_true rfl) ?_
  intro p e s m below meth c hB hno hpre ls hl
  have hW := qH_start hpre
  have hx := hB.1
  have hb := hB.2.1
  have hq := hB.2.2.2.2.2.1
  have hl : lv_has ls 4 [(0, .ref h0), (1, .int p0), (2, .int p1)] := hl
  refine lv_aload_n hx hb d_H_groups_0 rfl (lv_at hl 0 rfl) ?_
  refine q_get hB hW qc_16 0 rfl 4 (by decide) k406 h4 d_H_groups_1 ?_
  refine lv_iload_n hx hb d_H_groups_4 rfl (lv_at hl 1 rfl) ?_
  refine q_readVN (As := [.int p0]) (rest := []) hB hW (ct_Mi_palaceAt l D _ o4 f4 g2 p0) (ci := 9) (q0 := 1) rfl rfl j912 k497 k8 k136 k498 1 ⟨rfl, rfl⟩ (by decide +kernel) rfl ⟨Nat.le_of_ble_eq_true rfl, Nat.le_of_ble_eq_true rfl⟩ [1] [] rfl rfl rfl rfl hl.1 (Nat.le_of_ble_eq_true rfl) ⟨Nat.le_of_ble_eq_true rfl, Nat.le_of_ble_eq_true rfl⟩ (st := [.int p0, .ref o4]) (by rfl) d_H_groups_5 ?_
  refine lv_astore_nN (lv' := [(3, .null), (0, .ref h0), (1, .int p0), (2, .int p1)]) hx hb d_H_groups_8 rfl hl (by decide) rfl (fun ls hl => ?_)
  refine lv_aload_nN hx hb d_H_groups_9 rfl (lv_at hl 0 rfl) ?_
  refine lv_ifnonnullN hx hb d_H_groups_10 ?_
  exact q_throw hB hW hfl hno (cls := "java/lang/IndexOutOfBoundsException") (text := "no such palace") (by decide +kernel) k701 k155 j913 hat_119 hgd_119 hl.1 d_H_groups_13 d_H_groups_16 d_H_groups_17 d_H_groups_19 d_H_groups_22 (Nat.le_of_ble_eq_true rfl) (Nat.le_of_ble_eq_true rfl) (Nat.le_of_ble_eq_true rfl) (Nat.le_of_ble_eq_true rfl) (Nat.le_of_ble_eq_true rfl) (Nat.le_of_ble_eq_true rfl) ⟨0, rfl, rfl⟩
set_option maxHeartbeats 4000000 in
set_option maxRecDepth 100000 in
/-- wipe -/
theorem cx_wipe (l : Launch) (hfl : l.stackTraces = false) (D : va_G) (sz : Nat) (h0 : Nat) (fs : List Value) (p0 : Int32) (p1 : Int32) (o4 : Nat) (f4 : List Value) (g2 : f4[2]? = some (.int 0)) (h4 : fs[4]? = some (.ref o4)) : vx_Met l ⟨"Locihall", "wipe", "(II)I"⟩ (.code ⟨"Locihall", "wipe", "(II)I"⟩ prog_1_method_23_code 4 (some .int) :: qw) ({ frames := 6, cells := 1, slots := 6, locals := 82 }) (va_Pc [.ref h0, .int p0, .int p1] (qPre D [(h0, .inr (16, fs)), (o4, .inr (9, f4))] [] sz)) (va_Qi (fun (r : Int32) (_ : Unit) => 1 = 0 ∧ r = 0) (fun _ _ => True) (va_A [(h0, .inr (16, fs)), (o4, .inr (9, f4))] sz)) (qX (qx ["java/lang/IndexOutOfBoundsException"] (1)) (va_A [(h0, .inr (16, fs)), (o4, .inr (9, f4))] sz)) 1 6 (va_A [(h0, .inr (16, fs)), (o4, .inr (9, f4))] sz) := by
  refine q_startX (by decide) (Nat.le_of_ble_eq_true rfl) ?_
  intro p e s m below meth c hB hno hpre ls hl
  have hW := qH_start hpre
  have hx := hB.1
  have hb := hB.2.1
  have hq := hB.2.2.2.2.2.1
  have hl : lv_has ls 4 [(0, .ref h0), (1, .int p0), (2, .int p1)] := hl
  refine lv_aload_n hx hb d_H_wipe_0 rfl (lv_at hl 0 rfl) ?_
  refine q_get hB hW qc_16 0 rfl 4 (by decide) k406 h4 d_H_wipe_1 ?_
  refine lv_iload_n hx hb d_H_wipe_4 rfl (lv_at hl 1 rfl) ?_
  refine lv_iload_n hx hb d_H_wipe_5 rfl (lv_at hl 2 rfl) ?_
  refine q_readVN (As := [.int p0, .int p1]) (rest := []) hB hW (ct_Mi_locusAt l D _ o4 f4 g2 p0 p1) (ci := 9) (q0 := 1) rfl rfl j950 k952 k32 k136 k953 2 ⟨rfl, rfl⟩ (by decide +kernel) rfl ⟨Nat.le_of_ble_eq_true rfl, Nat.le_of_ble_eq_true rfl⟩ [1] [] rfl rfl rfl rfl hl.1 (Nat.le_of_ble_eq_true rfl) ⟨Nat.le_of_ble_eq_true rfl, Nat.le_of_ble_eq_true rfl⟩ (st := [.int p1, .int p0, .ref o4]) (by rfl) d_H_wipe_6 ?_
  refine lv_astore_nN (lv' := [(3, .null), (0, .ref h0), (1, .int p0), (2, .int p1)]) hx hb d_H_wipe_9 rfl hl (by decide) rfl (fun ls hl => ?_)
  refine lv_aload_nN hx hb d_H_wipe_10 rfl (lv_at hl 0 rfl) ?_
  refine lv_ifnonnullN hx hb d_H_wipe_11 ?_
  exact q_throw hB hW hfl hno (cls := "java/lang/IndexOutOfBoundsException") (text := "no such palace or locus") (by decide +kernel) k701 k155 j954 hat_119 hgd_119 hl.1 d_H_wipe_14 d_H_wipe_17 d_H_wipe_18 d_H_wipe_20 d_H_wipe_23 (Nat.le_of_ble_eq_true rfl) (Nat.le_of_ble_eq_true rfl) (Nat.le_of_ble_eq_true rfl) (Nat.le_of_ble_eq_true rfl) (Nat.le_of_ble_eq_true rfl) (Nat.le_of_ble_eq_true rfl) ⟨0, rfl, rfl⟩
set_option maxHeartbeats 4000000 in
set_option maxRecDepth 100000 in
/-- contest -/
theorem cx_contest (l : Launch) (hfl : l.stackTraces = false) (D : va_G) (sz : Nat) (h0 : Nat) (fs : List Value) (p0 : Int32) (p1 : Int32) (p2 : Int32) (p3 : Int32) (p4 : Int32) (o4 : Nat) (f4 : List Value) (g2 : f4[2]? = some (.int 0)) (h4 : fs[4]? = some (.ref o4)) (h3 : fs[3]? = some (.int 0)) : vx_Met l ⟨"Locihall", "contest", "(IIIII)I"⟩ (.code ⟨"Locihall", "contest", "(IIIII)I"⟩ prog_1_method_29_code 9 (some .int) :: qw) ({ frames := 6, cells := 1, slots := 6, locals := 82 }) (va_Pc [.ref h0, .int p0, .int p1, .int p2, .int p3, .int p4] (qPre D [(h0, .inr (16, fs)), (o4, .inr (9, f4))] [] sz)) (va_Qi (fun (r : Int32) (_ : Unit) => 1 = 0 ∧ r = 0) (fun _ _ => True) (va_A [(h0, .inr (16, fs)), (o4, .inr (9, f4))] sz)) (qX (qx ["java/lang/IndexOutOfBoundsException", "java/lang/IllegalArgumentException", "java/lang/UnsupportedOperationException", "java/util/NoSuchElementException"] (1)) (va_A [(h0, .inr (16, fs)), (o4, .inr (9, f4))] sz)) 1 6 (va_A [(h0, .inr (16, fs)), (o4, .inr (9, f4))] sz) := by
  refine q_startX (by decide) (Nat.le_of_ble_eq_true rfl) ?_
  intro p e s m below meth c hB hno hpre ls hl
  have hW := qH_start hpre
  have hx := hB.1
  have hb := hB.2.1
  have hq := hB.2.2.2.2.2.1
  have hl : lv_has ls 9 [(0, .ref h0), (1, .int p0), (2, .int p1), (3, .int p2), (4, .int p3), (5, .int p4)] := hl
  refine lv_aload_n hx hb d_H_contest_0 rfl (lv_at hl 0 rfl) ?_
  refine q_get hB hW qc_16 0 rfl 4 (by decide) k406 h4 d_H_contest_1 ?_
  refine lv_iload_n hx hb d_H_contest_4 rfl (lv_at hl 3 rfl) ?_
  refine q_readVN (As := [.int p2]) (rest := []) hB hW (ct_Mi_palaceAt l D _ o4 f4 g2 p2) (ci := 9) (q0 := 1) rfl rfl j912 k497 k8 k136 k498 1 ⟨rfl, rfl⟩ (by decide +kernel) rfl ⟨Nat.le_of_ble_eq_true rfl, Nat.le_of_ble_eq_true rfl⟩ [1] [] rfl rfl rfl rfl hl.1 (Nat.le_of_ble_eq_true rfl) ⟨Nat.le_of_ble_eq_true rfl, Nat.le_of_ble_eq_true rfl⟩ (st := [.int p2, .ref o4]) (by rfl) d_H_contest_5 ?_
  refine lv_astoreN (lv' := [(6, .null), (0, .ref h0), (1, .int p0), (2, .int p1), (3, .int p2), (4, .int p3), (5, .int p4)]) hx hb d_H_contest_8 hl (by decide) rfl (fun ls hl => ?_)
  refine lv_aload_n hx hb d_H_contest_10 rfl (lv_at hl 1 rfl) ?_
  refine lv_iload hx hb d_H_contest_11 (lv_at hl 5 rfl) ?_
  refine q_readV (As := [.int p3]) (rest := []) hB hW (ct_H_tableAt l D _ h0 fs h3 p3) (ci := 16) (q0 := 0) rfl rfl k458 k460 k1 k133 k461 1 ⟨rfl, rfl⟩ (by decide +kernel) rfl ⟨Nat.le_of_ble_eq_true rfl, Nat.le_of_ble_eq_true rfl⟩ [0] [] rfl rfl rfl rfl hl.1 (Nat.le_of_ble_eq_true rfl) ⟨Nat.le_of_ble_eq_true rfl, Nat.le_of_ble_eq_true rfl⟩ (st := [.int p3, .ref h0]) (by rfl) d_H_contest_13 ?_
  refine lv_astoreN (lv' := [(7, .null), (6, .null), (0, .ref h0), (1, .int p0), (2, .int p1), (3, .int p2), (4, .int p3), (5, .int p4)]) hx hb d_H_contest_16 hl (by decide) rfl (fun ls hl => ?_)
  refine lv_aloadN hx hb d_H_contest_18 (lv_at hl 1 rfl) ?_
  refine lv_ifnullN (tgt := 28) hx hb d_H_contest_20 (by decide) ?_
  exact q_throwW hB hW hfl hno (cls := "java/lang/IndexOutOfBoundsException") (text := "no such palace or system") (by decide +kernel) k701 k155 j1278 hat_119 hgd_119 hl.1 d_H_contest_28 d_H_contest_31 d_H_contest_32 d_H_contest_35 d_H_contest_38 (Nat.le_of_ble_eq_true rfl) (Nat.le_of_ble_eq_true rfl) (Nat.le_of_ble_eq_true rfl) (Nat.le_of_ble_eq_true rfl) (Nat.le_of_ble_eq_true rfl) (Nat.le_of_ble_eq_true rfl) ⟨0, rfl, rfl⟩
set_option maxHeartbeats 4000000 in
set_option maxRecDepth 100000 in
/-- speech -/
theorem cx_speech (l : Launch) (hfl : l.stackTraces = false) (D : va_G) (sz : Nat) (h0 : Nat) (fs : List Value) (p0 : Int32) (p1 : Int32) (o4 : Nat) (f4 : List Value) (g2 : f4[2]? = some (.int 0)) (h4 : fs[4]? = some (.ref o4)) : vx_Met l ⟨"Locihall", "speech", "(II)I"⟩ (.code ⟨"Locihall", "speech", "(II)I"⟩ prog_1_method_38_code 4 (some .int) :: qw) ({ frames := 6, cells := 1, slots := 6, locals := 82 }) (va_Pc [.ref h0, .int p0, .int p1] (qPre D [(h0, .inr (16, fs)), (o4, .inr (9, f4))] [] sz)) (va_Qi (fun (r : Int32) (_ : Unit) => 1 = 0 ∧ r = 0) (fun _ _ => True) (va_A [(h0, .inr (16, fs)), (o4, .inr (9, f4))] sz)) (qX (qx ["java/lang/IndexOutOfBoundsException", "java/lang/IllegalArgumentException", "java/lang/IllegalStateException"] (1)) (va_A [(h0, .inr (16, fs)), (o4, .inr (9, f4))] sz)) 1 6 (va_A [(h0, .inr (16, fs)), (o4, .inr (9, f4))] sz) := by
  refine q_startX (by decide) (Nat.le_of_ble_eq_true rfl) ?_
  intro p e s m below meth c hB hno hpre ls hl
  have hW := qH_start hpre
  have hx := hB.1
  have hb := hB.2.1
  have hq := hB.2.2.2.2.2.1
  have hl : lv_has ls 4 [(0, .ref h0), (1, .int p0), (2, .int p1)] := hl
  refine lv_aload_n hx hb d_H_speech_0 rfl (lv_at hl 0 rfl) ?_
  refine q_get hB hW qc_16 0 rfl 4 (by decide) k406 h4 d_H_speech_1 ?_
  refine lv_iload_n hx hb d_H_speech_4 rfl (lv_at hl 1 rfl) ?_
  refine q_readVN (As := [.int p0]) (rest := []) hB hW (ct_Mi_palaceAt l D _ o4 f4 g2 p0) (ci := 9) (q0 := 1) rfl rfl j912 k497 k8 k136 k498 1 ⟨rfl, rfl⟩ (by decide +kernel) rfl ⟨Nat.le_of_ble_eq_true rfl, Nat.le_of_ble_eq_true rfl⟩ [1] [] rfl rfl rfl rfl hl.1 (Nat.le_of_ble_eq_true rfl) ⟨Nat.le_of_ble_eq_true rfl, Nat.le_of_ble_eq_true rfl⟩ (st := [.int p0, .ref o4]) (by rfl) d_H_speech_5 ?_
  refine lv_astore_nN (lv' := [(3, .null), (0, .ref h0), (1, .int p0), (2, .int p1)]) hx hb d_H_speech_8 rfl hl (by decide) rfl (fun ls hl => ?_)
  refine lv_aload_nN hx hb d_H_speech_9 rfl (lv_at hl 0 rfl) ?_
  refine lv_ifnonnullN hx hb d_H_speech_10 ?_
  exact q_throw hB hW hfl hno (cls := "java/lang/IndexOutOfBoundsException") (text := "no such palace") (by decide +kernel) k701 k155 j913 hat_119 hgd_119 hl.1 d_H_speech_13 d_H_speech_16 d_H_speech_17 d_H_speech_19 d_H_speech_22 (Nat.le_of_ble_eq_true rfl) (Nat.le_of_ble_eq_true rfl) (Nat.le_of_ble_eq_true rfl) (Nat.le_of_ble_eq_true rfl) (Nat.le_of_ble_eq_true rfl) (Nat.le_of_ble_eq_true rfl) ⟨0, rfl, rfl⟩
