/-- is v in lo .. hi -/
def f_isIn (v lo hi : Int32) : Int32 := if v < lo then 0 else if hi < v then 0 else 1
set_option maxHeartbeats 4000000 in
set_option maxRecDepth 100000 in
/-- isIn -/
theorem ct_H_isIn (l : Launch) (D : va_G) (sz : Nat) (v lo hi : Int32) : Met l ⟨"Locihall", "isIn", "(III)Z"⟩ (.code ⟨"Locihall", "isIn", "(III)Z"⟩ prog_1_method_54_code 3 (some .boolean) :: qw) ({ frames := 0, cells := 0, slots := 0, locals := 0 }) (va_Pc [.int v, .int lo, .int hi] (qPre D [] [] sz)) (k2_QcV (.int (f_isIn v lo hi))) 0 0 (fun _ => False) := by
  refine q_start (by decide) (Nat.le_of_ble_eq_true rfl) ?_
  intro p e s m below meth c hB hin hpre ls hl
  have hW := qH_start hpre
  have hx := hB.1
  have hb := hB.2.1
  have hq := hB.2.2.2.2.2.1
  have hl : lv_has ls 3 [(0, .int v), (1, .int lo), (2, .int hi)] := hl
  refine lv_iload_n hx hb d_H_isIn_0 rfl (lv_at hl 0 rfl) ?_
  refine lv_iload_n hx hb d_H_isIn_1 rfl (lv_at hl 1 rfl) ?_
  refine lv_icmp_lt (tgt := 14) hx hb d_H_isIn_2 (by decide) (fun c_1 => ?_) (fun c_1 => ?_)
  · refine lv_iconst (v := 0) hx hb d_H_isIn_14 (by decide) ?_
    exact W.zret hx hb hB.2.2.1 (by first | rfl | decide) (fun t ht _ => ⟨by simp only [f_isIn, c_1, if_true, if_false, ite_true, ite_false, reduceIte], ht⟩) (fun _ h => by cases h) d_H_isIn_15 hB.2.2.2.2.2.2.1
  · refine lv_iload_n hx hb d_H_isIn_5 rfl (lv_at hl 0 rfl) ?_
    refine lv_iload_n hx hb d_H_isIn_6 rfl (lv_at hl 2 rfl) ?_
    refine lv_icmp_gt (tgt := 14) hx hb d_H_isIn_7 (by decide) (fun c_2 => ?_) (fun c_2 => ?_)
    · refine lv_iconst (v := 0) hx hb d_H_isIn_14 (by decide) ?_
      exact W.zret hx hb hB.2.2.1 (by first | rfl | decide) (fun t ht _ => ⟨by simp only [f_isIn, c_1, c_2, if_true, if_false, ite_true, ite_false, reduceIte], ht⟩) (fun _ h => by cases h) d_H_isIn_15 hB.2.2.2.2.2.2.1
    · refine lv_iconst (v := 1) hx hb d_H_isIn_10 (by decide) ?_
      refine lv_goto (tgt := 15) hx hb d_H_isIn_11 (by decide) ?_
      exact W.zret hx hb hB.2.2.1 (by first | rfl | decide) (fun t ht _ => ⟨by simp only [f_isIn, c_1, c_2, if_true, if_false, ite_true, ite_false, reduceIte], ht⟩) (fun _ h => by cases h) d_H_isIn_15 hB.2.2.2.2.2.2.1
set_option maxHeartbeats 4000000 in
set_option maxRecDepth 100000 in
/-- isKey -/
theorem ct_H_isKey (l : Launch) (D : va_G) (sz : Nat) (v : Int32) : Met l ⟨"Locihall", "isKey", "(I)Z"⟩ (.code ⟨"Locihall", "isKey", "(I)Z"⟩ prog_1_method_55_code 1 (some .boolean) :: qw) ({ frames := 1, cells := 0, slots := 0, locals := 22 }) (va_Pc [.int v] (qPre D [] [] sz)) (k2_QcV (.int (f_isIn v 0 99))) 0 0 (fun _ => False) := by
  refine q_start (by decide) (Nat.le_of_ble_eq_true rfl) ?_
  intro p e s m below meth c hB hin hpre ls hl
  have hW := qH_start hpre
  have hx := hB.1
  have hb := hB.2.1
  have hq := hB.2.2.2.2.2.1
  have hl : lv_has ls 1 [(0, .int v)] := hl
  refine lv_iload_n hx hb d_H_isKey_0 rfl (lv_at hl 0 rfl) ?_
  refine lv_iconst (v := 0) hx hb d_H_isKey_1 (by decide) ?_
  refine lv_bipush (v := 99) hx hb d_H_isKey_2 (by decide) ?_
  refine q_readS (As := [.int v, .int 0, .int 99]) (rest := []) hB hW (ct_H_isIn l D _ v 0 99) k473 k471 k132 k472 3 ⟨rfl, rfl⟩ (by decide +kernel) rfl ⟨Nat.le_of_ble_eq_true rfl, Nat.le_of_ble_eq_true rfl⟩ [] [] rfl rfl rfl rfl hl.1 (by decide) ⟨Nat.zero_le _, Nat.zero_le _⟩ (st := [.int 99, .int 0, .int v]) (by rfl) d_H_isKey_4 ?_
  exact W.zret hx hb hB.2.2.1 (by first | rfl | decide) (fun t ht _ => ⟨rfl, ht⟩) (fun _ h => by cases h) d_H_isKey_7 hB.2.2.2.2.2.2.1
set_option maxHeartbeats 4000000 in
set_option maxRecDepth 100000 in
/-- isTongue -/
theorem ct_H_isTongue (l : Launch) (D : va_G) (sz : Nat) (v : Int32) : Met l ⟨"Locihall", "isTongue", "(I)Z"⟩ (.code ⟨"Locihall", "isTongue", "(I)Z"⟩ prog_1_method_56_code 1 (some .boolean) :: qw) ({ frames := 1, cells := 0, slots := 0, locals := 22 }) (va_Pc [.int v] (qPre D [] [] sz)) (k2_QcV (.int (f_isIn v 0 2))) 0 0 (fun _ => False) := by
  refine q_start (by decide) (Nat.le_of_ble_eq_true rfl) ?_
  intro p e s m below meth c hB hin hpre ls hl
  have hW := qH_start hpre
  have hx := hB.1
  have hb := hB.2.1
  have hq := hB.2.2.2.2.2.1
  have hl : lv_has ls 1 [(0, .int v)] := hl
  refine lv_iload_n hx hb d_H_isTongue_0 rfl (lv_at hl 0 rfl) ?_
  refine lv_iconst (v := 0) hx hb d_H_isTongue_1 (by decide) ?_
  refine lv_iconst (v := 2) hx hb d_H_isTongue_2 (by decide) ?_
  refine q_readS (As := [.int v, .int 0, .int 2]) (rest := []) hB hW (ct_H_isIn l D _ v 0 2) k473 k471 k132 k472 3 ⟨rfl, rfl⟩ (by decide +kernel) rfl ⟨Nat.le_of_ble_eq_true rfl, Nat.le_of_ble_eq_true rfl⟩ [] [] rfl rfl rfl rfl hl.1 (by decide) ⟨Nat.zero_le _, Nat.zero_le _⟩ (st := [.int 2, .int 0, .int v]) (by rfl) d_H_isTongue_3 ?_
  exact W.zret hx hb hB.2.2.1 (by first | rfl | decide) (fun t ht _ => ⟨rfl, ht⟩) (fun _ h => by cases h) d_H_isTongue_6 hB.2.2.2.2.2.2.1
set_option maxHeartbeats 4000000 in
set_option maxRecDepth 100000 in
/-- isYear -/
theorem ct_H_isYear (l : Launch) (D : va_G) (sz : Nat) (v : Int32) : Met l ⟨"Locihall", "isYear", "(I)Z"⟩ (.code ⟨"Locihall", "isYear", "(I)Z"⟩ prog_1_method_57_code 1 (some .boolean) :: qw) ({ frames := 1, cells := 0, slots := 0, locals := 22 }) (va_Pc [.int v] (qPre D [] [] sz)) (k2_QcV (.int (f_isIn v 0 9999))) 0 0 (fun _ => False) := by
  refine q_start (by decide) (Nat.le_of_ble_eq_true rfl) ?_
  intro p e s m below meth c hB hin hpre ls hl
  have hW := qH_start hpre
  have hx := hB.1
  have hb := hB.2.1
  have hq := hB.2.2.2.2.2.1
  have hl : lv_has ls 1 [(0, .int v)] := hl
  refine lv_iload_n hx hb d_H_isYear_0 rfl (lv_at hl 0 rfl) ?_
  refine lv_iconst (v := 0) hx hb d_H_isYear_1 (by decide) ?_
  refine lv_sipush (v := 9999) hx hb d_H_isYear_2 (by decide) ?_
  refine q_readS (As := [.int v, .int 0, .int 9999]) (rest := []) hB hW (ct_H_isIn l D _ v 0 9999) k473 k471 k132 k472 3 ⟨rfl, rfl⟩ (by decide +kernel) rfl ⟨Nat.le_of_ble_eq_true rfl, Nat.le_of_ble_eq_true rfl⟩ [] [] rfl rfl rfl rfl hl.1 (by decide) ⟨Nat.zero_le _, Nat.zero_le _⟩ (st := [.int 9999, .int 0, .int v]) (by rfl) d_H_isYear_5 ?_
  exact W.zret hx hb hB.2.2.1 (by first | rfl | decide) (fun t ht _ => ⟨rfl, ht⟩) (fun _ h => by cases h) d_H_isYear_8 hB.2.2.2.2.2.2.1
