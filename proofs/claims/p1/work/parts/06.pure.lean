/-- is v in lo .. hi -/
def f_isIn (v lo hi : Int32) : Int32 := if v < lo then 0 else if hi < v then 0 else 1
theorem f_isIn_01 (v lo hi : Int32) : f_isIn v lo hi = 0 ∨ f_isIn v lo hi = 1 := by
  unfold f_isIn
  split
  · exact Or.inl rfl
  · split
    · exact Or.inl rfl
    · exact Or.inr rfl
theorem nb_isIn (v lo hi : Int32) : narrow .boolean (.int (f_isIn v lo hi)) = .int (f_isIn v lo hi) := by
  rcases f_isIn_01 v lo hi with h | h <;> rw [h] <;> rfl
set_option maxHeartbeats 4000000 in
set_option maxRecDepth 100000 in
/-- isIn -/
theorem ct_H_isIn (l : Launch) (D : va_G) (sz : Nat) (v lo hi : Int32) : Met l ⟨"Locihall", "isIn", "(III)Z"⟩ (.code ⟨"Locihall", "isIn", "(III)Z"⟩ prog_1_method_54_code 3 (some .boolean) :: qw) ({ frames := 0, cells := 0, slots := 0, locals := 0 }) (va_Pc [.int v, .int lo, .int hi] (qPre D [] [] sz)) (k2_QcV (.int (f_isIn v lo hi))) 0 0 (fun _ => False) := by
  refine q_start (by decide) (Nat.le_of_ble_eq_true rfl) ?_
  intro p e s m below meth c hB hin hpre ls hl
  have hW := qH_start hpre
  have hx := hB.1
  have hb := hB.2.1
  have hq := hB.2.2.2.2.2.1
  have hl : lv_has ls 3 [(0, .int v), (1, .int lo), (2, .int hi)] := hl
  refine lv_iload_n hx hb d_H_isIn_0 rfl (lv_at hl 0 rfl) ?_
  refine lv_iload_n hx hb d_H_isIn_1 rfl (lv_at hl 1 rfl) ?_
  refine lv_icmp_lt (tgt := 14) hx hb d_H_isIn_2 (by decide) (fun c_1 => ?_) (fun c_1 => ?_)
  · refine lv_iconst (v := 0) hx hb d_H_isIn_14 (by decide) ?_
    exact W.zret hx hb hB.2.2.1 (by first | rfl | decide | exact nb_isIn _ _ _) (fun t ht _ => ⟨by simp only [f_isIn, c_1, if_true, if_false, ite_true, ite_false, reduceIte], ht⟩) (fun _ h => by cases h) d_H_isIn_15 hB.2.2.2.2.2.2.1
  · refine lv_iload_n hx hb d_H_isIn_5 rfl (lv_at hl 0 rfl) ?_
    refine lv_iload_n hx hb d_H_isIn_6 rfl (lv_at hl 2 rfl) ?_
    refine lv_icmp_gt (tgt := 14) hx hb d_H_isIn_7 (by decide) (fun c_2 => ?_) (fun c_2 => ?_)
    · refine lv_iconst (v := 0) hx hb d_H_isIn_14 (by decide) ?_
      exact W.zret hx hb hB.2.2.1 (by first | rfl | decide | exact nb_isIn _ _ _) (fun t ht _ => ⟨by simp only [f_isIn, c_1, c_2, if_true, if_false, ite_true, ite_false, reduceIte], ht⟩) (fun _ h => by cases h) d_H_isIn_15 hB.2.2.2.2.2.2.1
    · refine lv_iconst (v := 1) hx hb d_H_isIn_10 (by decide) ?_
      refine lv_goto (tgt := 15) hx hb d_H_isIn_11 (by decide) ?_
      exact W.zret hx hb hB.2.2.1 (by first | rfl | decide | exact nb_isIn _ _ _) (fun t ht _ => ⟨by simp only [f_isIn, c_1, c_2, if_true, if_false, ite_true, ite_false, reduceIte], ht⟩) (fun _ h => by cases h) d_H_isIn_15 hB.2.2.2.2.2.2.1
set_option maxHeartbeats 4000000 in
set_option maxRecDepth 100000 in
/-- isKey -/
theorem ct_H_isKey (l : Launch) (D : va_G) (sz : Nat) (v : Int32) : Met l ⟨"Locihall", "isKey", "(I)Z"⟩ (.code ⟨"Locihall", "isKey", "(I)Z"⟩ prog_1_method_55_code 1 (some .boolean) :: qw) ({ frames := 1, cells := 0, slots := 0, locals := 22 }) (va_Pc [.int v] (qPre D [] [] sz)) (k2_QcV (.int (f_isIn v 0 99))) 0 0 (fun _ => False) := by
  refine q_start (by decide) (Nat.le_of_ble_eq_true rfl) ?_
  intro p e s m below meth c hB hin hpre ls hl
  have hW := qH_start hpre
  have hx := hB.1
  have hb := hB.2.1
  have hq := hB.2.2.2.2.2.1
  have hl : lv_has ls 1 [(0, .int v)] := hl
  refine lv_iload_n hx hb d_H_isKey_0 rfl (lv_at hl 0 rfl) ?_
  refine lv_iconst (v := 0) hx hb d_H_isKey_1 (by decide) ?_
  refine lv_bipush (v := 99) hx hb d_H_isKey_2 (by decide) ?_
  refine q_readS (As := [.int v, .int 0, .int 99]) (rest := []) hB hW (ct_H_isIn l D _ v 0 99) k474 k472 k133 k473 3 ⟨rfl, rfl⟩ (by decide +kernel) rfl ⟨Nat.le_of_ble_eq_true rfl, Nat.le_of_ble_eq_true rfl⟩ [] [] rfl rfl rfl rfl hl.1 (Nat.le_of_ble_eq_true rfl) ⟨Nat.le_of_ble_eq_true rfl, Nat.le_of_ble_eq_true rfl⟩ (st := [.int 99, .int 0, .int v]) (by rfl) d_H_isKey_4 ?_
  exact W.zret hx hb hB.2.2.1 (by first | rfl | decide | exact nb_isIn _ _ _) (fun t ht _ => ⟨rfl, ht⟩) (fun _ h => by cases h) d_H_isKey_7 hB.2.2.2.2.2.2.1
set_option maxHeartbeats 4000000 in
set_option maxRecDepth 100000 in
/-- isTongue -/
theorem ct_H_isTongue (l : Launch) (D : va_G) (sz : Nat) (v : Int32) : Met l ⟨"Locihall", "isTongue", "(I)Z"⟩ (.code ⟨"Locihall", "isTongue", "(I)Z"⟩ prog_1_method_56_code 1 (some .boolean) :: qw) ({ frames := 1, cells := 0, slots := 0, locals := 22 }) (va_Pc [.int v] (qPre D [] [] sz)) (k2_QcV (.int (f_isIn v 0 2))) 0 0 (fun _ => False) := by
  refine q_start (by decide) (Nat.le_of_ble_eq_true rfl) ?_
  intro p e s m below meth c hB hin hpre ls hl
  have hW := qH_start hpre
  have hx := hB.1
  have hb := hB.2.1
  have hq := hB.2.2.2.2.2.1
  have hl : lv_has ls 1 [(0, .int v)] := hl
  refine lv_iload_n hx hb d_H_isTongue_0 rfl (lv_at hl 0 rfl) ?_
  refine lv_iconst (v := 0) hx hb d_H_isTongue_1 (by decide) ?_
  refine lv_iconst (v := 2) hx hb d_H_isTongue_2 (by decide) ?_
  refine q_readS (As := [.int v, .int 0, .int 2]) (rest := []) hB hW (ct_H_isIn l D _ v 0 2) k474 k472 k133 k473 3 ⟨rfl, rfl⟩ (by decide +kernel) rfl ⟨Nat.le_of_ble_eq_true rfl, Nat.le_of_ble_eq_true rfl⟩ [] [] rfl rfl rfl rfl hl.1 (Nat.le_of_ble_eq_true rfl) ⟨Nat.le_of_ble_eq_true rfl, Nat.le_of_ble_eq_true rfl⟩ (st := [.int 2, .int 0, .int v]) (by rfl) d_H_isTongue_3 ?_
  exact W.zret hx hb hB.2.2.1 (by first | rfl | decide | exact nb_isIn _ _ _) (fun t ht _ => ⟨rfl, ht⟩) (fun _ h => by cases h) d_H_isTongue_6 hB.2.2.2.2.2.2.1
set_option maxHeartbeats 4000000 in
set_option maxRecDepth 100000 in
/-- isYear -/
theorem ct_H_isYear (l : Launch) (D : va_G) (sz : Nat) (v : Int32) : Met l ⟨"Locihall", "isYear", "(I)Z"⟩ (.code ⟨"Locihall", "isYear", "(I)Z"⟩ prog_1_method_57_code 1 (some .boolean) :: qw) ({ frames := 1, cells := 0, slots := 0, locals := 22 }) (va_Pc [.int v] (qPre D [] [] sz)) (k2_QcV (.int (f_isIn v 0 9999))) 0 0 (fun _ => False) := by
  refine q_start (by decide) (Nat.le_of_ble_eq_true rfl) ?_
  intro p e s m below meth c hB hin hpre ls hl
  have hW := qH_start hpre
  have hx := hB.1
  have hb := hB.2.1
  have hq := hB.2.2.2.2.2.1
  have hl : lv_has ls 1 [(0, .int v)] := hl
  refine lv_iload_n hx hb d_H_isYear_0 rfl (lv_at hl 0 rfl) ?_
  refine lv_iconst (v := 0) hx hb d_H_isYear_1 (by decide) ?_
  refine lv_sipush (v := 9999) hx hb d_H_isYear_2 (by decide) ?_
  refine q_readS (As := [.int v, .int 0, .int 9999]) (rest := []) hB hW (ct_H_isIn l D _ v 0 9999) k474 k472 k133 k473 3 ⟨rfl, rfl⟩ (by decide +kernel) rfl ⟨Nat.le_of_ble_eq_true rfl, Nat.le_of_ble_eq_true rfl⟩ [] [] rfl rfl rfl rfl hl.1 (Nat.le_of_ble_eq_true rfl) ⟨Nat.le_of_ble_eq_true rfl, Nat.le_of_ble_eq_true rfl⟩ (st := [.int 9999, .int 0, .int v]) (by rfl) d_H_isYear_5 ?_
  exact W.zret hx hb hB.2.2.1 (by first | rfl | decide | exact nb_isIn _ _ _) (fun t ht _ => ⟨rfl, ht⟩) (fun _ h => by cases h) d_H_isYear_8 hB.2.2.2.2.2.2.1
set_option maxHeartbeats 4000000 in
set_option maxRecDepth 100000 in
/-- tableAt, without a system -/
theorem ct_H_tableAt (l : Launch) (D : va_G) (sz : Nat) (h0 : Nat) (fs : List Value) (h3 : fs[3]? = some (.int 0)) (v : Int32) : Met l ⟨"Locihall", "tableAt", "(I)LLocihall$Table;"⟩ (.code ⟨"Locihall", "tableAt", "(I)LLocihall$Table;"⟩ prog_1_method_58_code 2 (some (.object "Locihall$Table")) :: qw) ({ frames := 0, cells := 0, slots := 0, locals := 0 }) (va_Pc [.ref h0, .int v] (qPre D [(h0, .inr (16, fs))] [] sz)) (k2_QcV (.null)) 0 0 (fun _ => False) := by
  refine q_start (by decide) (Nat.le_of_ble_eq_true rfl) ?_
  intro p e s m below meth c hB hin hpre ls hl
  have hW := qH_start hpre
  have hx := hB.1
  have hb := hB.2.1
  have hq := hB.2.2.2.2.2.1
  have hl : lv_has ls 2 [(0, .ref h0), (1, .int v)] := hl
  refine lv_iload_n hx hb d_H_tableAt_0 rfl (lv_at hl 1 rfl) ?_
  refine lv_if_lt (tgt := 30) hx hb d_H_tableAt_1 (by decide) (fun c_1 => ?_) (fun c_1 => ?_)
  · refine lv_null hx hb d_H_tableAt_30 ?_
    exact W.aret hx hb hB.2.2.1 (by first | exact Or.inl ⟨_, rfl⟩ | exact Or.inr ⟨_, rfl⟩) (by first | exact Or.inl rfl | exact Or.inr ⟨_, rfl⟩) (fun t ht _ => ⟨rfl, ht⟩) (fun _ h => by cases h) d_H_tableAt_31 hB.2.2.2.2.2.2.1
  · refine lv_iload_n hx hb d_H_tableAt_4 rfl (lv_at hl 1 rfl) ?_
    refine lv_aload_n hx hb d_H_tableAt_5 rfl (lv_at hl 0 rfl) ?_
    refine q_get hB hW qc_16 0 rfl 3 (by decide) k405 h3 d_H_tableAt_6 ?_
    refine lv_icmp_ge (tgt := 30) hx hb d_H_tableAt_9 (by decide) (fun c_2 => ?_) (fun c_2 => ?_)
    · have c_2 := Int32.not_lt.mpr c_2
      refine lv_null hx hb d_H_tableAt_30 ?_
      exact W.aret hx hb hB.2.2.1 (by first | exact Or.inl ⟨_, rfl⟩ | exact Or.inr ⟨_, rfl⟩) (by first | exact Or.inl rfl | exact Or.inr ⟨_, rfl⟩) (fun t ht _ => ⟨rfl, ht⟩) (fun _ h => by cases h) d_H_tableAt_31 hB.2.2.2.2.2.2.1
    · have c_2 := Int32.not_le.mp c_2
      exact absurd c_2 c_1
set_option maxHeartbeats 4000000 in
set_option maxRecDepth 100000 in
/-- palaceAt, without a palace -/
theorem ct_Mi_palaceAt (l : Launch) (D : va_G) (sz : Nat) (h0 : Nat) (fs : List Value) (h2 : fs[2]? = some (.int 0)) (v : Int32) : Met l ⟨"Locihall$Mind", "palaceAt", "(I)LLocihall$Palace;"⟩ (.code ⟨"Locihall$Mind", "palaceAt", "(I)LLocihall$Palace;"⟩ prog_6_method_3_code 2 (some (.object "Locihall$Palace")) :: qw) ({ frames := 0, cells := 0, slots := 0, locals := 0 }) (va_Pc [.ref h0, .int v] (qPre D [(h0, .inr (9, fs))] [] sz)) (k2_QcV (.null)) 0 0 (fun _ => False) := by
  refine q_start (by decide) (Nat.le_of_ble_eq_true rfl) ?_
  intro p e s m below meth c hB hin hpre ls hl
  have hW := qH_start hpre
  have hx := hB.1
  have hb := hB.2.1
  have hq := hB.2.2.2.2.2.1
  have hl : lv_has ls 2 [(0, .ref h0), (1, .int v)] := hl
  refine lv_iload_n hx hb d_HMind_palaceAt_0 rfl (lv_at hl 1 rfl) ?_
  refine lv_if_lt (tgt := 30) hx hb d_HMind_palaceAt_1 (by decide) (fun c_1 => ?_) (fun c_1 => ?_)
  · refine lv_null hx hb d_HMind_palaceAt_30 ?_
    exact W.aret hx hb hB.2.2.1 (by first | exact Or.inl ⟨_, rfl⟩ | exact Or.inr ⟨_, rfl⟩) (by first | exact Or.inl rfl | exact Or.inr ⟨_, rfl⟩) (fun t ht _ => ⟨rfl, ht⟩) (fun _ h => by cases h) d_HMind_palaceAt_31 hB.2.2.2.2.2.2.1
  · refine lv_iload_n hx hb d_HMind_palaceAt_4 rfl (lv_at hl 1 rfl) ?_
    refine lv_aload_n hx hb d_HMind_palaceAt_5 rfl (lv_at hl 0 rfl) ?_
    refine q_get hB hW qc_9 0 rfl 2 (by decide) k225 h2 d_HMind_palaceAt_6 ?_
    refine lv_icmp_ge (tgt := 30) hx hb d_HMind_palaceAt_9 (by decide) (fun c_2 => ?_) (fun c_2 => ?_)
    · have c_2 := Int32.not_lt.mpr c_2
      refine lv_null hx hb d_HMind_palaceAt_30 ?_
      exact W.aret hx hb hB.2.2.1 (by first | exact Or.inl ⟨_, rfl⟩ | exact Or.inr ⟨_, rfl⟩) (by first | exact Or.inl rfl | exact Or.inr ⟨_, rfl⟩) (fun t ht _ => ⟨rfl, ht⟩) (fun _ h => by cases h) d_HMind_palaceAt_31 hB.2.2.2.2.2.2.1
    · have c_2 := Int32.not_le.mp c_2
      exact absurd c_2 c_1
set_option maxHeartbeats 4000000 in
set_option maxRecDepth 100000 in
/-- locusAt, without a palace -/
theorem ct_Mi_locusAt (l : Launch) (D : va_G) (sz : Nat) (h0 : Nat) (fs : List Value) (h2 : fs[2]? = some (.int 0)) (v w : Int32) : Met l ⟨"Locihall$Mind", "locusAt", "(II)LLocihall$Locus;"⟩ (.code ⟨"Locihall$Mind", "locusAt", "(II)LLocihall$Locus;"⟩ prog_6_method_4_code 4 (some (.object "Locihall$Locus")) :: qw) ({ frames := 1, cells := 0, slots := 0, locals := 21 }) (va_Pc [.ref h0, .int v, .int w] (qPre D [(h0, .inr (9, fs))] [] sz)) (k2_QcV (.null)) 0 0 (fun _ => False) := by
  refine q_start (by decide) (Nat.le_of_ble_eq_true rfl) ?_
  intro p e s m below meth c hB hin hpre ls hl
  have hW := qH_start hpre
  have hx := hB.1
  have hb := hB.2.1
  have hq := hB.2.2.2.2.2.1
  have hl : lv_has ls 4 [(0, .ref h0), (1, .int v), (2, .int w)] := hl
  refine lv_aload_n hx hb d_HMind_locusAt_0 rfl (lv_at hl 0 rfl) ?_
  refine lv_iload_n hx hb d_HMind_locusAt_1 rfl (lv_at hl 1 rfl) ?_
  refine q_readV (As := [.int v]) (rest := []) hB hW (ct_Mi_palaceAt l D _ h0 fs h2 v) (ci := 9) (q0 := 0) rfl rfl k495 k497 k8 k136 k498 1 ⟨rfl, rfl⟩ (by decide +kernel) rfl ⟨Nat.le_of_ble_eq_true rfl, Nat.le_of_ble_eq_true rfl⟩ [0] [] rfl rfl rfl rfl hl.1 (Nat.le_of_ble_eq_true rfl) ⟨Nat.le_of_ble_eq_true rfl, Nat.le_of_ble_eq_true rfl⟩ (st := [.int v, .ref h0]) (by rfl) d_HMind_locusAt_2 ?_
  refine lv_astore_nN (lv' := [(3, .null), (0, .ref h0), (1, .int v), (2, .int w)]) hx hb d_HMind_locusAt_5 rfl hl (by decide) rfl (fun ls hl => ?_)
  refine lv_aload_nN hx hb d_HMind_locusAt_6 rfl (lv_at hl 0 rfl) ?_
  refine lv_ifnonnullN hx hb d_HMind_locusAt_7 ?_
  refine lv_null hx hb d_HMind_locusAt_10 ?_
  refine lv_goto (tgt := 19) hx hb d_HMind_locusAt_11 (by decide) ?_
  exact W.aret hx hb hB.2.2.1 (by first | exact Or.inl ⟨_, rfl⟩ | exact Or.inr ⟨_, rfl⟩) (by first | exact Or.inl rfl | exact Or.inr ⟨_, rfl⟩) (fun t ht _ => ⟨rfl, ht⟩) (fun _ h => by cases h) d_HMind_locusAt_19 hB.2.2.2.2.2.2.1
set_option maxHeartbeats 4000000 in
set_option maxRecDepth 100000 in
/-- has, without a fact -/
theorem ct_Fa_has (l : Launch) (D : va_G) (sz : Nat) (h0 : Nat) (fs : List Value) (h4 : fs[4]? = some (.int 0)) (v : Int32) : Met l ⟨"Locihall$Facts", "has", "(I)Z"⟩ (.code ⟨"Locihall$Facts", "has", "(I)Z"⟩ prog_3_method_3_code 2 (some .boolean) :: qw) ({ frames := 0, cells := 0, slots := 0, locals := 0 }) (va_Pc [.ref h0, .int v] (qPre D [(h0, .inr (6, fs))] [] sz)) (k2_QcV (.int 0)) 0 0 (fun _ => False) := by
  refine q_start (by decide) (Nat.le_of_ble_eq_true rfl) ?_
  intro p e s m below meth c hB hin hpre ls hl
  have hW := qH_start hpre
  have hx := hB.1
  have hb := hB.2.1
  have hq := hB.2.2.2.2.2.1
  have hl : lv_has ls 2 [(0, .ref h0), (1, .int v)] := hl
  refine lv_iload_n hx hb d_HFacts_has_0 rfl (lv_at hl 1 rfl) ?_
  refine lv_if_lt (tgt := 22) hx hb d_HFacts_has_1 (by decide) (fun c_1 => ?_) (fun c_1 => ?_)
  · refine lv_iconst (v := 0) hx hb d_HFacts_has_22 (by decide) ?_
    exact W.zret hx hb hB.2.2.1 (by first | rfl | decide | exact nb_isIn _ _ _) (fun t ht _ => ⟨rfl, ht⟩) (fun _ h => by cases h) d_HFacts_has_23 hB.2.2.2.2.2.2.1
  · refine lv_iload_n hx hb d_HFacts_has_4 rfl (lv_at hl 1 rfl) ?_
    refine lv_aload_n hx hb d_HFacts_has_5 rfl (lv_at hl 0 rfl) ?_
    refine q_get hB hW qc_6 0 rfl 4 (by decide) k375 h4 d_HFacts_has_6 ?_
    refine lv_icmp_ge (tgt := 22) hx hb d_HFacts_has_9 (by decide) (fun c_2 => ?_) (fun c_2 => ?_)
    · have c_2 := Int32.not_lt.mpr c_2
      refine lv_iconst (v := 0) hx hb d_HFacts_has_22 (by decide) ?_
      exact W.zret hx hb hB.2.2.1 (by first | rfl | decide | exact nb_isIn _ _ _) (fun t ht _ => ⟨rfl, ht⟩) (fun _ h => by cases h) d_HFacts_has_23 hB.2.2.2.2.2.2.1
    · have c_2 := Int32.not_le.mp c_2
      exact absurd c_2 c_1
set_option maxHeartbeats 4000000 in
set_option maxRecDepth 100000 in
/-- isIn of the reference -/
theorem ct_M_isIn (l : Launch) (D : va_G) (sz : Nat) (v lo hi : Int32) : Met l ⟨"LocihallModel", "isIn", "(JJJ)Z"⟩ (.code ⟨"LocihallModel", "isIn", "(JJJ)Z"⟩ prog_14_method_4_code 6 (some .boolean) :: qw) ({ frames := 0, cells := 0, slots := 0, locals := 0 }) (va_Pc [.long v.toInt64, .long lo.toInt64, .long hi.toInt64] (qPre D [] [] sz)) (k2_QcV (.int (f_isIn v lo hi))) 0 0 (fun _ => False) := by
  refine q_start (by decide) (Nat.le_of_ble_eq_true rfl) ?_
  intro p e s m below meth c hB hin hpre ls hl
  have hW := qH_start hpre
  have hx := hB.1
  have hb := hB.2.1
  have hq := hB.2.2.2.2.2.1
  have hl : lv_has ls 6 [(0, .long v.toInt64), (2, .long lo.toInt64), (4, .long hi.toInt64)] := hl
  refine lv_lload_n hx hb d_M_isIn_0 rfl (lv_at hl 0 rfl) ?_
  refine lv_lload_n hx hb d_M_isIn_1 rfl (lv_at hl 1 rfl) ?_
  refine W.lcmp hx hb d_M_isIn_2 ?_
  refine lv_if_lt (tgt := 17) hx hb d_M_isIn_3 (by decide) (fun c_1 => ?_) (fun c_1 => ?_)
  · have c_1 : v < lo := qcm_lt (x := v) (y := lo) c_1
    refine lv_iconst (v := 0) hx hb d_M_isIn_17 (by decide) ?_
    exact W.zret hx hb hB.2.2.1 (by first | rfl | decide | exact nb_isIn _ _ _) (fun t ht _ => ⟨by simp only [f_isIn, c_1, if_true, if_false, ite_true, ite_false, reduceIte], ht⟩) (fun _ h => by cases h) d_M_isIn_18 hB.2.2.2.2.2.2.1
  · have c_1 : ¬ (v < lo) := qcm_nlt (x := v) (y := lo) c_1
    refine lv_lload_n hx hb d_M_isIn_6 rfl (lv_at hl 0 rfl) ?_
    refine lv_lload hx hb d_M_isIn_7 (lv_at hl 2 rfl) ?_
    refine W.lcmp hx hb d_M_isIn_9 ?_
    refine lv_if_gt (tgt := 17) hx hb d_M_isIn_10 (by decide) (fun c_2 => ?_) (fun c_2 => ?_)
    · have c_2 : hi < v := qcm_gt (x := v) (y := hi) c_2
      refine lv_iconst (v := 0) hx hb d_M_isIn_17 (by decide) ?_
      exact W.zret hx hb hB.2.2.1 (by first | rfl | decide | exact nb_isIn _ _ _) (fun t ht _ => ⟨by simp only [f_isIn, c_1, c_2, if_true, if_false, ite_true, ite_false, reduceIte], ht⟩) (fun _ h => by cases h) d_M_isIn_18 hB.2.2.2.2.2.2.1
    · have c_2 : ¬ (hi < v) := qcm_ngt (x := v) (y := hi) c_2
      refine lv_iconst (v := 1) hx hb d_M_isIn_13 (by decide) ?_
      refine lv_goto (tgt := 18) hx hb d_M_isIn_14 (by decide) ?_
      exact W.zret hx hb hB.2.2.1 (by first | rfl | decide | exact nb_isIn _ _ _) (fun t ht _ => ⟨by simp only [f_isIn, c_1, c_2, if_true, if_false, ite_true, ite_false, reduceIte], ht⟩) (fun _ h => by cases h) d_M_isIn_18 hB.2.2.2.2.2.2.1
set_option maxHeartbeats 4000000 in
set_option maxRecDepth 100000 in
/-- isSystem, without a system -/
theorem ct_M_isSystem (l : Launch) (D : va_G) (sz : Nat) (h0 : Nat) (fs : List Value) (h14 : fs[14]? = some (.int 0)) (v : Int32) : Met l ⟨"LocihallModel", "isSystem", "(I)Z"⟩ (.code ⟨"LocihallModel", "isSystem", "(I)Z"⟩ prog_14_method_6_code 2 (some .boolean) :: qw) ({ frames := 1, cells := 0, slots := 0, locals := 25 }) (va_Pc [.ref h0, .int v] (qPre D [(h0, .inr (20, fs))] [] sz)) (k2_QcV (.int (f_isIn v 0 (-1)))) 0 0 (fun _ => False) := by
  refine q_start (by decide) (Nat.le_of_ble_eq_true rfl) ?_
  intro p e s m below meth c hB hin hpre ls hl
  have hW := qH_start hpre
  have hx := hB.1
  have hb := hB.2.1
  have hq := hB.2.2.2.2.2.1
  have hl : lv_has ls 2 [(0, .ref h0), (1, .int v)] := hl
  refine lv_iload_n hx hb d_M_isSystem_0 rfl (lv_at hl 1 rfl) ?_
  refine lv_i2l (v := v.toInt64) hx hb d_M_isSystem_1 rfl ?_
  refine lv_lconst (v := 0) hx hb d_M_isSystem_2 (by decide) ?_
  refine q_topl (v := (0 : Int32).toInt64) (by decide) ?_
  refine lv_aload_n hx hb d_M_isSystem_3 rfl (lv_at hl 0 rfl) ?_
  refine q_get hB hW qc_20 0 rfl 14 (by decide) k1686 h14 d_M_isSystem_4 ?_
  refine lv_iconst (v := 1) hx hb d_M_isSystem_7 (by decide) ?_
  refine lv_isub hx hb d_M_isSystem_8 ?_
  refine q_topi (v := (-1)) (by decide) ?_
  refine lv_i2l (v := ((-1) : Int32).toInt64) hx hb d_M_isSystem_9 rfl ?_
  refine q_readS (As := [.long v.toInt64, .long ((0 : Int32).toInt64), .long (((-1) : Int32).toInt64)]) (rest := []) hB hW (ct_M_isIn l D _ v 0 (-1)) k1767 k1768 k141 k1769 3 ⟨rfl, rfl⟩ (by decide +kernel) rfl ⟨Nat.le_of_ble_eq_true rfl, Nat.le_of_ble_eq_true rfl⟩ [] [] rfl rfl rfl rfl hl.1 (Nat.le_of_ble_eq_true rfl) ⟨Nat.le_of_ble_eq_true rfl, Nat.le_of_ble_eq_true rfl⟩ (st := [.long (((-1) : Int32).toInt64), .long ((0 : Int32).toInt64), .long v.toInt64]) (by rfl) d_M_isSystem_10 ?_
  exact W.zret hx hb hB.2.2.1 (by first | rfl | decide | exact nb_isIn _ _ _) (fun t ht _ => ⟨rfl, ht⟩) (fun _ h => by cases h) d_M_isSystem_13 hB.2.2.2.2.2.2.1
set_option maxHeartbeats 4000000 in
set_option maxRecDepth 100000 in
/-- thrown -/
theorem ct_M_thrown (l : Launch) (D : va_G) (sz : Nat) (h0 : Nat) (fs : List Value) (k : Int32) (h13 : fs[13]? = some (.int k)) : Met l ⟨"LocihallModel", "thrown", "()I"⟩ (.code ⟨"LocihallModel", "thrown", "()I"⟩ prog_14_method_2_code 1 (some .int) :: qw) ({ frames := 0, cells := 0, slots := 0, locals := 0 }) (va_Pc [.ref h0] (qPre D [(h0, .inr (20, fs))] [] sz)) (k2_QcV (.int k)) 0 0 (fun _ => False) := by
  refine q_start (by decide) (Nat.le_of_ble_eq_true rfl) ?_
  intro p e s m below meth c hB hin hpre ls hl
  have hW := qH_start hpre
  have hx := hB.1
  have hb := hB.2.1
  have hq := hB.2.2.2.2.2.1
  have hl : lv_has ls 1 [(0, .ref h0)] := hl
  refine lv_aload_n hx hb d_M_thrown_0 rfl (lv_at hl 0 rfl) ?_
  refine q_get hB hW qc_20 0 rfl 13 (by decide) k1685 h13 d_M_thrown_1 ?_
  exact W.iret hx hb hB.2.2.1 (fun t ht _ => ⟨rfl, ht⟩) (fun _ h => by cases h) d_M_thrown_4 hB.2.2.2.2.2.2.1
set_option maxHeartbeats 4000000 in
set_option maxRecDepth 100000 in
/-- no -/
theorem ct_M_no_t (l : Launch) (D : va_G) (sz : Nat) (h0 : Nat) (fs : List Value) (hn : 13 < fs.length) (v : Int32) : Met l ⟨"LocihallModel", "no", "(ZI)Z"⟩ (.code ⟨"LocihallModel", "no", "(ZI)Z"⟩ prog_14_method_5_code 3 (some .boolean) :: qw) ({ frames := 0, cells := 0, slots := 0, locals := 0 }) (va_Pc [.ref h0, .int 1, .int v] (qPre D [(h0, .inr (20, fs))] [] sz)) (va_Qi (fun (r : Int32) (_ : Unit) => r = 0) (fun _ => qPost D [(h0, .inr (20, (fs.set 13 (.int 0))))] [] (va_A [(h0, .inr (20, fs))] sz)) (va_A [(h0, .inr (20, fs))] sz)) 0 0 (va_A [(h0, .inr (20, fs))] sz) := by
  refine q_start (by decide) (Nat.le_of_ble_eq_true rfl) ?_
  intro p e s m below meth c hB hin hpre ls hl
  have hW := qH_start hpre
  have hx := hB.1
  have hb := hB.2.1
  have hq := hB.2.2.2.2.2.1
  have hl : lv_has ls 3 [(0, .ref h0), (1, .int 1), (2, .int v)] := hl
  refine lv_aload_n hx hb d_M_no_0 rfl (lv_at hl 0 rfl) ?_
  refine lv_iload_n hx hb d_M_no_1 rfl (lv_at hl 1 rfl) ?_
  refine lv_if_eq (tgt := 9) hx hb d_M_no_2 (by decide) (fun c_1 => ?_) (fun c_1 => ?_)
  · exact absurd c_1 (by decide)
  · refine lv_iconst (v := 0) hx hb d_M_no_5 (by decide) ?_
    refine lv_goto (tgt := 10) hx hb d_M_no_6 (by decide) ?_
    refine q_put hB hW qc_20 0 rfl 13 (by decide) k1685 rfl  rfl rfl hn (ws' := [(h0, .inr (20, fs.set 13 (.int 0)))]) rfl d_M_no_10 (fun H locs hW => ?_)
    refine lv_iload_n hx hb d_M_no_13 rfl (lv_at hl 1 rfl) ?_
    refine lv_if_ne (tgt := 21) hx hb d_M_no_14 (by decide) (fun c_2 => ?_) (fun c_2 => ?_)
    · refine lv_iconst (v := 0) hx hb d_M_no_21 (by decide) ?_
      exact W.zret hx hb hB.2.2.1 (by first | rfl | decide | exact nb_isIn _ _ _) (fun t ht hWm => ⟨⟨0, (), rfl, rfl, qH_end hW [0] [] rfl rfl rfl rfl ht hWm⟩, hW.2.2.2.1.F ht⟩) hW.2.2.2.1.2.2 d_M_no_22 hB.2.2.2.2.2.2.1
    · exact absurd c_2 (by decide)
set_option maxHeartbeats 4000000 in
set_option maxRecDepth 100000 in
/-- no -/
theorem ct_M_no_f (l : Launch) (D : va_G) (sz : Nat) (h0 : Nat) (fs : List Value) (hn : 13 < fs.length) (v : Int32) : Met l ⟨"LocihallModel", "no", "(ZI)Z"⟩ (.code ⟨"LocihallModel", "no", "(ZI)Z"⟩ prog_14_method_5_code 3 (some .boolean) :: qw) ({ frames := 0, cells := 0, slots := 0, locals := 0 }) (va_Pc [.ref h0, .int 0, .int v] (qPre D [(h0, .inr (20, fs))] [] sz)) (va_Qi (fun (r : Int32) (_ : Unit) => r = 1) (fun _ => qPost D [(h0, .inr (20, (fs.set 13 (.int v))))] [] (va_A [(h0, .inr (20, fs))] sz)) (va_A [(h0, .inr (20, fs))] sz)) 0 0 (va_A [(h0, .inr (20, fs))] sz) := by
  refine q_start (by decide) (Nat.le_of_ble_eq_true rfl) ?_
  intro p e s m below meth c hB hin hpre ls hl
  have hW := qH_start hpre
  have hx := hB.1
  have hb := hB.2.1
  have hq := hB.2.2.2.2.2.1
  have hl : lv_has ls 3 [(0, .ref h0), (1, .int 0), (2, .int v)] := hl
  refine lv_aload_n hx hb d_M_no_0 rfl (lv_at hl 0 rfl) ?_
  refine lv_iload_n hx hb d_M_no_1 rfl (lv_at hl 1 rfl) ?_
  refine lv_if_eq (tgt := 9) hx hb d_M_no_2 (by decide) (fun c_1 => ?_) (fun c_1 => ?_)
  · refine lv_iload_n hx hb d_M_no_9 rfl (lv_at hl 2 rfl) ?_
    refine q_put hB hW qc_20 0 rfl 13 (by decide) k1685 rfl  rfl rfl hn (ws' := [(h0, .inr (20, fs.set 13 (.int v)))]) rfl d_M_no_10 (fun H locs hW => ?_)
    refine lv_iload_n hx hb d_M_no_13 rfl (lv_at hl 1 rfl) ?_
    refine lv_if_ne (tgt := 21) hx hb d_M_no_14 (by decide) (fun c_2 => ?_) (fun c_2 => ?_)
    · exact absurd c_2 (by decide)
    · refine lv_iconst (v := 1) hx hb d_M_no_17 (by decide) ?_
      refine lv_goto (tgt := 22) hx hb d_M_no_18 (by decide) ?_
      exact W.zret hx hb hB.2.2.1 (by first | rfl | decide | exact nb_isIn _ _ _) (fun t ht hWm => ⟨⟨1, (), rfl, rfl, qH_end hW [0] [] rfl rfl rfl rfl ht hWm⟩, hW.2.2.2.1.F ht⟩) hW.2.2.2.1.2.2 d_M_no_22 hB.2.2.2.2.2.2.1
  · exact absurd c_1 (by decide)
