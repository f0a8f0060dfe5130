set_option maxHeartbeats 4000000 in
set_option maxRecDepth 100000 in
/-- add, of the first image -/
theorem cw_Im_add (l : Launch) (D : va_G) (sz : Nat) (h0 a1 a2 : Nat) (cA : ClassId) (v w : Int32) : Met l ⟨"Locihall$Images", "add", "(II)I"⟩ (.code ⟨"Locihall$Images", "add", "(II)I"⟩ prog_4_method_2_code 3 (some .int) :: qw) ({ frames := 0, cells := 0, slots := 0, locals := 0 }) (va_Pc [.ref h0, .int v, .int w] (qPre D [(h0, .inr (7, [.ref a1, .ref a2, .int 0])), (a1, .inl (cA, 30, .inl (fun _ => 0))), (a2, .inl (cA, 30, .inl (fun _ => 0)))] [(cA, .int)] sz)) (va_Qi (fun (r0 : Int32) (_ : Unit) => r0 = 0) (fun _ => qPost D [] [] (va_A [(h0, .inr (7, [.ref a1, .ref a2, .int 0])), (a1, .inl (cA, 30, .inl (fun _ => 0))), (a2, .inl (cA, 30, .inl (fun _ => 0)))] sz)) (va_A [(h0, .inr (7, [.ref a1, .ref a2, .int 0])), (a1, .inl (cA, 30, .inl (fun _ => 0))), (a2, .inl (cA, 30, .inl (fun _ => 0)))] sz)) 0 0 (va_A [(h0, .inr (7, [.ref a1, .ref a2, .int 0])), (a1, .inl (cA, 30, .inl (fun _ => 0))), (a2, .inl (cA, 30, .inl (fun _ => 0)))] sz) := by
  refine q_start (by decide) (Nat.le_of_ble_eq_true rfl) ?_
  intro p e s m below meth c hB hin hpre ls hl
  have hW := qH_start hpre
  have hx := hB.1
  have hb := hB.2.1
  have hq := hB.2.2.2.2.2.1
  have hl : lv_has ls 3 [(0, .ref h0), (1, .int v), (2, .int w)] := hl
  refine lv_aload_n hx hb d_HImages_add_0 rfl (lv_at hl 0 rfl) ?_
  refine q_get hB hW qc_7 0 rfl 2 (by decide) k191 rfl d_HImages_add_1 ?_
  refine lv_aload_n hx hb d_HImages_add_4 rfl (lv_at hl 0 rfl) ?_
  refine q_get hB hW qc_7 0 rfl 0 (by decide) k189 rfl d_HImages_add_5 ?_
  refine va_alen (v := 30) hx hb hW.2.1 hW.1 1 0 rfl rfl (by decide) d_HImages_add_8 ?_
  refine lv_icmp_ge (tgt := 54) hx hb d_HImages_add_9 (by decide) (fun c_1 => ?_) (fun c_1 => ?_)
  · exact absurd c_1 (by decide)
  · refine lv_aload_n hx hb d_HImages_add_12 rfl (lv_at hl 0 rfl) ?_
    refine q_get hB hW qc_7 0 rfl 2 (by decide) k191 rfl d_HImages_add_13 ?_
    refine lv_aload_n hx hb d_HImages_add_16 rfl (lv_at hl 0 rfl) ?_
    refine q_get hB hW qc_7 0 rfl 1 (by decide) k190 rfl d_HImages_add_17 ?_
    refine va_alen (v := 30) hx hb hW.2.1 hW.1 2 0 rfl rfl (by decide) d_HImages_add_20 ?_
    refine lv_icmp_ge (tgt := 54) hx hb d_HImages_add_21 (by decide) (fun c_2 => ?_) (fun c_2 => ?_)
    · exact absurd c_2 (by decide)
    · refine lv_aload_n hx hb d_HImages_add_24 rfl (lv_at hl 0 rfl) ?_
      refine q_get hB hW qc_7 0 rfl 0 (by decide) k189 rfl d_HImages_add_25 ?_
      refine lv_aload_n hx hb d_HImages_add_28 rfl (lv_at hl 0 rfl) ?_
      refine q_get hB hW qc_7 0 rfl 2 (by decide) k191 rfl d_HImages_add_29 ?_
      refine lv_iload_n hx hb d_HImages_add_32 rfl (lv_at hl 1 rfl) ?_
      refine q_iast hB hW 1 0 rfl rfl (qin 0 rfl (by decide) (by decide)) (ws' := [(h0, .inr (7, [.ref a1, .ref a2, .int 0])), (a1, .inl (cA, 30, .inl (upd (fun _ => 0) (0 : Int32).toNatClampNeg v))), (a2, .inl (cA, 30, .inl (fun _ => 0)))]) rfl d_HImages_add_33 (fun H locs hW => ?_)
      refine lv_aload_n hx hb d_HImages_add_34 rfl (lv_at hl 0 rfl) ?_
      refine q_get hB hW qc_7 0 rfl 1 (by decide) k190 rfl d_HImages_add_35 ?_
      refine lv_aload_n hx hb d_HImages_add_38 rfl (lv_at hl 0 rfl) ?_
      refine q_get hB hW qc_7 0 rfl 2 (by decide) k191 rfl d_HImages_add_39 ?_
      refine lv_iload_n hx hb d_HImages_add_42 rfl (lv_at hl 2 rfl) ?_
      refine q_iast hB hW 2 0 rfl rfl (qin 0 rfl (by decide) (by decide)) (ws' := [(h0, .inr (7, [.ref a1, .ref a2, .int 0])), (a1, .inl (cA, 30, .inl (upd (fun _ => 0) (0 : Int32).toNatClampNeg v))), (a2, .inl (cA, 30, .inl (upd (fun _ => 0) (0 : Int32).toNatClampNeg w)))]) rfl d_HImages_add_43 (fun H locs hW => ?_)
      refine lv_aload_n hx hb d_HImages_add_44 rfl (lv_at hl 0 rfl) ?_
      refine lv_dup hx hb d_HImages_add_45 rfl ?_
      refine q_get hB hW qc_7 0 rfl 2 (by decide) k191 rfl d_HImages_add_46 ?_
      refine lv_iconst (v := 1) hx hb d_HImages_add_49 (by decide) ?_
      refine lv_iadd hx hb d_HImages_add_50 ?_
      refine q_topi (v := 1) (by decide) ?_
      refine q_put hB hW qc_7 0 rfl 2 (by decide) k191 rfl  rfl rfl (Nat.le_of_ble_eq_true rfl) (ws' := [(h0, .inr (7, [.ref a1, .ref a2, .int 1])), (a1, .inl (cA, 30, .inl (upd (fun _ => 0) (0 : Int32).toNatClampNeg v))), (a2, .inl (cA, 30, .inl (upd (fun _ => 0) (0 : Int32).toNatClampNeg w)))]) rfl d_HImages_add_51 (fun H locs hW => ?_)
      refine lv_aload_n hx hb d_HImages_add_54 rfl (lv_at hl 0 rfl) ?_
      refine q_get hB hW qc_7 0 rfl 2 (by decide) k191 rfl d_HImages_add_55 ?_
      refine lv_iconst (v := 1) hx hb d_HImages_add_58 (by decide) ?_
      refine lv_isub hx hb d_HImages_add_59 ?_
      refine q_topi (v := 0) (by decide) ?_
      exact W.iret hx hb hB.2.2.1 (fun t ht hWm => ⟨⟨0, (), rfl, rfl, qH_end hW [] [] rfl rfl rfl rfl ht hWm⟩, hW.2.2.2.1.F ht⟩) hW.2.2.2.1.2.2 d_HImages_add_60 hB.2.2.2.2.2.2.1
set_option maxHeartbeats 4000000 in
set_option maxRecDepth 100000 in
/-- rowOf, without rows -/
theorem ct_YR_rowOf (l : Launch) (D : va_G) (sz : Nat) (h0 : Nat) (fs : List Value) (h3 : fs[3]? = some (.int 0)) (v : Int32) : Met l ⟨"Locihall$YearRows", "rowOf", "(I)I"⟩ (.code ⟨"Locihall$YearRows", "rowOf", "(I)I"⟩ prog_12_method_2_code 3 (some .int) :: qw) ({ frames := 0, cells := 0, slots := 0, locals := 0 }) (va_Pc [.ref h0, .int v] (qPre D [(h0, .inr (15, fs))] [] sz)) (k2_QcV (.int (-1))) 0 0 (fun _ => False) := by
  refine q_start (by decide) (Nat.le_of_ble_eq_true rfl) ?_
  intro p e s m below meth c hB hin hpre ls hl
  have hW := qH_start hpre
  have hx := hB.1
  have hb := hB.2.1
  have hq := hB.2.2.2.2.2.1
  have hl : lv_has ls 3 [(0, .ref h0), (1, .int v)] := hl
  refine lv_iconst (v := 0) hx hb d_HYearRows_rowOf_0 (by decide) ?_
  refine lv_istore_n (lv' := [(2, .int 0), (0, .ref h0), (1, .int v)]) hx hb d_HYearRows_rowOf_1 rfl hl (by decide) rfl (fun ls hl => ?_)
  refine lv_iload_n hx hb d_HYearRows_rowOf_2 rfl (lv_at hl 0 rfl) ?_
  refine lv_aload_n hx hb d_HYearRows_rowOf_3 rfl (lv_at hl 1 rfl) ?_
  refine q_get hB hW qc_15 0 rfl 3 (by decide) k254 h3 d_HYearRows_rowOf_4 ?_
  refine lv_icmp_ge (tgt := 37) hx hb d_HYearRows_rowOf_7 (by decide) (fun c_1 => ?_) (fun c_1 => ?_)
  · refine lv_iconst (v := (-1)) hx hb d_HYearRows_rowOf_37 (by decide) ?_
    exact W.iret hx hb hB.2.2.1 (fun t ht _ => ⟨rfl, ht⟩) (fun _ h => by cases h) d_HYearRows_rowOf_38 hB.2.2.2.2.2.2.1
  · exact absurd c_1 (by decide)
set_option maxHeartbeats 4000000 in
set_option maxRecDepth 100000 in
/-- isFullFor, without rows -/
theorem ct_YR_full (l : Launch) (D : va_G) (sz : Nat) (h0 a1 a2 a3 : Nat) (cA : ClassId) (v : Int32) : Met l ⟨"Locihall$YearRows", "isFullFor", "(I)Z"⟩ (.code ⟨"Locihall$YearRows", "isFullFor", "(I)Z"⟩ prog_12_method_3_code 2 (some .boolean) :: qw) ({ frames := 0, cells := 0, slots := 0, locals := 0 }) (va_Pc [.ref h0, .int v] (qPre D [(h0, .inr (15, [.ref a1, .ref a2, .ref a3, .int 0])), (a1, .inl (cA, 8, .inl (fun _ => 0)))] [(cA, .int)] sz)) (k2_QcV (.int 0)) 0 0 (fun _ => False) := by
  refine q_start (by decide) (Nat.le_of_ble_eq_true rfl) ?_
  intro p e s m below meth c hB hin hpre ls hl
  have hW := qH_start hpre
  have hx := hB.1
  have hb := hB.2.1
  have hq := hB.2.2.2.2.2.1
  have hl : lv_has ls 2 [(0, .ref h0), (1, .int v)] := hl
  refine lv_aload_n hx hb d_HYearRows_isFullFor_0 rfl (lv_at hl 0 rfl) ?_
  refine q_get hB hW qc_15 0 rfl 3 (by decide) k254 rfl d_HYearRows_isFullFor_1 ?_
  refine lv_aload_n hx hb d_HYearRows_isFullFor_4 rfl (lv_at hl 0 rfl) ?_
  refine q_get hB hW qc_15 0 rfl 0 (by decide) k251 rfl d_HYearRows_isFullFor_5 ?_
  refine va_alen (v := 8) hx hb hW.2.1 hW.1 1 0 rfl rfl (by decide) d_HYearRows_isFullFor_8 ?_
  refine lv_icmp_lt (tgt := 25) hx hb d_HYearRows_isFullFor_9 (by decide) (fun c_1 => ?_) (fun c_1 => ?_)
  · refine lv_iconst (v := 0) hx hb d_HYearRows_isFullFor_25 (by decide) ?_
    exact W.zret hx hb hB.2.2.1 (by first | rfl | decide | exact nb_isIn _ _ _) (fun t ht _ => ⟨rfl, ht⟩) (fun _ h => by cases h) d_HYearRows_isFullFor_26 hB.2.2.2.2.2.2.1
  · exact absurd c_1 (by decide)
set_option maxHeartbeats 4000000 in
set_option maxRecDepth 100000 in
/-- put, of the first row -/
theorem cw_YR_put (l : Launch) (D : va_G) (sz : Nat) (h0 a1 a2 a3 : Nat) (cA : ClassId) (v w x : Int32) : Met l ⟨"Locihall$YearRows", "put", "(III)I"⟩ (.code ⟨"Locihall$YearRows", "put", "(III)I"⟩ prog_12_method_4_code 6 (some .int) :: qw) ({ frames := 1, cells := 0, slots := 0, locals := 22 }) (va_Pc [.ref h0, .int v, .int w, .int x] (qPre D [(h0, .inr (15, [.ref a1, .ref a2, .ref a3, .int 0])), (a1, .inl (cA, 8, .inl (fun _ => 0))), (a2, .inl (cA, 8, .inl (fun _ => 0))), (a3, .inl (cA, 8, .inl (fun _ => 0)))] [(cA, .int)] sz)) (va_Qi (fun (r0 : Int32) (_ : Unit) => r0 = 1) (fun _ => qPost D [] [] (va_A [(h0, .inr (15, [.ref a1, .ref a2, .ref a3, .int 0])), (a1, .inl (cA, 8, .inl (fun _ => 0))), (a2, .inl (cA, 8, .inl (fun _ => 0))), (a3, .inl (cA, 8, .inl (fun _ => 0)))] sz)) (va_A [(h0, .inr (15, [.ref a1, .ref a2, .ref a3, .int 0])), (a1, .inl (cA, 8, .inl (fun _ => 0))), (a2, .inl (cA, 8, .inl (fun _ => 0))), (a3, .inl (cA, 8, .inl (fun _ => 0)))] sz)) 0 0 (va_A [(h0, .inr (15, [.ref a1, .ref a2, .ref a3, .int 0])), (a1, .inl (cA, 8, .inl (fun _ => 0))), (a2, .inl (cA, 8, .inl (fun _ => 0))), (a3, .inl (cA, 8, .inl (fun _ => 0)))] sz) := by
  refine q_start (by decide) (Nat.le_of_ble_eq_true rfl) ?_
  intro p e s m below meth c hB hin hpre ls hl
  have hW := qH_start hpre
  have hx := hB.1
  have hb := hB.2.1
  have hq := hB.2.2.2.2.2.1
  have hl : lv_has ls 6 [(0, .ref h0), (1, .int v), (2, .int w), (3, .int x)] := hl
  refine lv_aload_n hx hb d_HYearRows_put_0 rfl (lv_at hl 0 rfl) ?_
  refine lv_iload_n hx hb d_HYearRows_put_1 rfl (lv_at hl 1 rfl) ?_
  refine q_readV (As := [.int v]) (rest := []) hB hW (ct_YR_rowOf l D _ h0 ([.ref a1, .ref a2, .ref a3, .int 0]) rfl v) (ci := 15) (q0 := 0) rfl rfl k1252 k1254 k65 k137 k1255 1 ⟨rfl, rfl⟩ (by decide +kernel) rfl ⟨Nat.le_of_ble_eq_true rfl, Nat.le_of_ble_eq_true rfl⟩ [0] [] rfl rfl rfl rfl hl.1 (Nat.le_of_ble_eq_true rfl) ⟨Nat.le_of_ble_eq_true rfl, Nat.le_of_ble_eq_true rfl⟩ (st := [.int v, .ref h0]) (by rfl) d_HYearRows_put_2 ?_
  refine lv_istore (lv' := [(4, .int (-1)), (0, .ref h0), (1, .int v), (2, .int w), (3, .int x)]) hx hb d_HYearRows_put_5 hl (by decide) rfl (fun ls hl => ?_)
  refine lv_iload hx hb d_HYearRows_put_7 (lv_at hl 0 rfl) ?_
  refine lv_iconst (v := (-1)) hx hb d_HYearRows_put_9 (by decide) ?_
  refine lv_icmp_ne (tgt := 20) hx hb d_HYearRows_put_10 (by decide) (fun c_1 => ?_) (fun c_1 => ?_)
  · exact absurd c_1 (by decide)
  · refine lv_aload_n hx hb d_HYearRows_put_13 rfl (lv_at hl 1 rfl) ?_
    refine q_get hB hW qc_15 0 rfl 3 (by decide) k254 rfl d_HYearRows_put_14 ?_
    refine lv_goto (tgt := 22) hx hb d_HYearRows_put_17 (by decide) ?_
    refine lv_istore (lv' := [(5, .int 0), (4, .int (-1)), (0, .ref h0), (1, .int v), (2, .int w), (3, .int x)]) hx hb d_HYearRows_put_22 hl (by decide) rfl (fun ls hl => ?_)
    refine lv_iload hx hb d_HYearRows_put_24 (lv_at hl 0 rfl) ?_
    refine lv_if_lt (tgt := 98) hx hb d_HYearRows_put_26 (by decide) (fun c_2 => ?_) (fun c_2 => ?_)
    · exact absurd c_2 (by decide)
    · refine lv_iload hx hb d_HYearRows_put_29 (lv_at hl 0 rfl) ?_
      refine lv_aload_n hx hb d_HYearRows_put_31 rfl (lv_at hl 2 rfl) ?_
      refine q_get hB hW qc_15 0 rfl 0 (by decide) k251 rfl d_HYearRows_put_32 ?_
      refine va_alen (v := 8) hx hb hW.2.1 hW.1 1 0 rfl rfl (by decide) d_HYearRows_put_35 ?_
      refine lv_icmp_ge (tgt := 98) hx hb d_HYearRows_put_36 (by decide) (fun c_3 => ?_) (fun c_3 => ?_)
      · exact absurd c_3 (by decide)
      · refine lv_iload hx hb d_HYearRows_put_39 (lv_at hl 0 rfl) ?_
        refine lv_aload_n hx hb d_HYearRows_put_41 rfl (lv_at hl 2 rfl) ?_
        refine q_get hB hW qc_15 0 rfl 1 (by decide) k252 rfl d_HYearRows_put_42 ?_
        refine va_alen (v := 8) hx hb hW.2.1 hW.1 2 0 rfl rfl (by decide) d_HYearRows_put_45 ?_
        refine lv_icmp_ge (tgt := 98) hx hb d_HYearRows_put_46 (by decide) (fun c_4 => ?_) (fun c_4 => ?_)
        · exact absurd c_4 (by decide)
        · refine lv_iload hx hb d_HYearRows_put_49 (lv_at hl 0 rfl) ?_
          refine lv_aload_n hx hb d_HYearRows_put_51 rfl (lv_at hl 2 rfl) ?_
          refine q_get hB hW qc_15 0 rfl 2 (by decide) k253 rfl d_HYearRows_put_52 ?_
          refine va_alen (v := 8) hx hb hW.2.1 hW.1 3 0 rfl rfl (by decide) d_HYearRows_put_55 ?_
          refine lv_icmp_ge (tgt := 98) hx hb d_HYearRows_put_56 (by decide) (fun c_5 => ?_) (fun c_5 => ?_)
          · exact absurd c_5 (by decide)
          · refine lv_aload_n hx hb d_HYearRows_put_59 rfl (lv_at hl 2 rfl) ?_
            refine q_get hB hW qc_15 0 rfl 0 (by decide) k251 rfl d_HYearRows_put_60 ?_
            refine lv_iload hx hb d_HYearRows_put_63 (lv_at hl 0 rfl) ?_
            refine lv_iload_n hx hb d_HYearRows_put_65 rfl (lv_at hl 3 rfl) ?_
            refine q_iast hB hW 1 0 rfl rfl (qin 0 rfl (by decide) (by decide)) (ws' := [(h0, .inr (15, [.ref a1, .ref a2, .ref a3, .int 0])), (a1, .inl (cA, 8, .inl (upd (fun _ => 0) (0 : Int32).toNatClampNeg v))), (a2, .inl (cA, 8, .inl (fun _ => 0))), (a3, .inl (cA, 8, .inl (fun _ => 0)))]) rfl d_HYearRows_put_66 (fun H locs hW => ?_)
            refine lv_aload_n hx hb d_HYearRows_put_67 rfl (lv_at hl 2 rfl) ?_
            refine q_get hB hW qc_15 0 rfl 1 (by decide) k252 rfl d_HYearRows_put_68 ?_
            refine lv_iload hx hb d_HYearRows_put_71 (lv_at hl 0 rfl) ?_
            refine lv_iload_n hx hb d_HYearRows_put_73 rfl (lv_at hl 4 rfl) ?_
            refine q_iast hB hW 2 0 rfl rfl (qin 0 rfl (by decide) (by decide)) (ws' := [(h0, .inr (15, [.ref a1, .ref a2, .ref a3, .int 0])), (a1, .inl (cA, 8, .inl (upd (fun _ => 0) (0 : Int32).toNatClampNeg v))), (a2, .inl (cA, 8, .inl (upd (fun _ => 0) (0 : Int32).toNatClampNeg w))), (a3, .inl (cA, 8, .inl (fun _ => 0)))]) rfl d_HYearRows_put_74 (fun H locs hW => ?_)
            refine lv_aload_n hx hb d_HYearRows_put_75 rfl (lv_at hl 2 rfl) ?_
            refine q_get hB hW qc_15 0 rfl 2 (by decide) k253 rfl d_HYearRows_put_76 ?_
            refine lv_iload hx hb d_HYearRows_put_79 (lv_at hl 0 rfl) ?_
            refine lv_iload_n hx hb d_HYearRows_put_81 rfl (lv_at hl 5 rfl) ?_
            refine q_iast hB hW 3 0 rfl rfl (qin 0 rfl (by decide) (by decide)) (ws' := [(h0, .inr (15, [.ref a1, .ref a2, .ref a3, .int 0])), (a1, .inl (cA, 8, .inl (upd (fun _ => 0) (0 : Int32).toNatClampNeg v))), (a2, .inl (cA, 8, .inl (upd (fun _ => 0) (0 : Int32).toNatClampNeg w))), (a3, .inl (cA, 8, .inl (upd (fun _ => 0) (0 : Int32).toNatClampNeg x)))]) rfl d_HYearRows_put_82 (fun H locs hW => ?_)
            refine lv_aload_n hx hb d_HYearRows_put_83 rfl (lv_at hl 2 rfl) ?_
            refine lv_aload_n hx hb d_HYearRows_put_84 rfl (lv_at hl 2 rfl) ?_
            refine q_get hB hW qc_15 0 rfl 3 (by decide) k254 rfl d_HYearRows_put_85 ?_
            refine lv_iload hx hb d_HYearRows_put_88 (lv_at hl 0 rfl) ?_
            refine lv_iconst (v := 1) hx hb d_HYearRows_put_90 (by decide) ?_
            refine lv_iadd hx hb d_HYearRows_put_91 ?_
            refine q_topi (v := 1) (by decide) ?_
            refine va_mmax hx hb (hB.2.2.2.1.trans hl.1.symm) hB.2.2.2.2.1 (hq _ k1261) (hq _ k1079) (hq _ k151) (hq _ k1080) (Nat.le_of_ble_eq_true rfl) (Nat.le_of_ble_eq_true rfl) (Nat.le_of_ble_eq_true rfl) (Nat.le_of_ble_eq_true rfl) d_HYearRows_put_92 ?_
            refine q_topi (v := 1) (by decide) ?_
            refine q_put hB hW qc_15 0 rfl 3 (by decide) k254 rfl  rfl rfl (Nat.le_of_ble_eq_true rfl) (ws' := [(h0, .inr (15, [.ref a1, .ref a2, .ref a3, .int 1])), (a1, .inl (cA, 8, .inl (upd (fun _ => 0) (0 : Int32).toNatClampNeg v))), (a2, .inl (cA, 8, .inl (upd (fun _ => 0) (0 : Int32).toNatClampNeg w))), (a3, .inl (cA, 8, .inl (upd (fun _ => 0) (0 : Int32).toNatClampNeg x)))]) rfl d_HYearRows_put_95 (fun H locs hW => ?_)
            refine lv_aload_n hx hb d_HYearRows_put_98 rfl (lv_at hl 2 rfl) ?_
            refine q_get hB hW qc_15 0 rfl 3 (by decide) k254 rfl d_HYearRows_put_99 ?_
            exact W.iret hx hb hB.2.2.1 (fun t ht hWm => ⟨⟨1, (), rfl, rfl, qH_end hW [] [] rfl rfl rfl rfl ht hWm⟩, hW.2.2.2.1.F ht⟩) hW.2.2.2.1.2.2 d_HYearRows_put_102 hB.2.2.2.2.2.2.1
set_option maxHeartbeats 4000000 in
set_option maxRecDepth 100000 in
/-- add, of the first fact -/
theorem cw_Fa_add (l : Launch) (D : va_G) (sz : Nat) (h0 a1 a2 a3 a4 a5 a6 : Nat) (cA : ClassId) (v w : Int32) : Met l ⟨"Locihall$Facts", "add", "(II)I"⟩ (.code ⟨"Locihall$Facts", "add", "(II)I"⟩ prog_3_method_2_code 3 (some .int) :: qw) ({ frames := 0, cells := 0, slots := 0, locals := 0 }) (va_Pc [.ref h0, .int v, .int w] (qPre D [(h0, .inr (6, [.ref a1, .ref a2, .ref a3, .ref a4, .int 0, .ref a5, .ref a6, .int 0, .int 0])), (a1, .inl (cA, 12, .inl (fun _ => 0))), (a2, .inl (cA, 12, .inl (fun _ => 0))), (a3, .inl (cA, 12, .inl (fun _ => 0)))] [(cA, .int)] sz)) (va_Qi (fun (r0 : Int32) (_ : Unit) => r0 = 0) (fun _ => qPost D [] [] (va_A [(h0, .inr (6, [.ref a1, .ref a2, .ref a3, .ref a4, .int 0, .ref a5, .ref a6, .int 0, .int 0])), (a1, .inl (cA, 12, .inl (fun _ => 0))), (a2, .inl (cA, 12, .inl (fun _ => 0))), (a3, .inl (cA, 12, .inl (fun _ => 0)))] sz)) (va_A [(h0, .inr (6, [.ref a1, .ref a2, .ref a3, .ref a4, .int 0, .ref a5, .ref a6, .int 0, .int 0])), (a1, .inl (cA, 12, .inl (fun _ => 0))), (a2, .inl (cA, 12, .inl (fun _ => 0))), (a3, .inl (cA, 12, .inl (fun _ => 0)))] sz)) 0 0 (va_A [(h0, .inr (6, [.ref a1, .ref a2, .ref a3, .ref a4, .int 0, .ref a5, .ref a6, .int 0, .int 0])), (a1, .inl (cA, 12, .inl (fun _ => 0))), (a2, .inl (cA, 12, .inl (fun _ => 0))), (a3, .inl (cA, 12, .inl (fun _ => 0)))] sz) := by
  refine q_start (by decide) (Nat.le_of_ble_eq_true rfl) ?_
  intro p e s m below meth c hB hin hpre ls hl
  have hW := qH_start hpre
  have hx := hB.1
  have hb := hB.2.1
  have hq := hB.2.2.2.2.2.1
  have hl : lv_has ls 3 [(0, .ref h0), (1, .int v), (2, .int w)] := hl
  refine lv_aload_n hx hb d_HFacts_add_0 rfl (lv_at hl 0 rfl) ?_
  refine q_get hB hW qc_6 0 rfl 4 (by decide) k375 rfl d_HFacts_add_1 ?_
  refine lv_bipush (v := 12) hx hb d_HFacts_add_4 (by decide) ?_
  refine lv_icmp_ge (tgt := 49) hx hb d_HFacts_add_6 (by decide) (fun c_1 => ?_) (fun c_1 => ?_)
  · exact absurd c_1 (by decide)
  · refine lv_aload_n hx hb d_HFacts_add_9 rfl (lv_at hl 0 rfl) ?_
    refine q_get hB hW qc_6 0 rfl 0 (by decide) k370 rfl d_HFacts_add_10 ?_
    refine lv_aload_n hx hb d_HFacts_add_13 rfl (lv_at hl 0 rfl) ?_
    refine q_get hB hW qc_6 0 rfl 4 (by decide) k375 rfl d_HFacts_add_14 ?_
    refine lv_iload_n hx hb d_HFacts_add_17 rfl (lv_at hl 1 rfl) ?_
    refine q_iast hB hW 1 0 rfl rfl (qin 0 rfl (by decide) (by decide)) (ws' := [(h0, .inr (6, [.ref a1, .ref a2, .ref a3, .ref a4, .int 0, .ref a5, .ref a6, .int 0, .int 0])), (a1, .inl (cA, 12, .inl (upd (fun _ => 0) (0 : Int32).toNatClampNeg v))), (a2, .inl (cA, 12, .inl (fun _ => 0))), (a3, .inl (cA, 12, .inl (fun _ => 0)))]) rfl d_HFacts_add_18 (fun H locs hW => ?_)
    refine lv_aload_n hx hb d_HFacts_add_19 rfl (lv_at hl 0 rfl) ?_
    refine q_get hB hW qc_6 0 rfl 1 (by decide) k371 rfl d_HFacts_add_20 ?_
    refine lv_aload_n hx hb d_HFacts_add_23 rfl (lv_at hl 0 rfl) ?_
    refine q_get hB hW qc_6 0 rfl 4 (by decide) k375 rfl d_HFacts_add_24 ?_
    refine lv_iconst (v := 1) hx hb d_HFacts_add_27 (by decide) ?_
    refine q_iast hB hW 2 0 rfl rfl (qin 0 rfl (by decide) (by decide)) (ws' := [(h0, .inr (6, [.ref a1, .ref a2, .ref a3, .ref a4, .int 0, .ref a5, .ref a6, .int 0, .int 0])), (a1, .inl (cA, 12, .inl (upd (fun _ => 0) (0 : Int32).toNatClampNeg v))), (a2, .inl (cA, 12, .inl (upd (fun _ => 0) (0 : Int32).toNatClampNeg 1))), (a3, .inl (cA, 12, .inl (fun _ => 0)))]) rfl d_HFacts_add_28 (fun H locs hW => ?_)
    refine lv_aload_n hx hb d_HFacts_add_29 rfl (lv_at hl 0 rfl) ?_
    refine q_get hB hW qc_6 0 rfl 2 (by decide) k373 rfl d_HFacts_add_30 ?_
    refine lv_aload_n hx hb d_HFacts_add_33 rfl (lv_at hl 0 rfl) ?_
    refine q_get hB hW qc_6 0 rfl 4 (by decide) k375 rfl d_HFacts_add_34 ?_
    refine lv_iload_n hx hb d_HFacts_add_37 rfl (lv_at hl 2 rfl) ?_
    refine q_iast hB hW 3 0 rfl rfl (qin 0 rfl (by decide) (by decide)) (ws' := [(h0, .inr (6, [.ref a1, .ref a2, .ref a3, .ref a4, .int 0, .ref a5, .ref a6, .int 0, .int 0])), (a1, .inl (cA, 12, .inl (upd (fun _ => 0) (0 : Int32).toNatClampNeg v))), (a2, .inl (cA, 12, .inl (upd (fun _ => 0) (0 : Int32).toNatClampNeg 1))), (a3, .inl (cA, 12, .inl (upd (fun _ => 0) (0 : Int32).toNatClampNeg w)))]) rfl d_HFacts_add_38 (fun H locs hW => ?_)
    refine lv_aload_n hx hb d_HFacts_add_39 rfl (lv_at hl 0 rfl) ?_
    refine lv_dup hx hb d_HFacts_add_40 rfl ?_
    refine q_get hB hW qc_6 0 rfl 4 (by decide) k375 rfl d_HFacts_add_41 ?_
    refine lv_iconst (v := 1) hx hb d_HFacts_add_44 (by decide) ?_
    refine lv_iadd hx hb d_HFacts_add_45 ?_
    refine q_topi (v := 1) (by decide) ?_
    refine q_put hB hW qc_6 0 rfl 4 (by decide) k375 rfl  rfl rfl (Nat.le_of_ble_eq_true rfl) (ws' := [(h0, .inr (6, [.ref a1, .ref a2, .ref a3, .ref a4, .int 1, .ref a5, .ref a6, .int 0, .int 0])), (a1, .inl (cA, 12, .inl (upd (fun _ => 0) (0 : Int32).toNatClampNeg v))), (a2, .inl (cA, 12, .inl (upd (fun _ => 0) (0 : Int32).toNatClampNeg 1))), (a3, .inl (cA, 12, .inl (upd (fun _ => 0) (0 : Int32).toNatClampNeg w)))]) rfl d_HFacts_add_46 (fun H locs hW => ?_)
    refine lv_aload_n hx hb d_HFacts_add_49 rfl (lv_at hl 0 rfl) ?_
    refine q_get hB hW qc_6 0 rfl 4 (by decide) k375 rfl d_HFacts_add_50 ?_
    refine lv_iconst (v := 1) hx hb d_HFacts_add_53 (by decide) ?_
    refine lv_isub hx hb d_HFacts_add_54 ?_
    refine q_topi (v := 0) (by decide) ?_
    exact W.iret hx hb hB.2.2.1 (fun t ht hWm => ⟨⟨0, (), rfl, rfl, qH_end hW [] [] rfl rfl rfl rfl ht hWm⟩, hW.2.2.2.1.F ht⟩) hW.2.2.2.1.2.2 d_HFacts_add_55 hB.2.2.2.2.2.2.1
set_option maxHeartbeats 4000000 in
set_option maxRecDepth 100000 in
/-- strengthenBySleep, without a palace -/
theorem cw_Mi_sleep (l : Launch) (D : va_G) (sz : Nat) (h0 a1 a2 : Nat) (hr : Int32) : Met l ⟨"Locihall$Mind", "strengthenBySleep", "()I"⟩ (.code ⟨"Locihall$Mind", "strengthenBySleep", "()I"⟩ prog_6_method_18_code 5 (some .int) :: qw) ({ frames := 0, cells := 0, slots := 0, locals := 0 }) (va_Pc [.ref h0] (qPre D [(h0, .inr (9, [.ref a1, .ref a2, .int 0, .int hr, .int 20, .int 0]))] [] sz)) (va_Qi (fun (r0 : Int32) (_ : Unit) => r0 = 0) (fun _ => qPost D [] [] (va_A [(h0, .inr (9, [.ref a1, .ref a2, .int 0, .int hr, .int 20, .int 0]))] sz)) (va_A [(h0, .inr (9, [.ref a1, .ref a2, .int 0, .int hr, .int 20, .int 0]))] sz)) 0 0 (va_A [(h0, .inr (9, [.ref a1, .ref a2, .int 0, .int hr, .int 20, .int 0]))] sz) := by
  refine q_start (by decide) (Nat.le_of_ble_eq_true rfl) ?_
  intro p e s m below meth c hB hin hpre ls hl
  have hW := qH_start hpre
  have hx := hB.1
  have hb := hB.2.1
  have hq := hB.2.2.2.2.2.1
  have hl : lv_has ls 5 [(0, .ref h0)] := hl
  refine lv_iconst (v := 0) hx hb d_HMind_strengthenBySleep_0 (by decide) ?_
  refine lv_istore_n (lv' := [(1, .int 0), (0, .ref h0)]) hx hb d_HMind_strengthenBySleep_1 rfl hl (by decide) rfl (fun ls hl => ?_)
  refine lv_iconst (v := 0) hx hb d_HMind_strengthenBySleep_2 (by decide) ?_
  refine lv_istore_n (lv' := [(2, .int 0), (1, .int 0), (0, .ref h0)]) hx hb d_HMind_strengthenBySleep_3 rfl hl (by decide) rfl (fun ls hl => ?_)
  refine lv_iload_n hx hb d_HMind_strengthenBySleep_4 rfl (lv_at hl 0 rfl) ?_
  refine lv_aload_n hx hb d_HMind_strengthenBySleep_5 rfl (lv_at hl 2 rfl) ?_
  refine q_get hB hW qc_9 0 rfl 2 (by decide) k225 rfl d_HMind_strengthenBySleep_6 ?_
  refine lv_icmp_ge (tgt := 59) hx hb d_HMind_strengthenBySleep_9 (by decide) (fun c_1 => ?_) (fun c_1 => ?_)
  · refine lv_aload_n hx hb d_HMind_strengthenBySleep_59 rfl (lv_at hl 2 rfl) ?_
    refine lv_aload_n hx hb d_HMind_strengthenBySleep_60 rfl (lv_at hl 2 rfl) ?_
    refine q_get hB hW qc_9 0 rfl 3 (by decide) k227 rfl d_HMind_strengthenBySleep_61 ?_
    refine q_put hB hW qc_9 0 rfl 5 (by decide) k231 rfl  rfl rfl (Nat.le_of_ble_eq_true rfl) (ws' := [(h0, .inr (9, [.ref a1, .ref a2, .int 0, .int hr, .int 20, .int hr]))]) rfl d_HMind_strengthenBySleep_64 (fun H locs hW => ?_)
    refine lv_iload_n hx hb d_HMind_strengthenBySleep_67 rfl (lv_at hl 1 rfl) ?_
    exact W.iret hx hb hB.2.2.1 (fun t ht hWm => ⟨⟨0, (), rfl, rfl, qH_end hW [] [] rfl rfl rfl rfl ht hWm⟩, hW.2.2.2.1.F ht⟩) hW.2.2.2.1.2.2 d_HMind_strengthenBySleep_68 hB.2.2.2.2.2.2.1
  · exact absurd c_1 (by decide)
