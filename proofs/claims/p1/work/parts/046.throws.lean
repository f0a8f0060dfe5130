/-- which exception a call ends with: the j-th of its wrapper's list, where the operation's number is j + 1 -/
def qx (L : List String) (k : Int32) (E : String) : Prop := ∃ j : Nat, L[j]? = some E ∧ k = nI (j + 1)
abbrev qX (P : String → Prop) (A : Nat → Prop) : String → State → State → Prop := vx_X (fun _ : Unit => True) (fun E _ _ => P E) A
theorem q_startX {l : Launch} {y : MethodName} {cc : ByteArray} {n : Nat} {ret : Option FieldType} {rm : Room} {Pre : State → Prop} {av : List Value} {Qc : Array Value → State → Outcome → State → Prop} {XC : String → State → State → Prop} {mc ms : Nat} {free : Addr → Prop} (hy : plainName y.cls = true) (hn : (lg_sl av).length ≤ n)
    (body : ∀ (p : Program) (e : Env) (s : State) (m : MethodId) (below : List Frame) (meth : Method) (c : Code), qB p s m av.toArray meth c cc n ret y.cls → (∀ x ∈ c.exceptionTable.toList, False) → Pre s → ∀ ls : Array Slot, lv_has ls n (lv_args 0 av) →
      W p l e rm s m av.toArray below meth c s.heap [] 0 0 (vx_MQ below Qc XC av.toArray s mc ms free) (F0 m 0 ls [])) :
    vx_Met l y (.code y cc n ret :: qw) rm (va_Pc av Pre) Qc XC mc ms free := by
  refine vx_ofW (cc := cc) (maxL := n) (ret := ret) hy rfl ?_
  intro p e s m args below meth c s₁ B hml hno hv
  obtain ⟨rfl, hpre⟩ := hv
  have hts := atoms_spec (ws := .code y cc n ret :: qw) B.pre
  have hown : s.vm.findClass y.cls = some m.cls := findClass_of_methodNamed B.named
  have hl := lv_entry av (n := n) hn
  rw [lg_entry_eq]
  generalize (lg_sl av ++ List.replicate (n - (lg_sl av).length) Slot.unset).toArray = ls at hl ⊢
  exact body p e s m below meth c ⟨B.exec, B.bytes, B.returns, hml, hown, fun w h => hts w (List.mem_cons_of_mem _ h), B.notSynchronized, rfl⟩ hno hpre ls hl
/-- a method with a table of its own that returns -/
theorem q_startH {l : Launch} {y : MethodName} {cc : ByteArray} {n : Nat} {ret : Option FieldType} {hh : List (Nat × Nat × Nat × Nat)} {rm : Room} {Pre : State → Prop} {av : List Value} {Qc : Array Value → State → Outcome → State → Prop} {mc ms : Nat} {free : Addr → Prop} (hy : plainName y.cls = true) (hn : (lg_sl av).length ≤ n)
    (body : ∀ (p : Program) (e : Env) (s : State) (m : MethodId) (below : List Frame) (meth : Method) (c : Code), qB p s m av.toArray meth c cc n ret y.cls → c.exceptionTable.toList = tableOf hh → Pre s → ∀ ls : Array Slot, lv_has ls n (lv_args 0 av) →
      W p l e rm s m av.toArray below meth c s.heap [] 0 0 (MQ below Qc av.toArray s mc ms free) (F0 m 0 ls [])) :
    Met l y (.codeWith y cc n ret hh :: qw) rm (va_Pc av Pre) Qc mc ms free := by
  refine va_MetW (cc := cc) (maxL := n) (ret := ret) (hh := hh) hy rfl ?_
  intro p e s m args below meth c s₁ B hml hv
  obtain ⟨rfl, hpre⟩ := hv
  have hts := atoms_spec (ws := .codeWith y cc n ret hh :: qw) B.pre
  have hown : s.vm.findClass y.cls = some m.cls := findClass_of_methodNamed B.named
  have htab := vx_table (x := y) B (hts _ List.mem_cons_self)
  have hl := lv_entry av (n := n) hn
  rw [lg_entry_eq]
  generalize (lg_sl av ++ List.replicate (n - (lg_sl av).length) Slot.unset).toArray = ls at hl ⊢
  exact body p e s m below meth c ⟨B.exec, B.bytes, B.returns, hml, hown, fun w h => hts w (List.mem_cons_of_mem _ h), B.notSynchronized, rfl⟩ htab hpre ls hl
section QT
variable {p : Program} {l : Launch} {e : Env} {R : Room} {s : State} {m : MethodId} {args : Array Value} {below : List Frame} {meth : Method} {c : Code} {H : Heap} {locs : List Loc} {cells slots : Nat} {Q : State → Prop}
variable {cc : ByteArray} {nL pc : Nat} {ret : Option FieldType} {own : String} {ls : Array Slot} {rest : List Value} {D : va_G} {A : Nat → Prop} {ws : va_W} {tys : List (ClassId × FieldType)}
theorem qE_at (hB : qB p s m args meth c cc nL ret own) (hW : qH D A s H locs ws tys) {L : List Cond} (h : ∀ w ∈ L, w ∈ lw_tbl ∧ (goodWord w || qn_ok w) = true) : ∀ w ∈ L, w.before args s = true := fun w hw => by
  obtain ⟨h1, h2⟩ := h w hw
  rcases Bool.or_eq_true _ _ |>.mp h2 with h3 | h3
  · exact hB.2.2.2.2.2.1 w (List.mem_filter.mpr ⟨h1, h3⟩)
  · exact va_Nw.use (by cases w <;> first | rfl | simp [qn_ok] at h3) (hW.2.2.2.2.2.1 w h1 h3)
theorem q_throw {Qc : Array Value → State → Outcome → State → Prop} {P : String → Prop} {mc ms : Nat} (hB : qB p s m args meth c cc nL ret own) (hW : qH D A s H locs ws tys) (hfl : l.stackTraces = false) (hno : ∀ x ∈ c.exceptionTable.toList, False)
    {cls text : String} {ik is ic : Nat} (hcls : Bundle.fit cls = true) (hk : Cond.classLink own ik cls ∈ qw) (hini : Cond.initialized cls ∈ qw) (hstr : Cond.stringRef own is text ∈ lw_tbl)
    (hat : ∀ w ∈ vx_atS own ic cls ["java/lang/RuntimeException", "java/lang/Exception"], w ∈ lw_tbl ∧ (goodWord w || qn_ok w) = true) (hgood : ∀ w ∈ Cond.classLink own ik cls :: Cond.initialized cls :: vx_atS own ic cls ["java/lang/RuntimeException", "java/lang/Exception"], vx_ot w = true) (hls : ls.size = nL)
    (d0 : decode cc pc = .ok (.new ik, 3)) (d3 : decode cc (pc + 3) = .ok (.dup, 1)) (d4 : decode cc (pc + 4) = .ok (.ldc is, 2)) (d6 : decode cc (pc + 6) = .ok (.invokespecial ic, 3)) (d9 : decode cc (pc + 9) = .ok (.athrow, 1))
    (hRf : 5 < R.frames) (hRl : (rest.map fun v => v.category).sum + 82 ≤ R.locals) (hRc : cells + 1 ≤ R.cells) (hRs : slots + 6 ≤ R.slots) (hc : cells + 1 ≤ mc) (hs : slots + 6 ≤ ms) (hP : P cls) :
    W p l e R s m args below meth c H locs cells slots (vx_MQ below Qc (qX P A) args s mc ms A) (F0 m pc ls rest) := by
  obtain ⟨sa, hsa⟩ := hW.2.2.2.2.2.2.2.2.1 _ _ _ hstr
  exact vx_throwS (names := ["java/lang/RuntimeException", "java/lang/Exception"]) hB.1 hB.2.1 hfl hB.2.2.2.2.1 hcls (by decide +kernel) (hB.2.2.2.2.2.1 _ hk) (hB.2.2.2.2.2.1 _ hini) hsa (qE_at hB hW hat) hgood hW.2.2.2.2.2.2.1 hW.2.2.2.2.2.2.2.1 hW.2.2.2.1 (hls.trans hB.2.2.2.1.symm) d0 d3 d4 d6 d9 (fun x hx => (hno x hx).elim) hRf hRl hRc hRs hB.2.2.2.2.2.2.1
    (fun t _ hz hk => ⟨(), trivial, hP, Nat.le_trans hW.2.2.2.1.1 hz, fun q h1 h2 => by rw [hk q (Nat.lt_of_lt_of_le h1 hW.2.2.2.1.1)]; exact hW.2.2.2.1.2.1 q h1 h2⟩) hW.2.2.2.1.2.2 hc hs
theorem q_throwW {Qc : Array Value → State → Outcome → State → Prop} {P : String → Prop} {mc ms : Nat} (hB : qB p s m args meth c cc nL ret own) (hW : qH D A s H locs ws tys) (hfl : l.stackTraces = false) (hno : ∀ x ∈ c.exceptionTable.toList, False)
    {cls text : String} {ik is ic : Nat} (hcls : Bundle.fit cls = true) (hk : Cond.classLink own ik cls ∈ qw) (hini : Cond.initialized cls ∈ qw) (hstr : Cond.stringRef own is text ∈ lw_tbl)
    (hat : ∀ w ∈ vx_atS own ic cls ["java/lang/RuntimeException", "java/lang/Exception"], w ∈ lw_tbl ∧ (goodWord w || qn_ok w) = true) (hgood : ∀ w ∈ Cond.classLink own ik cls :: Cond.initialized cls :: vx_atS own ic cls ["java/lang/RuntimeException", "java/lang/Exception"], vx_ot w = true) (hls : ls.size = nL)
    (d0 : decode cc pc = .ok (.new ik, 3)) (d3 : decode cc (pc + 3) = .ok (.dup, 1)) (d4 : decode cc (pc + 4) = .ok (.ldc_w is, 3)) (d6 : decode cc (pc + 7) = .ok (.invokespecial ic, 3)) (d9 : decode cc (pc + 10) = .ok (.athrow, 1))
    (hRf : 5 < R.frames) (hRl : (rest.map fun v => v.category).sum + 82 ≤ R.locals) (hRc : cells + 1 ≤ R.cells) (hRs : slots + 6 ≤ R.slots) (hc : cells + 1 ≤ mc) (hs : slots + 6 ≤ ms) (hP : P cls) :
    W p l e R s m args below meth c H locs cells slots (vx_MQ below Qc (qX P A) args s mc ms A) (F0 m pc ls rest) := by
  obtain ⟨sa, hsa⟩ := hW.2.2.2.2.2.2.2.2.1 _ _ _ hstr
  exact vx_throwSW (names := ["java/lang/RuntimeException", "java/lang/Exception"]) hB.1 hB.2.1 hfl hB.2.2.2.2.1 hcls (by decide +kernel) (hB.2.2.2.2.2.1 _ hk) (hB.2.2.2.2.2.1 _ hini) hsa (qE_at hB hW hat) hgood hW.2.2.2.2.2.2.1 hW.2.2.2.2.2.2.2.1 hW.2.2.2.1 (hls.trans hB.2.2.2.1.symm) d0 d3 d4 d6 d9 (fun x hx => (hno x hx).elim) hRf hRl hRc hRs hB.2.2.2.2.2.2.1
    (fun t _ hz hk => ⟨(), trivial, hP, Nat.le_trans hW.2.2.2.1.1 hz, fun q h1 h2 => by rw [hk q (Nat.lt_of_lt_of_le h1 hW.2.2.2.1.1)]; exact hW.2.2.2.1.2.1 q h1 h2⟩) hW.2.2.2.1.2.2 hc hs
theorem q_throwX {ix : Nat} {rx : ByteArray} (x0 : decode rx 0 = .ok (.aload_n 0, 1)) (x1 : decode rx 1 = .ok (.aload_n 1, 1)) (x2 : decode rx 2 = .ok (.invokespecial ix, 3)) (x5 : decode rx 5 = .ok (.return_, 1)) {Qc : Array Value → State → Outcome → State → Prop} {P : String → Prop} {mc ms : Nat} (hB : qB p s m args meth c cc nL ret own) (hW : qH D A s H locs ws tys) (hfl : l.stackTraces = false) (hno : ∀ x ∈ c.exceptionTable.toList, False)
    {cls text : String} {ik is ic : Nat} (hcls : Bundle.fit cls = true) (hk : Cond.classLink own ik cls ∈ qw) (hini : Cond.initialized cls ∈ qw) (hstr : Cond.stringRef own is text ∈ lw_tbl)
    (hat : ∀ w ∈ qx_atS own ic cls ix rx ["java/lang/RuntimeException", "java/lang/Exception"], w ∈ lw_tbl ∧ (goodWord w || qn_ok w) = true) (hgood : ∀ w ∈ Cond.classLink own ik cls :: Cond.initialized cls :: qx_atS own ic cls ix rx ["java/lang/RuntimeException", "java/lang/Exception"], vx_ot w = true) (hls : ls.size = nL)
    (d0 : decode cc pc = .ok (.new ik, 3)) (d3 : decode cc (pc + 3) = .ok (.dup, 1)) (d4 : decode cc (pc + 4) = .ok (.ldc is, 2)) (d6 : decode cc (pc + 6) = .ok (.invokespecial ic, 3)) (d9 : decode cc (pc + 9) = .ok (.athrow, 1))
    (hRf : 5 < R.frames) (hRl : (rest.map fun v => v.category).sum + 82 ≤ R.locals) (hRc : cells + 1 ≤ R.cells) (hRs : slots + 6 ≤ R.slots) (hc : cells + 1 ≤ mc) (hs : slots + 6 ≤ ms) (hP : P cls) :
    W p l e R s m args below meth c H locs cells slots (vx_MQ below Qc (qX P A) args s mc ms A) (F0 m pc ls rest) := by
  obtain ⟨sa, hsa⟩ := hW.2.2.2.2.2.2.2.2.1 _ _ _ hstr
  exact qx_throwS x0 x1 x2 x5 (names := ["java/lang/RuntimeException", "java/lang/Exception"]) hB.1 hB.2.1 hfl hB.2.2.2.2.1 hcls (by decide +kernel) (hB.2.2.2.2.2.1 _ hk) (hB.2.2.2.2.2.1 _ hini) hsa (qE_at hB hW hat) hgood hW.2.2.2.2.2.2.1 hW.2.2.2.2.2.2.2.1 hW.2.2.2.1 (hls.trans hB.2.2.2.1.symm) d0 d3 d4 d6 d9 (fun x hx => (hno x hx).elim) hRf hRl hRc hRs hB.2.2.2.2.2.2.1
    (fun t _ hz hk => ⟨(), trivial, hP, Nat.le_trans hW.2.2.2.1.1 hz, fun q h1 h2 => by rw [hk q (Nat.lt_of_lt_of_le h1 hW.2.2.2.1.1)]; exact hW.2.2.2.1.2.1 q h1 h2⟩) hW.2.2.2.1.2.2 hc hs
theorem q_throwWX {ix : Nat} {rx : ByteArray} (x0 : decode rx 0 = .ok (.aload_n 0, 1)) (x1 : decode rx 1 = .ok (.aload_n 1, 1)) (x2 : decode rx 2 = .ok (.invokespecial ix, 3)) (x5 : decode rx 5 = .ok (.return_, 1)) {Qc : Array Value → State → Outcome → State → Prop} {P : String → Prop} {mc ms : Nat} (hB : qB p s m args meth c cc nL ret own) (hW : qH D A s H locs ws tys) (hfl : l.stackTraces = false) (hno : ∀ x ∈ c.exceptionTable.toList, False)
    {cls text : String} {ik is ic : Nat} (hcls : Bundle.fit cls = true) (hk : Cond.classLink own ik cls ∈ qw) (hini : Cond.initialized cls ∈ qw) (hstr : Cond.stringRef own is text ∈ lw_tbl)
    (hat : ∀ w ∈ qx_atS own ic cls ix rx ["java/lang/RuntimeException", "java/lang/Exception"], w ∈ lw_tbl ∧ (goodWord w || qn_ok w) = true) (hgood : ∀ w ∈ Cond.classLink own ik cls :: Cond.initialized cls :: qx_atS own ic cls ix rx ["java/lang/RuntimeException", "java/lang/Exception"], vx_ot w = true) (hls : ls.size = nL)
    (d0 : decode cc pc = .ok (.new ik, 3)) (d3 : decode cc (pc + 3) = .ok (.dup, 1)) (d4 : decode cc (pc + 4) = .ok (.ldc_w is, 3)) (d6 : decode cc (pc + 7) = .ok (.invokespecial ic, 3)) (d9 : decode cc (pc + 10) = .ok (.athrow, 1))
    (hRf : 5 < R.frames) (hRl : (rest.map fun v => v.category).sum + 82 ≤ R.locals) (hRc : cells + 1 ≤ R.cells) (hRs : slots + 6 ≤ R.slots) (hc : cells + 1 ≤ mc) (hs : slots + 6 ≤ ms) (hP : P cls) :
    W p l e R s m args below meth c H locs cells slots (vx_MQ below Qc (qX P A) args s mc ms A) (F0 m pc ls rest) := by
  obtain ⟨sa, hsa⟩ := hW.2.2.2.2.2.2.2.2.1 _ _ _ hstr
  exact qx_throwSW x0 x1 x2 x5 (names := ["java/lang/RuntimeException", "java/lang/Exception"]) hB.1 hB.2.1 hfl hB.2.2.2.2.1 hcls (by decide +kernel) (hB.2.2.2.2.2.1 _ hk) (hB.2.2.2.2.2.1 _ hini) hsa (qE_at hB hW hat) hgood hW.2.2.2.2.2.2.1 hW.2.2.2.2.2.2.2.1 hW.2.2.2.1 (hls.trans hB.2.2.2.1.symm) d0 d3 d4 d6 d9 (fun x hx => (hno x hx).elim) hRf hRl hRc hRs hB.2.2.2.2.2.2.1
    (fun t _ hz hk => ⟨(), trivial, hP, Nat.le_trans hW.2.2.2.1.1 hz, fun q h1 h2 => by rw [hk q (Nat.lt_of_lt_of_le h1 hW.2.2.2.1.1)]; exact hW.2.2.2.1.2.1 q h1 h2⟩) hW.2.2.2.1.2.2 hc hs
end QT
