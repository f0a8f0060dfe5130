theorem fa_lt' (a b : Int32) : a < b ↔ a.toInt < b.toInt := Int32.lt_iff_toInt_lt
theorem qwide_lt (a b : Int32) : a.toInt64 < b.toInt64 ↔ a < b := by rw [Int64.lt_iff_toInt_lt, Int32.lt_iff_toInt_lt, Int32.toInt_toInt64, Int32.toInt_toInt64]
theorem qwide_eq (a b : Int32) : a.toInt64 = b.toInt64 ↔ a = b := by rw [← Int64.toInt_inj, ← Int32.toInt_inj, Int32.toInt_toInt64, Int32.toInt_toInt64]
theorem qcm_3 (x y : Int32) : (y < x ∧ lg_cmp x.toInt64 y.toInt64 = 1) ∨ (¬ y < x ∧ x = y ∧ lg_cmp x.toInt64 y.toInt64 = 0) ∨ (¬ y < x ∧ ¬ x = y ∧ x < y ∧ lg_cmp x.toInt64 y.toInt64 = -1) := by
  unfold lg_cmp
  by_cases h1 : y < x
  · exact Or.inl ⟨h1, if_pos ((qwide_lt y x).mpr h1)⟩
  · rw [if_neg (fun q => h1 ((qwide_lt y x).mp q))]
    by_cases h2 : x = y
    · exact Or.inr (Or.inl ⟨h1, h2, if_pos ((qwide_eq x y).mpr h2)⟩)
    · refine Or.inr (Or.inr ⟨h1, h2, ?_, if_neg (fun q => h2 ((qwide_eq x y).mp q))⟩)
      rw [Int32.lt_iff_toInt_lt] at h1 ⊢
      rw [← Int32.toInt_inj] at h2
      omega
theorem qnlt {x y : Int32} (h : x < y) : ¬ y < x ∧ ¬ x = y := by
  rw [Int32.lt_iff_toInt_lt] at h
  rw [Int32.lt_iff_toInt_lt, ← Int32.toInt_inj]
  omega
theorem qcm_lt {x y : Int32} (h : lg_cmp x.toInt64 y.toInt64 < 0) : x < y := by
  rcases qcm_3 x y with ⟨_, q⟩ | ⟨_, _, q⟩ | ⟨_, _, a, q⟩ <;> first | exact a | (rw [q] at h; exact absurd h (by decide))
theorem qcm_nlt {x y : Int32} (h : ¬ lg_cmp x.toInt64 y.toInt64 < 0) : ¬ x < y := by
  rcases qcm_3 x y with ⟨a, q⟩ | ⟨a, b, q⟩ | ⟨_, _, a, q⟩
  · exact (qnlt a).1
  · rw [b]; rw [Int32.lt_iff_toInt_lt]; omega
  · rw [q] at h; exact absurd (by decide) h
theorem qcm_gt {x y : Int32} (h : 0 < lg_cmp x.toInt64 y.toInt64) : y < x := by
  rcases qcm_3 x y with ⟨a, q⟩ | ⟨_, _, q⟩ | ⟨_, _, _, q⟩ <;> first | exact a | (rw [q] at h; exact absurd h (by decide))
theorem qcm_ngt {x y : Int32} (h : ¬ 0 < lg_cmp x.toInt64 y.toInt64) : ¬ y < x := by
  rcases qcm_3 x y with ⟨a, q⟩ | ⟨a, _, q⟩ | ⟨a, _, _, q⟩
  · rw [q] at h; exact absurd (by decide) h
  · exact a
  · exact a
theorem qcm_eq {x y : Int32} (h : lg_cmp x.toInt64 y.toInt64 = 0) : x = y := by
  rcases qcm_3 x y with ⟨_, q⟩ | ⟨_, a, q⟩ | ⟨_, _, _, q⟩ <;> first | exact a | (rw [q] at h; exact absurd h (by decide))
theorem qcm_neq {x y : Int32} (h : ¬ lg_cmp x.toInt64 y.toInt64 = 0) : ¬ x = y := by
  rcases qcm_3 x y with ⟨a, q⟩ | ⟨_, _, q⟩ | ⟨_, a, _, q⟩
  · exact fun e => (qnlt a).2 e.symm
  · rw [q] at h; exact absurd rfl h
  · exact a
/-- what a writer leaves -/
def qPost (D : va_G) (w1 : va_W) (t1 : List (ClassId × FieldType)) (A1 : Nat → Prop) (t : State) : Prop := va_P D vwCl w1 t.heap ∧ va_K D vwCl t1 t ∧ va_D A1 w1
theorem qH_end {D : va_G} {A : Nat → Prop} {s : State} {H : Heap} {locs : List Loc} {ws w1 : va_W} {tys t1 : List (ClassId × FieldType)} (h : qH D A s H locs ws tys) (is ts : List Nat) (hn : va_nd is = true) (hs : is.map (fun i => ws[i]?) = w1.map some) (hs2 : is.filterMap (fun i => ws[i]?) = w1) (ht : ts.filterMap (fun i => tys[i]?) = t1) {t : State} (hh : t.heap = H) (hW : s.WarmedH t.vm) : qPost D w1 t1 A t :=
  ⟨by rw [hh]; exact h.1.sub is hs2, va_K.moved hW.alike (h.2.1.sub ts ht), h.2.2.1.sub is hn hs⟩
theorem qH_join {D : va_G} {A : Nat → Prop} {s t : State} {H H1 : Heap} {locs locs1 : List Loc} {ws wc wr w1 : va_W} {tys t1 : List (ClassId × FieldType)} (h : qH D A s H locs ws tys) (isC isR : List Nat) (hC : isC.map (fun i => ws[i]?) = wc.map some) (hR : isR.map (fun i => ws[i]?) = wr.map some) (hn : va_nd isR = true) (hdis : ∀ i ∈ isR, i ∉ isC)
    (ht : t.heap = H1) (hvm : s.vm.Alike t.vm) (hp : qPost D w1 t1 (va_A wc H.size) t) (hk : ∀ q : Nat, q < H.size → ¬ va_A wc H.size q → H1[q]? = H[q]?) (hS1 : va_S A s.heap H1 locs1) : qH D A s H1 locs1 (wr ++ w1) (tys ++ t1) := by
  obtain ⟨hP, hK, hD, hS, hA, hE⟩ := h
  obtain ⟨hP1, hK1, hD1⟩ := hp
  have hF := va_free (wc := wc) hD hS hA isC hC
  obtain ⟨a, b⟩ := va_join (wr := wr) (w1 := w1) hP hD isC isR hC hR hn hdis hk hF (ht ▸ hP1) hD1
  exact ⟨a, hK.app (va_K.moved hvm.symm hK1), b, hS1, hA, hE⟩
theorem qH_free {D : va_G} {A : Nat → Prop} {s : State} {H : Heap} {locs : List Loc} {ws wc : va_W} {tys : List (ClassId × FieldType)} (h : qH D A s H locs ws tys) (isC : List Nat) (hC : isC.map (fun i => ws[i]?) = wc.map some) : ∀ q, va_A wc H.size q → A q := va_free h.2.2.1 h.2.2.2.1 h.2.2.2.2.1 isC hC
section QC
variable {p : Program} {l : Launch} {e : Env} {R : Room} {s : State} {m : MethodId} {args : Array Value} {below : List Frame} {meth : Method} {c : Code} {H : Heap} {locs : List Loc} {cells slots : Nat} {Q : State → Prop}
variable {cc : ByteArray} {nL pc : Nat} {ret : Option FieldType} {own : String} {ls : Array Slot} {rest : List Value} {D : va_G} {A : Nat → Prop} {ws : va_W} {tys : List (ClassId × FieldType)}
theorem q_callFV {r : Value} {a : Array Value} {st0 : List Value} (hr : va_Run5 p l e R s m args below meth c H locs cells slots 0 0 (F0 m pc ls st0) rest (k2_QcV r a) (fun _ => False)) (kk : W p l e R s m args below meth c H locs cells slots Q (F0 m (pc + 5) ls (r :: rest))) : W p l e R s m args below meth c H locs cells slots Q (F0 m pc ls st0) := by
  intro T hT X
  obtain ⟨v, st₀, t, T', L, h0, X', hL, e1, -, ⟨hv, hh⟩, st⟩ := hr T hT X
  cases hv
  obtain ⟨t2, a1, b1⟩ := kk T' (by rw [e1, hh, h0]) (Stand.forget X' (fun q h => (hL q h).elim))
  exact ⟨t2, st t2 a1, b1⟩
/-- by an interface, a method that only reads -/
theorem q_readF (hB : qB p s m args meth c cc nL ret own) (hW : qH D A s H locs ws tys) {x y : MethodName} {bytes : ByteArray} {maxL idx count : Nat} {rt : Option FieldType} {rm : Room} {wc : va_W} {tc : List (ClassId × FieldType)} {As : List Value} {b : Nat} {r : Value} (hM : Met l y (.code y bytes maxL rt :: qw) rm (va_Pc (.ref b :: As) (qPre D wc tc H.size)) (k2_QcV r) 0 0 (fun _ => False))
    {ci q0 : Nat} {cq : vw_C} {fs : List Value} (hc : vwCl[ci]? = some cq) (he : ws[q0]? = some (b, .inr (ci, fs)))
    (h1 : Cond.methodLink own idx x ∈ qw) (h2 : Cond.instanceMethod y ∈ qw) (h3 : Cond.selects cq.1 x y ∈ qw) (h4 : Cond.initialized y.cls ∈ qw) (h5 : Cond.code y bytes maxL rt ∈ qw) (hF : va_Fw cq.1 x y s) (n : Nat) (hrm : rm.cells = 0 ∧ rm.slots = 0) (hd : x.cls ≠ "java/lang/invoke/MethodHandle" ∧ x.cls ≠ "java/lang/invoke/VarHandle" ∧ (parseMethodDescriptor x.desc).map (fun d => d.parameters.length) = some n) (hn : As.length = n) (hR : rm.frames + 1 ≤ R.frames ∧ 8 + (maxL + 11) + rm.locals ≤ R.locals)
    (is ts : List Nat) (hnd : va_nd is = true) (hs : is.map (fun i => ws[i]?) = wc.map some) (hs2 : is.filterMap (fun i => ws[i]?) = wc) (ht : ts.filterMap (fun i => tys[i]?) = tc) (hls : ls.size = nL) (hcat : (rest.map fun v => v.category).sum ≤ 8) (hf : cells ≤ R.cells ∧ slots ≤ R.slots) {st : List Value} (hst : st = As.reverse ++ .ref b :: rest) (hdg : decode cc pc = .ok (.invokeinterface idx count, 5))
    (kk : W p l e R s m args below meth c H locs cells slots Q (F0 m (pc + 5) ls (r :: rest))) : W p l e R s m args below meth c H locs cells slots Q (F0 m pc ls st) :=
  q_callFV (va_runF (g := F0 m pc ls st) (hW.2.1.1 ci cq hc).2 ⟨hB.1, hB.2.1, hB.2.2.2.1, hB.2.2.2.2.1, hB.2.2.2.2.2.1⟩ hM (va_cwF n hB.2.2.2.2.2.1 (qg_of (fun _ h => h) (fun w hw => by
    rcases List.mem_append.mp hw with h | h
    · rcases List.mem_cons.mp h with rfl | h
      · exact h1
      · rcases List.mem_cons.mp h with rfl | h
        · exact h3
        · rcases List.mem_cons.mp h with rfl | h
          · exact h2
          · rcases List.mem_cons.mp h with rfl | h
            · exact h4
            · exact absurd h List.not_mem_nil
    · exact qg_c h5 w h)) rfl hrm.1 hrm.2 hF hd hR) ⟨qPre_blind, va_recv hW.2.1 hW.1 hc he, fun U hU hWm => ⟨rfl, qH_sub hW is ts hnd hs hs2 ht U hU hWm⟩⟩ rfl hn hls hst (lv_room hcat) hdg hf) kk
/-- the runs of the other calls, by the words -/
theorem q_runV (hB : qB p s m args meth c cc nL ret own) (hW : qH D A s H locs ws tys) {y : MethodName} {bytes : ByteArray} {maxL idx mc ms : Nat} {rt : Option FieldType} {rm : Room} {wc : va_W} {tc : List (ClassId × FieldType)} {As : List Value} {b : Nat} {Qc : Array Value → State → Outcome → State → Prop} {free : Addr → Prop} (hM : Met l y (.code y bytes maxL rt :: qw) rm (va_Pc (.ref b :: As) (qPre D wc tc H.size)) Qc mc ms free)
    {ci q0 : Nat} {cq : vw_C} {fs : List Value} (hc : vwCl[ci]? = some cq) (he : ws[q0]? = some (b, .inr (ci, fs)))
    (h1 : Cond.methodLink own idx y ∈ qw) (h2 : Cond.instanceMethod y ∈ qw) (h3 : Cond.selects cq.1 y y ∈ qw) (h4 : Cond.initialized cq.1 ∈ qw) (h5 : Cond.code y bytes maxL rt ∈ qw) (n : Nat) (hrm : rm.cells = mc ∧ rm.slots = ms) (hd : y.cls = cq.1 ∧ y.cls ≠ "java/lang/invoke/MethodHandle" ∧ y.cls ≠ "java/lang/invoke/VarHandle" ∧ (parseMethodDescriptor y.desc).map (fun d => d.parameters.length) = some n) (hn : As.length = n) (hR : rm.frames + 1 ≤ R.frames ∧ 8 + (maxL + 11) + rm.locals ≤ R.locals)
    (is ts : List Nat) (hnd : va_nd is = true) (hs : is.map (fun i => ws[i]?) = wc.map some) (hs2 : is.filterMap (fun i => ws[i]?) = wc) (ht : ts.filterMap (fun i => tys[i]?) = tc) (hls : ls.size = nL) (hcat : (rest.map fun v => v.category).sum ≤ 8) (hf : cells + mc ≤ R.cells ∧ slots + ms ≤ R.slots) {st : List Value} (hst : st = As.reverse ++ .ref b :: rest) (hdg : decode cc pc = .ok (.invokevirtual idx, 3)) :
    va_Run p l e R s m args below meth c H locs cells slots mc ms (F0 m pc ls st) rest (Qc (Value.ref b :: As).toArray) free :=
  va_runV (g := F0 m pc ls st) ⟨hB.1, hB.2.1, hB.2.2.2.1, hB.2.2.2.2.1, hB.2.2.2.2.2.1⟩ hM (cwV n hB.2.2.2.2.2.1 (qg_V (fun _ h => h) h1 h2 h3 h4 h5) rfl hrm.1 hrm.2 hd hR) ⟨qPre_blind, va_recv hW.2.1 hW.1 hc he, fun U hU hWm => ⟨rfl, qH_sub hW is ts hnd hs hs2 ht U hU hWm⟩⟩ rfl hn hls hst (lv_room hcat) hdg hf
theorem q_runVN (hB : qB p s m args meth c cc nL ret own) (hW : qH D A s H locs ws tys) {y : MethodName} {bytes : ByteArray} {maxL idx mc ms : Nat} {rt : Option FieldType} {rm : Room} {wc : va_W} {tc : List (ClassId × FieldType)} {As : List Value} {b : Nat} {Qc : Array Value → State → Outcome → State → Prop} {free : Addr → Prop} (hM : Met l y (.code y bytes maxL rt :: qw) rm (va_Pc (.ref b :: As) (qPre D wc tc H.size)) Qc mc ms free)
    {ci q0 : Nat} {cq : vw_C} {fs : List Value} (hc : vwCl[ci]? = some cq) (he : ws[q0]? = some (b, .inr (ci, fs)))
    {host : String} (h1 : Cond.methodLinkNest own idx y host ∈ lw_tbl) (h2 : Cond.instanceMethod y ∈ qw) (h3 : Cond.selects cq.1 y y ∈ qw) (h4 : Cond.initialized y.cls ∈ qw) (h5 : Cond.code y bytes maxL rt ∈ qw) (n : Nat) (hrm : rm.cells = mc ∧ rm.slots = ms) (hd : y.cls ≠ "java/lang/invoke/MethodHandle" ∧ y.cls ≠ "java/lang/invoke/VarHandle" ∧ (parseMethodDescriptor y.desc).map (fun d => d.parameters.length) = some n) (hn : As.length = n) (hR : rm.frames + 1 ≤ R.frames ∧ 8 + (maxL + 11) + rm.locals ≤ R.locals)
    (is ts : List Nat) (hnd : va_nd is = true) (hs : is.map (fun i => ws[i]?) = wc.map some) (hs2 : is.filterMap (fun i => ws[i]?) = wc) (ht : ts.filterMap (fun i => tys[i]?) = tc) (hls : ls.size = nL) (hcat : (rest.map fun v => v.category).sum ≤ 8) (hf : cells + mc ≤ R.cells ∧ slots + ms ≤ R.slots) {st : List Value} (hst : st = As.reverse ++ .ref b :: rest) (hdg : decode cc pc = .ok (.invokevirtual idx, 3)) :
    va_Run p l e R s m args below meth c H locs cells slots mc ms (F0 m pc ls st) rest (Qc (Value.ref b :: As).toArray) free :=
  va_runVN (g := F0 m pc ls st) (C := cq.1) ⟨hB.1, hB.2.1, hB.2.2.2.1, hB.2.2.2.2.1, hB.2.2.2.2.2.1⟩ hM ⟨va_cnB n hB.2.2.2.2.2.1 (qg_I (fun _ h => h) h5) rfl hrm.1 hrm.2 (hW.2.2.2.2.2.1 _ h1 rfl) (hB.2.2.2.2.2.1 _ h4) hd hR, hB.2.2.2.2.2.1 _ h2, hB.2.2.2.2.2.1 _ h3⟩ ⟨qPre_blind, va_recv hW.2.1 hW.1 hc he, fun U hU hWm => ⟨rfl, qH_sub hW is ts hnd hs hs2 ht U hU hWm⟩⟩ rfl hn hls hst (lv_room hcat) hdg hf
/-- an object's constructor: one that all may call, and a nest mate's -/
theorem q_runI (hB : qB p s m args meth c cc nL ret own) (hW : qH D A s H locs ws tys) {y : MethodName} {bytes : ByteArray} {maxL idx mc ms : Nat} {rm : Room} {wc : va_W} {tc : List (ClassId × FieldType)} {As : List Value} {b : Nat} {Qc : Array Value → State → Outcome → State → Prop} {free : Addr → Prop} (hM : Met l y (.code y bytes maxL none :: qw) rm (va_Pc (.ref b :: As) (qPre D wc tc H.size)) Qc mc ms free)
    (h1 : Cond.methodLink own idx y ∈ qw) (h2 : Cond.instanceMethod y ∈ qw) (h4 : Cond.initialized y.cls ∈ qw) (h5 : Cond.code y bytes maxL none ∈ qw) (hy : y.name = "<init>") (n : Nat) (hrm : rm.cells = mc ∧ rm.slots = ms) (hd : y.cls ≠ "java/lang/invoke/MethodHandle" ∧ y.cls ≠ "java/lang/invoke/VarHandle" ∧ (parseMethodDescriptor y.desc).map (fun d => d.parameters.length) = some n) (hn : As.length = n) (hR : rm.frames + 1 ≤ R.frames ∧ 8 + (maxL + 11) + rm.locals ≤ R.locals)
    (is ts : List Nat) (hnd : va_nd is = true) (hs : is.map (fun i => ws[i]?) = wc.map some) (hs2 : is.filterMap (fun i => ws[i]?) = wc) (ht : ts.filterMap (fun i => tys[i]?) = tc) (hls : ls.size = nL) (hcat : (rest.map fun v => v.category).sum ≤ 8) (hf : cells + mc ≤ R.cells ∧ slots + ms ≤ R.slots) {st : List Value} (hst : st = As.reverse ++ .ref b :: rest) (hdg : decode cc pc = .ok (.invokespecial idx, 3)) :
    va_Run p l e R s m args below meth c H locs cells slots mc ms (F0 m pc ls st) rest (Qc (Value.ref b :: As).toArray) free :=
  va_runI (g := F0 m pc ls st) ⟨hB.1, hB.2.1, hB.2.2.2.1, hB.2.2.2.2.1, hB.2.2.2.2.2.1⟩ hM (cwI n hB.2.2.2.2.2.1 (qg_I (fun _ h => h) h5) rfl hrm.1 hrm.2 (hB.2.2.2.2.2.1 _ h4) (hB.2.2.2.2.2.1 _ h1) (hB.2.2.2.2.2.1 _ h2) hy hd hR) ⟨qPre_blind, fun U hU hWm => ⟨rfl, qH_sub hW is ts hnd hs hs2 ht U hU hWm⟩⟩ rfl hn hls hst (lv_room hcat) hdg hf
theorem q_runIN (hB : qB p s m args meth c cc nL ret own) (hW : qH D A s H locs ws tys) {y : MethodName} {bytes : ByteArray} {maxL idx mc ms : Nat} {rm : Room} {wc : va_W} {tc : List (ClassId × FieldType)} {As : List Value} {b : Nat} {Qc : Array Value → State → Outcome → State → Prop} {free : Addr → Prop} (hM : Met l y (.code y bytes maxL none :: qw) rm (va_Pc (.ref b :: As) (qPre D wc tc H.size)) Qc mc ms free)
    {host : String} (h1 : Cond.methodLinkNest own idx y host ∈ lw_tbl) (h2 : Cond.instanceMethod y ∈ qw) (h4 : Cond.initialized y.cls ∈ qw) (h5 : Cond.code y bytes maxL none ∈ qw) (hy : y.name = "<init>") (n : Nat) (hrm : rm.cells = mc ∧ rm.slots = ms) (hd : y.cls ≠ "java/lang/invoke/MethodHandle" ∧ y.cls ≠ "java/lang/invoke/VarHandle" ∧ (parseMethodDescriptor y.desc).map (fun d => d.parameters.length) = some n) (hn : As.length = n) (hR : rm.frames + 1 ≤ R.frames ∧ 8 + (maxL + 11) + rm.locals ≤ R.locals)
    (is ts : List Nat) (hnd : va_nd is = true) (hs : is.map (fun i => ws[i]?) = wc.map some) (hs2 : is.filterMap (fun i => ws[i]?) = wc) (ht : ts.filterMap (fun i => tys[i]?) = tc) (hls : ls.size = nL) (hcat : (rest.map fun v => v.category).sum ≤ 8) (hf : cells + mc ≤ R.cells ∧ slots + ms ≤ R.slots) {st : List Value} (hst : st = As.reverse ++ .ref b :: rest) (hdg : decode cc pc = .ok (.invokespecial idx, 3)) :
    va_Run p l e R s m args below meth c H locs cells slots mc ms (F0 m pc ls st) rest (Qc (Value.ref b :: As).toArray) free :=
  va_runIN (g := F0 m pc ls st) ⟨hB.1, hB.2.1, hB.2.2.2.1, hB.2.2.2.2.1, hB.2.2.2.2.2.1⟩ hM ⟨va_cnB n hB.2.2.2.2.2.1 (qg_I (fun _ h => h) h5) rfl hrm.1 hrm.2 (hW.2.2.2.2.2.1 _ h1 rfl) (hB.2.2.2.2.2.1 _ h4) hd hR, hy, hB.2.2.2.2.2.1 _ h2⟩ ⟨qPre_blind, fun U hU hWm => ⟨rfl, qH_sub hW is ts hnd hs hs2 ht U hU hWm⟩⟩ rfl hn hls hst (lv_room hcat) hdg hf
/-- behind a writer that answers an int that is known, and behind one that answers nothing -/
theorem q_wi {wc wr w1 : va_W} {t1 : List (ClassId × FieldType)} {a : Array Value} {st : List Value} {mc ms : Nat} {r0 : Int32} (hW : qH D A s H locs ws tys) (hr : va_Run p l e R s m args below meth c H locs cells slots mc ms (F0 m pc ls st) rest (va_Qi (fun (r : Int32) (_ : Unit) => r = r0) (fun _ => qPost D w1 t1 (va_A wc H.size)) (va_A wc H.size) a) (va_A wc H.size))
    (isC isR : List Nat) (hC : isC.map (fun i => ws[i]?) = wc.map some) (hR : isR.map (fun i => ws[i]?) = wr.map some) (hn : va_nd isR = true) (hdis : ∀ i ∈ isR, i ∉ isC)
    (kk : ∀ (H1 : Heap) (locs1 : List Loc), qH D A s H1 locs1 (wr ++ w1) (tys ++ t1) → W p l e R s m args below meth c H1 locs1 (cells + mc) (slots + ms) Q (F0 m (pc + 3) ls (.int r0 :: rest))) : W p l e R s m args below meth c H locs cells slots Q (F0 m pc ls st) :=
  va_calli hr hW.2.2.2.1 (fun q _ h => qH_free hW isC hC q h) (qH_free hW isC hC) (fun r _ t H1 locs1 ht hvm hw hb _ hk hS1 => hw ▸ kk H1 locs1 (qH_join hW isC isR hC hR hn hdis ht hvm hb hk hS1))
theorem q_wv {wc wr w1 : va_W} {t1 : List (ClassId × FieldType)} {a : Array Value} {st : List Value} {mc ms : Nat} (hW : qH D A s H locs ws tys) (hr : va_Run p l e R s m args below meth c H locs cells slots mc ms (F0 m pc ls st) rest (va_Qv (fun (_ : Unit) => True) (fun _ => qPost D w1 t1 (va_A wc H.size)) (va_A wc H.size) a) (va_A wc H.size))
    (isC isR : List Nat) (hC : isC.map (fun i => ws[i]?) = wc.map some) (hR : isR.map (fun i => ws[i]?) = wr.map some) (hn : va_nd isR = true) (hdis : ∀ i ∈ isR, i ∉ isC)
    (kk : ∀ (H1 : Heap) (locs1 : List Loc), qH D A s H1 locs1 (wr ++ w1) (tys ++ t1) → W p l e R s m args below meth c H1 locs1 (cells + mc) (slots + ms) Q (F0 m (pc + 3) ls rest)) : W p l e R s m args below meth c H locs cells slots Q (F0 m pc ls st) :=
  va_callv hr hW.2.2.2.1 (fun q _ h => qH_free hW isC hC q h) (qH_free hW isC hC) (fun _ t H1 locs1 ht hvm _ hb _ hk hS1 => kk H1 locs1 (qH_join hW isC isR hC hR hn hdis ht hvm hb hk hS1))
end QC
