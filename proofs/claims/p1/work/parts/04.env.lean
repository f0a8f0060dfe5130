/-- the words that aren't kept by every step, but by warming: links of nest mates, castables, declared methods -/
def qn_ok : Cond → Bool
  | .fieldLinkNest .. => true
  | .methodLinkNest .. => true
  | .castable .. => true
  | .declares .. => true
  | _ => false
theorem qn_warm {s U : State} (hW : s.WarmedH U.vm) {w : Cond} (h : qn_ok w = true) (hz : va_Nw w s) : va_Nw w U := by
  cases w <;> first | exact va_Nw.warmF hW hz | exact va_Nw.warmM hW hz | exact va_Nw.warmC hW hz | exact va_Nw.warmD hW hz | (simp [qn_ok] at h)
/-- what lies about: the nest words, Throwable's two statics, the texts -/
def qE (A : Nat → Prop) (U : State) : Prop := (∀ w ∈ lw_tbl, qn_ok w = true → va_Nw w U) ∧ vx_Zq Bundle.tN "UNASSIGNED_STACK" Bundle.steD A U U.heap ∧ vx_Zq Bundle.tN "SUPPRESSED_SENTINEL" Bundle.listD A U U.heap ∧ ∀ (own tx : String) (k : Nat), Cond.stringRef own k tx ∈ lw_tbl → ∃ sa : Nat, vk_R own k tx sa U
theorem qE_call {A A' : Nat → Prop} {s U : State} {H : Heap} {locs : List Loc} (hE : qE A s) (hS : va_S A s.heap H locs) (hU : U.heap = H) (hW : s.WarmedH U.vm) (hF : ∀ q, A' q → A q) : qE A' U := by
  obtain ⟨h1, h2, h3, h4⟩ := hE
  refine ⟨fun w hw ho => qn_warm hW ho (h1 w hw ho), ?_, ?_, fun own tx k hw => ?_⟩
  · rw [hU]; exact vx_Zq.narrow (vx_Zq.moved hW.alike (vx_Zq.kept h2 (fun a ha hn => hS.2.1 a ha hn))) hF
  · rw [hU]; exact vx_Zq.narrow (vx_Zq.moved hW.alike (vx_Zq.kept h3 (fun a ha hn => hS.2.1 a ha hn))) hF
  · obtain ⟨sa, h⟩ := h4 own tx k hw
    exact ⟨sa, vk_R.warm hW h⟩
theorem qE_calling {A : Nat → Prop} {U : State} (g : JFrame) (mk : MethodId) (a : Array Value) (h : qE A U) : qE A (U.calling g mk a) := by
  obtain ⟨h1, h2, h3, h4⟩ := h
  refine ⟨fun w hw ho => va_Nw.same (by cases w <;> first | rfl | simp [qn_ok] at ho) (show U.vm = (U.calling g mk a).vm from rfl) (h1 w hw ho), vx_Zq.moved (u := U) (U := U.calling g mk a) (Vm.Alike.refl U.vm) h2, vx_Zq.moved (u := U) (U := U.calling g mk a) (Vm.Alike.refl U.vm) h3, fun own tx k hw => ?_⟩
  obtain ⟨sa, h⟩ := h4 own tx k hw
  exact ⟨sa, vk_R.same (u := U) rfl h⟩
/-- where a contract begins: its cells, the classes and array classes, what lies about -/
def qPre (D : va_G) (ws : va_W) (tys : List (ClassId × FieldType)) (sz : Nat) (U : State) : Prop := U.heap.size = sz ∧ va_P D vwCl ws U.heap ∧ va_K D vwCl tys U ∧ va_D (fun _ => True) ws ∧ qE (va_A ws sz) U
theorem qPre_blind {D : va_G} {ws : va_W} {tys : List (ClassId × FieldType)} {sz : Nat} {av : List Value} : FrameBlind (va_Pc av (qPre D ws tys sz)) := fun a U g mk q => by
  obtain ⟨q0, q1, qP, qK, qD, qe⟩ := q
  exact ⟨q0, q1, qP, va_K.moved (u := U) (U := U.calling g mk a) (Vm.Alike.refl U.vm) qK, qD, qE_calling g mk a qe⟩
/-- the world on the way -/
def qH (D : va_G) (A : Nat → Prop) (s : State) (H : Heap) (locs : List Loc) (ws : va_W) (tys : List (ClassId × FieldType)) : Prop := va_P D vwCl ws H ∧ va_K D vwCl tys s ∧ va_D A ws ∧ va_S A s.heap H locs ∧ (∀ q, s.heap.size ≤ q → A q) ∧ qE A s
theorem qH_start {D : va_G} {ws : va_W} {tys : List (ClassId × FieldType)} {sz : Nat} {s : State} (h : qPre D ws tys sz s) : qH D (va_A ws sz) s s.heap [] ws tys := by
  obtain ⟨rfl, hP, hK, hD, hE⟩ := h
  exact ⟨hP, hK, hD.self, va_S.rf, fun q hq => Or.inr hq, hE⟩
/-- a callee's part of it -/
theorem qH_sub {D : va_G} {A : Nat → Prop} {s : State} {H : Heap} {locs : List Loc} {ws wc : va_W} {tys tc : List (ClassId × FieldType)} (h : qH D A s H locs ws tys) (is ts : List Nat) (hn : va_nd is = true) (hs : is.map (fun i => ws[i]?) = wc.map some) (hs2 : is.filterMap (fun i => ws[i]?) = wc) (ht : ts.filterMap (fun i => tys[i]?) = tc) : ∀ U : State, U.heap = H → s.WarmedH U.vm → qPre D wc tc H.size U := by
  obtain ⟨hP, hK, hD, hS, hA, hE⟩ := h
  intro U hU hW
  exact ⟨by rw [hU], by rw [hU]; exact hP.sub is hs2, va_K.moved hW.alike (hK.sub ts ht), (hD.sub is hn hs).weaken (fun _ _ _ _ => trivial), qE_call hE hS hU hW (va_free hD hS hA is hs)⟩
/-- a class of the claim: its place among vwCl, its fields -/
def qCl (ci : Nat) (C : String) (T : u_T) (N : Nat) (ty : Nat → FieldType) : Prop := vwCl[ci]? = some (C, T, N) ∧ (∀ w ∈ u_ws C T N, w ∈ qw) ∧ (∀ k, k < N → parseFieldDescriptor (T k).2.2.1 = some (ty k)) ∧ ∀ a, a < N → ∀ b, b < N → a ≠ b → (T a).2.1 ≠ (T b).2.1
section QR
variable {p : Program} {l : Launch} {e : Env} {R : Room} {s : State} {m : MethodId} {args : Array Value} {below : List Frame} {meth : Method} {c : Code} {H : Heap} {locs : List Loc} {cells slots : Nat} {Q : State → Prop}
variable {cc : ByteArray} {nL pc : Nat} {ret : Option FieldType} {own : String} {ls : Array Slot} {rest : List Value} {D : va_G} {A : Nat → Prop} {ws : va_W} {tys : List (ClassId × FieldType)}
theorem q_topi {x v : Int32} (h : x = v) (k : W p l e R s m args below meth c H locs cells slots Q (F0 m pc ls (.int v :: rest))) : W p l e R s m args below meth c H locs cells slots Q (F0 m pc ls (.int x :: rest)) := h ▸ k
theorem q_topl {x v : Int64} (h : x = v) (k : W p l e R s m args below meth c H locs cells slots Q (F0 m pc ls (.long v :: rest))) : W p l e R s m args below meth c H locs cells slots Q (F0 m pc ls (.long x :: rest)) := h ▸ k
theorem q_get (hB : qB p s m args meth c cc nL ret own) (hW : qH D A s H locs ws tys) {ci N : Nat} {C : String} {T : u_T} {ty : Nat → FieldType} (hC : qCl ci C T N ty) (q0 : Nat) {a : Nat} {fs : List Value} (he : ws[q0]? = some (a, .inr (ci, fs))) (k : Nat) (hk : k < N) {idx : Nat} (hlink : Cond.fieldLink own idx (T k).1 (T k).2.1 (T k).2.2.1 ∈ qw) {v : Value} (hv : fs[k]? = some v) (hdg : decode cc pc = .ok (.getfield idx, 3))
    (kk : W p l e R s m args below meth c H locs cells slots Q (F0 m (pc + 3) ls (v :: rest))) : W p l e R s m args below meth c H locs cells slots Q (F0 m pc ls (.ref a :: rest)) :=
  va_get hB.1 hB.2.1 hB.2.2.2.2.2.1 hC.2.1 hB.2.2.2.2.1 hW.2.1 hW.1 q0 he hC.1 k hk (hB.2.2.2.2.2.1 _ hlink) (fun _ h => h) hv hdg kk
theorem q_getN (hB : qB p s m args meth c cc nL ret own) (hW : qH D A s H locs ws tys) {ci N : Nat} {C : String} {T : u_T} {ty : Nat → FieldType} (hC : qCl ci C T N ty) (q0 : Nat) {a : Nat} {fs : List Value} (he : ws[q0]? = some (a, .inr (ci, fs))) (k : Nat) (hk : k < N) {idx : Nat} {host : String} (hlink : Cond.fieldLinkNest own idx (T k).1 (T k).2.1 (T k).2.2.1 host ∈ lw_tbl) {v : Value} (hv : fs[k]? = some v) (hdg : decode cc pc = .ok (.getfield idx, 3))
    (kk : W p l e R s m args below meth c H locs cells slots Q (F0 m (pc + 3) ls (v :: rest))) : W p l e R s m args below meth c H locs cells slots Q (F0 m pc ls (.ref a :: rest)) :=
  va_getN hB.1 hB.2.1 hB.2.2.2.2.2.1 hC.2.1 hB.2.2.2.2.1 hW.2.1 hW.1 q0 he hC.1 k hk (va_Nw.use rfl (hW.2.2.2.2.2.1 _ hlink rfl)) (fun _ h => h) hv hdg kk
theorem q_put (hB : qB p s m args meth c cc nL ret own) (hW : qH D A s H locs ws tys) {ci N : Nat} {C : String} {T : u_T} {ty : Nat → FieldType} (hC : qCl ci C T N ty) (q0 : Nat) {a : Nat} {fs : List Value} (he : ws[q0]? = some (a, .inr (ci, fs))) (k : Nat) (hk : k < N) {idx : Nat} (hlink : Cond.fieldLink own idx (T k).1 (T k).2.1 (T k).2.2.1 ∈ qw) (hfin : (T k).2.2.2 = false) {v : Value} (hn : narrow (ty k) v = v) (hfit : fits (ty k) v = true) (hlen : k < fs.length) {ws' : va_W} (hws : ws.set q0 (a, .inr (ci, fs.set k v)) = ws') (hdg : decode cc pc = .ok (.putfield idx, 3))
    (kk : ∀ (H1 : Heap) (locs1 : List Loc), qH D A s H1 locs1 ws' tys → W p l e R s m args below meth c H1 locs1 cells slots Q (F0 m (pc + 3) ls rest)) : W p l e R s m args below meth c H locs cells slots Q (F0 m pc ls (v :: .ref a :: rest)) :=
  va_put hB.1 hB.2.1 hB.2.2.2.2.2.1 hC.2.1 ty hC.2.2.1 hC.2.2.2 hB.2.2.2.2.1 hW.2.1 hW.1 hW.2.2.1 hW.2.2.2.1 q0 he hC.1 k hk (hB.2.2.2.2.2.1 _ hlink) (fun _ h => h) hfin (hC.2.2.1 k hk) hn hfit hlen hdg (fun H1 locs1 hP hD hS => kk H1 locs1 ⟨hws ▸ hP, hW.2.1, hws ▸ hD, hS, hW.2.2.2.2⟩)
theorem q_putN (hB : qB p s m args meth c cc nL ret own) (hW : qH D A s H locs ws tys) {ci N : Nat} {C : String} {T : u_T} {ty : Nat → FieldType} (hC : qCl ci C T N ty) (q0 : Nat) {a : Nat} {fs : List Value} (he : ws[q0]? = some (a, .inr (ci, fs))) (k : Nat) (hk : k < N) {idx : Nat} {host : String} (hlink : Cond.fieldLinkNest own idx (T k).1 (T k).2.1 (T k).2.2.1 host ∈ lw_tbl) (hfin : (T k).2.2.2 = false) {v : Value} (hn : narrow (ty k) v = v) (hfit : fits (ty k) v = true) (hlen : k < fs.length) {ws' : va_W} (hws : ws.set q0 (a, .inr (ci, fs.set k v)) = ws') (hdg : decode cc pc = .ok (.putfield idx, 3))
    (kk : ∀ (H1 : Heap) (locs1 : List Loc), qH D A s H1 locs1 ws' tys → W p l e R s m args below meth c H1 locs1 cells slots Q (F0 m (pc + 3) ls rest)) : W p l e R s m args below meth c H locs cells slots Q (F0 m pc ls (v :: .ref a :: rest)) :=
  va_putN hB.1 hB.2.1 hB.2.2.2.2.2.1 hC.2.1 ty hC.2.2.1 hC.2.2.2 hB.2.2.2.2.1 hW.2.1 hW.1 hW.2.2.1 hW.2.2.2.1 q0 he hC.1 k hk (va_Nw.use rfl (hW.2.2.2.2.2.1 _ hlink rfl)) (fun _ h => h) hfin (hC.2.2.1 k hk) hn hfit hlen hdg (fun H1 locs1 hP hD hS => kk H1 locs1 ⟨hws ▸ hP, hW.2.1, hws ▸ hD, hS, hW.2.2.2.2⟩)
theorem q_putF (hB : qB p s m args meth c cc nL ret own) (hin : meth.name = "<init>") (hW : qH D A s H locs ws tys) {ci N : Nat} {C : String} {T : u_T} {ty : Nat → FieldType} (hC : qCl ci C T N ty) (q0 : Nat) {a : Nat} {fs : List Value} (he : ws[q0]? = some (a, .inr (ci, fs))) (k : Nat) (hk : k < N) {idx : Nat} (hlink : Cond.fieldLink own idx (T k).1 (T k).2.1 (T k).2.2.1 ∈ qw) (hfin : (T k).2.2.2 = true) (hdecl : (T k).1 = own) {v : Value} (hn : narrow (ty k) v = v) (hfit : fits (ty k) v = true) (hlen : k < fs.length) {ws' : va_W} (hws : ws.set q0 (a, .inr (ci, fs.set k v)) = ws') (hdg : decode cc pc = .ok (.putfield idx, 3))
    (kk : ∀ (H1 : Heap) (locs1 : List Loc), qH D A s H1 locs1 ws' tys → W p l e R s m args below meth c H1 locs1 cells slots Q (F0 m (pc + 3) ls rest)) : W p l e R s m args below meth c H locs cells slots Q (F0 m pc ls (v :: .ref a :: rest)) :=
  va_putF hB.1 hB.2.1 hB.2.2.2.2.2.1 hC.2.1 ty hC.2.2.1 hC.2.2.2 hB.2.2.2.2.1 hW.2.1 hW.1 hW.2.2.1 hW.2.2.2.1 q0 he hC.1 k hk (hB.2.2.2.2.2.1 _ hlink) (fun _ h => h) hfin hin hdecl (hC.2.2.1 k hk) hn hfit hlen hdg (fun H1 locs1 hP hD hS => kk H1 locs1 ⟨hws ▸ hP, hW.2.1, hws ▸ hD, hS, hW.2.2.2.2⟩)
/-- a call of a static method that only reads -/
theorem q_readS (hB : qB p s m args meth c cc nL ret own) (hW : qH D A s H locs ws tys) {y : MethodName} {bytes : ByteArray} {maxL idx : Nat} {rt : Option FieldType} {rm : Room} {wc : va_W} {tc : List (ClassId × FieldType)} {As : List Value} {r : Value} (hM : Met l y (.code y bytes maxL rt :: qw) rm (va_Pc As (qPre D wc tc H.size)) (k2_QcV r) 0 0 (fun _ => False))
    (h1 : Cond.methodLink own idx y ∈ qw) (h2 : Cond.static y ∈ qw) (h4 : Cond.initialized own ∈ qw) (h5 : Cond.code y bytes maxL rt ∈ qw) (n : Nat) (hrm : rm.cells = 0 ∧ rm.slots = 0) (hd : y.cls = own ∧ y.cls ≠ "java/lang/invoke/MethodHandle" ∧ y.cls ≠ "java/lang/invoke/VarHandle" ∧ (parseMethodDescriptor y.desc).map (fun d => d.parameters.length) = some n) (hn : As.length = n) (hR : rm.frames + 1 ≤ R.frames ∧ 8 + (maxL + 11) + rm.locals ≤ R.locals)
    (is ts : List Nat) (hnd : va_nd is = true) (hs : is.map (fun i => ws[i]?) = wc.map some) (hs2 : is.filterMap (fun i => ws[i]?) = wc) (ht : ts.filterMap (fun i => tys[i]?) = tc) (hls : ls.size = nL) (hcat : (rest.map fun v => v.category).sum ≤ 8) (hf : cells ≤ R.cells ∧ slots ≤ R.slots) {st : List Value} (hst : st = As.reverse ++ rest) (hdg : decode cc pc = .ok (.invokestatic idx, 3))
    (kk : W p l e R s m args below meth c H locs cells slots Q (F0 m (pc + 3) ls (r :: rest))) : W p l e R s m args below meth c H locs cells slots Q (F0 m pc ls st) :=
  W.callV (W.runS (g := F0 m pc ls st) ⟨hB.1, hB.2.1, hB.2.2.2.1, hB.2.2.2.2.1, hB.2.2.2.2.2.1⟩ hM (cwS n hB.2.2.2.2.2.1 (qg_S (fun _ h => h) h1 h2 h4 h5) rfl hrm.1 hrm.2 hd hR) ⟨qPre_blind, fun U hU hWm => ⟨rfl, qH_sub hW is ts hnd hs hs2 ht U hU hWm⟩⟩ rfl hn hls hst (lv_room hcat) hdg hf) kk
/-- .. of a method of its own class, or of one that all may call -/
theorem q_readV (hB : qB p s m args meth c cc nL ret own) (hW : qH D A s H locs ws tys) {y : MethodName} {bytes : ByteArray} {maxL idx : Nat} {rt : Option FieldType} {rm : Room} {wc : va_W} {tc : List (ClassId × FieldType)} {As : List Value} {b : Nat} {r : Value} (hM : Met l y (.code y bytes maxL rt :: qw) rm (va_Pc (.ref b :: As) (qPre D wc tc H.size)) (k2_QcV r) 0 0 (fun _ => False))
    {ci q0 : Nat} {cq : vw_C} {fs : List Value} (hc : vwCl[ci]? = some cq) (he : ws[q0]? = some (b, .inr (ci, fs)))
    (h1 : Cond.methodLink own idx y ∈ qw) (h2 : Cond.instanceMethod y ∈ qw) (h3 : Cond.selects cq.1 y y ∈ qw) (h4 : Cond.initialized cq.1 ∈ qw) (h5 : Cond.code y bytes maxL rt ∈ qw) (n : Nat) (hrm : rm.cells = 0 ∧ rm.slots = 0) (hd : y.cls = cq.1 ∧ y.cls ≠ "java/lang/invoke/MethodHandle" ∧ y.cls ≠ "java/lang/invoke/VarHandle" ∧ (parseMethodDescriptor y.desc).map (fun d => d.parameters.length) = some n) (hn : As.length = n) (hR : rm.frames + 1 ≤ R.frames ∧ 8 + (maxL + 11) + rm.locals ≤ R.locals)
    (is ts : List Nat) (hnd : va_nd is = true) (hs : is.map (fun i => ws[i]?) = wc.map some) (hs2 : is.filterMap (fun i => ws[i]?) = wc) (ht : ts.filterMap (fun i => tys[i]?) = tc) (hls : ls.size = nL) (hcat : (rest.map fun v => v.category).sum ≤ 8) (hf : cells ≤ R.cells ∧ slots ≤ R.slots) {st : List Value} (hst : st = As.reverse ++ .ref b :: rest) (hdg : decode cc pc = .ok (.invokevirtual idx, 3))
    (kk : W p l e R s m args below meth c H locs cells slots Q (F0 m (pc + 3) ls (r :: rest))) : W p l e R s m args below meth c H locs cells slots Q (F0 m pc ls st) :=
  W.callV (W.runV (g := F0 m pc ls st) ⟨hB.1, hB.2.1, hB.2.2.2.1, hB.2.2.2.2.1, hB.2.2.2.2.2.1⟩ hM (cwV n hB.2.2.2.2.2.1 (qg_V (fun _ h => h) h1 h2 h3 h4 h5) rfl hrm.1 hrm.2 hd hR) ⟨qPre_blind, va_recv hW.2.1 hW.1 hc he, fun U hU hWm => ⟨rfl, qH_sub hW is ts hnd hs hs2 ht U hU hWm⟩⟩ rfl hn hls hst (lv_room hcat) hdg hf) kk
/-- .. of a private method of a nest mate -/
theorem q_readVN (hB : qB p s m args meth c cc nL ret own) (hW : qH D A s H locs ws tys) {y : MethodName} {bytes : ByteArray} {maxL idx : Nat} {rt : Option FieldType} {rm : Room} {wc : va_W} {tc : List (ClassId × FieldType)} {As : List Value} {b : Nat} {r : Value} (hM : Met l y (.code y bytes maxL rt :: qw) rm (va_Pc (.ref b :: As) (qPre D wc tc H.size)) (k2_QcV r) 0 0 (fun _ => False))
    {ci q0 : Nat} {cq : vw_C} {fs : List Value} (hc : vwCl[ci]? = some cq) (he : ws[q0]? = some (b, .inr (ci, fs)))
    {host : String} (h1 : Cond.methodLinkNest own idx y host ∈ lw_tbl) (h2 : Cond.instanceMethod y ∈ qw) (h3 : Cond.selects cq.1 y y ∈ qw) (h4 : Cond.initialized y.cls ∈ qw) (h5 : Cond.code y bytes maxL rt ∈ qw) (n : Nat) (hrm : rm.cells = 0 ∧ rm.slots = 0) (hd : y.cls ≠ "java/lang/invoke/MethodHandle" ∧ y.cls ≠ "java/lang/invoke/VarHandle" ∧ (parseMethodDescriptor y.desc).map (fun d => d.parameters.length) = some n) (hn : As.length = n) (hR : rm.frames + 1 ≤ R.frames ∧ 8 + (maxL + 11) + rm.locals ≤ R.locals)
    (is ts : List Nat) (hnd : va_nd is = true) (hs : is.map (fun i => ws[i]?) = wc.map some) (hs2 : is.filterMap (fun i => ws[i]?) = wc) (ht : ts.filterMap (fun i => tys[i]?) = tc) (hls : ls.size = nL) (hcat : (rest.map fun v => v.category).sum ≤ 8) (hf : cells ≤ R.cells ∧ slots ≤ R.slots) {st : List Value} (hst : st = As.reverse ++ .ref b :: rest) (hdg : decode cc pc = .ok (.invokevirtual idx, 3))
    (kk : W p l e R s m args below meth c H locs cells slots Q (F0 m (pc + 3) ls (r :: rest))) : W p l e R s m args below meth c H locs cells slots Q (F0 m pc ls st) :=
  W.callV (va_Run.run (va_runVN (g := F0 m pc ls st) (C := cq.1) ⟨hB.1, hB.2.1, hB.2.2.2.1, hB.2.2.2.2.1, hB.2.2.2.2.2.1⟩ hM ⟨va_cnB n hB.2.2.2.2.2.1 (qg_I (fun _ h => h) h5) rfl hrm.1 hrm.2 (hW.2.2.2.2.2.1 _ h1 rfl) (hB.2.2.2.2.2.1 _ h4) hd hR, hB.2.2.2.2.2.1 _ h2, hB.2.2.2.2.2.1 _ h3⟩ ⟨qPre_blind, va_recv hW.2.1 hW.1 hc he, fun U hU hWm => ⟨rfl, qH_sub hW is ts hnd hs hs2 ht U hU hWm⟩⟩ rfl hn hls hst (lv_room hcat) hdg hf)) kk
end QR
