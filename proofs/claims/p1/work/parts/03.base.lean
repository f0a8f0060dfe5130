/-- the words that every contract here carries: the good ones of the tables -/
def qw : List Cond := lw_tbl.filter goodWord
theorem qw_tbl {w : Cond} (h : w ∈ qw) : w ∈ lw_tbl := (List.mem_filter.mp h).1
theorem qw_good {w : Cond} (h : w ∈ qw) : goodWord w = true := (List.mem_filter.mp h).2
theorem qw_at {w : Cond} (i : Nat) (h : lw_tbl[i]? = some w) (hg : goodWord w = true) : w ∈ qw := List.mem_filter.mpr ⟨List.mem_of_getElem? h, hg⟩
theorem qg_of {Ts ws : List Cond} (hT : ∀ w ∈ qw, w ∈ Ts) (h : ∀ w ∈ ws, w ∈ qw) : GoodIn Ts ws := fun w hw => ⟨hT w (h w hw), good_of_word (qw_good (h w hw))⟩
theorem qg_c {x : Cond} (h : x ∈ qw) : ∀ w ∈ x :: qw, w ∈ qw := fun _ hw => (List.mem_cons.mp hw).elim (fun e => e ▸ h) id
theorem qg_I {Ts : List Cond} (hT : ∀ w ∈ qw, w ∈ Ts) {x : Cond} (h : x ∈ qw) : GoodIn Ts (x :: qw) := qg_of hT (qg_c h)
theorem qg_V {Ts : List Cond} (hT : ∀ w ∈ qw, w ∈ Ts) {own C : String} {idx : Nat} {y : MethodName} {x : Cond} (h1 : Cond.methodLink own idx y ∈ qw) (h2 : Cond.instanceMethod y ∈ qw) (h3 : Cond.selects C y y ∈ qw) (h4 : Cond.initialized C ∈ qw) (h5 : x ∈ qw) : GoodIn Ts (wsV own idx C y (x :: qw)) :=
  qg_of hT (fun w hw => by
    rcases List.mem_append.mp hw with h | h
    · rcases List.mem_cons.mp h with rfl | h
      · exact h1
      · rcases List.mem_cons.mp h with rfl | h
        · exact h2
        · rcases List.mem_cons.mp h with rfl | h
          · exact h3
          · rcases List.mem_cons.mp h with rfl | h
            · exact h4
            · exact absurd h List.not_mem_nil
    · exact qg_c h5 w h)
theorem qg_S {Ts : List Cond} (hT : ∀ w ∈ qw, w ∈ Ts) {own : String} {idx : Nat} {y : MethodName} {x : Cond} (h1 : Cond.methodLink own idx y ∈ qw) (h2 : Cond.static y ∈ qw) (h4 : Cond.initialized own ∈ qw) (h5 : x ∈ qw) : GoodIn Ts (wsS own idx y (x :: qw)) :=
  qg_of hT (fun w hw => by
    rcases List.mem_append.mp hw with h | h
    · rcases List.mem_cons.mp h with rfl | h
      · exact h1
      · rcases List.mem_cons.mp h with rfl | h
        · exact h2
        · rcases List.mem_cons.mp h with rfl | h
          · exact h4
          · exact absurd h List.not_mem_nil
    · exact qg_c h5 w h)
/-- what a body has at hand -/
def qB (p : Program) (s : State) (m : MethodId) (args : Array Value) (meth : Method) (c : Code) (cc : ByteArray) (n : Nat) (ret : Option FieldType) (own : String) : Prop :=
  p.tables.exec = Jvm.exec ∧ c.code = cc ∧ meth.sig.returnType = ret ∧ c.maxLocals = n ∧ s.vm.findClass own = some m.cls ∧ (∀ w ∈ qw, w.before args s = true) ∧ meth.locks = false ∧ (meth.name, meth.name) = (meth.name, meth.name)
/-- a contract's walk, from its first instruction -/
theorem q_start {l : Launch} {y : MethodName} {cc : ByteArray} {n : Nat} {ret : Option FieldType} {rm : Room} {Pre : State → Prop} {av : List Value} {Qc : Array Value → State → Outcome → State → Prop} {mc ms : Nat} {free : Addr → Prop} (hy : plainName y.cls = true) (hn : (lg_sl av).length ≤ n)
    (body : ∀ (p : Program) (e : Env) (s : State) (m : MethodId) (below : List Frame) (meth : Method) (c : Code), qB p s m av.toArray meth c cc n ret y.cls → meth.name = y.name → Pre s → ∀ ls : Array Slot, lv_has ls n (lv_args 0 av) →
      W p l e rm s m av.toArray below meth c s.heap [] 0 0 (MQ below Qc av.toArray s mc ms free) (F0 m 0 ls [])) :
    Met l y (.code y cc n ret :: qw) rm (va_Pc av Pre) Qc mc ms free := by
  refine Met.ofW (cc := cc) (maxL := n) (ret := ret) hy rfl ?_
  intro p e s m args below meth c s₁ B hml hv
  obtain ⟨rfl, hpre⟩ := hv
  have hts := atoms_spec (ws := .code y cc n ret :: qw) B.pre
  have hown : s.vm.findClass y.cls = some m.cls := findClass_of_methodNamed B.named
  have hin : meth.name = y.name := (name_of_methodNamed B.named B.method).1
  have hl := lv_entry av (n := n) hn
  rw [lg_entry_eq]
  generalize (lg_sl av ++ List.replicate (n - (lg_sl av).length) Slot.unset).toArray = ls at hl ⊢
  exact body p e s m below meth c ⟨B.exec, B.bytes, B.returns, hml, hown, fun w h => hts w (List.mem_cons_of_mem _ h), B.notSynchronized, rfl⟩ hin hpre ls hl
