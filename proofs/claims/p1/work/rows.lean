section
/-- this claim's own: an array class over arrays of ty is there (the printed laws name such a word, the kit has it for classes alone) -/
def qx_AOA (ty : FieldType) (U : State) : Prop := (Cond.arrayOver (.array ty)).before #[] U = true
theorem qx_AOA.use {ty : FieldType} {A : Array Value} {U : State} (h : qx_AOA ty U) : (Cond.arrayOver (.array ty)).before A U = true := h
/-! ===== BEGIN words of one list among another's, by their places ===== -/
theorem goodIn_r {big : List Cond} (ws : List Cond) (ps : List Nat) (hp : ws = ps.filterMap (fun i => big[i]?)) (h : ws.all goodWord = true) : GoodIn big ws := by
  intro w hw
  have h1 := List.all_eq_true.mp h w hw
  rw [hp] at hw
  obtain ⟨i, -, hi⟩ := List.mem_filterMap.mp hw
  have hm : w ∈ big := by first | exact List.mem_of_getElem? hi | exact List.getElem?_mem hi
  exact ⟨hm, good_of_word h1⟩
theorem goodIn_app {big a b : List Cond} (ha : GoodIn big a) (hb : GoodIn big b) : GoodIn big (a ++ b) := fun w h => (List.mem_append.mp h).elim (ha w) (hb w)
theorem goodIn_ca {big a b : List Cond} {c : Cond} (ha : GoodIn big (c :: a)) (hb : GoodIn big b) : GoodIn big (c :: (a ++ b)) := fun w h => (List.mem_cons.mp h).elim (fun e => ha w (List.mem_cons.mpr (Or.inl e))) (fun h => (List.mem_append.mp h).elim (fun h => ha w (List.mem_cons.mpr (Or.inr h))) (hb w))
theorem goodIn_sub {big ws : List Cond} (hm : ∀ w ∈ ws, w ∈ big) (h : ws.all goodWord = true) : GoodIn big ws := fun w hw => ⟨hm w hw, good_of_word (List.all_eq_true.mp h w hw)⟩
/-! ===== END ===== -/

/-! ===== BEGIN new T[n][m]: the outer array a place, the inner ones among the pooled ===== -/
/-- f, but v at every address of l -/
def vr_up {α : Type} (f : Nat → α) (l : List Nat) (v : α) : Nat → α := fun a => if a ∈ l then v else f a
theorem vr_up_in {α : Type} {f : Nat → α} {l : List Nat} {v : α} {a : Nat} (h : a ∈ l) : vr_up f l v a = v := if_pos h
theorem vr_up_ne {α : Type} {f : Nat → α} {l : List Nat} {v : α} {a : Nat} (h : a ∉ l) : vr_up f l v a = f a := if_neg h
theorem vr_rows {L l : List Nat} {f : Nat → va_E} {e : va_E} (h : ∀ a, a ∈ l → a ∉ L) : va_pl L f ++ l.map (fun a => (a, e)) = va_pl (L ++ l) (vr_up f l e) := by
  unfold va_pl
  rw [List.map_append]
  congr 1
  · apply List.map_congr_left
    intro a ha
    rw [vr_up_ne (fun q => h a q ha)]
  · apply List.map_congr_left
    intro a ha
    rw [vr_up_in ha]
theorem vr_lay {X rows : va_W} {x : Nat × va_E} {pl : va_W} {D : va_G} {cl : List vw_C} {H : Heap} (hP : va_P D cl (((X ++ pl) ++ [x]) ++ rows) H) : va_P D cl ((X ++ [x]) ++ (pl ++ rows)) H := by
  rw [List.append_assoc (X ++ pl)] at hP
  have h := va_P.swap hP
  rw [← List.append_assoc X] at h
  have h2 := va_P.swap h
  rw [List.append_assoc (X ++ [x])] at h2
  exact h2
theorem vr_layD {X rows : va_W} {x : Nat × va_E} {pl : va_W} {A : Nat → Prop} (hD : va_D A (((X ++ pl) ++ [x]) ++ rows)) : va_D A ((X ++ [x]) ++ (pl ++ rows)) := by
  rw [List.append_assoc (X ++ pl)] at hD
  have h := va_D.swap hD
  rw [← List.append_assoc X] at h
  have h2 := va_D.swap h
  rw [List.append_assoc (X ++ [x])] at h2
  exact h2
theorem vr_outer (c : ClassId) (N h0 : Nat) : ∀ i : Nat, Jvm.Free.Multi.outerC c N h0 i = arrV c N (fun j => va_rf (if j < i then some (h0 + 1 + j) else none))
  | 0 => by
    show ({ cls := c, slots := Array.replicate N .null, vm := .none } : Cell) = _
    rw [arrV_new]
    refine congrArg (arrV c N) (funext fun j => ?_)
    simp [va_rf]
  | i + 1 => by
    show (Jvm.Free.Multi.outerC c N h0 i).setSlot i (.ref (h0 + 1 + i)) = _
    rw [vr_outer c N h0 i, arrV_store]
    refine congrArg (arrV c N) (funext fun j => ?_)
    by_cases e : j = i
    · subst e
      simp [updV, va_rf]
    · by_cases h : j < i
      · simp [updV, e, h, Nat.lt_succ_of_lt h]
      · simp [updV, e, h, show ¬ j < i + 1 by omega]
section VGM
variable {p : Program} {l : Launch} {e : Env} {R : Room} {s : State} {m : MethodId} {args : Array Value} {below : List Frame} {meth : Method} {c : Code} {H : Heap} {locs : List Loc} {cells slots : Nat} {Q : State → Prop}
variable {cc : ByteArray} {pc : Nat} {ls : Array Slot} {rest : List Value} {D : va_G} {cl : List vw_C} {A : Nat → Prop} {a : Nat} {tys : List (ClassId × FieldType)} {ws : va_W} {H0 : Heap}
theorem va_mna {X : va_W} {L : List Nat} {f : Nat → va_E} {cc : ByteArray} (hexec : p.tables.exec = Jvm.exec) (hb : c.code = cc) {own : String} {index : Nat} {ty : FieldType} {cy : ClassId} (hown : s.vm.findClass own = some m.cls) (hclink : (Cond.classLink own index ("[" ++ (FieldType.array ty).toString)).before args s = true) (hover : qx_AOA ty s) (harr : (Cond.arrayClass ty).before args s = true) (hcy : s.vm.findClass (FieldType.array ty).toString = some cy)
    (hK : va_K D cl tys s) (hP : va_P D cl (X ++ va_pl L f) H) (hD : va_D A (X ++ va_pl L f)) (hS : va_S A H0 H locs) (hA : ∀ q, H0.size ≤ q → A q) {n k : Int32} {N' K' : Nat} {z : vp_A} (hn : ¬ n < 0) (hk : ¬ k < 0) (hN : n.toNatClampNeg = N') (hM : k.toNatClampNeg = K')
    (hb1 : N' * 4 ≤ 536870912) (hb2 : K' * componentBytes ty ≤ 536870912) (hb3 : K' ≤ 536870912) (hdf : fits ty (defaultValue ty) = true) (hdd : (defaultValue ty).isDefault = true) (hcells : cells + (1 + N') ≤ R.cells) (hslots : slots + (N' + N' * K') ≤ R.slots) (hz : ∀ c : ClassId, Jvm.Free.Multi.innerC c K' (defaultValue ty) = vp_cell c z) (hdg : decode cc pc = .ok (.multianewarray index 2, 4))
    (kk : ∀ (q : Nat) (r : Nat → Nat) (cA : ClassId) (H1 : Heap), (∀ i j : Nat, i < N' → j < N' → r i = r j → i = j) → (∀ i : Nat, i < N' → r i ∉ L) → va_K D cl (tys ++ [(cA, .array ty)]) s →
      va_P D cl ((X ++ [(q, .inl (cA, N', .inr (.inr (.inr (.inr (fun i => if i < N' then some (r i) else none))))))]) ++ va_pl (L ++ (List.range N').map r) (vr_up f ((List.range N').map r) (.inl (cy, z)))) H1 → va_D A ((X ++ [(q, .inl (cA, N', .inr (.inr (.inr (.inr (fun i => if i < N' then some (r i) else none))))))]) ++ va_pl (L ++ (List.range N').map r) (vr_up f ((List.range N').map r) (.inl (cy, z)))) → va_S A H0 H1 locs →
      W p l e R s m args below meth c H1 locs (cells + 1 + N') (slots + N' + N' * K') Q (F0 m (pc + 4) ls (.ref q :: rest))) : W p l e R s m args below meth c H locs cells slots Q (F0 m pc ls (.int k :: .int n :: rest)) := by
  subst hN
  subst hM
  intro T hT Xs
  obtain ⟨vm₁, cA, comp, -, fA, fC, hO, -, X', step⟩ := Xs.multianewarray2F hexec hown hclink (qx_AOA.use hover) harr (g := F0 m pc ls (.int k :: .int n :: rest)) rfl (by rw [hb]; exact hdg) rfl hn hk hb1 hb2 hb3 hdf hdd hcells hslots
  have ec : some cy = some comp := hcy.symm.trans fC
  cases ec
  generalize hF : Jvm.Free.Multi.fill (T.setVm vm₁) cA cy n.toNatClampNeg k.toNatClampNeg (defaultValue ty) n.toNatClampNeg = F at X' step
  have hTh : (T.setVm vm₁).heap = H := hT
  obtain ⟨f1, f2, -, -⟩ := Jvm.Free.Multi.fill_facts (T.setVm vm₁) cA cy n.toNatClampNeg k.toNatClampNeg (defaultValue ty) n.toNatClampNeg
  rw [hF, hTh] at f1 f2
  have hold : ∀ x : Nat, x < H.size → F.heap[x]? = H[x]? := fun x hx => by
    have := Jvm.Free.Multi.fill_old (T.setVm vm₁) cA cy n.toNatClampNeg k.toNatClampNeg (defaultValue ty) (a := x) (by rw [hTh]; exact hx) n.toNatClampNeg
    rw [hF, hTh] at this
    exact this
  have hrow : ∀ j : Nat, j < n.toNatClampNeg → F.heap[H.size + 1 + j]? = some (vp_cell cy z) := fun j hj => by
    have := Jvm.Free.Multi.fill_inner (T.setVm vm₁) cA cy n.toNatClampNeg k.toNatClampNeg (defaultValue ty) n.toNatClampNeg j hj
    rw [hF, hTh, hz] at this
    exact this
  have hout : Jvm.Free.Multi.outerC cA n.toNatClampNeg H.size n.toNatClampNeg = vp_cell cA (n.toNatClampNeg, .inr (.inr (.inr (.inr (fun i => if i < n.toNatClampNeg then some (H.size + 1 + i) else none))))) := by
    rw [vp_cell_q]
    exact vr_outer cA n.toNatClampNeg H.size n.toNatClampNeg
  rw [hout] at f2
  have hlt : ∀ a, a ∈ L → a < H.size := fun a ha => by
    obtain ⟨k9, hk9⟩ := va_pl_get (X := X) (f := f) ha
    exact (hP k9 _ hk9).lt
  have hnl : ∀ i : Nat, i < n.toNatClampNeg → H.size + 1 + i ∉ L := fun i _ h => by
    have := hlt _ h
    omega
  have hnm : ∀ a, a ∈ (List.range n.toNatClampNeg).map (fun i => H.size + 1 + i) → a ∉ L := fun a ha h => by
    obtain ⟨i, -, rfl⟩ := List.mem_map.mp ha
    have := hlt _ h
    omega
  have hP0 : va_P D cl (X ++ va_pl L f) F.heap := hP.kept (fun k9 x hx => hold x.1 ((hP k9 x hx).lt))
  have hP1 : va_P D cl ((X ++ va_pl L f) ++ [(H.size, .inl (cA, n.toNatClampNeg, .inr (.inr (.inr (.inr (fun i => if i < n.toNatClampNeg then some (H.size + 1 + i) else none))))))]) F.heap := hP0.app (fun k9 x hx => by
    have h0 : k9 < 1 := (List.getElem?_eq_some_iff.mp hx).1
    rw [show k9 = 0 by omega] at hx
    cases hx
    exact f2)
  have hP2 : va_P D cl (((X ++ va_pl L f) ++ [(H.size, .inl (cA, n.toNatClampNeg, .inr (.inr (.inr (.inr (fun i => if i < n.toNatClampNeg then some (H.size + 1 + i) else none))))))]) ++ ((List.range n.toNatClampNeg).map (fun i => H.size + 1 + i)).map (fun a => (a, .inl (cy, z)))) F.heap := hP1.app (fun k9 x hx => by
    obtain ⟨a, ha, rfl⟩ := List.mem_map.mp (List.mem_of_getElem? hx)
    obtain ⟨i, hi, rfl⟩ := List.mem_map.mp ha
    exact hrow i (List.mem_range.mp hi))
  have hD2 : va_D A (((X ++ va_pl L f) ++ [(H.size, .inl (cA, n.toNatClampNeg, .inr (.inr (.inr (.inr (fun i => if i < n.toNatClampNeg then some (H.size + 1 + i) else none))))))]) ++ ((List.range n.toNatClampNeg).map (fun i => H.size + 1 + i)).map (fun a => (a, .inl (cy, z)))) := by
    have hD1 := hD.push (e := .inl (cA, n.toNatClampNeg, .inr (.inr (.inr (.inr (fun i => if i < n.toNatClampNeg then some (H.size + 1 + i) else none)))))) hP rfl (hA _ hS.1)
    generalize hW1 : (X ++ va_pl L f) ++ [(H.size, .inl (cA, n.toNatClampNeg, .inr (.inr (.inr (.inr (fun i => if i < n.toNatClampNeg then some (H.size + 1 + i) else none))))))] = W1 at hD1 hP1 ⊢
    have hle : ∀ (k9 : Nat) (x : Nat × va_E), W1[k9]? = some x → x.1 ≤ H.size := fun k9 x hx => by
      rw [← hW1] at hx
      by_cases hl : k9 < (X ++ va_pl L f).length
      · rw [List.getElem?_append_left hl] at hx
        exact Nat.le_of_lt ((hP k9 x hx).lt)
      · rw [List.getElem?_append_right (by omega)] at hx
        have h0 : k9 - (X ++ va_pl L f).length < 1 := (List.getElem?_eq_some_iff.mp hx).1
        rw [show k9 - (X ++ va_pl L f).length = 0 by omega] at hx
        cases hx
        exact Nat.le_refl _
    have hr : ∀ (k9 : Nat) (x : Nat × va_E), (((List.range n.toNatClampNeg).map (fun i => H.size + 1 + i)).map (fun a => ((a, .inl (cy, z)) : Nat × va_E)))[k9]? = some x → x.1 = H.size + 1 + k9 := fun k9 x hx => by
      rw [List.getElem?_map, List.getElem?_map] at hx
      by_cases h9 : k9 < n.toNatClampNeg
      · rw [List.getElem?_range h9] at hx
        cases hx
        rfl
      · have hn0 : (List.range n.toNatClampNeg)[k9]? = none := List.getElem?_eq_none (by rw [List.length_range]; omega)
        rw [hn0] at hx
        cases hx
    refine ⟨fun i j x y hi hj hxy => ?_, fun k9 x hx => ?_⟩
    · by_cases h1 : i < W1.length <;> by_cases h2 : j < W1.length
      · rw [List.getElem?_append_left h1] at hi
        rw [List.getElem?_append_left h2] at hj
        exact hD1.1 i j x y hi hj hxy
      · rw [List.getElem?_append_left h1] at hi
        rw [List.getElem?_append_right (by omega)] at hj
        have := hle _ _ hi
        have := hr _ _ hj
        omega
      · rw [List.getElem?_append_right (by omega)] at hi
        rw [List.getElem?_append_left h2] at hj
        have := hle _ _ hj
        have := hr _ _ hi
        omega
      · rw [List.getElem?_append_right (by omega)] at hi hj
        have := hr _ _ hi
        have := hr _ _ hj
        omega
    · by_cases h1 : k9 < W1.length
      · rw [List.getElem?_append_left h1] at hx
        exact hD1.2 k9 x hx
      · rw [List.getElem?_append_right (by omega)] at hx
        have := hr _ _ hx
        exact hA _ (by have := hS.1; omega)
  have hAr : ArrOfT s cA (.array ty) := fun N9 z9 => by
    obtain ⟨-, k9, hk9, cm9, hkk9⟩ := (hO 0 0 0).1
    exact ⟨(fun q hq => by cases hq), k9, hk9, cm9, hkk9⟩
  have hK2 : va_K D cl (tys ++ [(cA, .array ty)]) s := ⟨hK.1, fun k9 x hx => by
    by_cases hl : k9 < tys.length
    · rw [List.getElem?_append_left hl] at hx
      exact hK.2 k9 x hx
    · rw [List.getElem?_append_right (by omega)] at hx
      have h0 : k9 - tys.length < 1 := (List.getElem?_eq_some_iff.mp hx).1
      rw [show k9 - tys.length = 0 by omega] at hx
      cases hx
      exact ⟨hAr, fA⟩⟩
  obtain ⟨t, a1, b1⟩ := kk H.size (fun i => H.size + 1 + i) cA F.heap (fun i j _ _ h => by have h9 : H.size + 1 + i = H.size + 1 + j := h; omega) hnl hK2 (by rw [← vr_rows hnm]; exact vr_lay hP2) (by rw [← vr_rows hnm]; exact vr_layD hD2) ⟨by rw [f1]; have := hS.1; omega, fun x h1 h2 => (hold x (Nat.lt_of_lt_of_le h1 hS.1)).trans (hS.2.1 x h1 h2), hS.2.2⟩ F rfl X'
  refine ⟨t, step t ?_, b1⟩
  have e : T.heap.size = H.size := by rw [hT]
  rw [e]
  exact a1
end VGM
/-! ===== END ===== -/

/-! ===== BEGIN exceptions that leave a method, and their catching by the caller (launches without stack traces) ===== -/
section VXA
/-! The laws vx_back, vx_callV, vx_callS, vx_callSW, vx_throw0, vx_throwS follow proofs of the library, with one case more: JvmDerived/Free/Laws.lean (Back.of_free), Shelf42/LK1.lean (callV, callS), Shelf/KitTraced.lean (throwNew0V, throwNewS). -/
/-- where a method has thrown q: the class by its name, the cell, what was written, the world -/
def vx_T (XC : String → State → State → Prop) (st : State) (q : Addr) (t : State) (mc ms : Nat) (free : Addr → Prop) : Prop :=
  ∃ (E : String) (ce : Cell) (L : List Loc), XC E st t ∧ t.heap[q]? = some ce ∧ ce.vm = .none ∧ st.vm.findClass E = some ce.cls ∧ st.WarmedH t.vm ∧ st.sameButNew ({ t with vm := st.vm } : State) L mc ms ∧ ∀ z ∈ L, free z.base
def vx_Q (Qc : Array Value → State → Outcome → State → Prop) (XC : String → State → State → Prop) (mc ms : Nat) (free : Addr → Prop) : Array Value → State → Outcome → State → Prop := fun a st o t =>
  (Qc a st o t ∧ ∃ L, FrameEnd st o t L mc ms ∧ ∀ q ∈ L, free q.base) ∨ ∃ q, o = .threw q ∧ vx_T XC st q t mc ms free
/-- a callee that returns or throws -/
def vx_Met (l : Launch) (y : MethodName) (ws : List Cond) (rm : Room) (Pc : Array Value → State → Prop) (Qc : Array Value → State → Outcome → State → Prop) (XC : String → State → State → Prop) (mc ms : Nat) (free : Addr → Prop) : Prop :=
  MetFree l y (headSpec ws rm) Pc (fun _ _ _ _ _ => True) (vx_Q Qc XC mc ms free)
def vx_Post (XC : String → State → State → Prop) (mc ms : Nat) (free : Addr → Prop) : Pt → Array Value → Addr → Pt → Prop := fun A a q B =>
  ∃ (g : JFrame) (mk : MethodId) (t : State) (L : List Loc) (E : String) (ce : Cell), B.U.heap = t.heap ∧ B.U.vm = t.vm ∧ XC E (A.U.calling g mk a) t ∧ t.heap[q]? = some ce ∧ ce.vm = .none ∧ A.U.vm.findClass E = some ce.cls ∧ B.locs = A.locs ++ L ∧ (∀ z ∈ L, free z.base) ∧ B.cells = A.cells + mc ∧ B.slots = A.slots + ms
def vx_Back (l : Launch) (R : Room) (p : Program) (e : Env) (below : List Frame) (s : State) (sargs : Array Value) (y : MethodName) (len W9 : Nat)
    (Pre : Pt → Array Value → Prop) (Post : Pt → Array Value → Option Value → Pt → Prop) (PostX : Pt → Array Value → Addr → Pt → Prop) : Prop :=
  ∀ (m : MethodId) (meth : Method) (c : Code) (A : Pt) (g : JFrame) (ig : Instr) (mk : MethodId) (a : Array Value),
    Stand p l e R s m sargs below meth c A.U A.locs A.cells A.slots → g.method = m → g.locals.size = c.maxLocals → decode c.code g.pc = .ok (ig, len) →
    2 * g.monitorRoom + (g.stack.map fun v => v.category).sum ≤ W9 → A.U.methodNamed? y = some mk → Pre A a →
    (∃ (v : Option Value) (B : Pt), Stand p l e R s m sargs below meth c B.U B.locs B.cells B.slots ∧ Post A a v B ∧
      Steps p.tables e below (doInvoke e (A.U.setTop g) [] mk a).1 (B.U.setTop { g with pc := g.pc + len, stack := v.toList ++ g.stack })) ∨
    (∃ (q : Addr) (B : Pt), Stand p l e R s m sargs below meth c B.U B.locs B.cells B.slots ∧ PostX A a q B ∧
      Steps p.tables e below (doInvoke e (A.U.setTop g) [] mk a).1 ((B.U.setTop g).pushFrame (.throwing q)))
section Payer
variable {l : Launch} {R : Room} {p : Program} {e : Env} {below : List Frame} {s : State} {sargs : Array Value} {y : MethodName} {len W9 : Nat}
theorem vx_back {ws : List Cond} {rm : Room} {Pc : Array Value → State → Prop} {Qc : Array Value → State → Outcome → State → Prop} {XC : String → State → State → Prop} {mc ms : Nat} {free : Addr → Prop} {bytes : ByteArray} {maxL : Nat} {ret : Option FieldType}
    (hM : vx_Met l y ws rm Pc Qc XC mc ms free) (hblind : FrameBlind Pc) (hrc : rm.cells = mc) (hrs : rm.slots = ms)
    (hframes : rm.frames + 1 ≤ R.frames) (hlocals : W9 + (maxL + 11) + rm.locals ≤ R.locals)
    (hws : ∀ w ∈ ws, ∀ a' U, s.WarmedH U.vm → w.before a' U = true) (hcode : Cond.code y bytes maxL ret ∈ ws) (hinit : ∀ a' U, s.WarmedH U.vm → (Cond.initialized y.cls).before a' U = true) :
    vx_Back l R p e below s sargs y len W9 (PreOf R mc ms Pc) (PostOf Qc mc ms free) (vx_Post XC mc ms free) := by
  intro m meth c A g ig mk a X hg hsize hdg hW hn hp
  have h1 : (headSpec ws rm).pre.before a A.U = true := atoms_intro fun w hw => hws w hw _ _ X.warmed
  have h2 : (Cond.code y bytes maxL ret).before a A.U = true := hws _ hcode _ _ X.warmed
  have h3 : (Cond.initialized y.cls).before a A.U = true := hinit _ _ X.warmed
  have h4 : A.cells + (headSpec ws rm).room.cells ≤ R.cells := by rw [show (headSpec ws rm).room.cells = mc from hrc]; exact hp.1
  have h5 : A.slots + (headSpec ws rm).room.slots ≤ R.slots := by rw [show (headSpec ws rm).room.slots = ms from hrs]; exact hp.2.1
  have hPc : Pc a (A.U.calling g mk a) := hblind _ _ _ _ hp.2.2
  obtain ⟨U, Ls, c0, s0⟩ := A
  dsimp only [Pt.U, Pt.locs, Pt.cells, Pt.slots] at h1 h2 h3 h4 h5 X hn hPc ⊢
  obtain ⟨methY, cY, hmY, hcY, -, hlY, -, -, -, -⟩ := Cond.code_spec hn h2
  obtain ⟨kY, hkY, -⟩ := className_of_methodNamed hn
  have hinitY : kY.init = .initialized := Cond.initialized_spec (findClass_of_methodNamed hn) hkY h3
  have h : At U g.method c below := by rw [hg]; exact X.here
  have hlocals9 : W9 + (maxL + 11) + (headSpec ws rm).room.locals ≤ R.locals := hlocals
  have happ : (headSpec ws rm).appliesLoose y e.platform (U.calling g mk a) = true :=
    Spec.appliesLoose_calling (g := g) h hdg hn hkY hinitY
      (X.room_calling (g := g) (R' := (headSpec ws rm).room) hsize hmY hcY hframes (by rw [hlY]; omega) h4 h5) h1
  obtain ⟨mid, hmid⟩ := h.above
  have hfr : (U.setTop g).frames = (.java g :: mid) ++ below := by rw [State.frames_setTop' g h.top, hmid]; rfl
  obtain ⟨o, s₂, hsteps, -, hend, hq⟩ := Steps.callFree hM p X.admits X.cas X.clock (acts := []) hfr happ hPc trivial
  have hq' : vx_Q Qc XC mc ms free a (U.calling g mk a) o s₂ := hq
  rw [State.frames_setTop' g h.top] at hend
  obtain ⟨g₀, hg0⟩ := Option.isSome_iff_exists.mp h.top
  obtain ⟨r, hr⟩ := State.topJava?_eq_some.mp hg0
  have hr' : (({ U with heap := s₂.heap, slotsUsed := s₂.slotsUsed } : State).setVm s₂.vm).frames = .java g₀ :: r := hr
  rcases hq' with ⟨hqc, L, hfe, hL⟩ | ⟨q, rfl, E, ce, L, hx, hce, hcv, hcl, hW₂, hsm, hL⟩
  · obtain ⟨⟨v, rfl⟩, hW₂, e2, q2, q3, q4, q5, q6⟩ := id hfe
    have e3 : s₂ = ({ (U.calling g mk a).setFrames s₂.frames with heap := s₂.heap, slotsUsed := s₂.slotsUsed } : State).setVm s₂.vm := by
      have : s₂ = ({ s₂ with vm := (U.calling g mk a).vm } : State).setVm s₂.vm := rfl
      rw [e2] at this
      exact this
    obtain ⟨c₂, i₂, len₂, hc₂, hd₂, hf₂⟩ := hend
    have hW' : U.WarmedH s₂.vm := hW₂
    have hcc : c₂ = c := by
      have h1 : s₂.code? g.method = U.code? g.method := by
        rw [State.code?_eq, State.code?_eq, hW'.alike.method?]
      exact Option.some.inj (hc₂.symm.trans (h1.trans h.code))
    subst hcc
    have hlen : len₂ = len := by rw [hdg] at hd₂; cases hd₂; rfl
    subst hlen
    have hs₂ : s₂ = (({ U with heap := s₂.heap, slotsUsed := s₂.slotsUsed } : State).setVm s₂.vm).setTop { g with pc := g.pc + len₂, stack := v.toList ++ g.stack } := by
      refine e3.trans ?_
      rw [hf₂, State.calling_eq h.top, State.setFrames_setFrames, State.setTop_of_frames _ hr', hr]
      rfl
    have hsame : U.sameButNew ({ U with heap := s₂.heap, slotsUsed := s₂.slotsUsed } : State) L mc ms := by
      refine ⟨?_, q2, q3, q4, q5, q6⟩
      obtain ⟨t, ht, -⟩ := State.frames_cons hr
      show ({ U with heap := s₂.heap, slotsUsed := s₂.slotsUsed } : State) = { U.setFrames U.frames with heap := s₂.heap, slotsUsed := s₂.slotsUsed }
      rw [State.setFrames_self ht]
    subst hg
    refine Or.inl ⟨v, ⟨(({ U with heap := s₂.heap, slotsUsed := s₂.slotsUsed } : State).setVm s₂.vm), Ls ++ L, c0 + mc, s0 + ms⟩,
      ⟨X.admits, X.cas, X.clock, X.frames, X.room, X.hears, X.method, X.code, (X.here.setHeapUsed s₂.heap s₂.slotsUsed).setVm hW'.alike, X.tail, State.WarmedH.trans X.warmed hW', X.limits, X.bytes, X.same.trans (hsame.setVm s.vm)⟩,
      ⟨g, mk, s₂, L, rfl, rfl, hqc, rfl, hL, rfl, rfl⟩, ?_⟩
    show Steps p.tables e below _ ((({ U with heap := s₂.heap, slotsUsed := s₂.slotsUsed } : State).setVm s₂.vm).setTop { g with pc := g.pc + len₂, stack := v.toList ++ g.stack })
    rw [← hs₂]
    exact hsteps
  · obtain ⟨e2, q2, q3, q4, q5, q6⟩ := id hsm
    have e3 : s₂ = ({ (U.calling g mk a).setFrames s₂.frames with heap := s₂.heap, slotsUsed := s₂.slotsUsed } : State).setVm s₂.vm := by
      have : s₂ = ({ s₂ with vm := (U.calling g mk a).vm } : State).setVm s₂.vm := rfl
      rw [e2] at this
      exact this
    have hf₂ : s₂.frames = .throwing q :: .java g :: U.frames.tail := hend
    have hW' : U.WarmedH s₂.vm := hW₂
    have hs₂ : s₂ = ((({ U with heap := s₂.heap, slotsUsed := s₂.slotsUsed } : State).setVm s₂.vm).setTop g).pushFrame (.throwing q) := by
      refine e3.trans ?_
      rw [hf₂, State.calling_eq h.top, State.setFrames_setFrames, State.pushFrame, State.frames_setTop _ hr', State.setTop_of_frames _ hr', State.setFrames_setFrames, hr]
      rfl
    have hsame : U.sameButNew ({ U with heap := s₂.heap, slotsUsed := s₂.slotsUsed } : State) L mc ms := by
      refine ⟨?_, q2, q3, q4, q5, q6⟩
      obtain ⟨t, ht, -⟩ := State.frames_cons hr
      show ({ U with heap := s₂.heap, slotsUsed := s₂.slotsUsed } : State) = { U.setFrames U.frames with heap := s₂.heap, slotsUsed := s₂.slotsUsed }
      rw [State.setFrames_self ht]
    subst hg
    refine Or.inr ⟨q, ⟨(({ U with heap := s₂.heap, slotsUsed := s₂.slotsUsed } : State).setVm s₂.vm), Ls ++ L, c0 + mc, s0 + ms⟩,
      ⟨X.admits, X.cas, X.clock, X.frames, X.room, X.hears, X.method, X.code, (X.here.setHeapUsed s₂.heap s₂.slotsUsed).setVm hW'.alike, X.tail, State.WarmedH.trans X.warmed hW', X.limits, X.bytes, X.same.trans (hsame.setVm s.vm)⟩,
      ⟨g, mk, s₂, L, E, ce, rfl, rfl, hx, hce, hcv, hcl, rfl, hL, rfl, rfl⟩, ?_⟩
    show Steps p.tables e below _ (((({ U with heap := s₂.heap, slotsUsed := s₂.slotsUsed } : State).setVm s₂.vm).setTop g).pushFrame (.throwing q))
    rw [← hs₂]
    exact hsteps
end Payer
section Calls
variable {p : Program} {l : Launch} {e : Env} {R : Room} {s : State} {m : MethodId} {args : Array Value} {below : List Frame} {meth : Method} {c : Code} {T : State} {locs : List Loc} {cells slots : Nat}
theorem vx_callV (X : Stand p l e R s m args below meth c T locs cells slots) (hexec : p.tables.exec = Jvm.exec) {own C : String} {index : Nat} {y : MethodName} {bytes : ByteArray} {maxL : Nat} {ret : Option FieldType}
    (hown : s.vm.findClass own = some m.cls) (hlink : (Cond.methodLink own index y).before args s = true) (hinst : (Cond.instanceMethod y).before args s = true) (hsel : (Cond.selects C y y).before args s = true)
    (hcode : (Cond.code y bytes maxL ret).before args s = true) (hy : y.cls ≠ "java/lang/invoke/MethodHandle" ∧ y.cls ≠ "java/lang/invoke/VarHandle")
    {W9 : Nat} {Pre : Pt → Array Value → Prop} {Post : Pt → Array Value → Option Value → Pt → Prop} {PostX : Pt → Array Value → Addr → Pt → Prop} (hK : vx_Back l R p e below s args y 3 W9 Pre Post PostX)
    {b : Addr} {cellB : Cell} (hcell : T.heap[b]? = some cellB) (hobj : cellB.vm.isStatics = false) (hcls : s.vm.findClass C = some cellB.cls)
    {g : JFrame} (hg : g.method = m) (hsize : g.locals.size = c.maxLocals) {argsL rest : List Value} (hlen : ∀ sig, parseMethodDescriptor y.desc = some sig → argsL.length = sig.parameters.length)
    (hstack : g.stack = argsL.reverse ++ .ref b :: rest) (hW : 2 * g.monitorRoom + (rest.map fun v => v.category).sum ≤ W9) (hdg : decode c.code g.pc = .ok (.invokevirtual index, 3))
    (hpre : ∀ vm₁, s.WarmedH vm₁ → Pre ⟨T.setVm vm₁, locs, cells, slots⟩ (Value.ref b :: argsL).toArray) :
    (∃ (v : Option Value) (vm₁ : Vm) (B : Pt), s.WarmedH vm₁ ∧ Stand p l e R s m args below meth c B.U B.locs B.cells B.slots ∧ Post ⟨T.setVm vm₁, locs, cells, slots⟩ (Value.ref b :: argsL).toArray v B ∧
      ∀ target, Steps p.tables e below (B.U.setTop { g with pc := g.pc + 3, stack := v.toList ++ rest }) target → Steps p.tables e below (T.setTop g) target) ∨
    (∃ (q : Addr) (vm₁ : Vm) (B : Pt), s.WarmedH vm₁ ∧ Stand p l e R s m args below meth c B.U B.locs B.cells B.slots ∧ PostX ⟨T.setVm vm₁, locs, cells, slots⟩ (Value.ref b :: argsL).toArray q B ∧
      Steps p.tables e below (T.setTop g) ((B.U.setTop { g with stack := rest }).pushFrame (.throwing q))) := by
  obtain ⟨mk, methM, hnamed, hmethM, hstM, habM⟩ := Cond.instanceMethod_spec hinst
  obtain ⟨methM', cM, hmethM', -, -, -, -, -, -, hsigM⟩ := Cond.code_spec hnamed hcode
  cases hmethM.symm.trans hmethM'
  obtain ⟨c2, r2, m2, q1, q2, q3, q4, kP, hkP, hkPi⟩ := Cond.selects_spec hsel
  cases hcls.symm.trans q1
  cases (State.methodFound?_of_named hnamed hy).symm.trans q2
  cases hnamed.symm.trans q3
  have hselP : selectMethod e.platform s.vm cellB.cls mk = .method mk := by rw [Launch.admits_selectMethod X.admits]; exact q4
  obtain ⟨vm₁, X₁, hstep₁⟩ := X.invokevirtual hexec hown hlink hnamed hmethM hstM hkP hkPi hy (a := b) (cell := cellB) hcell
    (fun z h => by rw [h] at hobj; cases hobj) hselP hmethM habM hkP hkPi (g := g) hg (argsL := argsL) (rest := rest) (hlen _ hsigM) hstack hdg
  rcases hK m meth c ⟨T.setVm vm₁, locs, cells, slots⟩ { g with stack := rest } (.invokevirtual index) mk (Value.ref b :: argsL).toArray X₁ hg hsize hdg hW (X₁.named hnamed) (hpre vm₁ X₁.warmed) with ⟨v, B, X', hpost, hsteps⟩ | ⟨q, B, X', hpost, hsteps⟩
  · exact Or.inl ⟨v, vm₁, B, X₁.warmed, X', hpost, fun target h => hstep₁ _ fun acts => by rw [doInvoke_state]; exact hsteps.trans h⟩
  · exact Or.inr ⟨q, vm₁, B, X₁.warmed, X', hpost, hstep₁ _ fun acts => by rw [doInvoke_state]; exact hsteps⟩
theorem vx_callS (X : Stand p l e R s m args below meth c T locs cells slots) (hexec : p.tables.exec = Jvm.exec) {own : String} {index : Nat} {y : MethodName} {bytes : ByteArray} {maxL : Nat} {ret : Option FieldType}
    (hown : s.vm.findClass own = some m.cls) (hlink : (Cond.methodLink own index y).before args s = true) (hstat : (Cond.static y).before args s = true) (hinit : (Cond.initialized y.cls).before args s = true)
    (hcode : (Cond.code y bytes maxL ret).before args s = true) (hy : y.cls ≠ "java/lang/invoke/MethodHandle" ∧ y.cls ≠ "java/lang/invoke/VarHandle")
    {W9 : Nat} {Pre : Pt → Array Value → Prop} {Post : Pt → Array Value → Option Value → Pt → Prop} {PostX : Pt → Array Value → Addr → Pt → Prop} (hK : vx_Back l R p e below s args y 3 W9 Pre Post PostX)
    {g : JFrame} (hg : g.method = m) (hsize : g.locals.size = c.maxLocals) {argsL rest : List Value} (hlen : ∀ sig, parseMethodDescriptor y.desc = some sig → argsL.length = sig.parameters.length)
    (hstack : g.stack = argsL.reverse ++ rest) (hW : 2 * g.monitorRoom + (rest.map fun v => v.category).sum ≤ W9) (hdg : decode c.code g.pc = .ok (.invokestatic index, 3))
    (hpre : ∀ vm₁, s.WarmedH vm₁ → Pre ⟨T.setVm vm₁, locs, cells, slots⟩ argsL.toArray) :
    (∃ (v : Option Value) (vm₁ : Vm) (B : Pt), s.WarmedH vm₁ ∧ Stand p l e R s m args below meth c B.U B.locs B.cells B.slots ∧ Post ⟨T.setVm vm₁, locs, cells, slots⟩ argsL.toArray v B ∧
      ∀ target, Steps p.tables e below (B.U.setTop { g with pc := g.pc + 3, stack := v.toList ++ rest }) target → Steps p.tables e below (T.setTop g) target) ∨
    (∃ (q : Addr) (vm₁ : Vm) (B : Pt), s.WarmedH vm₁ ∧ Stand p l e R s m args below meth c B.U B.locs B.cells B.slots ∧ PostX ⟨T.setVm vm₁, locs, cells, slots⟩ argsL.toArray q B ∧
      Steps p.tables e below (T.setTop g) ((B.U.setTop { g with stack := rest }).pushFrame (.throwing q))) := by
  obtain ⟨mk, hnamed⟩ := Cond.code_named hcode
  obtain ⟨methM, cM, hmethM, -, -, -, -, -, -, hsigM⟩ := Cond.code_spec hnamed hcode
  have hstatic : methM.isStatic = true := Cond.static_spec hnamed hmethM hstat
  obtain ⟨kP, hkP, -⟩ := className_of_methodNamed hnamed
  have hinitP : kP.init = .initialized := Cond.initialized_spec (findClass_of_methodNamed hnamed) hkP hinit
  obtain ⟨vm₁, X₁, hstep₁⟩ := X.invokestatic hexec hown hlink hnamed hmethM hstatic hkP hinitP hy (g := g) hg (argsL := argsL) (rest := rest) (hlen _ hsigM) hstack hdg
  rcases hK m meth c ⟨T.setVm vm₁, locs, cells, slots⟩ { g with stack := rest } (.invokestatic index) mk argsL.toArray X₁ hg hsize hdg hW (X₁.named hnamed) (hpre vm₁ X₁.warmed) with ⟨v, B, X', hpost, hsteps⟩ | ⟨q, B, X', hpost, hsteps⟩
  · exact Or.inl ⟨v, vm₁, B, X₁.warmed, X', hpost, fun target h => hstep₁ _ fun acts => by rw [doInvoke_state]; exact hsteps.trans h⟩
  · exact Or.inr ⟨q, vm₁, B, X₁.warmed, X', hpost, hstep₁ _ fun acts => by rw [doInvoke_state]; exact hsteps⟩
end Calls
theorem vx_cls {s : State} {T : State} {vm₁ : Vm} {E : String} {k : ClassId} (hW : s.WarmedH vm₁) (h : (T.setVm vm₁).vm.findClass E = some k) : s.vm.findClass E = some k := by
  have h1 : vm₁.findClass E = some k := h
  rw [hW.alike.findClass] at h1
  exact h1
/-- the method's frame g, with q thrown over it -/
def vx_W (p : Program) (l : Launch) (e : Env) (R : Room) (s : State) (m : MethodId) (args : Array Value) (below : List Frame) (meth : Method) (c : Code) (H : Heap) (locs : List Loc) (cells slots : Nat) (Q : State → Prop) (g : JFrame) (q : Addr) : Prop :=
  ∀ T : State, T.heap = H → Stand p l e R s m args below meth c T locs cells slots → ∃ t, Steps p.tables e below ((T.setTop g).pushFrame (.throwing q)) t ∧ Q t
def vx_Run (p : Program) (l : Launch) (e : Env) (R : Room) (s : State) (m : MethodId) (args : Array Value) (below : List Frame) (meth : Method) (c : Code) (H : Heap) (locs : List Loc) (cells slots mc ms : Nat) (g : JFrame) (rest : List Value) (Qa : State → Outcome → State → Prop) (XC : String → State → State → Prop) (free : Addr → Prop) : Prop :=
  ∀ T : State, T.heap = H → Stand p l e R s m args below meth c T locs cells slots →
    (∃ (v : Option Value) (st₀ t T' : State) (L : List Loc), st₀.heap = H ∧ Stand p l e R s m args below meth c T' (locs ++ L) (cells + mc) (slots + ms) ∧ (∀ q ∈ L, free q.base) ∧ T'.heap = t.heap ∧ T'.vm = t.vm ∧ Qa st₀ (.returned v) t ∧
      Goes p e below T g T' { g with pc := g.pc + 3, stack := v.toList ++ rest }) ∨
    (∃ (q : Addr) (st₀ t T' : State) (L : List Loc) (E : String) (ce : Cell), st₀.heap = H ∧ Stand p l e R s m args below meth c T' (locs ++ L) (cells + mc) (slots + ms) ∧ (∀ z ∈ L, free z.base) ∧ T'.heap = t.heap ∧ T'.vm = t.vm ∧ XC E st₀ t ∧ t.heap[q]? = some ce ∧ ce.vm = .none ∧ s.vm.findClass E = some ce.cls ∧
      Steps p.tables e below (T.setTop g) ((T'.setTop { g with stack := rest }).pushFrame (.throwing q)))
def vx_X {S : Type} (px : S → Prop) (B : String → S → State → Prop) (A : Nat → Prop) : String → State → State → Prop := fun E st t => ∃ u : S, px u ∧ B E u t ∧ va_F A st t
section Runs
variable {p : Program} {l : Launch} {e : Env} {R : Room} {s : State} {m : MethodId} {args : Array Value} {below : List Frame} {meth : Method} {c : Code} {H : Heap} {locs : List Loc} {cells slots : Nat}
variable {y : MethodName} {bytes cc : ByteArray} {maxL nL mc ms n index : Nat} {ret : Option FieldType} {ws : List Cond} {rm : Room} {Pc : Array Value → State → Prop} {Qc : Array Value → State → Outcome → State → Prop} {XC : String → State → State → Prop} {free : Addr → Prop} {Ts : List Cond} {own C : String} {b : Addr} {As rest : List Value} {g : JFrame}
theorem vx_callBack (cb : CallB R s args own index y bytes maxL ret ws rm mc ms n) (hM : vx_Met l y ws rm Pc Qc XC mc ms free) (hbl : FrameBlind Pc) : vx_Back l R p e below s args y 3 8 (PreOf R mc ms Pc) (PostOf Qc mc ms free) (vx_Post XC mc ms free) := by
  obtain ⟨hrc, hrs, hfr, hlo, hws, hcw, -, hini, -⟩ := cb
  exact vx_back (bytes := bytes) (maxL := maxL) (ret := ret) hM hbl hrc hrs hfr hlo hws hcw (fun a' U hW => word_at hW (Or.inl (by first | rfl | simp [Cond.onTables, Cond.keeps, Cond.steady])) hini)
theorem vx_runV (S : CallFix p m c cc nL s args Ts own) (hM : vx_Met l y ws rm Pc Qc XC mc ms free) (cw : CallW R s args own C index y bytes maxL ret ws rm mc ms n) (hp : PreV s H C b Pc As)
    (hg : g.method = m) (hn : As.length = n) (hsize : g.locals.size = nL) (hstack : g.stack = As.reverse ++ .ref b :: rest) (hW : 2 * g.monitorRoom + (rest.map fun v => v.category).sum ≤ 8) (hdg : decode cc g.pc = .ok (.invokevirtual index, 3)) (hf : cells + mc ≤ R.cells ∧ slots + ms ≤ R.slots) :
    vx_Run p l e R s m args below meth c H locs cells slots mc ms g rest (Qc (Value.ref b :: As).toArray) XC free := by
  have hK : vx_Back l R p e below s args y 3 8 (PreOf R mc ms Pc) (PostOf Qc mc ms free) (vx_Post XC mc ms free) := vx_callBack cw.1 hM hp.1
  obtain ⟨⟨-, -, -, -, -, -, hcode, -, hy, hlen, hl⟩, hin, hse⟩ := cw
  obtain ⟨hx, hb, hml, ho, -⟩ := S
  obtain ⟨-, ⟨cellB, hcB, hoB, hclB⟩, hPc⟩ := hp
  intro T hT X
  rcases vx_callV X hx (C := C) (bytes := bytes) (maxL := maxL) (ret := ret) ho hl hin hse hcode hy hK (by rw [hT]; exact hcB) hoB hclB hg (hsize.trans hml.symm) (argsL := As) (rest := rest) (fun sig h => hn.trans (hlen sig h)) hstack hW (by rw [hb]; exact hdg)
    (fun vm₁ hW₁ => ⟨hf.1, hf.2, hPc (T.setVm vm₁) hT hW₁⟩) with ⟨v, vm₁, ⟨U', l2, c2, s2⟩, hW₁, X', ⟨g', mk, t, L, e1, e2, hq, h1, hL, h2, h3⟩, st⟩ | ⟨q, vm₁, ⟨U', l2, c2, s2⟩, hW₁, X', ⟨g', mk, t, L, E, ce, e1, e2, hq, hce, hcv, hcl, h1, hL, h2, h3⟩, st⟩
  · dsimp only [Pt.U, Pt.locs, Pt.cells, Pt.slots] at X' e1 e2 h1 h2 h3 st
    subst h1; subst h2; subst h3
    exact Or.inl ⟨v, (T.setVm vm₁).calling g' mk (Value.ref b :: As).toArray, t, U', L, hT, X', hL, e1, e2, hq, st⟩
  · dsimp only [Pt.U, Pt.locs, Pt.cells, Pt.slots] at X' e1 e2 h1 h2 h3 st hcl
    subst h1; subst h2; subst h3
    exact Or.inr ⟨q, (T.setVm vm₁).calling g' mk (Value.ref b :: As).toArray, t, U', L, E, ce, hT, X', hL, e1, e2, hq, hce, hcv, vx_cls hW₁ hcl, st⟩
theorem vx_runS (S : CallFix p m c cc nL s args Ts own) (hM : vx_Met l y ws rm Pc Qc XC mc ms free) (cw : CallB R s args own index y bytes maxL ret ws rm mc ms n ∧ (Cond.static y).before args s = true) (hp : PreS s H Pc As)
    (hg : g.method = m) (hn : As.length = n) (hsize : g.locals.size = nL) (hstack : g.stack = As.reverse ++ rest) (hW : 2 * g.monitorRoom + (rest.map fun v => v.category).sum ≤ 8) (hdg : decode cc g.pc = .ok (.invokestatic index, 3)) (hf : cells + mc ≤ R.cells ∧ slots + ms ≤ R.slots) :
    vx_Run p l e R s m args below meth c H locs cells slots mc ms g rest (Qc As.toArray) XC free := by
  have hK : vx_Back l R p e below s args y 3 8 (PreOf R mc ms Pc) (PostOf Qc mc ms free) (vx_Post XC mc ms free) := vx_callBack cw.1 hM hp.1
  obtain ⟨⟨-, -, -, -, -, -, hcode, hini, hy, hlen, hl⟩, hstt⟩ := cw
  obtain ⟨hx, hb, hml, ho, -⟩ := S
  intro T hT X
  rcases vx_callS X hx (bytes := bytes) (maxL := maxL) (ret := ret) ho hl hstt hini hcode hy hK hg (hsize.trans hml.symm) (argsL := As) (rest := rest) (fun sig h => hn.trans (hlen sig h)) hstack hW (by rw [hb]; exact hdg)
    (fun vm₁ hW₁ => ⟨hf.1, hf.2, hp.2 (T.setVm vm₁) hT hW₁⟩) with ⟨v, vm₁, ⟨U', l2, c2, s2⟩, hW₁, X', ⟨g', mk, t, L, e1, e2, hq, h1, hL, h2, h3⟩, st⟩ | ⟨q, vm₁, ⟨U', l2, c2, s2⟩, hW₁, X', ⟨g', mk, t, L, E, ce, e1, e2, hq, hce, hcv, hcl, h1, hL, h2, h3⟩, st⟩
  · dsimp only [Pt.U, Pt.locs, Pt.cells, Pt.slots] at X' e1 e2 h1 h2 h3 st
    subst h1; subst h2; subst h3
    exact Or.inl ⟨v, (T.setVm vm₁).calling g' mk As.toArray, t, U', L, hT, X', hL, e1, e2, hq, st⟩
  · dsimp only [Pt.U, Pt.locs, Pt.cells, Pt.slots] at X' e1 e2 h1 h2 h3 st hcl
    subst h1; subst h2; subst h3
    exact Or.inr ⟨q, (T.setVm vm₁).calling g' mk As.toArray, t, U', L, E, ce, hT, X', hL, e1, e2, hq, hce, hcv, vx_cls hW₁ hcl, st⟩
end Runs
section Rows
variable {p : Program} {l : Launch} {e : Env} {R : Room} {s : State} {m : MethodId} {args : Array Value} {below : List Frame} {meth : Method} {c : Code} {H : Heap} {locs : List Loc} {cells slots : Nat} {Q : State → Prop}
variable {mc ms : Nat} {free : Addr → Prop} {A0 A1 : Nat → Prop} {H0 : Heap} {a : Array Value} {pc : Nat} {ls : Array Slot} {st0 rest : List Value}
theorem vx_keep {st₀ t T' : State} {L : List Loc} (h0 : st₀.heap = H) (e1 : T'.heap = t.heap) (hS : va_S A0 H0 H locs) (hA : ∀ q, q < H.size → A1 q → A0 q) (hf : ∀ q, free q → A0 q) (hL : ∀ q ∈ L, free q.base) (hF : va_F A1 st₀ t) :
    H.size ≤ T'.heap.size ∧ (∀ q : Nat, q < H.size → ¬ A1 q → T'.heap[q]? = H[q]?) ∧ va_S A0 H0 T'.heap (locs ++ L) := by
  obtain ⟨hz, hk⟩ := hF
  rw [h0] at hz hk
  exact ⟨by rw [e1]; exact hz, fun q h1 h2 => by rw [e1]; exact hk q h1 h2,
    ⟨Nat.le_trans hS.1 (by rw [e1]; exact hz), fun q h1 h2 => by rw [e1, hk q (Nat.lt_of_lt_of_le h1 hS.1) (fun z => h2 (hA q (Nat.lt_of_lt_of_le h1 hS.1) z))]; exact hS.2.1 q h1 h2, fun q hq => by
      rcases List.mem_append.mp hq with h | h
      · exact hS.2.2 q h
      · exact hf _ (hL q h)⟩⟩
theorem vx_calli {S SX : Type} {post : Int32 → S → Prop} {px : SX → Prop} {B : S → State → Prop} {BX : String → SX → State → Prop} {AX : Nat → Prop} (hr : vx_Run p l e R s m args below meth c H locs cells slots mc ms (F0 m pc ls st0) rest (va_Qi post B A1 a) (vx_X px BX AX) free) (hS : va_S A0 H0 H locs) (hA : ∀ q, q < H.size → A1 q → A0 q) (hf : ∀ q, free q → A0 q) (hAX : ∀ q, q < H.size → AX q → A0 q)
    (kx : ∀ (E : String) (ce : Cell) (q9 : Addr) (u : SX) (t : State) (H1 : Heap) (locs1 : List Loc), t.heap = H1 → s.vm.Alike t.vm → px u → BX E u t → H.size ≤ H1.size → (∀ q : Nat, q < H.size → ¬ AX q → H1[q]? = H[q]?) → va_S A0 H0 H1 locs1 → H1[q9]? = some ce → ce.vm = .none → s.vm.findClass E = some ce.cls → vx_W p l e R s m args below meth c H1 locs1 (cells + mc) (slots + ms) Q (F0 m pc ls rest) q9)
    (kk : ∀ (r : Int32) (u : S) (t : State) (H1 : Heap) (locs1 : List Loc), t.heap = H1 → s.vm.Alike t.vm → post r u → B u t → H.size ≤ H1.size → (∀ q : Nat, q < H.size → ¬ A1 q → H1[q]? = H[q]?) → va_S A0 H0 H1 locs1 → W p l e R s m args below meth c H1 locs1 (cells + mc) (slots + ms) Q (F0 m (pc + 3) ls (.int r :: rest))) : W p l e R s m args below meth c H locs cells slots Q (F0 m pc ls st0) := by
  intro T hT X
  rcases hr T hT X with ⟨v, st₀, t, T', L, h0, X', hL, e1, e2, ⟨⟨r, u, hv, hp, hb⟩, hF⟩, st⟩ | ⟨q, st₀, t, T', L, E, ce, h0, X', hL, e1, e2, ⟨u, hp, hb, hF⟩, hce, hcv, hcl, st⟩
  · cases hv
    obtain ⟨k1, k2, k3⟩ := vx_keep h0 e1 hS hA hf hL hF
    obtain ⟨t2, a1, b1⟩ := kk r u t T'.heap (locs ++ L) e1.symm (by rw [← e2]; exact X'.warmed.alike) hp hb k1 k2 k3 T' rfl X'
    exact ⟨t2, st t2 a1, b1⟩
  · obtain ⟨k1, k2, k3⟩ := vx_keep h0 e1 hS hAX hf hL hF
    obtain ⟨t2, a1, b1⟩ := kx E ce q u t T'.heap (locs ++ L) e1.symm (by rw [← e2]; exact X'.warmed.alike) hp hb k1 k2 k3 (by rw [e1]; exact hce) hcv hcl T' rfl X'
    exact ⟨t2, st.trans a1, b1⟩
theorem vx_calll {S SX : Type} {post : Int64 → S → Prop} {px : SX → Prop} {B : S → State → Prop} {BX : String → SX → State → Prop} {AX : Nat → Prop} (hr : vx_Run p l e R s m args below meth c H locs cells slots mc ms (F0 m pc ls st0) rest (va_Ql post B A1 a) (vx_X px BX AX) free) (hS : va_S A0 H0 H locs) (hA : ∀ q, q < H.size → A1 q → A0 q) (hf : ∀ q, free q → A0 q) (hAX : ∀ q, q < H.size → AX q → A0 q)
    (kx : ∀ (E : String) (ce : Cell) (q9 : Addr) (u : SX) (t : State) (H1 : Heap) (locs1 : List Loc), t.heap = H1 → s.vm.Alike t.vm → px u → BX E u t → H.size ≤ H1.size → (∀ q : Nat, q < H.size → ¬ AX q → H1[q]? = H[q]?) → va_S A0 H0 H1 locs1 → H1[q9]? = some ce → ce.vm = .none → s.vm.findClass E = some ce.cls → vx_W p l e R s m args below meth c H1 locs1 (cells + mc) (slots + ms) Q (F0 m pc ls rest) q9)
    (kk : ∀ (r : Int64) (u : S) (t : State) (H1 : Heap) (locs1 : List Loc), t.heap = H1 → s.vm.Alike t.vm → post r u → B u t → H.size ≤ H1.size → (∀ q : Nat, q < H.size → ¬ A1 q → H1[q]? = H[q]?) → va_S A0 H0 H1 locs1 → W p l e R s m args below meth c H1 locs1 (cells + mc) (slots + ms) Q (F0 m (pc + 3) ls (.long r :: rest))) : W p l e R s m args below meth c H locs cells slots Q (F0 m pc ls st0) := by
  intro T hT X
  rcases hr T hT X with ⟨v, st₀, t, T', L, h0, X', hL, e1, e2, ⟨⟨r, u, hv, hp, hb⟩, hF⟩, st⟩ | ⟨q, st₀, t, T', L, E, ce, h0, X', hL, e1, e2, ⟨u, hp, hb, hF⟩, hce, hcv, hcl, st⟩
  · cases hv
    obtain ⟨k1, k2, k3⟩ := vx_keep h0 e1 hS hA hf hL hF
    obtain ⟨t2, a1, b1⟩ := kk r u t T'.heap (locs ++ L) e1.symm (by rw [← e2]; exact X'.warmed.alike) hp hb k1 k2 k3 T' rfl X'
    exact ⟨t2, st t2 a1, b1⟩
  · obtain ⟨k1, k2, k3⟩ := vx_keep h0 e1 hS hAX hf hL hF
    obtain ⟨t2, a1, b1⟩ := kx E ce q u t T'.heap (locs ++ L) e1.symm (by rw [← e2]; exact X'.warmed.alike) hp hb k1 k2 k3 (by rw [e1]; exact hce) hcv hcl T' rfl X'
    exact ⟨t2, st.trans a1, b1⟩
theorem vx_callf {S SX : Type} {post : UInt32 → S → Prop} {px : SX → Prop} {B : S → State → Prop} {BX : String → SX → State → Prop} {AX : Nat → Prop} (hr : vx_Run p l e R s m args below meth c H locs cells slots mc ms (F0 m pc ls st0) rest (va_Qf post B A1 a) (vx_X px BX AX) free) (hS : va_S A0 H0 H locs) (hA : ∀ q, q < H.size → A1 q → A0 q) (hf : ∀ q, free q → A0 q) (hAX : ∀ q, q < H.size → AX q → A0 q)
    (kx : ∀ (E : String) (ce : Cell) (q9 : Addr) (u : SX) (t : State) (H1 : Heap) (locs1 : List Loc), t.heap = H1 → s.vm.Alike t.vm → px u → BX E u t → H.size ≤ H1.size → (∀ q : Nat, q < H.size → ¬ AX q → H1[q]? = H[q]?) → va_S A0 H0 H1 locs1 → H1[q9]? = some ce → ce.vm = .none → s.vm.findClass E = some ce.cls → vx_W p l e R s m args below meth c H1 locs1 (cells + mc) (slots + ms) Q (F0 m pc ls rest) q9)
    (kk : ∀ (r : UInt32) (u : S) (t : State) (H1 : Heap) (locs1 : List Loc), t.heap = H1 → s.vm.Alike t.vm → post r u → B u t → H.size ≤ H1.size → (∀ q : Nat, q < H.size → ¬ A1 q → H1[q]? = H[q]?) → va_S A0 H0 H1 locs1 → W p l e R s m args below meth c H1 locs1 (cells + mc) (slots + ms) Q (F0 m (pc + 3) ls (.float r :: rest))) : W p l e R s m args below meth c H locs cells slots Q (F0 m pc ls st0) := by
  intro T hT X
  rcases hr T hT X with ⟨v, st₀, t, T', L, h0, X', hL, e1, e2, ⟨⟨r, u, hv, hp, hb⟩, hF⟩, st⟩ | ⟨q, st₀, t, T', L, E, ce, h0, X', hL, e1, e2, ⟨u, hp, hb, hF⟩, hce, hcv, hcl, st⟩
  · cases hv
    obtain ⟨k1, k2, k3⟩ := vx_keep h0 e1 hS hA hf hL hF
    obtain ⟨t2, a1, b1⟩ := kk r u t T'.heap (locs ++ L) e1.symm (by rw [← e2]; exact X'.warmed.alike) hp hb k1 k2 k3 T' rfl X'
    exact ⟨t2, st t2 a1, b1⟩
  · obtain ⟨k1, k2, k3⟩ := vx_keep h0 e1 hS hAX hf hL hF
    obtain ⟨t2, a1, b1⟩ := kx E ce q u t T'.heap (locs ++ L) e1.symm (by rw [← e2]; exact X'.warmed.alike) hp hb k1 k2 k3 (by rw [e1]; exact hce) hcv hcl T' rfl X'
    exact ⟨t2, st.trans a1, b1⟩
theorem vx_calld {S SX : Type} {post : UInt64 → S → Prop} {px : SX → Prop} {B : S → State → Prop} {BX : String → SX → State → Prop} {AX : Nat → Prop} (hr : vx_Run p l e R s m args below meth c H locs cells slots mc ms (F0 m pc ls st0) rest (va_Qd post B A1 a) (vx_X px BX AX) free) (hS : va_S A0 H0 H locs) (hA : ∀ q, q < H.size → A1 q → A0 q) (hf : ∀ q, free q → A0 q) (hAX : ∀ q, q < H.size → AX q → A0 q)
    (kx : ∀ (E : String) (ce : Cell) (q9 : Addr) (u : SX) (t : State) (H1 : Heap) (locs1 : List Loc), t.heap = H1 → s.vm.Alike t.vm → px u → BX E u t → H.size ≤ H1.size → (∀ q : Nat, q < H.size → ¬ AX q → H1[q]? = H[q]?) → va_S A0 H0 H1 locs1 → H1[q9]? = some ce → ce.vm = .none → s.vm.findClass E = some ce.cls → vx_W p l e R s m args below meth c H1 locs1 (cells + mc) (slots + ms) Q (F0 m pc ls rest) q9)
    (kk : ∀ (r : UInt64) (u : S) (t : State) (H1 : Heap) (locs1 : List Loc), t.heap = H1 → s.vm.Alike t.vm → post r u → B u t → H.size ≤ H1.size → (∀ q : Nat, q < H.size → ¬ A1 q → H1[q]? = H[q]?) → va_S A0 H0 H1 locs1 → W p l e R s m args below meth c H1 locs1 (cells + mc) (slots + ms) Q (F0 m (pc + 3) ls (.double r :: rest))) : W p l e R s m args below meth c H locs cells slots Q (F0 m pc ls st0) := by
  intro T hT X
  rcases hr T hT X with ⟨v, st₀, t, T', L, h0, X', hL, e1, e2, ⟨⟨r, u, hv, hp, hb⟩, hF⟩, st⟩ | ⟨q, st₀, t, T', L, E, ce, h0, X', hL, e1, e2, ⟨u, hp, hb, hF⟩, hce, hcv, hcl, st⟩
  · cases hv
    obtain ⟨k1, k2, k3⟩ := vx_keep h0 e1 hS hA hf hL hF
    obtain ⟨t2, a1, b1⟩ := kk r u t T'.heap (locs ++ L) e1.symm (by rw [← e2]; exact X'.warmed.alike) hp hb k1 k2 k3 T' rfl X'
    exact ⟨t2, st t2 a1, b1⟩
  · obtain ⟨k1, k2, k3⟩ := vx_keep h0 e1 hS hAX hf hL hF
    obtain ⟨t2, a1, b1⟩ := kx E ce q u t T'.heap (locs ++ L) e1.symm (by rw [← e2]; exact X'.warmed.alike) hp hb k1 k2 k3 (by rw [e1]; exact hce) hcv hcl T' rfl X'
    exact ⟨t2, st.trans a1, b1⟩
theorem vx_callv {S SX : Type} {post : S → Prop} {px : SX → Prop} {B : S → State → Prop} {BX : String → SX → State → Prop} {AX : Nat → Prop} (hr : vx_Run p l e R s m args below meth c H locs cells slots mc ms (F0 m pc ls st0) rest (va_Qv post B A1 a) (vx_X px BX AX) free) (hS : va_S A0 H0 H locs) (hA : ∀ q, q < H.size → A1 q → A0 q) (hf : ∀ q, free q → A0 q) (hAX : ∀ q, q < H.size → AX q → A0 q)
    (kx : ∀ (E : String) (ce : Cell) (q9 : Addr) (u : SX) (t : State) (H1 : Heap) (locs1 : List Loc), t.heap = H1 → s.vm.Alike t.vm → px u → BX E u t → H.size ≤ H1.size → (∀ q : Nat, q < H.size → ¬ AX q → H1[q]? = H[q]?) → va_S A0 H0 H1 locs1 → H1[q9]? = some ce → ce.vm = .none → s.vm.findClass E = some ce.cls → vx_W p l e R s m args below meth c H1 locs1 (cells + mc) (slots + ms) Q (F0 m pc ls rest) q9)
    (kk : ∀ (u : S) (t : State) (H1 : Heap) (locs1 : List Loc), t.heap = H1 → s.vm.Alike t.vm → post u → B u t → H.size ≤ H1.size → (∀ q : Nat, q < H.size → ¬ A1 q → H1[q]? = H[q]?) → va_S A0 H0 H1 locs1 → W p l e R s m args below meth c H1 locs1 (cells + mc) (slots + ms) Q (F0 m (pc + 3) ls (rest))) : W p l e R s m args below meth c H locs cells slots Q (F0 m pc ls st0) := by
  intro T hT X
  rcases hr T hT X with ⟨v, st₀, t, T', L, h0, X', hL, e1, e2, ⟨⟨u, hv, hp, hb⟩, hF⟩, st⟩ | ⟨q, st₀, t, T', L, E, ce, h0, X', hL, e1, e2, ⟨u, hp, hb, hF⟩, hce, hcv, hcl, st⟩
  · cases hv
    obtain ⟨k1, k2, k3⟩ := vx_keep h0 e1 hS hA hf hL hF
    obtain ⟨t2, a1, b1⟩ := kk u t T'.heap (locs ++ L) e1.symm (by rw [← e2]; exact X'.warmed.alike) hp hb k1 k2 k3 T' rfl X'
    exact ⟨t2, st t2 a1, b1⟩
  · obtain ⟨k1, k2, k3⟩ := vx_keep h0 e1 hS hAX hf hL hF
    obtain ⟨t2, a1, b1⟩ := kx E ce q u t T'.heap (locs ++ L) e1.symm (by rw [← e2]; exact X'.warmed.alike) hp hb k1 k2 k3 (by rw [e1]; exact hce) hcv hcl T' rfl X'
    exact ⟨t2, st.trans a1, b1⟩
/-- caught by the row x of this method's table; the rows ahead don't take it -/
theorem vx_catch {own name : String} {E : String} {ce : Cell} {q : Addr} (hown : s.vm.findClass own = some m.cls) (pre : List ExceptionTableEntry) (x : ExceptionTableEntry) (suf : List ExceptionTableEntry) (hsplit : c.exceptionTable.toList = pre ++ x :: suf)
    (hpass : ∀ z ∈ pre, covers z pc = false ∨ (z.catchType ≠ 0 ∧ ∃ nm : String, (Cond.classLink own z.catchType nm).before args s = true ∧ va_Nc E nm s)) (hx : covers x pc = true) (h0 : x.catchType ≠ 0)
    (hlink : (Cond.classLink own x.catchType name).before args s = true) (hcast : (Cond.castable E name).before args s = true) (hcell : H[q]? = some ce) (hv : ce.vm = .none) (hcl : s.vm.findClass E = some ce.cls)
    (kk : W p l e R s m args below meth c H locs cells slots Q (F0 m x.handlerPc ls [.ref q])) : vx_W p l e R s m args below meth c H locs cells slots Q (F0 m pc ls rest) q := by
  intro T hT X
  have hpl : e.platform.magicAccessors = ({} : Platform).magicAccessors := by rw [X.admits.platform]
  obtain ⟨c3, c4, hc3, hc4, hasg⟩ := Cond.castable_spec hcast
  cases Option.some.inj (hc3.symm.trans hcl)
  obtain ⟨c5, hc5, hcl5⟩ := Cond.classLink_spec hown hlink e.platform hpl
  cases Option.some.inj (hc4.symm.trans hc5)
  obtain ⟨vm', X', st⟩ := X.thenCaughtThrough q (g := F0 m pc ls rest) rfl (Steps.refl _) (by rw [hT]; exact hcell) (by rw [hv]; rfl) (by obtain ⟨k9, h9, -⟩ := Vm.findClass_spec hcl; exact ⟨k9, h9⟩) pre x suf hsplit
    (fun z hz => by
      rcases hpass z hz with h | ⟨hz0, nm, hl1, hn1⟩
      · exact Or.inl h
      · obtain ⟨c6, hc6, hcl6⟩ := Cond.classLink_spec hown hl1 e.platform hpl
        obtain ⟨a8, b8, h1, h2, h3⟩ := hn1
        cases Option.some.inj (h1.symm.trans hcl)
        cases Option.some.inj (h2.symm.trans hc6)
        exact Or.inr ⟨hz0, _, hcl6, h3⟩) hx (Or.inr ⟨h0, c4, hcl5, hasg⟩)
  obtain ⟨t, a1, b1⟩ := kk (T.setVm vm') hT X'
  exact ⟨t, st.trans a1, b1⟩
end Rows
section Ends
variable {p : Program} {l : Launch} {e : Env} {R : Room} {s : State} {m : MethodId} {args : Array Value} {below : List Frame} {meth : Method} {c : Code} {H : Heap} {locs : List Loc} {cells slots : Nat} {Q : State → Prop}
variable {mc ms : Nat} {free : Addr → Prop} {A0 A1 : Nat → Prop} {H0 : Heap} {a : Array Value} {ls : Array Slot} {st0 rest : List Value}
variable {Qc : Array Value → State → Outcome → State → Prop} {XC : String → State → State → Prop}
/-- what a body that may throw owes at its end -/
def vx_MQ (below : List Frame) (Qc : Array Value → State → Outcome → State → Prop) (XC : String → State → State → Prop) (a : Array Value) (s : State) (mc ms : Nat) (free : Addr → Prop) : State → Prop := fun t =>
  ∃ o, t.status = .running ∧ Ended t below o ∧ vx_Q Qc XC mc ms free a s o t
theorem vx_ret {g : JFrame} {mc ms : Nat} (k : W p l e R s m args below meth c H locs cells slots (MQ below Qc args s mc ms free) g) : W p l e R s m args below meth c H locs cells slots (vx_MQ below Qc XC args s mc ms free) g := by
  intro T hT X
  obtain ⟨t, a1, o, b1, b2, b3, b4⟩ := k T hT X
  exact ⟨t, a1, o, b1, b2, Or.inl ⟨b3, b4⟩⟩
/-- not caught here: it goes on to the caller -/
theorem vx_widen {g : JFrame} {q : Addr} {k n : Nat} (h1 : cells ≤ k) (h2 : slots ≤ n) (kk : vx_W p l e R s m args below meth c H locs k n Q g q) : vx_W p l e R s m args below meth c H locs cells slots Q g q := fun T hT X => kk T hT (stand_widen X h1 h2)
theorem vx_out {pc : Nat} {E : String} {ce : Cell} {q : Addr} {mc ms : Nat} (hout : ∀ x ∈ c.exceptionTable.toList, covers x pc = false) (hlocks : meth.locks = false) (hcell : H[q]? = some ce) (hv : ce.vm = .none) (hcl : s.vm.findClass E = some ce.cls)
    (hx : ∀ t : State, t.heap = H → s.vm.Alike t.vm → XC E s t) (hf : ∀ z ∈ locs, free z.base) (hc : cells ≤ mc) (hs : slots ≤ ms) :
    vx_W p l e R s m args below meth c H locs cells slots (vx_MQ below Qc XC args s mc ms free) (F0 m pc ls rest) q := by
  intro T hT X
  obtain ⟨st1, hrun, hend, hW, hsm⟩ := X.leaveThrown q (g := F0 m pc ls rest) rfl rfl rfl hout hlocks
  have hcell9 : (T.setFrames (.throwing q :: below)).heap[q]? = some ce := by
    show T.heap[q]? = some ce
    rw [hT]; exact hcell
  exact ⟨_, st1, .threw q, hrun, hend, Or.inr ⟨q, rfl, E, ce, locs, hx _ hT hW.alike, hcell9, hv, hcl, hW, hsm.mono hc hs, hf⟩⟩
theorem vx_frame {U : State} {k n : Nat} (h : s.sameButNew ({ U with vm := s.vm } : State) locs k n) : s.heap.size ≤ U.heap.size ∧ ∀ q : Nat, q < s.heap.size → (∀ z ∈ locs, z.base ≠ q) → U.heap[q]? = s.heap[q]? := by
  obtain ⟨-, h2, -, -, -, h6⟩ := h
  refine ⟨h2, fun q hq hz => ?_⟩
  obtain ⟨c9, e1, e2, e3, e4⟩ := h6 q _ (Array.getElem?_eq_getElem hq)
  have hs : c9.slots = (s.heap[q]).slots := Array.ext_getElem? fun i => e4 i fun hm => hz _ hm rfl
  have h9 : c9 = s.heap[q] := by
    rw [hs] at e2
    exact e2
  have e5 : U.heap[q]? = some c9 := e1
  rw [e5, h9, Array.getElem?_eq_getElem hq]
/-- the words of a throw but the four that speak of the heap -/
def vx_no (w : Cond) : Bool := decide (w ≠ .isRef (.static Bundle.tN "UNASSIGNED_STACK" Bundle.steD)) && decide (w ≠ .isRef (.static Bundle.tN "SUPPRESSED_SENTINEL" Bundle.listD)) && decide (w ≠ .laysStatic Bundle.tN "UNASSIGNED_STACK" Bundle.steD) && decide (w ≠ .laysStatic Bundle.tN "SUPPRESSED_SENTINEL" Bundle.listD)
def vx_at0 (own : String) (ic : Nat) (X : String) (names : List String) : List Cond := (Bundle.ownAtoms0 own ic X names).filter vx_no
def vx_atS (own : String) (ic : Nat) (X : String) (names : List String) : List Cond := (Bundle.ownAtoms own ic X names).filter vx_no
/-- a word that the tables alone decide, or a good one -/
def vx_ot (w : Cond) : Bool := w.onTables || goodWord w
theorem vx_ot_at {args a' : Array Value} {s U : State} {w : Cond} (hW : s.WarmedH U.vm) (hvm : s.vm = U.vm) (hg : vx_ot w = true) (h : w.before args s = true) : w.before a' U = true := by
  simp only [vx_ot, Bool.or_eq_true] at hg
  rcases hg with hg | hg
  · exact va_tabs hg hvm h
  · exact word_at hW (good_of_word hg) h
/-- a list's words: the good ones out of the method's own list, the others by premises of their own -/
theorem vx_hat {args : Array Value} {s : State} {L B : List Cond} (h1 : ∀ w ∈ L.filter goodWord, w.before args s = true) (h2 : ∀ w ∈ L.filter (fun w => !goodWord w), w ∈ B) (h3 : ∀ w ∈ B, w.before args s = true) : ∀ w ∈ L, w.before args s = true := by
  intro w hw
  by_cases g : goodWord w = true
  · exact h1 w (List.mem_filter.mpr ⟨hw, g⟩)
  · refine h3 w (h2 w (List.mem_filter.mpr ⟨hw, ?_⟩))
    show (!goodWord w) = true
    cases hgw : goodWord w
    · rfl
    · exact absurd hgw g
theorem vx_c {args : Array Value} {s : State} {w : Cond} {B : List Cond} (h : w.before args s = true) (t : ∀ w ∈ B, w.before args s = true) : ∀ w' ∈ w :: B, w'.before args s = true := fun w' h' => (List.mem_cons.mp h').elim (fun e => by rw [e]; exact h) (t w')
theorem vx_n {args : Array Value} {s : State} : ∀ w ∈ ([] : List Cond), w.before args s = true := fun _ h => nomatch h
theorem vx_own {args : Array Value} {s : State} {L : List Cond} (h1 : ∀ w ∈ L.filter vx_no, w.before args s = true)
    (hU : (Cond.isRef (.static Bundle.tN "UNASSIGNED_STACK" Bundle.steD)).before args s = true) (hN : (Cond.isRef (.static Bundle.tN "SUPPRESSED_SENTINEL" Bundle.listD)).before args s = true)
    (lU : (Cond.laysStatic Bundle.tN "UNASSIGNED_STACK" Bundle.steD).before args s = true) (lN : (Cond.laysStatic Bundle.tN "SUPPRESSED_SENTINEL" Bundle.listD).before args s = true) : ∀ w ∈ L, w.before args s = true := by
  intro w hw
  by_cases e1 : w = .isRef (.static Bundle.tN "UNASSIGNED_STACK" Bundle.steD)
  · rw [e1]; exact hU
  · by_cases e2 : w = .isRef (.static Bundle.tN "SUPPRESSED_SENTINEL" Bundle.listD)
    · rw [e2]; exact hN
    · by_cases e3 : w = .laysStatic Bundle.tN "UNASSIGNED_STACK" Bundle.steD
      · rw [e3]; exact lU
      · by_cases e4 : w = .laysStatic Bundle.tN "SUPPRESSED_SENTINEL" Bundle.listD
        · rw [e4]; exact lN
        · exact h1 w (List.mem_filter.mpr ⟨hw, by unfold vx_no; rw [decide_eq_true e1, decide_eq_true e2, decide_eq_true e3, decide_eq_true e4]; rfl⟩)
/-- where a static field lies, its class's statics cell in H -/
def vx_L (C n d : String) (A : Nat → Prop) (U : State) (H : Heap) : Prop := ∃ (c : ClassId) (k : Class) (i : Nat) (f : Field) (a : Nat) (cell : Cell), U.vm.findClass C = some c ∧ U.fieldFound? C n d = some (c, k, i, f) ∧ f.isStatic = true ∧ k.statics = some a ∧ H[a]? = some cell ∧ cell.vm.isStatics = true ∧ cell.cls = c ∧ f.slot < cell.slots.size ∧ k.staticTypes[f.slot]? = some f.type ∧ ¬ A a
theorem vx_L.moved {C n d : String} {A : Nat → Prop} {u U : State} {H : Heap} (hvm : u.vm.Alike U.vm) (h : vx_L C n d A u H) : vx_L C n d A U H := by
  obtain ⟨c, k, i, f, a, cell, h1, h2, h3, h4, h5, h6, h7, h8, h9, h10⟩ := h
  obtain ⟨k', hi', he⟩ := State.fieldFound?_setVm hvm h2
  exact ⟨c, k', i, f, a, cell, by rw [hvm.findClass]; exact h1, hi', h3, by rw [he]; exact h4, h5, h6, h7, h8, by rw [he]; exact h9, h10⟩
theorem vx_L.kept {C n d : String} {A : Nat → Prop} {U : State} {H H1 : Heap} (h : vx_L C n d A U H) (hq : ∀ a : Nat, a < H.size → ¬ A a → H1[a]? = H[a]?) : vx_L C n d A U H1 := by
  obtain ⟨c, k, i, f, a, cell, h1, h2, h3, h4, h5, h6, h7, h8, h9, h10⟩ := h
  exact ⟨c, k, i, f, a, cell, h1, h2, h3, h4, by rw [hq a (Array.getElem?_eq_some_iff.mp h5).1 h10]; exact h5, h6, h7, h8, h9, h10⟩
theorem vx_L.narrow {C n d : String} {A B : Nat → Prop} {U : State} {H : Heap} (h : vx_L C n d A U H) (hAB : ∀ q, B q → A q) : vx_L C n d B U H := by
  obtain ⟨c, k, i, f, a, cell, h1, h2, h3, h4, h5, h6, h7, h8, h9, h10⟩ := h
  exact ⟨c, k, i, f, a, cell, h1, h2, h3, h4, h5, h6, h7, h8, h9, fun z => h10 (hAB _ z)⟩
theorem vx_L.word {C n d : String} {A : Nat → Prop} {s : State} {args : Array Value} (h : vx_L C n d A s s.heap) : (Cond.laysStatic C n d).before args s = true := by
  obtain ⟨c, k, i, f, a, cell, h1, h2, h3, h4, h5, h6, h7, h8, h9, -⟩ := h
  show (Cond.laysStatic C n d).holds args s none s [] = true
  exact Cond.laysStatic_of h1 h2 h3 h4 h5 h6 h7 h8 h9
/-- .. and what it holds: null or some reference -/
def vx_Zq (C n d : String) (A : Nat → Prop) (U : State) (H : Heap) : Prop := va_Zq C n d A U H ∧ vx_L C n d A U H
theorem vx_Zq.moved {C n d : String} {A : Nat → Prop} {u U : State} {H : Heap} (hvm : u.vm.Alike U.vm) (h : vx_Zq C n d A u H) : vx_Zq C n d A U H := ⟨va_Zq.moved hvm h.1, vx_L.moved hvm h.2⟩
theorem vx_Zq.kept {C n d : String} {A : Nat → Prop} {U : State} {H H1 : Heap} (h : vx_Zq C n d A U H) (hq : ∀ a : Nat, a < H.size → ¬ A a → H1[a]? = H[a]?) : vx_Zq C n d A U H1 := ⟨va_Zq.kept h.1 hq, vx_L.kept h.2 hq⟩
theorem vx_Zq.narrow {C n d : String} {A B : Nat → Prop} {U : State} {H : Heap} (h : vx_Zq C n d A U H) (hAB : ∀ q, B q → A q) : vx_Zq C n d B U H := ⟨va_Zq.narrow h.1 hAB, vx_L.narrow h.2 hAB⟩
theorem vx_Zqof {args : Array Value} {s : State} {C n d : String} {A : Nat → Prop} (hl : (Cond.laysStatic C n d).before args s = true) (hini : (Cond.initialized C).before args s = true) (h : (Cond.isRef (.static C n d)).before args s = true) (hA : ∀ a : Nat, a < s.heap.size → ¬ A a) : vx_Zq C n d A s s.heap := by
  refine ⟨va_Zqof hl hini h hA, ?_⟩
  obtain ⟨c, k, i, f, a, cell, h1, h2, h3, h4, h5, h6, h7, h8, h9⟩ := Cond.laysStatic_spec hl
  exact ⟨c, k, i, f, a, cell, h1, h2, h3, h4, h5, h6, h7, h8, h9, hA a (Array.getElem?_eq_some_iff.mp h5).1⟩
theorem vx_isRef {C n d : String} {v : Value} {A : Nat → Prop} {s : State} {args : Array Value} (h : va_Z C n d v A s s.heap) (hv : v.isRef = true) : (Cond.isRef (.static C n d)).before args s = true := by
  obtain ⟨cf, kf, fi, f, a, cell, h1, h2, h3, h4, h5, h6, h7, -⟩ := h
  have he : (Term.static C n d).eval args s none [] s = some v := by
    simp [Term.eval, State.fieldNamed?, h1, h2, h4, h5, h6, h7]
  simp only [Cond.before, Cond.holds, Cond.value, he]
  cases v <;> simp_all [Value.isRef]
theorem vx_isRefq {C n d : String} {A : Nat → Prop} {s : State} {args : Array Value} (h : va_Zq C n d A s s.heap) : (Cond.isRef (.static C n d)).before args s = true := by
  rcases h with h | ⟨t, h⟩
  · exact vx_isRef h rfl
  · exact vx_isRef h rfl
/-- the same frame, seen from here: as if the method were called anew in this heap -/
theorem vx_rebase {T : State} (X : Stand p l e R s m args below meth c T locs cells slots) {R' : Room} (hf : R'.frames ≤ R.frames) (hl : R'.locals ≤ R.locals) (hc : cells + R'.cells ≤ R.cells) (hs : slots + R'.slots ≤ R.slots) :
    Stand p l e R' ((T.setVm s.vm).setFrames (.invoking m args :: below)) m args below meth c T [] 0 0 := by
  have htop : (T.setVm s.vm).topJava?.isSome := X.here.top
  have hF : ((T.setVm s.vm).setFrames (.invoking m args :: below)).frames = .invoking m args :: below := State.frames_setFrames _ (State.cur_lt_of_top htop)
  obtain ⟨g₀, hg0⟩ := Option.isSome_iff_exists.mp htop
  obtain ⟨r, hr⟩ := State.topJava?_eq_some.mp hg0
  have hl9 : e.platform.stackLimits (T.setVm s.vm).me = e.platform.stackLimits s.me := X.limits
  have hb9 : (T.setVm s.vm).me.stackBytes = s.me.stackBytes := X.bytes
  refine ⟨X.admits, X.cas, X.clock, hF, ?_, X.hears, X.method, X.code, X.here, X.tail, X.warmed, ?_, ?_, ?_⟩
  · have h := X.room
    have hU : ((T.setVm s.vm).setFrames (.invoking m args :: below)).localsInUse = s.localsInUse := by
      rw [State.localsInUse_invoking hF (meth := meth) (c := c) X.method X.code, State.localsInUse_invoking X.frames X.method X.code]
    simp only [State.hasRoom, Bool.and_eq_true, decide_eq_true_eq] at h ⊢
    obtain ⟨⟨⟨⟨h1, h2, h3, h4, h5, h6⟩, h7⟩, h8⟩, h9⟩ := h
    rw [X.frames, List.length_cons] at h2 h3
    have q1 := X.heapSize
    have q2 := X.used
    simp only [hF, hU, List.length_cons, State.stackLimits_setFrames, State.stackBytes_setFrames, hl9, hb9]
    refine ⟨⟨⟨⟨by omega, by omega, by omega, by omega, by omega, h6⟩, ?_⟩, ?_⟩, X.book⟩
    · show T.heap.size + R'.cells ≤ e.platform.maxCells
      omega
    · show T.slotsUsed + R'.slots ≤ e.platform.maxSlots
      omega
  · rw [State.stackLimits_setFrames]; rfl
  · rw [State.stackBytes_setFrames]; rfl
  · refine ⟨?_, Nat.le_refl _, Nat.le_refl _, ?_, ?_, fun a c9 h9 => ⟨c9, h9, rfl, rfl, fun _ _ => rfl⟩⟩
    · obtain ⟨t, ht, -⟩ := State.frames_cons hr
      show T.setVm s.vm = { ((T.setVm s.vm).setFrames (.invoking m args :: below)).setFrames (T.setVm s.vm).frames with heap := T.heap, slotsUsed := T.slotsUsed }
      rw [State.setFrames_setFrames, State.setFrames_self ht]
      rfl
    · show T.slotsUsed = T.slotsUsed + ((T.heap.toList.drop T.heap.size).map (·.slots.size)).sum
      rw [List.drop_eq_nil_of_le (Nat.le_of_eq Array.length_toList)]
      rfl
    · show ((T.heap.toList.drop T.heap.size).map (·.slots.size)).sum ≤ 0
      rw [List.drop_eq_nil_of_le (Nat.le_of_eq Array.length_toList)]
      exact Nat.le_refl _
/-- 'throw new E()': new; dup; invokespecial; athrow -/
theorem vx_throw0 {cc : ByteArray} {pc : Nat} (hexec : p.tables.exec = Jvm.exec) (hb : c.code = cc) (hl : l.stackTraces = false) {own cls : String} {names : List String} {ik ic mc ms : Nat} {A : Nat → Prop}
    (hown : s.vm.findClass own = some m.cls) (hcls : Bundle.fit cls = true) (hnames : ∀ n ∈ names, Bundle.fit n = true)
    (hk : (Cond.classLink own ik cls).before args s = true) (hini : (Cond.initialized cls).before args s = true) (hat : ∀ w ∈ vx_at0 own ic cls names, w.before args s = true)
    (hgood : ∀ w ∈ Cond.classLink own ik cls :: Cond.initialized cls :: vx_at0 own ic cls names, vx_ot w = true)
    (hU : vx_Zq Bundle.tN "UNASSIGNED_STACK" Bundle.steD A s s.heap) (hN : vx_Zq Bundle.tN "SUPPRESSED_SENTINEL" Bundle.listD A s s.heap) (hS : va_S A s.heap H locs) (hsize : ls.size = c.maxLocals)
    (d0 : decode cc pc = .ok (.new ik, 3)) (d3 : decode cc (pc + 3) = .ok (.dup, 1)) (d4 : decode cc (pc + 4) = .ok (.invokespecial ic, 3)) (d7 : decode cc (pc + 7) = .ok (.athrow, 1))
    (hout : ∀ x ∈ c.exceptionTable.toList, covers x (pc + 7) = false)
    (hRframes : names.length + 3 < R.frames) (hRlocals : (rest.map fun v => v.category).sum + (13 * (names.length + 1) + 42) ≤ R.locals) (hRcells : cells + 1 ≤ R.cells) (hRslots : slots + 6 ≤ R.slots) (hlocks : meth.locks = false)
    (hx : ∀ t : State, s.vm.Alike t.vm → H.size ≤ t.heap.size → (∀ q : Nat, q < H.size → t.heap[q]? = H[q]?) → XC cls s t)
    (hf : ∀ z ∈ locs, free z.base) (hc : cells + 1 ≤ mc) (hs : slots + 6 ≤ ms) :
    W p l e R s m args below meth c H locs cells slots (vx_MQ below Qc XC args s mc ms free) (F0 m pc ls rest) := by
  intro T hT X
  have htr : e.platform.stackTraces = false := (show e.platform.stackTraces = l.stackTraces by rw [X.admits.platform]).trans hl
  have Y := vx_rebase X (R' := { frames := R.frames, locals := R.locals, cells := 1, slots := 6 }) (Nat.le_refl _) (Nat.le_refl _) hRcells hRslots
  obtain ⟨s', hA⟩ : ∃ z, z = (T.setVm s.vm).setFrames (.invoking m args :: below) := ⟨_, rfl⟩
  rw [← hA] at Y
  have hvm : s'.vm = s.vm := by rw [hA]; rfl
  have hhp : s'.heap = H := by rw [hA]; exact hT
  have hW0 : s.WarmedH s'.vm := by rw [hvm]; exact State.WarmedH.refl s
  have hat' : ∀ w ∈ vx_at0 own ic cls names, w.before args s' = true := fun w hw => vx_ot_at hW0 hvm.symm (hgood w (List.mem_cons_of_mem _ (List.mem_cons_of_mem _ hw))) (hat w hw)
  have hk' : (Cond.classLink own ik cls).before args s' = true := vx_ot_at hW0 hvm.symm (hgood _ List.mem_cons_self) hk
  have hini' : (Cond.initialized cls).before args s' = true := vx_ot_at hW0 hvm.symm (hgood _ (List.mem_cons_of_mem _ List.mem_cons_self)) hini
  have hU' : vx_Zq Bundle.tN "UNASSIGNED_STACK" Bundle.steD A s' s'.heap := by rw [hhp]; exact vx_Zq.moved hW0.alike (hU.kept hS.2.1)
  have hN' : vx_Zq Bundle.tN "SUPPRESSED_SENTINEL" Bundle.listD A s' s'.heap := by rw [hhp]; exact vx_Zq.moved hW0.alike (hN.kept hS.2.1)
  have h : ∀ w ∈ Bundle.ownAtoms0 own ic cls names, w.before args s' = true := vx_own hat' (vx_isRefq hU'.1) (vx_isRefq hN'.1) hU'.2.word hN'.2.word
  have hown' : s'.vm.findClass own = some m.cls := by rw [hvm]; exact hown
  have hins : (Cond.instantiable cls 6).before args s' = true := h _ (by simp [Bundle.ownAtoms0])
  obtain ⟨vm₁, cX, kX, hfX, hkX, -, -, X₁, st1⟩ := Y.newCold hexec (own := own) (C := cls) (index := ik) (n := 6) hown' hk' hins hini'
    (g := F0 m pc ls rest) rfl (by rw [hb]; exact d0) (Nat.le_refl _) (Nat.le_refl _)
  generalize hT1 : (T.setVm vm₁).pushCell { cls := cX, slots := kX.instanceTypes.map defaultValue, vm := .none } = T1 at X₁ st1
  have hcat : (Value.ref T.heap.size).category = 1 := rfl
  have hcellA : T1.heap[T.heap.size]? = some (freshCell cX kX) := by rw [← hT1]; exact State.heap_pushCell_size _ _
  have d3' : decode c.code (pc + 3) = .ok (.dup, 1) := by rw [hb]; exact d3
  obtain ⟨U, hsteps, hrun, hend, hW, hsame, ce, hce, hO⟩ := X₁.ctorThrow0 hexec htr (own := own) (cls := cls) (names := names) (ic := ic) hown' hcls hnames h (fun x hx => nomatch hx) hfX hkX hcellA (by rw [hhp, hT]; exact Nat.le_refl _)
    (g := { method := m, pc := pc + 4, locals := ls, stack := .ref T.heap.size :: .ref T.heap.size :: rest, locked := none }) rfl hsize rfl rfl (rest := rest) rfl
    (by rw [hb]; exact d4) (by rw [hb]; exact d7) hout hRframes (by simp only [List.map_cons, List.sum_cons, hcat]; omega) hlocks
  obtain ⟨f1, f2⟩ := vx_frame hsame
  rw [hhp] at f1 f2
  have hWs : s.WarmedH U.vm := State.WarmedH.trans hW0 hW
  have hcl : s.vm.findClass cls = some ce.cls := by
    have h9 := hO.cls
    rw [hvm] at h9
    exact h9
  have hall : s.sameButNew ({ U with vm := s.vm } : State) locs mc ms := by
    subst hA
    obtain ⟨e1, e2⟩ := hsame
    rw [State.setFrames_setFrames] at e1
    have h2 : (T.setVm s.vm).sameButNew ({ U with vm := s.vm } : State) [] (0 + 1) (0 + 6) := ⟨e1, e2⟩
    have h3 := X.same.trans h2
    rw [List.append_nil] at h3
    exact h3.mono hc hs
  refine ⟨U, ?_, .threw T.heap.size, hrun, hend, Or.inr ⟨T.heap.size, rfl, cls, ce, locs, hx U hWs.alike f1 (fun q hq => f2 q hq (fun z hz => nomatch hz)), hce, hO.vm, hcl, hWs, hall, hf⟩⟩
  refine st1 _ ?_
  show Steps p.tables e below (T1.setTop { method := m, pc := pc + 3, locals := ls, stack := .ref T.heap.size :: rest, locked := none }) _
  jvm_step X₁.here [X₁.here.top, hexec, d3', Value.category]
  exact hsteps
/-- 'throw new E("text")': new; dup; ldc; invokespecial; athrow -/
theorem vx_throwS {cc : ByteArray} {pc : Nat} (hexec : p.tables.exec = Jvm.exec) (hb : c.code = cc) (hl : l.stackTraces = false) {own cls text : String} {names : List String} {ik is ic mc ms sa : Nat} {A : Nat → Prop}
    (hown : s.vm.findClass own = some m.cls) (hcls : Bundle.fit cls = true) (hnames : ∀ n ∈ names, Bundle.fit n = true)
    (hk : (Cond.classLink own ik cls).before args s = true) (hini : (Cond.initialized cls).before args s = true) (hstr : vk_R own is text sa s) (hat : ∀ w ∈ vx_atS own ic cls names, w.before args s = true)
    (hgood : ∀ w ∈ Cond.classLink own ik cls :: Cond.initialized cls :: vx_atS own ic cls names, vx_ot w = true)
    (hU : vx_Zq Bundle.tN "UNASSIGNED_STACK" Bundle.steD A s s.heap) (hN : vx_Zq Bundle.tN "SUPPRESSED_SENTINEL" Bundle.listD A s s.heap) (hS : va_S A s.heap H locs) (hsize : ls.size = c.maxLocals)
    (d0 : decode cc pc = .ok (.new ik, 3)) (d3 : decode cc (pc + 3) = .ok (.dup, 1)) (d4 : decode cc (pc + 4) = .ok (.ldc is, 2)) (d6 : decode cc (pc + 6) = .ok (.invokespecial ic, 3)) (d9 : decode cc (pc + 9) = .ok (.athrow, 1))
    (hout : ∀ x ∈ c.exceptionTable.toList, covers x (pc + 9) = false)
    (hRframes : names.length + 3 < R.frames) (hRlocals : (rest.map fun v => v.category).sum + (13 * (names.length + 1) + 43) ≤ R.locals) (hRcells : cells + 1 ≤ R.cells) (hRslots : slots + 6 ≤ R.slots) (hlocks : meth.locks = false)
    (hx : ∀ t : State, s.vm.Alike t.vm → H.size ≤ t.heap.size → (∀ q : Nat, q < H.size → t.heap[q]? = H[q]?) → XC cls s t)
    (hf : ∀ z ∈ locs, free z.base) (hc : cells + 1 ≤ mc) (hs : slots + 6 ≤ ms) :
    W p l e R s m args below meth c H locs cells slots (vx_MQ below Qc XC args s mc ms free) (F0 m pc ls rest) := by
  intro T hT X
  have htr : e.platform.stackTraces = false := (show e.platform.stackTraces = l.stackTraces by rw [X.admits.platform]).trans hl
  have Y := vx_rebase X (R' := { frames := R.frames, locals := R.locals, cells := 1, slots := 6 }) (Nat.le_refl _) (Nat.le_refl _) hRcells hRslots
  obtain ⟨s', hA⟩ : ∃ z, z = (T.setVm s.vm).setFrames (.invoking m args :: below) := ⟨_, rfl⟩
  rw [← hA] at Y
  have hvm : s'.vm = s.vm := by rw [hA]; rfl
  have hhp : s'.heap = H := by rw [hA]; exact hT
  have hW0 : s.WarmedH s'.vm := by rw [hvm]; exact State.WarmedH.refl s
  have hat' : ∀ w ∈ vx_atS own ic cls names, w.before args s' = true := fun w hw => vx_ot_at hW0 hvm.symm (hgood w (List.mem_cons_of_mem _ (List.mem_cons_of_mem _ hw))) (hat w hw)
  have hk' : (Cond.classLink own ik cls).before args s' = true := vx_ot_at hW0 hvm.symm (hgood _ List.mem_cons_self) hk
  have hini' : (Cond.initialized cls).before args s' = true := vx_ot_at hW0 hvm.symm (hgood _ (List.mem_cons_of_mem _ List.mem_cons_self)) hini
  have hU' : vx_Zq Bundle.tN "UNASSIGNED_STACK" Bundle.steD A s' s'.heap := by rw [hhp]; exact vx_Zq.moved hW0.alike (hU.kept hS.2.1)
  have hN' : vx_Zq Bundle.tN "SUPPRESSED_SENTINEL" Bundle.listD A s' s'.heap := by rw [hhp]; exact vx_Zq.moved hW0.alike (hN.kept hS.2.1)
  have h : ∀ w ∈ Bundle.ownAtoms own ic cls names, w.before args s' = true := vx_own hat' (vx_isRefq hU'.1) (vx_isRefq hN'.1) hU'.2.word hN'.2.word
  have hown' : s'.vm.findClass own = some m.cls := by rw [hvm]; exact hown
  have hins : (Cond.instantiable cls 6).before args s' = true := h _ (by simp [Bundle.ownAtoms])
  obtain ⟨vm₁, cX, kX, hfX, hkX, -, -, X₁, st1⟩ := Y.newCold hexec (own := own) (C := cls) (index := ik) (n := 6) hown' hk' hins hini'
    (g := F0 m pc ls rest) rfl (by rw [hb]; exact d0) (Nat.le_refl _) (Nat.le_refl _)
  generalize hT1 : (T.setVm vm₁).pushCell { cls := cX, slots := kX.instanceTypes.map defaultValue, vm := .none } = T1 at X₁ st1
  have hcat : (Value.ref T.heap.size).category = 1 := rfl
  have hcellA : T1.heap[T.heap.size]? = some (freshCell cX kX) := by rw [← hT1]; exact State.heap_pushCell_size _ _
  have d3' : decode c.code (pc + 3) = .ok (.dup, 1) := by rw [hb]; exact d3
  have d4' : decode c.code (pc + 4) = .ok (.ldc is, 2) := by rw [hb]; exact d4
  have hstr' : vk_R own is text sa s' := vk_R.warm hW0 hstr
  obtain ⟨U, hsteps, hrun, hend, hW, hsame, ce, hce, hO⟩ := X₁.ctorThrowS hexec htr (own := own) (cls := cls) (names := names) (ic := ic) hown' hcls hnames h (fun x hx => nomatch hx) hfX hkX hcellA (by rw [hhp, hT]; exact Nat.le_refl _) (msg := .ref sa) rfl
    (g := { method := m, pc := pc + 6, locals := ls, stack := .ref sa :: .ref T.heap.size :: .ref T.heap.size :: rest, locked := none }) rfl hsize rfl rfl (rest := rest) rfl
    (by rw [hb]; exact d6) (by rw [hb]; exact d9) hout hRframes (by simp only [List.map_cons, List.sum_cons, hcat]; omega) hlocks
  obtain ⟨f1, f2⟩ := vx_frame hsame
  rw [hhp] at f1 f2
  have hWs : s.WarmedH U.vm := State.WarmedH.trans hW0 hW
  have hcl : s.vm.findClass cls = some ce.cls := by
    have h9 := hO.cls
    rw [hvm] at h9
    exact h9
  have hall : s.sameButNew ({ U with vm := s.vm } : State) locs mc ms := by
    subst hA
    obtain ⟨e1, e2⟩ := hsame
    rw [State.setFrames_setFrames] at e1
    have h2 : (T.setVm s.vm).sameButNew ({ U with vm := s.vm } : State) [] (0 + 1) (0 + 6) := ⟨e1, e2⟩
    have h3 := X.same.trans h2
    rw [List.append_nil] at h3
    exact h3.mono hc hs
  refine ⟨U, ?_, .threw T.heap.size, hrun, hend, Or.inr ⟨T.heap.size, rfl, cls, ce, locs, hx U hWs.alike f1 (fun q hq => f2 q hq (fun z hz => nomatch hz)), hce, hO.vm, hcl, hWs, hall, hf⟩⟩
  refine st1 _ ?_
  show Steps p.tables e below (T1.setTop { method := m, pc := pc + 3, locals := ls, stack := .ref T.heap.size :: rest, locked := none }) _
  jvm_step X₁.here [X₁.here.top, hexec, d3', Value.category]
  exact X₁.ldcString hexec (own := own) (text := text) (index := is) (a := sa) hown' hstr'.1 hstr'.2
    (g := { method := m, pc := pc + 4, locals := ls, stack := .ref T.heap.size :: .ref T.heap.size :: rest, locked := none }) rfl d4' _ hsteps
/-- 'throw new E("text")', the text by a wide index -/
theorem vx_throwSW {cc : ByteArray} {pc : Nat} (hexec : p.tables.exec = Jvm.exec) (hb : c.code = cc) (hl : l.stackTraces = false) {own cls text : String} {names : List String} {ik is ic mc ms sa : Nat} {A : Nat → Prop}
    (hown : s.vm.findClass own = some m.cls) (hcls : Bundle.fit cls = true) (hnames : ∀ n ∈ names, Bundle.fit n = true)
    (hk : (Cond.classLink own ik cls).before args s = true) (hini : (Cond.initialized cls).before args s = true) (hstr : vk_R own is text sa s) (hat : ∀ w ∈ vx_atS own ic cls names, w.before args s = true)
    (hgood : ∀ w ∈ Cond.classLink own ik cls :: Cond.initialized cls :: vx_atS own ic cls names, vx_ot w = true)
    (hU : vx_Zq Bundle.tN "UNASSIGNED_STACK" Bundle.steD A s s.heap) (hN : vx_Zq Bundle.tN "SUPPRESSED_SENTINEL" Bundle.listD A s s.heap) (hS : va_S A s.heap H locs) (hsize : ls.size = c.maxLocals)
    (d0 : decode cc pc = .ok (.new ik, 3)) (d3 : decode cc (pc + 3) = .ok (.dup, 1)) (d4 : decode cc (pc + 4) = .ok (.ldc_w is, 3)) (d7 : decode cc (pc + 7) = .ok (.invokespecial ic, 3)) (d10 : decode cc (pc + 10) = .ok (.athrow, 1))
    (hout : ∀ x ∈ c.exceptionTable.toList, covers x (pc + 10) = false)
    (hRframes : names.length + 3 < R.frames) (hRlocals : (rest.map fun v => v.category).sum + (13 * (names.length + 1) + 43) ≤ R.locals) (hRcells : cells + 1 ≤ R.cells) (hRslots : slots + 6 ≤ R.slots) (hlocks : meth.locks = false)
    (hx : ∀ t : State, s.vm.Alike t.vm → H.size ≤ t.heap.size → (∀ q : Nat, q < H.size → t.heap[q]? = H[q]?) → XC cls s t)
    (hf : ∀ z ∈ locs, free z.base) (hc : cells + 1 ≤ mc) (hs : slots + 6 ≤ ms) :
    W p l e R s m args below meth c H locs cells slots (vx_MQ below Qc XC args s mc ms free) (F0 m pc ls rest) := by
  intro T hT X
  have htr : e.platform.stackTraces = false := (show e.platform.stackTraces = l.stackTraces by rw [X.admits.platform]).trans hl
  have Y := vx_rebase X (R' := { frames := R.frames, locals := R.locals, cells := 1, slots := 6 }) (Nat.le_refl _) (Nat.le_refl _) hRcells hRslots
  obtain ⟨s', hA⟩ : ∃ z, z = (T.setVm s.vm).setFrames (.invoking m args :: below) := ⟨_, rfl⟩
  rw [← hA] at Y
  have hvm : s'.vm = s.vm := by rw [hA]; rfl
  have hhp : s'.heap = H := by rw [hA]; exact hT
  have hW0 : s.WarmedH s'.vm := by rw [hvm]; exact State.WarmedH.refl s
  have hat' : ∀ w ∈ vx_atS own ic cls names, w.before args s' = true := fun w hw => vx_ot_at hW0 hvm.symm (hgood w (List.mem_cons_of_mem _ (List.mem_cons_of_mem _ hw))) (hat w hw)
  have hk' : (Cond.classLink own ik cls).before args s' = true := vx_ot_at hW0 hvm.symm (hgood _ List.mem_cons_self) hk
  have hini' : (Cond.initialized cls).before args s' = true := vx_ot_at hW0 hvm.symm (hgood _ (List.mem_cons_of_mem _ List.mem_cons_self)) hini
  have hU' : vx_Zq Bundle.tN "UNASSIGNED_STACK" Bundle.steD A s' s'.heap := by rw [hhp]; exact vx_Zq.moved hW0.alike (hU.kept hS.2.1)
  have hN' : vx_Zq Bundle.tN "SUPPRESSED_SENTINEL" Bundle.listD A s' s'.heap := by rw [hhp]; exact vx_Zq.moved hW0.alike (hN.kept hS.2.1)
  have h : ∀ w ∈ Bundle.ownAtoms own ic cls names, w.before args s' = true := vx_own hat' (vx_isRefq hU'.1) (vx_isRefq hN'.1) hU'.2.word hN'.2.word
  have hown' : s'.vm.findClass own = some m.cls := by rw [hvm]; exact hown
  have hins : (Cond.instantiable cls 6).before args s' = true := h _ (by simp [Bundle.ownAtoms])
  obtain ⟨vm₁, cX, kX, hfX, hkX, -, -, X₁, st1⟩ := Y.newCold hexec (own := own) (C := cls) (index := ik) (n := 6) hown' hk' hins hini'
    (g := F0 m pc ls rest) rfl (by rw [hb]; exact d0) (Nat.le_refl _) (Nat.le_refl _)
  generalize hT1 : (T.setVm vm₁).pushCell { cls := cX, slots := kX.instanceTypes.map defaultValue, vm := .none } = T1 at X₁ st1
  have hcat : (Value.ref T.heap.size).category = 1 := rfl
  have hcellA : T1.heap[T.heap.size]? = some (freshCell cX kX) := by rw [← hT1]; exact State.heap_pushCell_size _ _
  have d3' : decode c.code (pc + 3) = .ok (.dup, 1) := by rw [hb]; exact d3
  have d4' : decode c.code (pc + 4) = .ok (.ldc_w is, 3) := by rw [hb]; exact d4
  have hstr' : vk_R own is text sa s' := vk_R.warm hW0 hstr
  obtain ⟨U, hsteps, hrun, hend, hW, hsame, ce, hce, hO⟩ := X₁.ctorThrowS hexec htr (own := own) (cls := cls) (names := names) (ic := ic) hown' hcls hnames h (fun x hx => nomatch hx) hfX hkX hcellA (by rw [hhp, hT]; exact Nat.le_refl _) (msg := .ref sa) rfl
    (g := { method := m, pc := pc + 7, locals := ls, stack := .ref sa :: .ref T.heap.size :: .ref T.heap.size :: rest, locked := none }) rfl hsize rfl rfl (rest := rest) rfl
    (by rw [hb]; exact d7) (by rw [hb]; exact d10) hout hRframes (by simp only [List.map_cons, List.sum_cons, hcat]; omega) hlocks
  obtain ⟨f1, f2⟩ := vx_frame hsame
  rw [hhp] at f1 f2
  have hWs : s.WarmedH U.vm := State.WarmedH.trans hW0 hW
  have hcl : s.vm.findClass cls = some ce.cls := by
    have h9 := hO.cls
    rw [hvm] at h9
    exact h9
  have hall : s.sameButNew ({ U with vm := s.vm } : State) locs mc ms := by
    subst hA
    obtain ⟨e1, e2⟩ := hsame
    rw [State.setFrames_setFrames] at e1
    have h2 : (T.setVm s.vm).sameButNew ({ U with vm := s.vm } : State) [] (0 + 1) (0 + 6) := ⟨e1, e2⟩
    have h3 := X.same.trans h2
    rw [List.append_nil] at h3
    exact h3.mono hc hs
  refine ⟨U, ?_, .threw T.heap.size, hrun, hend, Or.inr ⟨T.heap.size, rfl, cls, ce, locs, hx U hWs.alike f1 (fun q hq => f2 q hq (fun z hz => nomatch hz)), hce, hO.vm, hcl, hWs, hall, hf⟩⟩
  refine st1 _ ?_
  show Steps p.tables e below (T1.setTop { method := m, pc := pc + 3, locals := ls, stack := .ref T.heap.size :: rest, locked := none }) _
  jvm_step X₁.here [X₁.here.top, hexec, d3', Value.category]
  exact X₁.ldcStringW hexec (own := own) (text := text) (index := is) (a := sa) hown' hstr'.1 hstr'.2
    (g := { method := m, pc := pc + 4, locals := ls, stack := .ref T.heap.size :: .ref T.heap.size :: rest, locked := none }) rfl d4' _ hsteps
end Ends
section Bodies
variable {l : Launch}
theorem vx_ofW {y : MethodName} {ws ws' : List Cond} {rm : Room} {Pc : Array Value → State → Prop} {Qc : Array Value → State → Outcome → State → Prop} {XC : String → State → State → Prop} {mc ms : Nat} {free : Addr → Prop} {cc : ByteArray} {maxL : Nat} {ret : Option FieldType}
    (hy : plainName y.cls = true) (hw : ws = Cond.code y cc maxL ret :: ws')
    (body : ∀ p e s m args below meth c s₁, BodyLoose p l y (headSpec ws rm) cc maxL ret e s m args below meth c s₁ → c.maxLocals = maxL → (∀ x ∈ c.exceptionTable.toList, False) → Pc args s →
      W p l e (headSpec ws rm).room s m args below meth c s.heap [] 0 0 (vx_MQ below Qc XC args s mc ms free) (entryFrame m args maxL)) : vx_Met l y ws rm Pc Qc XC mc ms free := by
  refine MetFree.of_bodyS (code := cc) (maxLocals := maxL) (ret := ret) hy ?_ ?_
  · intro args s m h hn
    obtain ⟨meth, c, h1, h2, h3, h4, h5, h6, -, -⟩ := Cond.code_spec hn (atoms_spec (ws := ws) h _ (by rw [hw]; exact List.mem_cons_self))
    exact ⟨meth, c, h1, h2, h3, h4, h5, h6⟩
  · intro p e s m args below meth c s₁ B hml hP _
    have hh0 : s₁.heap = s.heap := by rw [B.state]; rfl
    have ht : ∀ x ∈ c.exceptionTable.toList, False := by
      obtain ⟨meth9, c9, h1, h2, -, -, -, -, h7, -⟩ := Cond.code_spec B.named (atoms_spec (ws := ws) B.pre _ (by rw [hw]; exact List.mem_cons_self))
      cases Option.some.inj (h1.symm.trans B.method)
      cases Option.some.inj (h2.symm.trans (Stand.of_body B).code)
      intro x hx
      rw [Array.isEmpty_iff.mp h7] at hx
      cases hx
    obtain ⟨t, a1, o, b1, b2, b3⟩ := body p e s m args below meth c s₁ B hml ht hP s₁ hh0 (Stand.of_body B)
    exact ⟨t, o, a1, b1, b2, b3⟩
/-- the table of a body with handlers -/
theorem vx_table {p : Program} {x y : MethodName} {S : Spec} {cc bytes : ByteArray} {maxL maxL' : Nat} {ret ret' : Option FieldType} {e : Env} {s s₁ : State} {m : MethodId} {args : Array Value} {below : List Frame} {meth : Method} {c : Code} {hh : List (Nat × Nat × Nat × Nat)}
    (B : BodyLoose p l y S cc maxL ret e s m args below meth c s₁) (h : (Cond.codeWith y bytes maxL' ret' hh).before args s = true) : c.exceptionTable.toList = tableOf hh := by
  obtain ⟨m9, meth9, c9, hn9, h1, h2, -, -, h6, -⟩ := Cond.codeWith_spec h
  cases Option.some.inj (hn9.symm.trans B.named)
  cases Option.some.inj (h1.symm.trans B.method)
  cases Option.some.inj (h2.symm.trans (Stand.of_body B).code)
  rw [← h6, table_eq]
end Bodies
end VXA
/-! ===== END ===== -/
/-! ===== BEGIN a static call of a method with an exception table ===== -/
section VXS
variable {p : Program} {l : Launch} {e : Env} {R : Room} {s : State} {m : MethodId} {args : Array Value} {below : List Frame} {meth : Method} {c : Code} {T : State} {H : Heap} {locs : List Loc} {cells slots : Nat}
abbrev vx_CSW (R : Room) (s : State) (args : Array Value) (own : String) (index : Nat) (y : MethodName) (bytes : ByteArray) (maxL : Nat) (ret : Option FieldType) (hh : List (Nat × Nat × Nat × Nat)) (ws : List Cond) (rm : Room) (mc ms n : Nat) : Prop :=
  (rm.cells = mc ∧ rm.slots = ms ∧ rm.frames + 1 ≤ R.frames ∧ 8 + (maxL + 11) + rm.locals ≤ R.locals ∧ (∀ w ∈ ws, ∀ (a' : Array Value) (U : State), s.WarmedH U.vm → w.before a' U = true) ∧ Cond.codeWith y bytes maxL ret hh ∈ ws) ∧
  (Cond.codeWith y bytes maxL ret hh).before args s = true ∧ (Cond.initialized y.cls).before args s = true ∧ (y.cls ≠ "java/lang/invoke/MethodHandle" ∧ y.cls ≠ "java/lang/invoke/VarHandle") ∧
  (∀ sig, parseMethodDescriptor y.desc = some sig → n = sig.parameters.length) ∧ (Cond.methodLink own index y).before args s = true ∧ (Cond.static y).before args s = true
theorem vx_cwSW {own : String} {index maxL mc ms : Nat} {y : MethodName} {bytes : ByteArray} {ret : Option FieldType} {hh : List (Nat × Nat × Nat × Nat)} {Ts ws ws' : List Cond} {rm : Room} (n : Nat) (ht : ∀ w ∈ Ts, w.before args s = true) (hT : GoodIn Ts (va_wsS own index y ws)) (hw : ws = Cond.codeWith y bytes maxL ret hh :: ws') (hrc : rm.cells = mc) (hrs : rm.slots = ms)
    (hd : y.cls ≠ "java/lang/invoke/MethodHandle" ∧ y.cls ≠ "java/lang/invoke/VarHandle" ∧ (parseMethodDescriptor y.desc).map (fun d => d.parameters.length) = some n) (hR : rm.frames + 1 ≤ R.frames ∧ 8 + (maxL + 11) + rm.locals ≤ R.locals) :
    vx_CSW R s args own index y bytes maxL ret hh ws rm mc ms n := by
  have ok : ∀ w ∈ va_wsS own index y ws, w.before args s = true := fun w h => ht w (hT w h).1
  have hG : GoodIn Ts ws := fun w h => hT w (by unfold va_wsS; exact List.mem_append_right _ h)
  have hc : Cond.codeWith y bytes maxL ret hh ∈ ws := by rw [hw]; exact List.mem_cons_self
  refine ⟨⟨hrc, hrs, hR.1, hR.2, pay_in ht hG, hc⟩, ht _ (hG _ hc).1, ok _ (by simp [va_wsS]), ⟨hd.1, hd.2.1⟩, fun sig h => ?_, ok _ (by simp [va_wsS]), ok _ (by simp [va_wsS])⟩
  have h2 := hd.2.2
  rw [h] at h2
  exact (Option.some.inj h2).symm
theorem vx_callSW (X : Stand p l e R s m args below meth c T locs cells slots) (hexec : p.tables.exec = Jvm.exec) {own : String} {index : Nat} {y : MethodName} {bytes : ByteArray} {maxL : Nat} {ret : Option FieldType} {hh : List (Nat × Nat × Nat × Nat)}
    (hown : s.vm.findClass own = some m.cls) (hlink : (Cond.methodLink own index y).before args s = true) (hstat : (Cond.static y).before args s = true) (hinit : (Cond.initialized y.cls).before args s = true)
    (hcode : (Cond.codeWith y bytes maxL ret hh).before args s = true) (hy : y.cls ≠ "java/lang/invoke/MethodHandle" ∧ y.cls ≠ "java/lang/invoke/VarHandle")
    {W9 : Nat} {Pre : Pt → Array Value → Prop} {Post : Pt → Array Value → Option Value → Pt → Prop} (hK : Back l R p e below s args y 3 W9 Pre Post)
    {g : JFrame} (hg : g.method = m) (hsize : g.locals.size = c.maxLocals) {argsL rest : List Value} (hlen : ∀ sig, parseMethodDescriptor y.desc = some sig → argsL.length = sig.parameters.length)
    (hstack : g.stack = argsL.reverse ++ rest) (hW : 2 * g.monitorRoom + (rest.map fun v => v.category).sum ≤ W9) (hdg : decode c.code g.pc = .ok (.invokestatic index, 3))
    (hpre : ∀ vm₁, s.WarmedH vm₁ → Pre ⟨T.setVm vm₁, locs, cells, slots⟩ argsL.toArray) :
    ∃ (v : Option Value) (vm₁ : Vm) (B : Pt), s.WarmedH vm₁ ∧ Stand p l e R s m args below meth c B.U B.locs B.cells B.slots ∧ Post ⟨T.setVm vm₁, locs, cells, slots⟩ argsL.toArray v B ∧
      ∀ target, Steps p.tables e below (B.U.setTop { g with pc := g.pc + 3, stack := v.toList ++ rest }) target → Steps p.tables e below (T.setTop g) target := by
  obtain ⟨mk, methM, cM, hnamed, hmethM, -, -, -, -, -, -, hsigM⟩ := Cond.codeWith_spec hcode
  have hstatic : methM.isStatic = true := Cond.static_spec hnamed hmethM hstat
  obtain ⟨kP, hkP, -⟩ := className_of_methodNamed hnamed
  have hinitP : kP.init = .initialized := Cond.initialized_spec (findClass_of_methodNamed hnamed) hkP hinit
  obtain ⟨vm₁, X₁, hstep₁⟩ := X.invokestatic hexec hown hlink hnamed hmethM hstatic hkP hinitP hy (g := g) hg (argsL := argsL) (rest := rest) (hlen _ hsigM) hstack hdg
  obtain ⟨v, B, X', hpost, hsteps⟩ := hK m meth c ⟨T.setVm vm₁, locs, cells, slots⟩ { g with stack := rest } (.invokestatic index) mk argsL.toArray X₁ hg hsize hdg hW (X₁.named hnamed) (hpre vm₁ X₁.warmed)
  exact ⟨v, vm₁, B, X₁.warmed, X', hpost, fun target h => hstep₁ _ fun acts => by rw [doInvoke_state]; exact hsteps.trans h⟩
theorem vx_runSW {y : MethodName} {bytes cc : ByteArray} {maxL nL mc ms n index : Nat} {ret : Option FieldType} {hh : List (Nat × Nat × Nat × Nat)} {ws : List Cond} {rm : Room} {Pc : Array Value → State → Prop} {Qc : Array Value → State → Outcome → State → Prop} {free : Addr → Prop} {Ts : List Cond} {own : String} {As rest : List Value} {g : JFrame}
    (S : CallFix p m c cc nL s args Ts own) (hM : Met l y ws rm Pc Qc mc ms free) (cw : vx_CSW R s args own index y bytes maxL ret hh ws rm mc ms n) (hp : PreS s H Pc As)
    (hg : g.method = m) (hn : As.length = n) (hsize : g.locals.size = nL) (hstack : g.stack = As.reverse ++ rest) (hW : 2 * g.monitorRoom + (rest.map fun v => v.category).sum ≤ 8) (hdg : decode cc g.pc = .ok (.invokestatic index, 3)) (hf : cells + mc ≤ R.cells ∧ slots + ms ≤ R.slots) :
    va_Run p l e R s m args below meth c H locs cells slots mc ms g rest (Qc As.toArray) (free) := by
  obtain ⟨⟨hrc, hrs, hfr, hlo, hws, hcw⟩, hcode, hini, hy, hlen, hl, hstt⟩ := cw
  have hK : Back l R p e below s args y 3 8 (PreOf R mc ms Pc) (PostOf Qc mc ms free) := va_backW (hh := hh) (bytes := bytes) (maxL := maxL) (ret := ret) hM hp.1 hrc hrs hfr hlo hws hcw (fun a' U hW => word_at hW (Or.inl (by first | rfl | simp [Cond.onTables, Cond.keeps, Cond.steady])) hini)
  obtain ⟨hx, hb, hml, ho, -⟩ := S
  intro T hT X
  obtain ⟨v, vm₁, ⟨U', l2, c2, s2⟩, hW₁, X', ⟨g', mk, t, L, e1, e2, hq, h1, hL, h2, h3⟩, st⟩ := vx_callSW X hx (hh := hh) (bytes := bytes) (maxL := maxL) (ret := ret) ho hl hstt hini hcode hy hK hg (hsize.trans hml.symm) (argsL := As) (rest := rest) (fun sig h => hn.trans (hlen sig h)) hstack hW (by rw [hb]; exact hdg)
    (fun vm₁ hW₁ => ⟨hf.1, hf.2, hp.2 (T.setVm vm₁) hT hW₁⟩)
  dsimp only [Pt.U, Pt.locs, Pt.cells, Pt.slots] at X' e1 e2 h1 h2 h3 st
  subst h1; subst h2; subst h3
  exact ⟨v, (T.setVm vm₁).calling g' mk As.toArray, t, U', L, hT, X', hL, e1, e2, hq, st⟩
/-- not caught here, past rows that name other classes: it goes on to the caller -/
theorem vx_outP {p : Program} {l : Launch} {e : Env} {R : Room} {s : State} {m : MethodId} {args : Array Value} {below : List Frame} {meth : Method} {c : Code} {H : Heap} {locs : List Loc} {cells slots : Nat} {free : Addr → Prop} {ls : Array Slot} {rest : List Value} {Qc : Array Value → State → Outcome → State → Prop} {XC : String → State → State → Prop}
    {pc : Nat} {own E : String} {ce : Cell} {q : Addr} {mc ms : Nat} (hown : s.vm.findClass own = some m.cls) (hlocks : meth.locks = false)
    (hpass : ∀ z ∈ c.exceptionTable.toList, covers z pc = false ∨ (z.catchType ≠ 0 ∧ ∃ nm : String, (Cond.classLink own z.catchType nm).before args s = true ∧ va_Nc E nm s)) (hcell : H[q]? = some ce) (hv : ce.vm = .none) (hcl : s.vm.findClass E = some ce.cls)
    (hx : ∀ t : State, t.heap = H → s.vm.Alike t.vm → XC E s t) (hf : ∀ z ∈ locs, free z.base) (hc : cells ≤ mc) (hs : slots ≤ ms) :
    vx_W p l e R s m args below meth c H locs cells slots (vx_MQ below Qc XC args s mc ms free) (F0 m pc ls rest) q := by
  intro T hT X
  have hpl : e.platform.magicAccessors = ({} : Platform).magicAccessors := by rw [X.admits.platform]
  obtain ⟨vm', hW', X', st⟩ := X.outThrough hlocks q (g := F0 m pc ls rest) rfl rfl rfl (cell := ce) (by rw [hT]; exact hcell) (by rw [hv]; rfl)
    (by obtain ⟨k9, h9, -⟩ := Vm.findClass_spec hcl; exact ⟨k9, h9⟩) (fun z hz => by
      rcases hpass z hz with h | ⟨hz0, nm, hl1, hn1⟩
      · exact Or.inl h
      · obtain ⟨c6, hc6, hcl6⟩ := Cond.classLink_spec hown hl1 e.platform hpl
        obtain ⟨a8, b8, h1, h2, h3⟩ := hn1
        cases Option.some.inj (h1.symm.trans hcl)
        cases Option.some.inj (h2.symm.trans hc6)
        exact Or.inr ⟨hz0, _, hcl6, h3⟩)
  obtain ⟨g₀, hfr⟩ := X'.frames_eq
  have hcell9 : ((T.setVm vm').setFrames (.throwing q :: below)).heap[q]? = some ce := by
    show T.heap[q]? = some ce
    rw [hT]; exact hcell
  have hend : Ended ((T.setVm vm').setFrames (.throwing q :: below)) below (.threw q) := State.frames_setFrames _ (State.cur_lt_of_frames hfr)
  refine ⟨(T.setVm vm').setFrames (.throwing q :: below), ?_, .threw q, X'.here.running, hend, Or.inr ⟨q, rfl, E, ce, locs, hx _ hT (X'.ends _).1.alike, hcell9, hv, hcl, (X'.ends _).1, (X'.ends _).2.mono hc hs, hf⟩⟩
  rw [X.pushThrowing_eq]
  exact st
/-- a thing of a world lies in the heap -/
theorem vx_lt {D : va_G} {cl : List vw_C} {ws : va_W} {H1 : Heap} (h : va_P D cl ws H1) {k : Nat} {q : Nat × va_E} (hk : ws[k]? = some q) : q.1 < H1.size := (h k q hk).lt
end VXS
/-! ===== END ===== -/
/-! ===== BEGIN methods with a table of their own: called by a name, returning or throwing ===== -/
section VXH
/-! vx_backW, vx_callVX, vx_callSX, vx_callVW, vx_runVW, vx_runVX, vx_runSX, vx_ofWH follow the same proofs as their sisters above (Free/Laws.lean, Shelf42/LK1.lean); vx_outP calls Shelf42/NT130.lean (outThrough). -/
section
variable {l : Launch} {R : Room} {p : Program} {e : Env} {below : List Frame} {s : State} {sargs : Array Value} {y : MethodName} {len W9 : Nat}
theorem vx_backW {ws : List Cond} {rm : Room} {Pc : Array Value → State → Prop} {Qc : Array Value → State → Outcome → State → Prop} {XC : String → State → State → Prop} {mc ms : Nat} {free : Addr → Prop} {bytes : ByteArray} {maxL : Nat} {ret : Option FieldType} {hh : List (Nat × Nat × Nat × Nat)}
    (hM : vx_Met l y ws rm Pc Qc XC mc ms free) (hblind : FrameBlind Pc) (hrc : rm.cells = mc) (hrs : rm.slots = ms)
    (hframes : rm.frames + 1 ≤ R.frames) (hlocals : W9 + (maxL + 11) + rm.locals ≤ R.locals)
    (hws : ∀ w ∈ ws, ∀ a' U, s.WarmedH U.vm → w.before a' U = true) (hcode : Cond.codeWith y bytes maxL ret hh ∈ ws) (hinit : ∀ a' U, s.WarmedH U.vm → (Cond.initialized y.cls).before a' U = true) :
    vx_Back l R p e below s sargs y len W9 (PreOf R mc ms Pc) (PostOf Qc mc ms free) (vx_Post XC mc ms free) := by
  intro m meth c A g ig mk a X hg hsize hdg hW hn hp
  have h1 : (headSpec ws rm).pre.before a A.U = true := atoms_intro fun w hw => hws w hw _ _ X.warmed
  have h2 : (Cond.codeWith y bytes maxL ret hh).before a A.U = true := hws _ hcode _ _ X.warmed
  have h3 : (Cond.initialized y.cls).before a A.U = true := hinit _ _ X.warmed
  have h4 : A.cells + (headSpec ws rm).room.cells ≤ R.cells := by rw [show (headSpec ws rm).room.cells = mc from hrc]; exact hp.1
  have h5 : A.slots + (headSpec ws rm).room.slots ≤ R.slots := by rw [show (headSpec ws rm).room.slots = ms from hrs]; exact hp.2.1
  have hPc : Pc a (A.U.calling g mk a) := hblind _ _ _ _ hp.2.2
  obtain ⟨U, Ls, c0, s0⟩ := A
  dsimp only [Pt.U, Pt.locs, Pt.cells, Pt.slots] at h1 h2 h3 h4 h5 X hn hPc ⊢
  obtain ⟨m9, methY, cY, hn9, hmY, hcY, -, hlY, -⟩ := Cond.codeWith_spec h2
  cases Option.some.inj (hn9.symm.trans hn)
  obtain ⟨kY, hkY, -⟩ := className_of_methodNamed hn
  have hinitY : kY.init = .initialized := Cond.initialized_spec (findClass_of_methodNamed hn) hkY h3
  have h : At U g.method c below := by rw [hg]; exact X.here
  have hlocals9 : W9 + (maxL + 11) + (headSpec ws rm).room.locals ≤ R.locals := hlocals
  have happ : (headSpec ws rm).appliesLoose y e.platform (U.calling g mk a) = true :=
    Spec.appliesLoose_calling (g := g) h hdg hn hkY hinitY
      (X.room_calling (g := g) (R' := (headSpec ws rm).room) hsize hmY hcY hframes (by rw [hlY]; omega) h4 h5) h1
  obtain ⟨mid, hmid⟩ := h.above
  have hfr : (U.setTop g).frames = (.java g :: mid) ++ below := by rw [State.frames_setTop' g h.top, hmid]; rfl
  obtain ⟨o, s₂, hsteps, -, hend, hq⟩ := Steps.callFree hM p X.admits X.cas X.clock (acts := []) hfr happ hPc trivial
  have hq' : vx_Q Qc XC mc ms free a (U.calling g mk a) o s₂ := hq
  rw [State.frames_setTop' g h.top] at hend
  obtain ⟨g₀, hg0⟩ := Option.isSome_iff_exists.mp h.top
  obtain ⟨r, hr⟩ := State.topJava?_eq_some.mp hg0
  have hr' : (({ U with heap := s₂.heap, slotsUsed := s₂.slotsUsed } : State).setVm s₂.vm).frames = .java g₀ :: r := hr
  rcases hq' with ⟨hqc, L, hfe, hL⟩ | ⟨q, rfl, E, ce, L, hx, hce, hcv, hcl, hW₂, hsm, hL⟩
  · obtain ⟨⟨v, rfl⟩, hW₂, e2, q2, q3, q4, q5, q6⟩ := id hfe
    have e3 : s₂ = ({ (U.calling g mk a).setFrames s₂.frames with heap := s₂.heap, slotsUsed := s₂.slotsUsed } : State).setVm s₂.vm := by
      have : s₂ = ({ s₂ with vm := (U.calling g mk a).vm } : State).setVm s₂.vm := rfl
      rw [e2] at this
      exact this
    obtain ⟨c₂, i₂, len₂, hc₂, hd₂, hf₂⟩ := hend
    have hW' : U.WarmedH s₂.vm := hW₂
    have hcc : c₂ = c := by
      have h1 : s₂.code? g.method = U.code? g.method := by
        rw [State.code?_eq, State.code?_eq, hW'.alike.method?]
      exact Option.some.inj (hc₂.symm.trans (h1.trans h.code))
    subst hcc
    have hlen : len₂ = len := by rw [hdg] at hd₂; cases hd₂; rfl
    subst hlen
    have hs₂ : s₂ = (({ U with heap := s₂.heap, slotsUsed := s₂.slotsUsed } : State).setVm s₂.vm).setTop { g with pc := g.pc + len₂, stack := v.toList ++ g.stack } := by
      refine e3.trans ?_
      rw [hf₂, State.calling_eq h.top, State.setFrames_setFrames, State.setTop_of_frames _ hr', hr]
      rfl
    have hsame : U.sameButNew ({ U with heap := s₂.heap, slotsUsed := s₂.slotsUsed } : State) L mc ms := by
      refine ⟨?_, q2, q3, q4, q5, q6⟩
      obtain ⟨t, ht, -⟩ := State.frames_cons hr
      show ({ U with heap := s₂.heap, slotsUsed := s₂.slotsUsed } : State) = { U.setFrames U.frames with heap := s₂.heap, slotsUsed := s₂.slotsUsed }
      rw [State.setFrames_self ht]
    subst hg
    refine Or.inl ⟨v, ⟨(({ U with heap := s₂.heap, slotsUsed := s₂.slotsUsed } : State).setVm s₂.vm), Ls ++ L, c0 + mc, s0 + ms⟩,
      ⟨X.admits, X.cas, X.clock, X.frames, X.room, X.hears, X.method, X.code, (X.here.setHeapUsed s₂.heap s₂.slotsUsed).setVm hW'.alike, X.tail, State.WarmedH.trans X.warmed hW', X.limits, X.bytes, X.same.trans (hsame.setVm s.vm)⟩,
      ⟨g, mk, s₂, L, rfl, rfl, hqc, rfl, hL, rfl, rfl⟩, ?_⟩
    show Steps p.tables e below _ ((({ U with heap := s₂.heap, slotsUsed := s₂.slotsUsed } : State).setVm s₂.vm).setTop { g with pc := g.pc + len₂, stack := v.toList ++ g.stack })
    rw [← hs₂]
    exact hsteps
  · obtain ⟨e2, q2, q3, q4, q5, q6⟩ := id hsm
    have e3 : s₂ = ({ (U.calling g mk a).setFrames s₂.frames with heap := s₂.heap, slotsUsed := s₂.slotsUsed } : State).setVm s₂.vm := by
      have : s₂ = ({ s₂ with vm := (U.calling g mk a).vm } : State).setVm s₂.vm := rfl
      rw [e2] at this
      exact this
    have hf₂ : s₂.frames = .throwing q :: .java g :: U.frames.tail := hend
    have hW' : U.WarmedH s₂.vm := hW₂
    have hs₂ : s₂ = ((({ U with heap := s₂.heap, slotsUsed := s₂.slotsUsed } : State).setVm s₂.vm).setTop g).pushFrame (.throwing q) := by
      refine e3.trans ?_
      rw [hf₂, State.calling_eq h.top, State.setFrames_setFrames, State.pushFrame, State.frames_setTop _ hr', State.setTop_of_frames _ hr', State.setFrames_setFrames, hr]
      rfl
    have hsame : U.sameButNew ({ U with heap := s₂.heap, slotsUsed := s₂.slotsUsed } : State) L mc ms := by
      refine ⟨?_, q2, q3, q4, q5, q6⟩
      obtain ⟨t, ht, -⟩ := State.frames_cons hr
      show ({ U with heap := s₂.heap, slotsUsed := s₂.slotsUsed } : State) = { U.setFrames U.frames with heap := s₂.heap, slotsUsed := s₂.slotsUsed }
      rw [State.setFrames_self ht]
    subst hg
    refine Or.inr ⟨q, ⟨(({ U with heap := s₂.heap, slotsUsed := s₂.slotsUsed } : State).setVm s₂.vm), Ls ++ L, c0 + mc, s0 + ms⟩,
      ⟨X.admits, X.cas, X.clock, X.frames, X.room, X.hears, X.method, X.code, (X.here.setHeapUsed s₂.heap s₂.slotsUsed).setVm hW'.alike, X.tail, State.WarmedH.trans X.warmed hW', X.limits, X.bytes, X.same.trans (hsame.setVm s.vm)⟩,
      ⟨g, mk, s₂, L, E, ce, rfl, rfl, hx, hce, hcv, hcl, rfl, hL, rfl, rfl⟩, ?_⟩
    show Steps p.tables e below _ (((({ U with heap := s₂.heap, slotsUsed := s₂.slotsUsed } : State).setVm s₂.vm).setTop g).pushFrame (.throwing q))
    rw [← hs₂]
    exact hsteps
end
variable {p : Program} {l : Launch} {e : Env} {R : Room} {s : State} {m : MethodId} {args : Array Value} {below : List Frame} {meth : Method} {c : Code} {T : State} {H : Heap} {locs : List Loc} {cells slots : Nat}
theorem vx_callVX (X : Stand p l e R s m args below meth c T locs cells slots) (hexec : p.tables.exec = Jvm.exec) {own C : String} {index : Nat} {y : MethodName} {bytes : ByteArray} {maxL : Nat} {ret : Option FieldType} {hh : List (Nat × Nat × Nat × Nat)}
    (hown : s.vm.findClass own = some m.cls) (hlink : (Cond.methodLink own index y).before args s = true) (hinst : (Cond.instanceMethod y).before args s = true) (hsel : (Cond.selects C y y).before args s = true)
    (hcode : (Cond.codeWith y bytes maxL ret hh).before args s = true) (hy : y.cls ≠ "java/lang/invoke/MethodHandle" ∧ y.cls ≠ "java/lang/invoke/VarHandle")
    {W9 : Nat} {Pre : Pt → Array Value → Prop} {Post : Pt → Array Value → Option Value → Pt → Prop} {PostX : Pt → Array Value → Addr → Pt → Prop} (hK : vx_Back l R p e below s args y 3 W9 Pre Post PostX)
    {b : Addr} {cellB : Cell} (hcell : T.heap[b]? = some cellB) (hobj : cellB.vm.isStatics = false) (hcls : s.vm.findClass C = some cellB.cls)
    {g : JFrame} (hg : g.method = m) (hsize : g.locals.size = c.maxLocals) {argsL rest : List Value} (hlen : ∀ sig, parseMethodDescriptor y.desc = some sig → argsL.length = sig.parameters.length)
    (hstack : g.stack = argsL.reverse ++ .ref b :: rest) (hW : 2 * g.monitorRoom + (rest.map fun v => v.category).sum ≤ W9) (hdg : decode c.code g.pc = .ok (.invokevirtual index, 3))
    (hpre : ∀ vm₁, s.WarmedH vm₁ → Pre ⟨T.setVm vm₁, locs, cells, slots⟩ (Value.ref b :: argsL).toArray) :
    (∃ (v : Option Value) (vm₁ : Vm) (B : Pt), s.WarmedH vm₁ ∧ Stand p l e R s m args below meth c B.U B.locs B.cells B.slots ∧ Post ⟨T.setVm vm₁, locs, cells, slots⟩ (Value.ref b :: argsL).toArray v B ∧
      ∀ target, Steps p.tables e below (B.U.setTop { g with pc := g.pc + 3, stack := v.toList ++ rest }) target → Steps p.tables e below (T.setTop g) target) ∨
    (∃ (q : Addr) (vm₁ : Vm) (B : Pt), s.WarmedH vm₁ ∧ Stand p l e R s m args below meth c B.U B.locs B.cells B.slots ∧ PostX ⟨T.setVm vm₁, locs, cells, slots⟩ (Value.ref b :: argsL).toArray q B ∧
      Steps p.tables e below (T.setTop g) ((B.U.setTop { g with stack := rest }).pushFrame (.throwing q))) := by
  obtain ⟨mk, methM, hnamed, hmethM, hstM, habM⟩ := Cond.instanceMethod_spec hinst
  obtain ⟨m8, methM', cM, hn8, hmethM', -, -, -, -, -, -, hsigM⟩ := Cond.codeWith_spec hcode
  cases Option.some.inj (hn8.symm.trans hnamed)
  cases hmethM.symm.trans hmethM'
  obtain ⟨c2, r2, m2, q1, q2, q3, q4, kP, hkP, hkPi⟩ := Cond.selects_spec hsel
  cases hcls.symm.trans q1
  cases (State.methodFound?_of_named hnamed hy).symm.trans q2
  cases hnamed.symm.trans q3
  have hselP : selectMethod e.platform s.vm cellB.cls mk = .method mk := by rw [Launch.admits_selectMethod X.admits]; exact q4
  obtain ⟨vm₁, X₁, hstep₁⟩ := X.invokevirtual hexec hown hlink hnamed hmethM hstM hkP hkPi hy (a := b) (cell := cellB) hcell
    (fun z h => by rw [h] at hobj; cases hobj) hselP hmethM habM hkP hkPi (g := g) hg (argsL := argsL) (rest := rest) (hlen _ hsigM) hstack hdg
  rcases hK m meth c ⟨T.setVm vm₁, locs, cells, slots⟩ { g with stack := rest } (.invokevirtual index) mk (Value.ref b :: argsL).toArray X₁ hg hsize hdg hW (X₁.named hnamed) (hpre vm₁ X₁.warmed) with ⟨v, B, X', hpost, hsteps⟩ | ⟨q, B, X', hpost, hsteps⟩
  · exact Or.inl ⟨v, vm₁, B, X₁.warmed, X', hpost, fun target h => hstep₁ _ fun acts => by rw [doInvoke_state]; exact hsteps.trans h⟩
  · exact Or.inr ⟨q, vm₁, B, X₁.warmed, X', hpost, hstep₁ _ fun acts => by rw [doInvoke_state]; exact hsteps⟩
theorem vx_callSX (X : Stand p l e R s m args below meth c T locs cells slots) (hexec : p.tables.exec = Jvm.exec) {own : String} {index : Nat} {y : MethodName} {bytes : ByteArray} {maxL : Nat} {ret : Option FieldType} {hh : List (Nat × Nat × Nat × Nat)}
    (hown : s.vm.findClass own = some m.cls) (hlink : (Cond.methodLink own index y).before args s = true) (hstat : (Cond.static y).before args s = true) (hinit : (Cond.initialized y.cls).before args s = true)
    (hcode : (Cond.codeWith y bytes maxL ret hh).before args s = true) (hy : y.cls ≠ "java/lang/invoke/MethodHandle" ∧ y.cls ≠ "java/lang/invoke/VarHandle")
    {W9 : Nat} {Pre : Pt → Array Value → Prop} {Post : Pt → Array Value → Option Value → Pt → Prop} {PostX : Pt → Array Value → Addr → Pt → Prop} (hK : vx_Back l R p e below s args y 3 W9 Pre Post PostX)
    {g : JFrame} (hg : g.method = m) (hsize : g.locals.size = c.maxLocals) {argsL rest : List Value} (hlen : ∀ sig, parseMethodDescriptor y.desc = some sig → argsL.length = sig.parameters.length)
    (hstack : g.stack = argsL.reverse ++ rest) (hW : 2 * g.monitorRoom + (rest.map fun v => v.category).sum ≤ W9) (hdg : decode c.code g.pc = .ok (.invokestatic index, 3))
    (hpre : ∀ vm₁, s.WarmedH vm₁ → Pre ⟨T.setVm vm₁, locs, cells, slots⟩ argsL.toArray) :
    (∃ (v : Option Value) (vm₁ : Vm) (B : Pt), s.WarmedH vm₁ ∧ Stand p l e R s m args below meth c B.U B.locs B.cells B.slots ∧ Post ⟨T.setVm vm₁, locs, cells, slots⟩ argsL.toArray v B ∧
      ∀ target, Steps p.tables e below (B.U.setTop { g with pc := g.pc + 3, stack := v.toList ++ rest }) target → Steps p.tables e below (T.setTop g) target) ∨
    (∃ (q : Addr) (vm₁ : Vm) (B : Pt), s.WarmedH vm₁ ∧ Stand p l e R s m args below meth c B.U B.locs B.cells B.slots ∧ PostX ⟨T.setVm vm₁, locs, cells, slots⟩ argsL.toArray q B ∧
      Steps p.tables e below (T.setTop g) ((B.U.setTop { g with stack := rest }).pushFrame (.throwing q))) := by
  obtain ⟨mk, methM, cM, hnamed, hmethM, -, -, -, -, -, -, hsigM⟩ := Cond.codeWith_spec hcode
  have hstatic : methM.isStatic = true := Cond.static_spec hnamed hmethM hstat
  obtain ⟨kP, hkP, -⟩ := className_of_methodNamed hnamed
  have hinitP : kP.init = .initialized := Cond.initialized_spec (findClass_of_methodNamed hnamed) hkP hinit
  obtain ⟨vm₁, X₁, hstep₁⟩ := X.invokestatic hexec hown hlink hnamed hmethM hstatic hkP hinitP hy (g := g) hg (argsL := argsL) (rest := rest) (hlen _ hsigM) hstack hdg
  rcases hK m meth c ⟨T.setVm vm₁, locs, cells, slots⟩ { g with stack := rest } (.invokestatic index) mk argsL.toArray X₁ hg hsize hdg hW (X₁.named hnamed) (hpre vm₁ X₁.warmed) with ⟨v, B, X', hpost, hsteps⟩ | ⟨q, B, X', hpost, hsteps⟩
  · exact Or.inl ⟨v, vm₁, B, X₁.warmed, X', hpost, fun target h => hstep₁ _ fun acts => by rw [doInvoke_state]; exact hsteps.trans h⟩
  · exact Or.inr ⟨q, vm₁, B, X₁.warmed, X', hpost, hstep₁ _ fun acts => by rw [doInvoke_state]; exact hsteps⟩
theorem vx_callVW (X : Stand p l e R s m args below meth c T locs cells slots) (hexec : p.tables.exec = Jvm.exec) {own C : String} {index : Nat} {y : MethodName} {bytes : ByteArray} {maxL : Nat} {ret : Option FieldType} {hh : List (Nat × Nat × Nat × Nat)}
    (hown : s.vm.findClass own = some m.cls) (hlink : (Cond.methodLink own index y).before args s = true) (hinst : (Cond.instanceMethod y).before args s = true) (hsel : (Cond.selects C y y).before args s = true)
    (hcode : (Cond.codeWith y bytes maxL ret hh).before args s = true) (hy : y.cls ≠ "java/lang/invoke/MethodHandle" ∧ y.cls ≠ "java/lang/invoke/VarHandle")
    {W9 : Nat} {Pre : Pt → Array Value → Prop} {Post : Pt → Array Value → Option Value → Pt → Prop} (hK : Back l R p e below s args y 3 W9 Pre Post)
    {b : Addr} {cellB : Cell} (hcell : T.heap[b]? = some cellB) (hobj : cellB.vm.isStatics = false) (hcls : s.vm.findClass C = some cellB.cls)
    {g : JFrame} (hg : g.method = m) (hsize : g.locals.size = c.maxLocals) {argsL rest : List Value} (hlen : ∀ sig, parseMethodDescriptor y.desc = some sig → argsL.length = sig.parameters.length)
    (hstack : g.stack = argsL.reverse ++ .ref b :: rest) (hW : 2 * g.monitorRoom + (rest.map fun v => v.category).sum ≤ W9) (hdg : decode c.code g.pc = .ok (.invokevirtual index, 3))
    (hpre : ∀ vm₁, s.WarmedH vm₁ → Pre ⟨T.setVm vm₁, locs, cells, slots⟩ (Value.ref b :: argsL).toArray) :
    ∃ (v : Option Value) (vm₁ : Vm) (B : Pt), s.WarmedH vm₁ ∧ Stand p l e R s m args below meth c B.U B.locs B.cells B.slots ∧ Post ⟨T.setVm vm₁, locs, cells, slots⟩ (Value.ref b :: argsL).toArray v B ∧
      ∀ target, Steps p.tables e below (B.U.setTop { g with pc := g.pc + 3, stack := v.toList ++ rest }) target → Steps p.tables e below (T.setTop g) target := by
  obtain ⟨mk, methM, hnamed, hmethM, hstM, habM⟩ := Cond.instanceMethod_spec hinst
  obtain ⟨m8, methM', cM, hn8, hmethM', -, -, -, -, -, -, hsigM⟩ := Cond.codeWith_spec hcode
  cases Option.some.inj (hn8.symm.trans hnamed)
  cases hmethM.symm.trans hmethM'
  obtain ⟨c2, r2, m2, q1, q2, q3, q4, kP, hkP, hkPi⟩ := Cond.selects_spec hsel
  cases hcls.symm.trans q1
  cases (State.methodFound?_of_named hnamed hy).symm.trans q2
  cases hnamed.symm.trans q3
  have hselP : selectMethod e.platform s.vm cellB.cls mk = .method mk := by rw [Launch.admits_selectMethod X.admits]; exact q4
  obtain ⟨vm₁, X₁, hstep₁⟩ := X.invokevirtual hexec hown hlink hnamed hmethM hstM hkP hkPi hy (a := b) (cell := cellB) hcell
    (fun z h => by rw [h] at hobj; cases hobj) hselP hmethM habM hkP hkPi (g := g) hg (argsL := argsL) (rest := rest) (hlen _ hsigM) hstack hdg
  obtain ⟨v, B, X', hpost, hsteps⟩ := hK m meth c ⟨T.setVm vm₁, locs, cells, slots⟩ { g with stack := rest } (.invokevirtual index) mk (Value.ref b :: argsL).toArray X₁ hg hsize hdg hW (X₁.named hnamed) (hpre vm₁ X₁.warmed)
  exact ⟨v, vm₁, B, X₁.warmed, X', hpost, fun target h => hstep₁ _ fun acts => by rw [doInvoke_state]; exact hsteps.trans h⟩
abbrev vx_CVW (R : Room) (s : State) (args : Array Value) (own C : String) (index : Nat) (y : MethodName) (bytes : ByteArray) (maxL : Nat) (ret : Option FieldType) (hh : List (Nat × Nat × Nat × Nat)) (ws : List Cond) (rm : Room) (mc ms n : Nat) : Prop :=
  (rm.cells = mc ∧ rm.slots = ms ∧ rm.frames + 1 ≤ R.frames ∧ 8 + (maxL + 11) + rm.locals ≤ R.locals ∧ (∀ w ∈ ws, ∀ (a' : Array Value) (U : State), s.WarmedH U.vm → w.before a' U = true) ∧ Cond.codeWith y bytes maxL ret hh ∈ ws) ∧
  (Cond.codeWith y bytes maxL ret hh).before args s = true ∧ (Cond.initialized y.cls).before args s = true ∧ (y.cls ≠ "java/lang/invoke/MethodHandle" ∧ y.cls ≠ "java/lang/invoke/VarHandle") ∧
  (∀ sig, parseMethodDescriptor y.desc = some sig → n = sig.parameters.length) ∧ (Cond.methodLink own index y).before args s = true ∧ (Cond.instanceMethod y).before args s = true ∧ (Cond.selects C y y).before args s = true
theorem vx_cwVW {own C : String} {index maxL mc ms : Nat} {y : MethodName} {bytes : ByteArray} {ret : Option FieldType} {hh : List (Nat × Nat × Nat × Nat)} {Ts ws ws' : List Cond} {rm : Room} (n : Nat) (ht : ∀ w ∈ Ts, w.before args s = true) (hT : GoodIn Ts (wsV own index C y ws)) (hw : ws = Cond.codeWith y bytes maxL ret hh :: ws') (hrc : rm.cells = mc) (hrs : rm.slots = ms)
    (hd : y.cls = C ∧ y.cls ≠ "java/lang/invoke/MethodHandle" ∧ y.cls ≠ "java/lang/invoke/VarHandle" ∧ (parseMethodDescriptor y.desc).map (fun d => d.parameters.length) = some n) (hR : rm.frames + 1 ≤ R.frames ∧ 8 + (maxL + 11) + rm.locals ≤ R.locals) :
    vx_CVW R s args own C index y bytes maxL ret hh ws rm mc ms n := by
  obtain ⟨hC, hd⟩ := hd
  subst hC
  have ok : ∀ w ∈ wsV own index y.cls y ws, w.before args s = true := fun w h => ht w (hT w h).1
  have hG : GoodIn Ts ws := fun w h => hT w (by unfold wsV; exact List.mem_append_right _ h)
  have hc : Cond.codeWith y bytes maxL ret hh ∈ ws := by rw [hw]; exact List.mem_cons_self
  refine ⟨⟨hrc, hrs, hR.1, hR.2, pay_in ht hG, hc⟩, ht _ (hG _ hc).1, ok _ (by simp [wsV]), ⟨hd.1, hd.2.1⟩, fun sig h => ?_, ok _ (by simp [wsV]), ok _ (by simp [wsV]), ok _ (by simp [wsV])⟩
  have h2 := hd.2.2
  rw [h] at h2
  exact (Option.some.inj h2).symm
theorem vx_runVW {y : MethodName} {bytes cc : ByteArray} {maxL nL mc ms n index : Nat} {ret : Option FieldType} {hh : List (Nat × Nat × Nat × Nat)} {ws : List Cond} {rm : Room} {Pc : Array Value → State → Prop} {Qc : Array Value → State → Outcome → State → Prop} {free : Addr → Prop} {Ts : List Cond} {own C : String} {b : Addr} {As rest : List Value} {g : JFrame}
    (S : CallFix p m c cc nL s args Ts own) (hM : Met l y ws rm Pc Qc mc ms free) (cw : vx_CVW R s args own C index y bytes maxL ret hh ws rm mc ms n) (hp : PreV s H C b Pc As)
    (hg : g.method = m) (hn : As.length = n) (hsize : g.locals.size = nL) (hstack : g.stack = As.reverse ++ .ref b :: rest) (hW : 2 * g.monitorRoom + (rest.map fun v => v.category).sum ≤ 8) (hdg : decode cc g.pc = .ok (.invokevirtual index, 3)) (hf : cells + mc ≤ R.cells ∧ slots + ms ≤ R.slots) :
    va_Run p l e R s m args below meth c H locs cells slots mc ms g rest (Qc (Value.ref b :: As).toArray) free := by
  obtain ⟨⟨hrc, hrs, hfr, hlo, hws, hcw⟩, hcode, hini, hy, hlen, hl, hin, hse⟩ := cw
  have hK : Back l R p e below s args y 3 8 (PreOf R mc ms Pc) (PostOf Qc mc ms free) := va_backW (hh := hh) (bytes := bytes) (maxL := maxL) (ret := ret) hM hp.1 hrc hrs hfr hlo hws hcw (fun a' U hW => word_at hW (Or.inl (by first | rfl | simp [Cond.onTables, Cond.keeps, Cond.steady])) hini)
  obtain ⟨hx, hb, hml, ho, -⟩ := S
  obtain ⟨-, ⟨cellB, hcB, hoB, hclB⟩, hPc⟩ := hp
  intro T hT X
  obtain ⟨v, vm₁, ⟨U', l2, c2, s2⟩, hW₁, X', ⟨g', mk, t, L, e1, e2, hq, h1, hL, h2, h3⟩, st⟩ := vx_callVW X hx (C := C) (hh := hh) (bytes := bytes) (maxL := maxL) (ret := ret) ho hl hin hse hcode hy hK (by rw [hT]; exact hcB) hoB hclB hg (hsize.trans hml.symm) (argsL := As) (rest := rest) (fun sig h => hn.trans (hlen sig h)) hstack hW (by rw [hb]; exact hdg)
    (fun vm₁ hW₁ => ⟨hf.1, hf.2, hPc (T.setVm vm₁) hT hW₁⟩)
  dsimp only [Pt.U, Pt.locs, Pt.cells, Pt.slots] at X' e1 e2 h1 h2 h3 st
  subst h1; subst h2; subst h3
  exact ⟨v, (T.setVm vm₁).calling g' mk (Value.ref b :: As).toArray, t, U', L, hT, X', hL, e1, e2, hq, st⟩
section
variable {y : MethodName} {bytes cc : ByteArray} {maxL nL mc ms n index : Nat} {ret : Option FieldType} {ws : List Cond} {rm : Room} {Pc : Array Value → State → Prop} {Qc : Array Value → State → Outcome → State → Prop} {XC : String → State → State → Prop} {free : Addr → Prop} {Ts : List Cond} {own C : String} {b : Addr} {As rest : List Value} {g : JFrame}
theorem vx_runVX {hh : List (Nat × Nat × Nat × Nat)} (S : CallFix p m c cc nL s args Ts own) (hM : vx_Met l y ws rm Pc Qc XC mc ms free) (cw : vx_CVW R s args own C index y bytes maxL ret hh ws rm mc ms n) (hp : PreV s H C b Pc As)
    (hg : g.method = m) (hn : As.length = n) (hsize : g.locals.size = nL) (hstack : g.stack = As.reverse ++ .ref b :: rest) (hW : 2 * g.monitorRoom + (rest.map fun v => v.category).sum ≤ 8) (hdg : decode cc g.pc = .ok (.invokevirtual index, 3)) (hf : cells + mc ≤ R.cells ∧ slots + ms ≤ R.slots) :
    vx_Run p l e R s m args below meth c H locs cells slots mc ms g rest (Qc (Value.ref b :: As).toArray) XC free := by
  obtain ⟨⟨hrc, hrs, hfr, hlo, hws, hcw⟩, hcode, hini, hy, hlen, hl, hin, hse⟩ := cw
  have hK : vx_Back l R p e below s args y 3 8 (PreOf R mc ms Pc) (PostOf Qc mc ms free) (vx_Post XC mc ms free) := vx_backW (hh := hh) (bytes := bytes) (maxL := maxL) (ret := ret) hM hp.1 hrc hrs hfr hlo hws hcw (fun a' U hW => word_at hW (Or.inl (by first | rfl | simp [Cond.onTables, Cond.keeps, Cond.steady])) hini)
  obtain ⟨hx, hb, hml, ho, -⟩ := S
  obtain ⟨-, ⟨cellB, hcB, hoB, hclB⟩, hPc⟩ := hp
  intro T hT X
  rcases vx_callVX X hx (C := C) (hh := hh) (bytes := bytes) (maxL := maxL) (ret := ret) ho hl hin hse hcode hy hK (by rw [hT]; exact hcB) hoB hclB hg (hsize.trans hml.symm) (argsL := As) (rest := rest) (fun sig h => hn.trans (hlen sig h)) hstack hW (by rw [hb]; exact hdg)
    (fun vm₁ hW₁ => ⟨hf.1, hf.2, hPc (T.setVm vm₁) hT hW₁⟩) with ⟨v, vm₁, ⟨U', l2, c2, s2⟩, hW₁, X', ⟨g', mk, t, L, e1, e2, hq, h1, hL, h2, h3⟩, st⟩ | ⟨q, vm₁, ⟨U', l2, c2, s2⟩, hW₁, X', ⟨g', mk, t, L, E, ce, e1, e2, hq, hce, hcv, hcl, h1, hL, h2, h3⟩, st⟩
  · dsimp only [Pt.U, Pt.locs, Pt.cells, Pt.slots] at X' e1 e2 h1 h2 h3 st
    subst h1; subst h2; subst h3
    exact Or.inl ⟨v, (T.setVm vm₁).calling g' mk (Value.ref b :: As).toArray, t, U', L, hT, X', hL, e1, e2, hq, st⟩
  · dsimp only [Pt.U, Pt.locs, Pt.cells, Pt.slots] at X' e1 e2 h1 h2 h3 st hcl
    subst h1; subst h2; subst h3
    exact Or.inr ⟨q, (T.setVm vm₁).calling g' mk (Value.ref b :: As).toArray, t, U', L, E, ce, hT, X', hL, e1, e2, hq, hce, hcv, vx_cls hW₁ hcl, st⟩
theorem vx_runSX {hh : List (Nat × Nat × Nat × Nat)} (S : CallFix p m c cc nL s args Ts own) (hM : vx_Met l y ws rm Pc Qc XC mc ms free) (cw : vx_CSW R s args own index y bytes maxL ret hh ws rm mc ms n) (hp : PreS s H Pc As)
    (hg : g.method = m) (hn : As.length = n) (hsize : g.locals.size = nL) (hstack : g.stack = As.reverse ++ rest) (hW : 2 * g.monitorRoom + (rest.map fun v => v.category).sum ≤ 8) (hdg : decode cc g.pc = .ok (.invokestatic index, 3)) (hf : cells + mc ≤ R.cells ∧ slots + ms ≤ R.slots) :
    vx_Run p l e R s m args below meth c H locs cells slots mc ms g rest (Qc As.toArray) XC free := by
  obtain ⟨⟨hrc, hrs, hfr, hlo, hws, hcw⟩, hcode, hini, hy, hlen, hl, hstt⟩ := cw
  have hK : vx_Back l R p e below s args y 3 8 (PreOf R mc ms Pc) (PostOf Qc mc ms free) (vx_Post XC mc ms free) := vx_backW (hh := hh) (bytes := bytes) (maxL := maxL) (ret := ret) hM hp.1 hrc hrs hfr hlo hws hcw (fun a' U hW => word_at hW (Or.inl (by first | rfl | simp [Cond.onTables, Cond.keeps, Cond.steady])) hini)
  obtain ⟨hx, hb, hml, ho, -⟩ := S
  intro T hT X
  rcases vx_callSX X hx (hh := hh) (bytes := bytes) (maxL := maxL) (ret := ret) ho hl hstt hini hcode hy hK hg (hsize.trans hml.symm) (argsL := As) (rest := rest) (fun sig h => hn.trans (hlen sig h)) hstack hW (by rw [hb]; exact hdg)
    (fun vm₁ hW₁ => ⟨hf.1, hf.2, hp.2 (T.setVm vm₁) hT hW₁⟩) with ⟨v, vm₁, ⟨U', l2, c2, s2⟩, hW₁, X', ⟨g', mk, t, L, e1, e2, hq, h1, hL, h2, h3⟩, st⟩ | ⟨q, vm₁, ⟨U', l2, c2, s2⟩, hW₁, X', ⟨g', mk, t, L, E, ce, e1, e2, hq, hce, hcv, hcl, h1, hL, h2, h3⟩, st⟩
  · dsimp only [Pt.U, Pt.locs, Pt.cells, Pt.slots] at X' e1 e2 h1 h2 h3 st
    subst h1; subst h2; subst h3
    exact Or.inl ⟨v, (T.setVm vm₁).calling g' mk As.toArray, t, U', L, hT, X', hL, e1, e2, hq, st⟩
  · dsimp only [Pt.U, Pt.locs, Pt.cells, Pt.slots] at X' e1 e2 h1 h2 h3 st hcl
    subst h1; subst h2; subst h3
    exact Or.inr ⟨q, (T.setVm vm₁).calling g' mk As.toArray, t, U', L, E, ce, hT, X', hL, e1, e2, hq, hce, hcv, vx_cls hW₁ hcl, st⟩
end
end VXH
theorem vx_ofWH {l : Launch} {y : MethodName} {ws ws' : List Cond} {rm : Room} {Pc : Array Value → State → Prop} {Qc : Array Value → State → Outcome → State → Prop} {XC : String → State → State → Prop} {mc ms : Nat} {free : Addr → Prop} {cc : ByteArray} {maxL : Nat} {ret : Option FieldType} {hh : List (Nat × Nat × Nat × Nat)}
    (hy : plainName y.cls = true) (hw : ws = Cond.codeWith y cc maxL ret hh :: ws')
    (body : ∀ p e s m args below meth c s₁, BodyLoose p l y (headSpec ws rm) cc maxL ret e s m args below meth c s₁ → c.maxLocals = maxL → Pc args s →
      W p l e (headSpec ws rm).room s m args below meth c s.heap [] 0 0 (vx_MQ below Qc XC args s mc ms free) (entryFrame m args maxL)) : vx_Met l y ws rm Pc Qc XC mc ms free := by
  refine MetFree.of_bodyS (code := cc) (maxLocals := maxL) (ret := ret) hy ?_ ?_
  · intro args s m h hn
    obtain ⟨m9, meth, c, hn9, h1, h2, h3, h4, -, h5, h6, -⟩ := Cond.codeWith_spec (atoms_spec (ws := ws) h _ (by rw [hw]; exact List.mem_cons_self))
    cases hn.symm.trans hn9
    exact ⟨meth, c, h1, h2, h3, h4, h5, h6⟩
  · intro p e s m args below meth c s₁ B hml hP _
    have hh0 : s₁.heap = s.heap := by rw [B.state]; rfl
    obtain ⟨t, a1, o, b1, b2, b3⟩ := body p e s m args below meth c s₁ B hml hP s₁ hh0 (Stand.of_body B)
    exact ⟨t, o, a1, b1, b2, b3⟩
/-! ===== END ===== -/

/-! ===== BEGIN what the machine throws by itself, no traces kept ===== -/
section VXM
set_option maxHeartbeats 1000000 in
/-- the machine throws cls with the message text, no traces kept: from its note over the frame g to 'throwing' over the same frame (follows the proofs of Stand.vmThrowsMessage, Shelf/KitTracedVmS.lean, and Stand.throwsMessageColdBareV, StandMessageColdV.lean, without the step out of the frame) -/
theorem vx_vmAt {p : Program} {l : Launch} {e : Env} {R : Room} {s : State} {m₀ : MethodId} {args : Array Value} {below : List Frame} {meth : Method} {c : Code} {W : State} {locs : List Loc} {cells slots : Nat}
    (X : Stand p l e R s m₀ args below meth c W locs cells slots) (hexec : p.tables.exec = Jvm.exec) (htr : e.platform.stackTraces = false) {cls : String} {names : List String} {text : String}
    (hcls : Bundle.fit cls = true) (hnames : ∀ n ∈ names, Bundle.fit n = true) (hsoe : (cls == "java/lang/StackOverflowError") = false) (hoom : (cls == "java/lang/OutOfMemoryError") = false)
    (h : ∀ a ∈ Bundle.messageArmAtoms cls names, a.before args s = true)
    (hlocs : ∀ x ∈ locs, ∀ cell, s.heap[x.base]? = some cell → cell.vm.isStatics = false)
    (htext : (text == notModelled) = false) (hlimit : ¬ (stringBytes (stringToUtf16 text)).size > e.platform.arrayLengthLimit) (hheap : ¬ (stringBytes (stringToUtf16 text)).size * componentBytes .byte > e.platform.maxHeapBytes)
    {g : JFrame} (hg : g.method = m₀) (hsize : g.locals.size = c.maxLocals)
    (hRframes : names.length + 4 < R.frames) (hRlocals : 2 * g.monitorRoom + (g.stack.map fun v => v.category).sum + 10240 ≤ R.locals) (hshort : 13 * names.length + 55 ≤ 10240)
    (hRcells : cells + 3 ≤ R.cells) (hRslots : slots + ((stringBytes (stringToUtf16 text)).size + 4 + 6) ≤ R.slots) (hlocks : meth.locks = false) :
    ∃ (S : State) (q : Addr) (ce : Cell), (∀ target, Steps p.tables e below ((S.setTop g).pushFrame (.throwing q)) target → Steps p.tables e below ((W.setTop g).pushFrame (.throwNew cls (some text) none)) target) ∧
      Stand p l e R s m₀ args below meth c S locs (cells + 3) (slots + ((stringBytes (stringToUtf16 text)).size + 4 + 6)) ∧ S.heap[q]? = some ce ∧ s.vm.findClass cls = some ce.cls ∧ ce.vm = .none := by
  have howns : e.platform.frameOwnsMonitors = true := by rw [X.admits.platform]
  have hfin : e.platform.finalization = false := by rw [X.admits.platform]
  have hpl : e.platform.magicAccessors = ({} : Platform).magicAccessors := by rw [X.admits.platform]
  have a : ∀ x, x ∈ Bundle.messageArmAtoms cls names → x.holds args s none s [] = true := fun x hx => h x hx
  obtain ⟨T, Z0, L, -, Y⟩ := ThrowableC.of_atoms (args := args) howns hfin hpl (fun x hx => h x (by simp [Bundle.messageArmAtoms, hx]))
  obtain ⟨Z, M, LZ, LM, hnZ⟩ := Init0T.ofS_atoms (args := args) hpl L Y (fun x hx => h x (by simp [Bundle.messageArmAtoms, hx]))
  obtain ⟨P1, Ps, hlen, L1, hL, hP1m, hlink1, hlink⟩ := Bundle.chainS (args := args) hpl hnZ names cls hcls hnames (fun x hx => h x (by simp [Bundle.messageArmAtoms, hx]))
  obtain ⟨Zs, LZs, hn4, hfitv, hfitc⟩ := StringT.of_atoms (args := args) (fun x hx => h x (by simp [Bundle.messageArmAtoms, hx]))
  have hfound : s.vm.findClass cls = some P1.m.cls := findClass_of_methodNamed hP1m
  obtain ⟨c1, kX, hc1, hk, hord, -, -, hn6⟩ := Cond.instantiable_spec (a (.instantiable cls 6) (by simp [Bundle.messageArmAtoms]))
  cases Option.some.inj (hc1.symm.trans hfound)
  have hinit := Cond.initialized_spec hfound hk (a (.initialized cls) (by simp [Bundle.messageArmAtoms]))
  have hctor : kX.findMethod "<init>" "(Ljava/lang/String;)V" = some P1.m.idx := findMethod_of_methodNamed hP1m hk
  have hsel0 : selectMethod e.platform s.vm P1.m.cls T.fill0 = .method T.fill0 := by
    obtain ⟨c2, r2, m2, q1, q2, q3, q4, -⟩ := Cond.selects_spec (a (.selects cls Bundle.tFill0 Bundle.tFill0) (by simp [Bundle.messageArmAtoms]))
    cases Option.some.inj (q1.symm.trans hfound)
    cases Option.some.inj (q2.symm.trans (State.methodFound?_of_named Y.fill0 (by decide)))
    cases Option.some.inj (q3.symm.trans Y.fill0)
    rw [Launch.admits_selectMethod X.admits]; exact q4
  have hselF : selectMethod e.platform s.vm P1.m.cls T.fill = .method T.fill := by
    obtain ⟨c2, r2, m2, q1, q2, q3, q4, -⟩ := Cond.selects_spec (a (.selects cls Bundle.tFill Bundle.tFill) (by simp [Bundle.messageArmAtoms]))
    cases Option.some.inj (q1.symm.trans hfound)
    cases Option.some.inj (q2.symm.trans (State.methodFound?_of_named Y.fill (by decide)))
    cases Option.some.inj (q3.symm.trans Y.fill)
    rw [Launch.admits_selectMethod X.admits]; exact q4
  obtain ⟨cellS0, hcS0, hiss⟩ := Y.statics
  obtain ⟨u0, hu0⟩ := Cond.staticRefV Y.unassigned L.unassignedStatic L.statics hcS0 hiss (a (.isRef (.static Bundle.tN "UNASSIGNED_STACK" Bundle.steD)) (by simp [Bundle.messageArmAtoms]))
  obtain ⟨sen, hsen⟩ := Cond.staticRefV Y.sentinel L.sentinelStatic L.statics hcS0 hiss (a (.isRef (.static Bundle.tN "SUPPRESSED_SENTINEL" Bundle.listD)) (by simp [Bundle.messageArmAtoms]))
  obtain ⟨ci198, i198, fB, hk198, hg198, ha198, hsB, -, hnB, htB, hffB⟩ := Cond.ownField (t := .object "java/lang/Object") Y.found L.cls (by decide +kernel) (a (.fieldLink Bundle.tN 198 Bundle.tN "backtrace" "Ljava/lang/Object;") (by simp [Bundle.messageArmAtoms])) (a (.lays Bundle.tN Bundle.tN "backtrace" "Ljava/lang/Object;") (by simp [Bundle.messageArmAtoms])) e.platform hpl
  obtain ⟨cellS, hcS', heS, -, hkeep⟩ := X.same.2.2.2.2.2 T.aS cellS0 hcS0
  have hcellS : W.heap[T.aS]? = some cellS := hcS'
  have hout' : ∀ i, (⟨T.aS, i⟩ : Loc) ∉ locs := fun i hmem => by
    have := hlocs _ hmem cellS0 hcS0
    rw [hiss] at this; cases this
  have hknownS : cellS.vm ≠ .unknown := by
    rw [heS]; intro hu
    rw [show cellS0.vm = .unknown from hu] at hiss
    cases hiss
  have hvU : cellS.slots[T.fUnassigned.slot]? = some u0.v := by rw [hkeep _ (hout' _)]; exact hu0
  have hvSen : cellS.slots[T.fSentinel.slot]? = some sen.v := by rw [hkeep _ (hout' _)]; exact hsen
  obtain ⟨iM, hffM⟩ := Y.msg
  obtain ⟨tyC, dC, hdC, hdnC⟩ := Cond.laysAt hfound hk Y.cause (a (.lays cls Bundle.tN "cause" "Ljava/lang/Throwable;") (by simp [Bundle.messageArmAtoms]))
  obtain ⟨tyS, dS, hdS, hdnS⟩ := Cond.laysAt hfound hk Y.stack (a (.lays cls Bundle.tN "stackTrace" Bundle.steD) (by simp [Bundle.messageArmAtoms]))
  obtain ⟨tyP, dP, hdP, hdnP⟩ := Cond.laysAt hfound hk Y.supp (a (.lays cls Bundle.tN "suppressedExceptions" Bundle.listD) (by simp [Bundle.messageArmAtoms]))
  obtain ⟨tyM, dM, hdM, hdnM⟩ := Cond.laysAt hfound hk hffM (a (.lays cls Bundle.tN "detailMessage" "Ljava/lang/String;") (by simp [Bundle.messageArmAtoms]))
  obtain ⟨tyB, dB, hdB, hdnB⟩ := Cond.laysAt hfound hk hffB (a (.lays cls Bundle.tN "backtrace" "Ljava/lang/Object;") (by simp [Bundle.messageArmAtoms]))
  have bC := Cond.laysApart hdB hdC hdnB hdnC (by rw [hnB, Y.causeName]; decide)
  have bS := Cond.laysApart hdB hdS hdnB hdnS (by rw [hnB, Y.stackName]; decide)
  have bP := Cond.laysApart hdB hdP hdnB hdnP (by rw [hnB, Y.suppName]; decide)
  have hbk : ((preparedCellV T.toThrowableT (freshCell P1.m.cls kX) (W.heap.size + 2) u0 sen).withEntry W.cur).slots[fB.slot]? = some .null := by
    have := fresh_default (c := P1.m.cls) tyB
    rw [htB] at this
    simpa [preparedCellV, Cell.setSlot, Cell.withEntry, Array.getElem?_setIfInBounds, bC, bS, bP, bC.symm, bS.symm, bP.symm, defaultValue] using this
  have tkC := Takes.of_laid (v := .ref (W.heap.size + 2)) hk hord tyC (by rw [Y.causeType]; rfl)
  have tkS := Takes.of_laid (v := u0.v) hk hord tyS (by rw [Y.stackType]; exact fits_refV_array _ u0)
  have tkP := Takes.of_laid (v := sen.v) hk hord tyP (by rw [Y.suppType]; exact fits_refV_object _ sen)
  have tkM := Takes.of_laid (v := .ref (W.heap.size + 1)) hk hord tyM (by rw [Y.msgType]; rfl)
  have hskip : SkipFacts T e.platform s (fun u => u) u0 ((preparedCellV T.toThrowableT (freshCell P1.m.cls kX) (W.heap.size + 2) u0 sen).withEntry W.cur) := ⟨{ ci198 := ci198, i198 := i198, fBack := fB }, ⟨hk198, hg198, ha198, hsB⟩, hbk, fun _ _ => rfl⟩
  have h0 : At W g.method c below := by rw [hg]; exact X.here
  obtain ⟨hbeyond, hfreeW⟩ := X.vmMayThrow hsize (.throwNew cls (some text) none) (fun f hf => by cases hf) rfl hRlocals
  have hfr' : W.frames.length + Ps.length + 4 < (e.platform.stackLimits W.me).1 := by have := X.framesAbove hRframes; omega
  have hwd' : (stackUse (.java g :: W.frames.tail)).2 + 13 * Ps.length + 55 ≤ (e.platform.stackLimits W.me).2 := by have := X.stackAbove hsize (K := 13 * Ps.length + 55) (by omega); omega
  have hslots : W.slotsUsed + (stringBytes (stringToUtf16 text)).size + Zs.kS.instanceTypes.size + kX.instanceTypes.size ≤ e.platform.maxSlots := by
    have := X.slotsAbove hRslots
    rw [hn4, hn6]
    omega
  obtain ⟨vm', hW', st⟩ := Steps.vmThrowsMessageColdByV p (s₀ := s) (S := W) (g := g) h0 hexec T L Z LZ M LM X.warmed (t := W.cur) rfl Zs LZs P1 L1 Ps hL hlink1 hlink hsoe hoom hfound hk hinit hord hctor
    (Launch.admits_hotImplicitExceptions X.admits) hbeyond hfreeW htext hlimit hheap (X.cellsAbove hRcells) hslots (hfitv _) (hfitc _)
    (Nn := fun u => u) heapOnly_id (fun _ _ => rfl) (fun _ => rfl) (fun u x y => setCell_twice _ _ _ _) (fun _ => Nat.le_refl _) (cN := ((preparedCellV T.toThrowableT (freshCell P1.m.cls kX) (W.heap.size + 2) u0 sen).withEntry W.cur))
    hsel0 hcellS hknownS hvU tkS (fun _ hu => hu) (fun _ hu => hu) rfl rfl rfl (by simp [preparedCellV, Cell.setSlot, Cell.withEntry]) hskip (fun _ _ hA hW _ hroom _ hrest => L.nativeOff p htr hA hW hroom hrest) hselF hvSen tkC tkP tkM Y.objLocals rfl hfr' hwd'
  rw [plainBareV_eq T.toThrowableT (W.heap.size + 2) u0 sen (.ref (W.heap.size + 1)) W.cur rfl rfl] at st
  obtain ⟨-, -, w3, w4, -, -, -⟩ := withThrown_facts e.platform W Zs text P1.m.cls kX
  have X3 := ((X.pushed (bytesOf Zs.cB (stringToUtf16 text))).pushed (stringAt Zs.cS Zs.kS Zs.fv Zs.fc (stringToUtf16 text) W.heap.size)).pushed (freshCell P1.m.cls kX)
  rw [← withString_eq] at X3
  have X4 := X3.noted hW'
  have ha : (W.heap.size + 2) < ((withThrown W Zs text P1.m.cls kX).setVm vm').heap.size := by show _ < (withThrown W Zs text P1.m.cls kX).heap.size; rw [w3]; omega
  have hcell : ((withThrown W Zs text P1.m.cls kX).setVm vm').heap[(W.heap.size + 2)]? = some (freshCell P1.m.cls kX) := w4
  have X5 := ((((X4.stored hcell T.fCause.slot (.ref (W.heap.size + 2))).storedAgain ha T.fStack.slot u0.v).storedAgain ha T.fSupp.slot sen.v).storedAgain ha T.fStack.slot u0.v).storedAgain ha T.fMsg.slot (.ref (W.heap.size + 1))
  obtain ⟨g₁, hfrM⟩ := X5.frames_eq
  have hU : ((((withThrown W Zs text P1.m.cls kX).setVm vm').setCell (W.heap.size + 2) (plainBareV T.toThrowableT (freshCell P1.m.cls kX) (W.heap.size + 2) u0 sen (.ref (W.heap.size + 1)))).setTop g).pushFrame (.throwing (W.heap.size + 2)) = (((withThrown W Zs text P1.m.cls kX).setVm vm').setCell (W.heap.size + 2) (plainBareV T.toThrowableT (freshCell P1.m.cls kX) (W.heap.size + 2) u0 sen (.ref (W.heap.size + 1)))).setFrames (.throwing (W.heap.size + 2) :: .java g :: below) := by
    rw [State.pushFrame, State.frames_setTop _ hfrM, State.setTop_of_frames _ hfrM, State.setFrames_setFrames]
  have b1 : (bytesOf Zs.cB (stringToUtf16 text)).slots.size = (stringBytes (stringToUtf16 text)).size := by
    rw [(Cell.writeAll_facts _ _).2.2]; simp [bytes0]
  have b2 : (stringAt Zs.cS Zs.kS Zs.fv Zs.fc (stringToUtf16 text) W.heap.size).slots.size = 4 := by simp [string0, Cell.setSlot, hn4]
  have b3 : (freshCell P1.m.cls kX).slots.size = 6 := by simp [hn6]
  rw [b1, b2, b3] at X5
  have e9 : slots + (stringBytes (stringToUtf16 text)).size + 4 + 6 = slots + ((stringBytes (stringToUtf16 text)).size + 4 + 6) := by omega
  rw [e9] at X5
  simp only [List.append_assoc, List.cons_append, List.nil_append] at X5
  refine ⟨((withThrown W Zs text P1.m.cls kX).setVm vm').setCell (W.heap.size + 2) (plainBareV T.toThrowableT (freshCell P1.m.cls kX) (W.heap.size + 2) u0 sen (.ref (W.heap.size + 1))), W.heap.size + 2, _, fun target ht => st _ (by rw [X.tail, ← hU]; exact ht),
    X5.forget (fun y hy => ?_), heapAt_setCell_self _ ha, hfound, rfl⟩
  simp only [List.mem_cons, List.not_mem_nil, or_false] at hy
  have hge : s.heap.size ≤ W.heap.size := X.same.2.1
  rcases hy with rfl | rfl | rfl | rfl | rfl <;> exact Nat.le_trans hge (Nat.le_add_right _ 2)
set_option maxHeartbeats 1000000 in
/-- the machine throws NullPointerException, no traces kept: from its note over the frame g to 'throwing' over the same frame (follows the proof of Stand.vmThrowsNpe, Shelf42/KT2.lean; throwsNpeColdBareVAt, Shelf42/NT91.lean, called) -/
theorem vx_npeAt {p : Program} {l : Launch} {e : Env} {R : Room} {s : State} {m₀ : MethodId} {args : Array Value} {below : List Frame} {meth : Method} {c : Code} {W : State} {locs : List Loc} {cells slots : Nat}
    (X : Stand p l e R s m₀ args below meth c W locs cells slots) (hexec : p.tables.exec = Jvm.exec) (htr : e.platform.stackTraces = false) {n : Nat}
    (h : ∀ a ∈ Bundle.npeArmAtoms n, a.before args s = true)
    (hlocs : ∀ x ∈ locs, ∀ cell, s.heap[x.base]? = some cell → cell.vm.isStatics = false)
    {g : JFrame} (hg : g.method = m₀) (hsize : g.locals.size = c.maxLocals)
    (hRframes : 7 < R.frames) (hRlocals : 2 * g.monitorRoom + (g.stack.map fun v => v.category).sum + 10240 ≤ R.locals)
    (hRcells : cells + 1 ≤ R.cells) (hRslots : slots + n ≤ R.slots) (hlocks : meth.locks = false) :
    ∃ (S : State) (q : Addr) (ce : Cell), (∀ target, Steps p.tables e below ((S.setTop g).pushFrame (.throwing q)) target → Steps p.tables e below ((W.setTop g).pushFrame (.throwNew "java/lang/NullPointerException" none none)) target) ∧
      Stand p l e R s m₀ args below meth c S locs (cells + 1) (slots + n) ∧ S.heap[q]? = some ce ∧ s.vm.findClass "java/lang/NullPointerException" = some ce.cls ∧ ce.vm = .none := by
  have howns : e.platform.frameOwnsMonitors = true := by rw [X.admits.platform]
  have hfin : e.platform.finalization = false := by rw [X.admits.platform]
  have hpl : e.platform.magicAccessors = ({} : Platform).magicAccessors := by rw [X.admits.platform]
  have hpl2 : e.platform.arrayCloneIsPublic = true := by rw [X.admits.platform]
  have a' : ∀ x, x ∈ Bundle.npeArmAtoms n → x.holds args s none s [] = true := fun x hx => h x hx
  obtain ⟨T, Z, L, LZ, Y⟩ := ThrowableC.of_atoms (args := args) howns hfin hpl (fun x hx => h x (by simp [Bundle.npeArmAtoms, hx]))
  obtain ⟨N, LN, hcN, hnNF, hordN, hffS⟩ := NpeC.of_atoms (args := args) hpl hpl2 L Y (fun x hx => h x (by simp [Bundle.npeArmAtoms, hx]))
  obtain ⟨P1, L1, hP1m, hP1s⟩ := PassC.of_atoms (args := args) (s := s) hpl (X := Bundle.nN) (Y := Bundle.rN) (by decide) (by decide) LibCode.NullPointerException.Init0.at_0 LibCode.NullPointerException.Init0.at_1 LibCode.NullPointerException.Init0.at_4 (fun x hx => h x (by simp [Bundle.npeArmAtoms, hx]))
  obtain ⟨PR, LR, hPRm, hPRs⟩ := PassC.of_atoms (args := args) (s := s) hpl (X := Bundle.rN) (Y := Bundle.eN) (by decide) (by decide) LibCode.RuntimeException.Init0.at_0 LibCode.RuntimeException.Init0.at_1 LibCode.RuntimeException.Init0.at_4 (fun x hx => h x (by simp [Bundle.npeArmAtoms, hx]))
  obtain ⟨PE, LEx, hPEm, hPEs⟩ := PassC.of_atoms (args := args) (s := s) hpl (X := Bundle.eN) (Y := Bundle.tN) (by decide) (by decide) LibCode.Exception.Init0.at_0 LibCode.Exception.Init0.at_1 LibCode.Exception.Init0.at_4 (fun x hx => h x (by simp [Bundle.npeArmAtoms, hx]))
  have hfound : s.vm.findClass Bundle.nN = some P1.m.cls := findClass_of_methodNamed hP1m
  have ecls : N.cN = P1.m.cls := Option.some.inj (hcN.symm.trans hfound)
  have hk : s.vm.classes[P1.m.cls]? = some N.kN := by rw [← ecls]; exact LN.cls
  have hinit := Cond.initialized_spec hfound hk (a' (.initialized Bundle.nN) (by simp [Bundle.npeArmAtoms]))
  have hctor : N.kN.findMethod "<init>" "()V" = some P1.m.idx := findMethod_of_methodNamed hP1m hk
  obtain ⟨c1, k1, hc1, hk1, -, -, -, hn⟩ := Cond.instantiable_spec (a' (.instantiable Bundle.nN n) (by simp [Bundle.npeArmAtoms]))
  cases Option.some.inj (hc1.symm.trans hfound)
  cases Option.some.inj (hk1.symm.trans hk)
  have hfsz : (freshCell P1.m.cls N.kN).slots.size = n := by simp [hn]
  have hlink1 : P1.sup = PR.m := Option.some.inj (hP1s.symm.trans hPRm)
  have hlinkR : PR.sup = PE.m := Option.some.inj (hPRs.symm.trans hPEm)
  have hlinkE : PE.sup = Z.m T.toThrowableT := Option.some.inj (hPEs.symm.trans Y.init0)
  have hLs : ∀ P, P ∈ [PR, PE] → P.Links0 e.platform s := fun P hP => by
    simp only [List.mem_cons, List.not_mem_nil, or_false] at hP
    rcases hP with rfl | rfl
    · exact LR
    · exact LEx
  have hsel0 : selectMethod e.platform s.vm P1.m.cls T.fill0 = .method T.fill0 := by
    obtain ⟨c2, r2, m2, q1, q2, q3, q4, -⟩ := Cond.selects_spec (a' (.selects Bundle.nN Bundle.tFill0 Bundle.tFill0) (by simp [Bundle.npeArmAtoms]))
    cases Option.some.inj (q1.symm.trans hfound)
    cases Option.some.inj (q2.symm.trans (State.methodFound?_of_named Y.fill0 (by decide)))
    cases Option.some.inj (q3.symm.trans Y.fill0)
    rw [Launch.admits_selectMethod X.admits]; exact q4
  have hselF : selectMethod e.platform s.vm P1.m.cls T.fill = .method N.fill := by
    obtain ⟨c2, r2, m2, q1, q2, q3, q4, -⟩ := Cond.selects_spec (a' (.selects Bundle.nN Bundle.tFill Bundle.nFill) (by simp [Bundle.npeArmAtoms]))
    cases Option.some.inj (q1.symm.trans hfound)
    cases Option.some.inj (q2.symm.trans (State.methodFound?_of_named Y.fill (by decide)))
    cases Option.some.inj (q3.symm.trans hnNF)
    rw [Launch.admits_selectMethod X.admits]; exact q4
  obtain ⟨cellS0, hcS0, hiss⟩ := Y.statics
  obtain ⟨u0, hu0⟩ := Cond.staticRefV Y.unassigned L.unassignedStatic L.statics hcS0 hiss (a' (.isRef (.static Bundle.tN "UNASSIGNED_STACK" Bundle.steD)) (by simp [Bundle.npeArmAtoms]))
  obtain ⟨sen, hsen⟩ := Cond.staticRefV Y.sentinel L.sentinelStatic L.statics hcS0 hiss (a' (.isRef (.static Bundle.tN "SUPPRESSED_SENTINEL" Bundle.listD)) (by simp [Bundle.npeArmAtoms]))
  obtain ⟨ci198, i198, fB, hk198, hg198, ha198, hsB, -, hnB, htB, hffB⟩ := Cond.ownField (t := .object "java/lang/Object") Y.found L.cls (by decide +kernel) (a' (.fieldLink Bundle.tN 198 Bundle.tN "backtrace" Bundle.objD) (by simp [Bundle.npeArmAtoms])) (a' (.lays Bundle.tN Bundle.tN "backtrace" Bundle.objD) (by simp [Bundle.npeArmAtoms])) e.platform hpl
  obtain ⟨cellS, hcS', heS, -, hkeep⟩ := X.same.2.2.2.2.2 T.aS cellS0 hcS0
  have hcellS : W.heap[T.aS]? = some cellS := hcS'
  have hout' : ∀ i, (⟨T.aS, i⟩ : Loc) ∉ locs := fun i hmem => by
    have := hlocs _ hmem cellS0 hcS0
    rw [hiss] at this; cases this
  have hknownS : cellS.vm ≠ .unknown := by
    rw [heS]; intro hu
    rw [show cellS0.vm = .unknown from hu] at hiss
    cases hiss
  have hvU : cellS.slots[T.fUnassigned.slot]? = some u0.v := by rw [hkeep _ (hout' _)]; exact hu0
  have hvSen : cellS.slots[T.fSentinel.slot]? = some sen.v := by rw [hkeep _ (hout' _)]; exact hsen
  obtain ⟨tyC, dC, hdC, hdnC⟩ := Cond.laysAt hfound hk Y.cause (a' (.lays Bundle.nN Bundle.tN "cause" "Ljava/lang/Throwable;") (by simp [Bundle.npeArmAtoms]))
  obtain ⟨tyS, dS, hdS, hdnS⟩ := Cond.laysAt hfound hk Y.stack (a' (.lays Bundle.nN Bundle.tN "stackTrace" Bundle.steD) (by simp [Bundle.npeArmAtoms]))
  obtain ⟨tyP, dP, hdP, hdnP⟩ := Cond.laysAt hfound hk Y.supp (a' (.lays Bundle.nN Bundle.tN "suppressedExceptions" Bundle.listD) (by simp [Bundle.npeArmAtoms]))
  obtain ⟨tyX, dX, hdX, hdnX⟩ := Cond.laysAt hfound hk hffS (a' (.lays Bundle.nN Bundle.nN "extendedMessageState" "I") (by simp [Bundle.npeArmAtoms, Bundle.npeAtoms]))
  obtain ⟨hnX, htX⟩ := State.fieldFound?_type hffS (t := .int) (by decide +kernel)
  have xC := Cond.laysApart hdC hdX hdnC hdnX (by rw [hnX, Y.causeName]; decide)
  have xS := Cond.laysApart hdS hdX hdnS hdnX (by rw [hnX, Y.stackName]; decide)
  have xP := Cond.laysApart hdP hdX hdnP hdnX (by rw [hnX, Y.suppName]; decide)
  have hv0 : (freshCell P1.m.cls N.kN).slots[N.fState.slot]? = some (.int 0) := by
    have := fresh_default (c := P1.m.cls) tyX
    rw [htX] at this; exact this
  obtain ⟨tyB, dB, hdB, hdnB⟩ := Cond.laysAt hfound hk hffB (a' (.lays Bundle.nN Bundle.tN "backtrace" Bundle.objD) (by simp [Bundle.npeArmAtoms]))
  have bC := Cond.laysApart hdB hdC hdnB hdnC (by rw [hnB, Y.causeName]; decide)
  have bS := Cond.laysApart hdB hdS hdnB hdnS (by rw [hnB, Y.stackName]; decide)
  have bP := Cond.laysApart hdB hdP hdnB hdnP (by rw [hnB, Y.suppName]; decide)
  have bX := Cond.laysApart hdB hdX hdnB hdnX (by rw [hnB, hnX]; decide)
  have hbk : ((npeCell N.toNpeT (preparedCellV T.toThrowableT (freshCell P1.m.cls N.kN) W.heap.size u0 sen) W.cur).withEntry W.cur).slots[fB.slot]? = some .null := by
    have := fresh_default (c := P1.m.cls) tyB
    rw [htB] at this
    simpa [npeCell, preparedCellV, Cell.setSlot, Cell.withEntry, Array.getElem?_setIfInBounds, bC, bS, bP, bX, bC.symm, bS.symm, bP.symm, bX.symm, defaultValue] using this
  have tkC := Takes.of_laid (v := .ref W.heap.size) hk hordN tyC (by rw [Y.causeType]; rfl)
  have tkS := Takes.of_laid (v := u0.v) hk hordN tyS (by rw [Y.stackType]; exact fits_refV_array _ u0)
  have tkP := Takes.of_laid (v := sen.v) hk hordN tyP (by rw [Y.suppType]; exact fits_refV_object _ sen)
  have tkX := Takes.of_laid (v := .int 1) hk hordN tyX (by rw [htX]; rfl)
  have hskip : SkipFacts T e.platform s (fun u => u) u0 ((npeCell N.toNpeT (preparedCellV T.toThrowableT (freshCell P1.m.cls N.kN) W.heap.size u0 sen) W.cur).withEntry W.cur) := ⟨{ ci198 := ci198, i198 := i198, fBack := fB }, ⟨hk198, hg198, ha198, hsB⟩, hbk, fun _ _ => rfl⟩
  obtain ⟨vm', X3, st, -⟩ := X.throwsNpeColdBareVAt hexec hg hsize T L Z LZ N LN P1 L1 [PR, PE] hLs hlink1 ⟨hlinkR, hlinkE, trivial⟩ hfound hk hinit hordN hctor hsel0 hselF hcellS hknownS hvU hvSen
    hv0 xC xS xP tkC tkS tkP tkX Y.objLocals hskip (fun _ _ hA hW _ hroom _ hrest => L.nativeOff p htr hA hW hroom hrest) (by simpa using hRframes) hRlocals (by simp) hRcells (by rw [hn]; exact hRslots)
  have hlt : W.heap.size < ((W.pushCell (freshCell P1.m.cls N.kN)).setVm vm').heap.size := by
    show W.heap.size < (W.pushCell (freshCell P1.m.cls N.kN)).heap.size
    rw [State.heap_size_pushCell]; omega
  rw [hfsz] at X3
  obtain ⟨g₁, hfrM⟩ := X3.frames_eq
  have hU : ((((W.pushCell (freshCell P1.m.cls N.kN)).setVm vm').setCell W.heap.size (npeBareV T.toThrowableT N.toNpeT (freshCell P1.m.cls N.kN) W.heap.size u0 sen)).setTop g).pushFrame (.throwing W.heap.size) = (((W.pushCell (freshCell P1.m.cls N.kN)).setVm vm').setCell W.heap.size (npeBareV T.toThrowableT N.toNpeT (freshCell P1.m.cls N.kN) W.heap.size u0 sen)).setFrames (.throwing W.heap.size :: .java g :: below) := by
    rw [State.pushFrame, State.frames_setTop _ hfrM, State.setTop_of_frames _ hfrM, State.setFrames_setFrames]
  refine ⟨_, W.heap.size, _, fun target ht => st.trans (by rw [← hU]; exact ht), X3.forget (fun y hy => ?_), heapAt_setCell_self _ hlt, hfound, rfl⟩
  simp only [List.mem_cons, List.not_mem_nil, or_false] at hy
  have hge : s.heap.size ≤ W.heap.size := X.same.2.1
  rcases hy with rfl | rfl | rfl | rfl | rfl <;> exact hge
/-- the words of a machine's NullPointerException, but the four that speak of the heap -/
def vx_atN (n : Nat) : List Cond := (Bundle.npeArmAtoms n).filter vx_no
/-- the words of a machine's throw with a message, but the four that speak of the heap -/
def vx_atM (X : String) (names : List String) : List Cond := (Bundle.messageArmAtoms X names).filter vx_no
section
variable {p : Program} {l : Launch} {e : Env} {R : Room} {s : State} {m : MethodId} {args : Array Value} {below : List Frame} {meth : Method} {c : Code} {H : Heap} {locs : List Loc} {cells slots : Nat}
/-- a frame seen from a rebased start, seen from the first start again -/
theorem vx_back9 {T S : State} {R' : Room} {k n : Nat} (X : Stand p l e R s m args below meth c T locs cells slots) (Y : Stand p l e R' ((T.setVm s.vm).setFrames (.invoking m args :: below)) m args below meth c T [] 0 0) (Z : Stand p l e R' ((T.setVm s.vm).setFrames (.invoking m args :: below)) m args below meth c S [] k n) :
    Stand p l e R s m args below meth c S locs (cells + k) (slots + n) := by
  have hW0 : s.WarmedH ((T.setVm s.vm).setFrames (.invoking m args :: below)).vm := State.WarmedH.refl s
  refine { admits := X.admits, cas := X.cas, clock := X.clock, frames := X.frames, room := X.room, hears := X.hears, method := X.method, code := X.code, here := Z.here, tail := Z.tail, warmed := State.WarmedH.trans hW0 Z.warmed, limits := Z.limits.trans (Y.limits.symm.trans X.limits), bytes := Z.bytes.trans (Y.bytes.symm.trans X.bytes), same := ?_ }
  obtain ⟨e1, e2⟩ := Z.same
  rw [State.setFrames_setFrames] at e1
  have h2 : (T.setVm s.vm).sameButNew (S.setVm s.vm) [] k n := ⟨e1, e2⟩
  have h3 := X.same.trans h2
  rw [List.append_nil] at h3
  exact h3
/-- from the machine's note that E is thrown here with this text -/
def vx_Note (p : Program) (l : Launch) (e : Env) (R : Room) (s : State) (m : MethodId) (args : Array Value) (below : List Frame) (meth : Method) (c : Code) (H : Heap) (locs : List Loc) (cells slots : Nat) (Q : State → Prop) (g : JFrame) (E text : String) : Prop :=
  ∀ T : State, T.heap = H → Stand p l e R s m args below meth c T locs cells slots → ∃ t, Steps p.tables e below ((T.setTop g).pushFrame (.throwNew E (some text) none)) t ∧ Q t
theorem vx_vm {pc : Nat} {ls : Array Slot} {rest : List Value} {Q : State → Prop} (hexec : p.tables.exec = Jvm.exec) (hl : l.stackTraces = false) {cls text : String} {names : List String} {nb : Nat} {A : Nat → Prop}
    (hcls : Bundle.fit cls = true) (hnames : ∀ n ∈ names, Bundle.fit n = true) (hsoe : (cls == "java/lang/StackOverflowError") = false) (hoom : (cls == "java/lang/OutOfMemoryError") = false)
    (hat : ∀ w ∈ vx_atM cls names, w.before args s = true) (hgood : ∀ w ∈ vx_atM cls names, vx_ot w = true)
    (hU : vx_Zq Bundle.tN "UNASSIGNED_STACK" Bundle.steD A s s.heap) (hN : vx_Zq Bundle.tN "SUPPRESSED_SENTINEL" Bundle.listD A s s.heap) (hS : va_S A s.heap H locs) (hsize : ls.size = c.maxLocals)
    (htext : (text == notModelled) = false) (hnb : (stringBytes (stringToUtf16 text)).size ≤ nb) (hnb1 : nb ≤ 1000)
    (hRframes : names.length + 4 < R.frames) (hRlocals : (rest.map fun v => v.category).sum + 10240 ≤ R.locals) (hshort : 13 * names.length + 55 ≤ 10240) (hRcells : cells + 3 ≤ R.cells) (hRslots : slots + (nb + 10) ≤ R.slots) (hlocks : meth.locks = false)
    (k : ∀ (H1 : Heap) (q9 : Addr) (ce : Cell), H.size ≤ H1.size → (∀ q : Nat, q < H.size → H1[q]? = H[q]?) → va_S A s.heap H1 locs → H1[q9]? = some ce → ce.vm = .none → s.vm.findClass cls = some ce.cls → vx_W p l e R s m args below meth c H1 locs (cells + 3) (slots + (nb + 10)) Q (F0 m pc ls rest) q9) :
    vx_Note p l e R s m args below meth c H locs cells slots Q (F0 m pc ls rest) cls text := by
  intro T hT X
  have htr : e.platform.stackTraces = false := (show e.platform.stackTraces = l.stackTraces by rw [X.admits.platform]).trans hl
  have Y := vx_rebase X (R' := { frames := R.frames, locals := R.locals, cells := 3, slots := nb + 10 }) (Nat.le_refl _) (Nat.le_refl _) hRcells hRslots
  have hhp : ((T.setVm s.vm).setFrames (.invoking m args :: below)).heap = H := hT
  have hW0 : s.WarmedH ((T.setVm s.vm).setFrames (.invoking m args :: below)).vm := State.WarmedH.refl s
  have hat' : ∀ w ∈ vx_atM cls names, w.before args ((T.setVm s.vm).setFrames (.invoking m args :: below)) = true := fun w hw => vx_ot_at hW0 rfl (hgood w hw) (hat w hw)
  have hU' : vx_Zq Bundle.tN "UNASSIGNED_STACK" Bundle.steD A ((T.setVm s.vm).setFrames (.invoking m args :: below)) ((T.setVm s.vm).setFrames (.invoking m args :: below)).heap := by rw [hhp]; exact vx_Zq.moved hW0.alike (hU.kept hS.2.1)
  have hN' : vx_Zq Bundle.tN "SUPPRESSED_SENTINEL" Bundle.listD A ((T.setVm s.vm).setFrames (.invoking m args :: below)) ((T.setVm s.vm).setFrames (.invoking m args :: below)).heap := by rw [hhp]; exact vx_Zq.moved hW0.alike (hN.kept hS.2.1)
  obtain ⟨S, q, ce, st, Z, hce, hcl', hv⟩ := vx_vmAt Y hexec htr (cls := cls) (names := names) (text := text) hcls hnames hsoe hoom (vx_own hat' (vx_isRefq hU'.1) (vx_isRefq hN'.1) hU'.2.word hN'.2.word) (fun x hx => nomatch hx) htext
    (by rw [Launch.admits_arrayLengthLimit X.admits]; omega) (by rw [Launch.admits_maxHeapBytes X.admits]; simp only [componentBytes]; omega)
    (g := F0 m pc ls rest) rfl hsize hRframes (by show 2 * 0 + (rest.map fun v => v.category).sum + 10240 ≤ R.locals; omega) hshort (by show 0 + 3 ≤ 3; omega) (by show 0 + (_ + 4 + 6) ≤ nb + 10; omega) hlocks
  obtain ⟨f1, f2⟩ := vx_frame Z.same
  have f1' : H.size ≤ S.heap.size := by rw [← hT]; exact f1
  have f2' : ∀ q : Nat, q < H.size → S.heap[q]? = H[q]? := fun q hq => by
    rw [← hT]
    exact f2 q (by rw [← hT] at hq; exact hq) (fun z hz => nomatch hz)
  have X5 := vx_back9 X Y Z
  have X6 : Stand p l e R s m args below meth c S locs (cells + 3) (slots + (nb + 10)) := { X5 with same := X5.same.mono (by omega) (by omega) }
  obtain ⟨t, a1, b1⟩ := k S.heap q ce f1' f2' ⟨Nat.le_trans hS.1 f1', fun q h1 h2 => (f2' q (Nat.lt_of_lt_of_le h1 hS.1)).trans (hS.2.1 q h1 h2), hS.2.2⟩ hce hv hcl' S rfl X6
  exact ⟨t, st t a1, b1⟩
/-- from the machine's note that NullPointerException is thrown here -/
def vx_NoteN (p : Program) (l : Launch) (e : Env) (R : Room) (s : State) (m : MethodId) (args : Array Value) (below : List Frame) (meth : Method) (c : Code) (H : Heap) (locs : List Loc) (cells slots : Nat) (Q : State → Prop) (g : JFrame) : Prop :=
  ∀ T : State, T.heap = H → Stand p l e R s m args below meth c T locs cells slots → ∃ t, Steps p.tables e below ((T.setTop g).pushFrame (.throwNew "java/lang/NullPointerException" none none)) t ∧ Q t
theorem vx_npe {pc : Nat} {ls : Array Slot} {rest : List Value} {Q : State → Prop} (hexec : p.tables.exec = Jvm.exec) (hl : l.stackTraces = false) {nb : Nat} {A : Nat → Prop}
    (hat : ∀ w ∈ vx_atN nb, w.before args s = true) (hgood : ∀ w ∈ vx_atN nb, vx_ot w = true)
    (hU : vx_Zq Bundle.tN "UNASSIGNED_STACK" Bundle.steD A s s.heap) (hN : vx_Zq Bundle.tN "SUPPRESSED_SENTINEL" Bundle.listD A s s.heap) (hS : va_S A s.heap H locs) (hsize : ls.size = c.maxLocals)
    (hRframes : 7 < R.frames) (hRlocals : (rest.map fun v => v.category).sum + 10240 ≤ R.locals) (hRcells : cells + 1 ≤ R.cells) (hRslots : slots + nb ≤ R.slots) (hlocks : meth.locks = false)
    (k : ∀ (H1 : Heap) (q9 : Addr) (ce : Cell), H.size ≤ H1.size → (∀ q : Nat, q < H.size → H1[q]? = H[q]?) → va_S A s.heap H1 locs → H1[q9]? = some ce → ce.vm = .none → s.vm.findClass "java/lang/NullPointerException" = some ce.cls → vx_W p l e R s m args below meth c H1 locs (cells + 1) (slots + nb) Q (F0 m pc ls rest) q9) :
    vx_NoteN p l e R s m args below meth c H locs cells slots Q (F0 m pc ls rest) := by
  intro T hT X
  have htr : e.platform.stackTraces = false := (show e.platform.stackTraces = l.stackTraces by rw [X.admits.platform]).trans hl
  have Y := vx_rebase X (R' := { frames := R.frames, locals := R.locals, cells := 1, slots := nb }) (Nat.le_refl _) (Nat.le_refl _) hRcells hRslots
  have hhp : ((T.setVm s.vm).setFrames (.invoking m args :: below)).heap = H := hT
  have hW0 : s.WarmedH ((T.setVm s.vm).setFrames (.invoking m args :: below)).vm := State.WarmedH.refl s
  have hat' : ∀ w ∈ vx_atN nb, w.before args ((T.setVm s.vm).setFrames (.invoking m args :: below)) = true := fun w hw => vx_ot_at hW0 rfl (hgood w hw) (hat w hw)
  have hU' : vx_Zq Bundle.tN "UNASSIGNED_STACK" Bundle.steD A ((T.setVm s.vm).setFrames (.invoking m args :: below)) ((T.setVm s.vm).setFrames (.invoking m args :: below)).heap := by rw [hhp]; exact vx_Zq.moved hW0.alike (hU.kept hS.2.1)
  have hN' : vx_Zq Bundle.tN "SUPPRESSED_SENTINEL" Bundle.listD A ((T.setVm s.vm).setFrames (.invoking m args :: below)) ((T.setVm s.vm).setFrames (.invoking m args :: below)).heap := by rw [hhp]; exact vx_Zq.moved hW0.alike (hN.kept hS.2.1)
  obtain ⟨S, q, ce, st, Z, hce, hcl', hv⟩ := vx_npeAt Y hexec htr (n := nb) (vx_own hat' (vx_isRefq hU'.1) (vx_isRefq hN'.1) hU'.2.word hN'.2.word) (fun x hx => nomatch hx)
    (g := F0 m pc ls rest) rfl hsize hRframes (by show 2 * 0 + (rest.map fun v => v.category).sum + 10240 ≤ R.locals; omega) (by show 0 + 1 ≤ 1; omega) (by show 0 + nb ≤ nb; omega) hlocks
  obtain ⟨f1, f2⟩ := vx_frame Z.same
  have f1' : H.size ≤ S.heap.size := by rw [← hT]; exact f1
  have f2' : ∀ q : Nat, q < H.size → S.heap[q]? = H[q]? := fun q hq => by
    rw [← hT]
    exact f2 q (by rw [← hT] at hq; exact hq) (fun z hz => nomatch hz)
  have X5 := vx_back9 X Y Z
  have X6 : Stand p l e R s m args below meth c S locs (cells + 1) (slots + nb) := { X5 with same := X5.same.mono (by omega) (by omega) }
  obtain ⟨t, a1, b1⟩ := k S.heap q ce f1' f2' ⟨Nat.le_trans hS.1 f1', fun q h1 h2 => (f2' q (Nat.lt_of_lt_of_le h1 hS.1)).trans (hS.2.1 q h1 h2), hS.2.2⟩ hce hv hcl' S rfl X6
  exact ⟨t, st t a1, b1⟩
variable {Q : State → Prop} {cc : ByteArray} {pc : Nat} {ls : Array Slot} {rest : List Value}
theorem vx_idivZ (hexec : p.tables.exec = Jvm.exec) (hb : c.code = cc) {a b : Int32} (h0 : b = 0) (d : decode cc pc = .ok (.idiv, 1)) (k : vx_Note p l e R s m args below meth c H locs cells slots Q (F0 m pc ls rest) "java/lang/ArithmeticException" "/ by zero") :
    W p l e R s m args below meth c H locs cells slots Q (F0 m pc ls (.int b :: .int a :: rest)) := by
  intro T hT X
  obtain ⟨t, st, q⟩ := k T hT X
  exact ⟨t, X.idivZero hexec (g := F0 m pc ls (.int b :: .int a :: rest)) rfl (a := a) (rest := rest) (by rw [h0]) (by rw [hb]; exact d) t st, q⟩
theorem vx_iremZ (hexec : p.tables.exec = Jvm.exec) (hb : c.code = cc) {a b : Int32} (h0 : b = 0) (d : decode cc pc = .ok (.irem, 1)) (k : vx_Note p l e R s m args below meth c H locs cells slots Q (F0 m pc ls rest) "java/lang/ArithmeticException" "/ by zero") :
    W p l e R s m args below meth c H locs cells slots Q (F0 m pc ls (.int b :: .int a :: rest)) := by
  intro T hT X
  obtain ⟨t, st, q⟩ := k T hT X
  exact ⟨t, X.iremZero hexec (g := F0 m pc ls (.int b :: .int a :: rest)) rfl (a := a) (rest := rest) (by rw [h0]) (by rw [hb]; exact d) t st, q⟩
theorem vx_ldivZ (hexec : p.tables.exec = Jvm.exec) (hb : c.code = cc) {a b : Int64} (h0 : b = 0) (d : decode cc pc = .ok (.ldiv, 1)) (k : vx_Note p l e R s m args below meth c H locs cells slots Q (F0 m pc ls rest) "java/lang/ArithmeticException" "/ by zero") :
    W p l e R s m args below meth c H locs cells slots Q (F0 m pc ls (.long b :: .long a :: rest)) := by
  intro T hT X
  obtain ⟨t, st, q⟩ := k T hT X
  exact ⟨t, X.ldivZero hexec (g := F0 m pc ls (.long b :: .long a :: rest)) rfl (a := a) (rest := rest) (by rw [h0]) (by rw [hb]; exact d) t st, q⟩
theorem vx_lremZ (hexec : p.tables.exec = Jvm.exec) (hb : c.code = cc) {a b : Int64} (h0 : b = 0) (d : decode cc pc = .ok (.lrem, 1)) (k : vx_Note p l e R s m args below meth c H locs cells slots Q (F0 m pc ls rest) "java/lang/ArithmeticException" "/ by zero") :
    W p l e R s m args below meth c H locs cells slots Q (F0 m pc ls (.long b :: .long a :: rest)) := by
  intro T hT X
  obtain ⟨t, st, q⟩ := k T hT X
  exact ⟨t, X.lremZero hexec (g := F0 m pc ls (.long b :: .long a :: rest)) rfl (a := a) (rest := rest) (by rw [h0]) (by rw [hb]; exact d) t st, q⟩
theorem vx_ialdZ {D : va_G} {cl : List vw_C} {ws : va_W} {tys : List (ClassId × FieldType)} {a : Nat} (hexec : p.tables.exec = Jvm.exec) (hb : c.code = cc) (hK : va_K D cl tys s) (hP : va_P D cl ws H) (q0 t0 : Nat) {cA : ClassId} {n : Nat} {f : Nat → Int32} (ha : ws[q0]? = some (a, .inl (cA, n, .inl f))) (ht : tys[t0]? = some (cA, .int)) {i : Int32} (hout : ¬ vp_in i n) (hdg : decode cc pc = .ok (.iaload, 1))
    (k : ∀ tx : String, tx = (toString "Index " ++ toString i ++ toString " out of bounds for length " ++ toString n : String) → vx_Note p l e R s m args below meth c H locs cells slots Q (F0 m pc ls rest) "java/lang/ArrayIndexOutOfBoundsException" tx) : W p l e R s m args below meth c H locs cells slots Q (F0 m pc ls (.int i :: .ref a :: rest)) := by
  intro T hT X
  obtain ⟨t, st, q⟩ := k _ rfl T hT X
  refine ⟨t, ?_, q⟩
  have h1 := X.ialoadOut hexec (by rw [hT]; exact hP q0 _ ha) ((hK.2 t0 _ ht).1 n (fun j => .int (f j))) (j := i) (by show (i < 0 ∨ (arrV _ _ _).slots.size ≤ _); rw [arrV_size]; exact Classical.byContradiction hout) (g := F0 m pc ls (.int i :: .ref a :: rest)) rfl (rest := rest) rfl (by rw [hb]; exact hdg) t
  simp only [arrV_size] at h1
  exact h1 st
theorem vx_iastZ {D : va_G} {cl : List vw_C} {ws : va_W} {tys : List (ClassId × FieldType)} {a : Nat} (hexec : p.tables.exec = Jvm.exec) (hb : c.code = cc) (hK : va_K D cl tys s) (hP : va_P D cl ws H) (q0 t0 : Nat) {cA : ClassId} {n : Nat} {f : Nat → Int32} (ha : ws[q0]? = some (a, .inl (cA, n, .inl f))) (ht : tys[t0]? = some (cA, .int)) {i : Int32} {x : Int32} (hout : ¬ vp_in i n) (hdg : decode cc pc = .ok (.iastore, 1))
    (k : ∀ tx : String, tx = (toString "Index " ++ toString i ++ toString " out of bounds for length " ++ toString n : String) → vx_Note p l e R s m args below meth c H locs cells slots Q (F0 m pc ls rest) "java/lang/ArrayIndexOutOfBoundsException" tx) : W p l e R s m args below meth c H locs cells slots Q (F0 m pc ls (.int x :: .int i :: .ref a :: rest)) := by
  intro T hT X
  obtain ⟨t, st, q⟩ := k _ rfl T hT X
  refine ⟨t, ?_, q⟩
  have h1 := X.iastoreOut hexec (by rw [hT]; exact hP q0 _ ha) ((hK.2 t0 _ ht).1 n (fun j => .int (f j))) (j := i) (by show (i < 0 ∨ (arrV _ _ _).slots.size ≤ _); rw [arrV_size]; exact Classical.byContradiction hout) (g := F0 m pc ls (.int x :: .int i :: .ref a :: rest)) rfl (rest := rest) rfl (by rw [hb]; exact hdg) t
  simp only [arrV_size] at h1
  exact h1 st
theorem vx_baldZ {D : va_G} {cl : List vw_C} {ws : va_W} {tys : List (ClassId × FieldType)} {a : Nat} (hexec : p.tables.exec = Jvm.exec) (hb : c.code = cc) (hK : va_K D cl tys s) (hP : va_P D cl ws H) (q0 t0 : Nat) {cA : ClassId} {n : Nat} {f : Nat → Int32} (ha : ws[q0]? = some (a, .inl (cA, n, .inl f))) (ht : tys[t0]? = some (cA, .byte)) {i : Int32} (hout : ¬ vp_in i n) (hdg : decode cc pc = .ok (.baload, 1))
    (k : ∀ tx : String, tx = (toString "Index " ++ toString i ++ toString " out of bounds for length " ++ toString n : String) → vx_Note p l e R s m args below meth c H locs cells slots Q (F0 m pc ls rest) "java/lang/ArrayIndexOutOfBoundsException" tx) : W p l e R s m args below meth c H locs cells slots Q (F0 m pc ls (.int i :: .ref a :: rest)) := by
  intro T hT X
  obtain ⟨t, st, q⟩ := k _ rfl T hT X
  refine ⟨t, ?_, q⟩
  have h1 := X.baloadOut hexec (by rw [hT]; exact hP q0 _ ha) ((hK.2 t0 _ ht).1 n (fun j => .int (f j))) (j := i) (by show (i < 0 ∨ (arrV _ _ _).slots.size ≤ _); rw [arrV_size]; exact Classical.byContradiction hout) (g := F0 m pc ls (.int i :: .ref a :: rest)) rfl (rest := rest) rfl (by rw [hb]; exact hdg) t
  simp only [arrV_size] at h1
  exact h1 st
theorem vx_bastZ {D : va_G} {cl : List vw_C} {ws : va_W} {tys : List (ClassId × FieldType)} {a : Nat} (hexec : p.tables.exec = Jvm.exec) (hb : c.code = cc) (hK : va_K D cl tys s) (hP : va_P D cl ws H) (q0 t0 : Nat) {cA : ClassId} {n : Nat} {f : Nat → Int32} (ha : ws[q0]? = some (a, .inl (cA, n, .inl f))) (ht : tys[t0]? = some (cA, .byte)) {i : Int32} {x : Int32} (hout : ¬ vp_in i n) (hdg : decode cc pc = .ok (.bastore, 1))
    (k : ∀ tx : String, tx = (toString "Index " ++ toString i ++ toString " out of bounds for length " ++ toString n : String) → vx_Note p l e R s m args below meth c H locs cells slots Q (F0 m pc ls rest) "java/lang/ArrayIndexOutOfBoundsException" tx) : W p l e R s m args below meth c H locs cells slots Q (F0 m pc ls (.int x :: .int i :: .ref a :: rest)) := by
  intro T hT X
  obtain ⟨t, st, q⟩ := k _ rfl T hT X
  refine ⟨t, ?_, q⟩
  have h1 := X.bastoreOut hexec (by rw [hT]; exact hP q0 _ ha) ((hK.2 t0 _ ht).1 n (fun j => .int (f j))) (j := i) (by show (i < 0 ∨ (arrV _ _ _).slots.size ≤ _); rw [arrV_size]; exact Classical.byContradiction hout) (g := F0 m pc ls (.int x :: .int i :: .ref a :: rest)) rfl (rest := rest) rfl (by rw [hb]; exact hdg) t
  simp only [arrV_size] at h1
  exact h1 st
theorem vx_zaldZ {D : va_G} {cl : List vw_C} {ws : va_W} {tys : List (ClassId × FieldType)} {a : Nat} (hexec : p.tables.exec = Jvm.exec) (hb : c.code = cc) (hK : va_K D cl tys s) (hP : va_P D cl ws H) (q0 t0 : Nat) {cA : ClassId} {n : Nat} {f : Nat → Int32} (ha : ws[q0]? = some (a, .inl (cA, n, .inl f))) (ht : tys[t0]? = some (cA, .boolean)) {i : Int32} (hout : ¬ vp_in i n) (hdg : decode cc pc = .ok (.baload, 1))
    (k : ∀ tx : String, tx = (toString "Index " ++ toString i ++ toString " out of bounds for length " ++ toString n : String) → vx_Note p l e R s m args below meth c H locs cells slots Q (F0 m pc ls rest) "java/lang/ArrayIndexOutOfBoundsException" tx) : W p l e R s m args below meth c H locs cells slots Q (F0 m pc ls (.int i :: .ref a :: rest)) := by
  intro T hT X
  obtain ⟨t, st, q⟩ := k _ rfl T hT X
  refine ⟨t, ?_, q⟩
  have h1 := X.baloadOut hexec (by rw [hT]; exact hP q0 _ ha) ((hK.2 t0 _ ht).1 n (fun j => .int (f j))) (j := i) (by show (i < 0 ∨ (arrV _ _ _).slots.size ≤ _); rw [arrV_size]; exact Classical.byContradiction hout) (g := F0 m pc ls (.int i :: .ref a :: rest)) rfl (rest := rest) rfl (by rw [hb]; exact hdg) t
  simp only [arrV_size] at h1
  exact h1 st
theorem vx_zastZ {D : va_G} {cl : List vw_C} {ws : va_W} {tys : List (ClassId × FieldType)} {a : Nat} (hexec : p.tables.exec = Jvm.exec) (hb : c.code = cc) (hK : va_K D cl tys s) (hP : va_P D cl ws H) (q0 t0 : Nat) {cA : ClassId} {n : Nat} {f : Nat → Int32} (ha : ws[q0]? = some (a, .inl (cA, n, .inl f))) (ht : tys[t0]? = some (cA, .boolean)) {i : Int32} {x : Int32} (hout : ¬ vp_in i n) (hdg : decode cc pc = .ok (.bastore, 1))
    (k : ∀ tx : String, tx = (toString "Index " ++ toString i ++ toString " out of bounds for length " ++ toString n : String) → vx_Note p l e R s m args below meth c H locs cells slots Q (F0 m pc ls rest) "java/lang/ArrayIndexOutOfBoundsException" tx) : W p l e R s m args below meth c H locs cells slots Q (F0 m pc ls (.int x :: .int i :: .ref a :: rest)) := by
  intro T hT X
  obtain ⟨t, st, q⟩ := k _ rfl T hT X
  refine ⟨t, ?_, q⟩
  have h1 := X.bastoreOut hexec (by rw [hT]; exact hP q0 _ ha) ((hK.2 t0 _ ht).1 n (fun j => .int (f j))) (j := i) (by show (i < 0 ∨ (arrV _ _ _).slots.size ≤ _); rw [arrV_size]; exact Classical.byContradiction hout) (g := F0 m pc ls (.int x :: .int i :: .ref a :: rest)) rfl (rest := rest) rfl (by rw [hb]; exact hdg) t
  simp only [arrV_size] at h1
  exact h1 st
theorem vx_caldZ {D : va_G} {cl : List vw_C} {ws : va_W} {tys : List (ClassId × FieldType)} {a : Nat} (hexec : p.tables.exec = Jvm.exec) (hb : c.code = cc) (hK : va_K D cl tys s) (hP : va_P D cl ws H) (q0 t0 : Nat) {cA : ClassId} {n : Nat} {f : Nat → Int32} (ha : ws[q0]? = some (a, .inl (cA, n, .inl f))) (ht : tys[t0]? = some (cA, .char)) {i : Int32} (hout : ¬ vp_in i n) (hdg : decode cc pc = .ok (.caload, 1))
    (k : ∀ tx : String, tx = (toString "Index " ++ toString i ++ toString " out of bounds for length " ++ toString n : String) → vx_Note p l e R s m args below meth c H locs cells slots Q (F0 m pc ls rest) "java/lang/ArrayIndexOutOfBoundsException" tx) : W p l e R s m args below meth c H locs cells slots Q (F0 m pc ls (.int i :: .ref a :: rest)) := by
  intro T hT X
  obtain ⟨t, st, q⟩ := k _ rfl T hT X
  refine ⟨t, ?_, q⟩
  have h1 := X.caloadOut hexec (by rw [hT]; exact hP q0 _ ha) ((hK.2 t0 _ ht).1 n (fun j => .int (f j))) (j := i) (by show (i < 0 ∨ (arrV _ _ _).slots.size ≤ _); rw [arrV_size]; exact Classical.byContradiction hout) (g := F0 m pc ls (.int i :: .ref a :: rest)) rfl (rest := rest) rfl (by rw [hb]; exact hdg) t
  simp only [arrV_size] at h1
  exact h1 st
theorem vx_castZ {D : va_G} {cl : List vw_C} {ws : va_W} {tys : List (ClassId × FieldType)} {a : Nat} (hexec : p.tables.exec = Jvm.exec) (hb : c.code = cc) (hK : va_K D cl tys s) (hP : va_P D cl ws H) (q0 t0 : Nat) {cA : ClassId} {n : Nat} {f : Nat → Int32} (ha : ws[q0]? = some (a, .inl (cA, n, .inl f))) (ht : tys[t0]? = some (cA, .char)) {i : Int32} {x : Int32} (hout : ¬ vp_in i n) (hdg : decode cc pc = .ok (.castore, 1))
    (k : ∀ tx : String, tx = (toString "Index " ++ toString i ++ toString " out of bounds for length " ++ toString n : String) → vx_Note p l e R s m args below meth c H locs cells slots Q (F0 m pc ls rest) "java/lang/ArrayIndexOutOfBoundsException" tx) : W p l e R s m args below meth c H locs cells slots Q (F0 m pc ls (.int x :: .int i :: .ref a :: rest)) := by
  intro T hT X
  obtain ⟨t, st, q⟩ := k _ rfl T hT X
  refine ⟨t, ?_, q⟩
  have h1 := X.castoreOut hexec (by rw [hT]; exact hP q0 _ ha) ((hK.2 t0 _ ht).1 n (fun j => .int (f j))) (j := i) (by show (i < 0 ∨ (arrV _ _ _).slots.size ≤ _); rw [arrV_size]; exact Classical.byContradiction hout) (g := F0 m pc ls (.int x :: .int i :: .ref a :: rest)) rfl (rest := rest) rfl (by rw [hb]; exact hdg) t
  simp only [arrV_size] at h1
  exact h1 st
theorem vx_saldZ {D : va_G} {cl : List vw_C} {ws : va_W} {tys : List (ClassId × FieldType)} {a : Nat} (hexec : p.tables.exec = Jvm.exec) (hb : c.code = cc) (hK : va_K D cl tys s) (hP : va_P D cl ws H) (q0 t0 : Nat) {cA : ClassId} {n : Nat} {f : Nat → Int32} (ha : ws[q0]? = some (a, .inl (cA, n, .inl f))) (ht : tys[t0]? = some (cA, .short)) {i : Int32} (hout : ¬ vp_in i n) (hdg : decode cc pc = .ok (.saload, 1))
    (k : ∀ tx : String, tx = (toString "Index " ++ toString i ++ toString " out of bounds for length " ++ toString n : String) → vx_Note p l e R s m args below meth c H locs cells slots Q (F0 m pc ls rest) "java/lang/ArrayIndexOutOfBoundsException" tx) : W p l e R s m args below meth c H locs cells slots Q (F0 m pc ls (.int i :: .ref a :: rest)) := by
  intro T hT X
  obtain ⟨t, st, q⟩ := k _ rfl T hT X
  refine ⟨t, ?_, q⟩
  have h1 := X.saloadOut hexec (by rw [hT]; exact hP q0 _ ha) ((hK.2 t0 _ ht).1 n (fun j => .int (f j))) (j := i) (by show (i < 0 ∨ (arrV _ _ _).slots.size ≤ _); rw [arrV_size]; exact Classical.byContradiction hout) (g := F0 m pc ls (.int i :: .ref a :: rest)) rfl (rest := rest) rfl (by rw [hb]; exact hdg) t
  simp only [arrV_size] at h1
  exact h1 st
theorem vx_sastZ {D : va_G} {cl : List vw_C} {ws : va_W} {tys : List (ClassId × FieldType)} {a : Nat} (hexec : p.tables.exec = Jvm.exec) (hb : c.code = cc) (hK : va_K D cl tys s) (hP : va_P D cl ws H) (q0 t0 : Nat) {cA : ClassId} {n : Nat} {f : Nat → Int32} (ha : ws[q0]? = some (a, .inl (cA, n, .inl f))) (ht : tys[t0]? = some (cA, .short)) {i : Int32} {x : Int32} (hout : ¬ vp_in i n) (hdg : decode cc pc = .ok (.sastore, 1))
    (k : ∀ tx : String, tx = (toString "Index " ++ toString i ++ toString " out of bounds for length " ++ toString n : String) → vx_Note p l e R s m args below meth c H locs cells slots Q (F0 m pc ls rest) "java/lang/ArrayIndexOutOfBoundsException" tx) : W p l e R s m args below meth c H locs cells slots Q (F0 m pc ls (.int x :: .int i :: .ref a :: rest)) := by
  intro T hT X
  obtain ⟨t, st, q⟩ := k _ rfl T hT X
  refine ⟨t, ?_, q⟩
  have h1 := X.sastoreOut hexec (by rw [hT]; exact hP q0 _ ha) ((hK.2 t0 _ ht).1 n (fun j => .int (f j))) (j := i) (by show (i < 0 ∨ (arrV _ _ _).slots.size ≤ _); rw [arrV_size]; exact Classical.byContradiction hout) (g := F0 m pc ls (.int x :: .int i :: .ref a :: rest)) rfl (rest := rest) rfl (by rw [hb]; exact hdg) t
  simp only [arrV_size] at h1
  exact h1 st
theorem vx_laldZ {D : va_G} {cl : List vw_C} {ws : va_W} {tys : List (ClassId × FieldType)} {a : Nat} (hexec : p.tables.exec = Jvm.exec) (hb : c.code = cc) (hK : va_K D cl tys s) (hP : va_P D cl ws H) (q0 t0 : Nat) {cA : ClassId} {n : Nat} {f : Nat → Int64} (ha : ws[q0]? = some (a, .inl (cA, n, .inr (.inl f)))) (ht : tys[t0]? = some (cA, .long)) {i : Int32} (hout : ¬ vp_in i n) (hdg : decode cc pc = .ok (.laload, 1))
    (k : ∀ tx : String, tx = (toString "Index " ++ toString i ++ toString " out of bounds for length " ++ toString n : String) → vx_Note p l e R s m args below meth c H locs cells slots Q (F0 m pc ls rest) "java/lang/ArrayIndexOutOfBoundsException" tx) : W p l e R s m args below meth c H locs cells slots Q (F0 m pc ls (.int i :: .ref a :: rest)) := by
  intro T hT X
  obtain ⟨t, st, q⟩ := k _ rfl T hT X
  refine ⟨t, ?_, q⟩
  have h1 := X.laloadOut hexec (by rw [hT]; exact hP q0 _ ha) ((hK.2 t0 _ ht).1 n (fun j => .long (f j))) (j := i) (by show (i < 0 ∨ (arrV _ _ _).slots.size ≤ _); rw [arrV_size]; exact Classical.byContradiction hout) (g := F0 m pc ls (.int i :: .ref a :: rest)) rfl (rest := rest) rfl (by rw [hb]; exact hdg) t
  simp only [arrV_size] at h1
  exact h1 st
theorem vx_lastZ {D : va_G} {cl : List vw_C} {ws : va_W} {tys : List (ClassId × FieldType)} {a : Nat} (hexec : p.tables.exec = Jvm.exec) (hb : c.code = cc) (hK : va_K D cl tys s) (hP : va_P D cl ws H) (q0 t0 : Nat) {cA : ClassId} {n : Nat} {f : Nat → Int64} (ha : ws[q0]? = some (a, .inl (cA, n, .inr (.inl f)))) (ht : tys[t0]? = some (cA, .long)) {i : Int32} {x : Int64} (hout : ¬ vp_in i n) (hdg : decode cc pc = .ok (.lastore, 1))
    (k : ∀ tx : String, tx = (toString "Index " ++ toString i ++ toString " out of bounds for length " ++ toString n : String) → vx_Note p l e R s m args below meth c H locs cells slots Q (F0 m pc ls rest) "java/lang/ArrayIndexOutOfBoundsException" tx) : W p l e R s m args below meth c H locs cells slots Q (F0 m pc ls (.long x :: .int i :: .ref a :: rest)) := by
  intro T hT X
  obtain ⟨t, st, q⟩ := k _ rfl T hT X
  refine ⟨t, ?_, q⟩
  have h1 := X.lastoreOut hexec (by rw [hT]; exact hP q0 _ ha) ((hK.2 t0 _ ht).1 n (fun j => .long (f j))) (j := i) (by show (i < 0 ∨ (arrV _ _ _).slots.size ≤ _); rw [arrV_size]; exact Classical.byContradiction hout) (g := F0 m pc ls (.long x :: .int i :: .ref a :: rest)) rfl (rest := rest) rfl (by rw [hb]; exact hdg) t
  simp only [arrV_size] at h1
  exact h1 st
theorem vx_faldZ {D : va_G} {cl : List vw_C} {ws : va_W} {tys : List (ClassId × FieldType)} {a : Nat} (hexec : p.tables.exec = Jvm.exec) (hb : c.code = cc) (hK : va_K D cl tys s) (hP : va_P D cl ws H) (q0 t0 : Nat) {cA : ClassId} {n : Nat} {f : Nat → UInt32} (ha : ws[q0]? = some (a, .inl (cA, n, .inr (.inr (.inl f))))) (ht : tys[t0]? = some (cA, .float)) {i : Int32} (hout : ¬ vp_in i n) (hdg : decode cc pc = .ok (.faload, 1))
    (k : ∀ tx : String, tx = (toString "Index " ++ toString i ++ toString " out of bounds for length " ++ toString n : String) → vx_Note p l e R s m args below meth c H locs cells slots Q (F0 m pc ls rest) "java/lang/ArrayIndexOutOfBoundsException" tx) : W p l e R s m args below meth c H locs cells slots Q (F0 m pc ls (.int i :: .ref a :: rest)) := by
  intro T hT X
  obtain ⟨t, st, q⟩ := k _ rfl T hT X
  refine ⟨t, ?_, q⟩
  have h1 := X.faloadOut hexec (by rw [hT]; exact hP q0 _ ha) ((hK.2 t0 _ ht).1 n (fun j => .float (f j))) (j := i) (by show (i < 0 ∨ (arrV _ _ _).slots.size ≤ _); rw [arrV_size]; exact Classical.byContradiction hout) (g := F0 m pc ls (.int i :: .ref a :: rest)) rfl (rest := rest) rfl (by rw [hb]; exact hdg) t
  simp only [arrV_size] at h1
  exact h1 st
theorem vx_fastZ {D : va_G} {cl : List vw_C} {ws : va_W} {tys : List (ClassId × FieldType)} {a : Nat} (hexec : p.tables.exec = Jvm.exec) (hb : c.code = cc) (hK : va_K D cl tys s) (hP : va_P D cl ws H) (q0 t0 : Nat) {cA : ClassId} {n : Nat} {f : Nat → UInt32} (ha : ws[q0]? = some (a, .inl (cA, n, .inr (.inr (.inl f))))) (ht : tys[t0]? = some (cA, .float)) {i : Int32} {x : UInt32} (hout : ¬ vp_in i n) (hdg : decode cc pc = .ok (.fastore, 1))
    (k : ∀ tx : String, tx = (toString "Index " ++ toString i ++ toString " out of bounds for length " ++ toString n : String) → vx_Note p l e R s m args below meth c H locs cells slots Q (F0 m pc ls rest) "java/lang/ArrayIndexOutOfBoundsException" tx) : W p l e R s m args below meth c H locs cells slots Q (F0 m pc ls (.float x :: .int i :: .ref a :: rest)) := by
  intro T hT X
  obtain ⟨t, st, q⟩ := k _ rfl T hT X
  refine ⟨t, ?_, q⟩
  have h1 := X.fastoreOut hexec (by rw [hT]; exact hP q0 _ ha) ((hK.2 t0 _ ht).1 n (fun j => .float (f j))) (j := i) (by show (i < 0 ∨ (arrV _ _ _).slots.size ≤ _); rw [arrV_size]; exact Classical.byContradiction hout) (g := F0 m pc ls (.float x :: .int i :: .ref a :: rest)) rfl (rest := rest) rfl (by rw [hb]; exact hdg) t
  simp only [arrV_size] at h1
  exact h1 st
theorem vx_daldZ {D : va_G} {cl : List vw_C} {ws : va_W} {tys : List (ClassId × FieldType)} {a : Nat} (hexec : p.tables.exec = Jvm.exec) (hb : c.code = cc) (hK : va_K D cl tys s) (hP : va_P D cl ws H) (q0 t0 : Nat) {cA : ClassId} {n : Nat} {f : Nat → UInt64} (ha : ws[q0]? = some (a, .inl (cA, n, .inr (.inr (.inr (.inl f)))))) (ht : tys[t0]? = some (cA, .double)) {i : Int32} (hout : ¬ vp_in i n) (hdg : decode cc pc = .ok (.daload, 1))
    (k : ∀ tx : String, tx = (toString "Index " ++ toString i ++ toString " out of bounds for length " ++ toString n : String) → vx_Note p l e R s m args below meth c H locs cells slots Q (F0 m pc ls rest) "java/lang/ArrayIndexOutOfBoundsException" tx) : W p l e R s m args below meth c H locs cells slots Q (F0 m pc ls (.int i :: .ref a :: rest)) := by
  intro T hT X
  obtain ⟨t, st, q⟩ := k _ rfl T hT X
  refine ⟨t, ?_, q⟩
  have h1 := X.daloadOut hexec (by rw [hT]; exact hP q0 _ ha) ((hK.2 t0 _ ht).1 n (fun j => .double (f j))) (j := i) (by show (i < 0 ∨ (arrV _ _ _).slots.size ≤ _); rw [arrV_size]; exact Classical.byContradiction hout) (g := F0 m pc ls (.int i :: .ref a :: rest)) rfl (rest := rest) rfl (by rw [hb]; exact hdg) t
  simp only [arrV_size] at h1
  exact h1 st
theorem vx_dastZ {D : va_G} {cl : List vw_C} {ws : va_W} {tys : List (ClassId × FieldType)} {a : Nat} (hexec : p.tables.exec = Jvm.exec) (hb : c.code = cc) (hK : va_K D cl tys s) (hP : va_P D cl ws H) (q0 t0 : Nat) {cA : ClassId} {n : Nat} {f : Nat → UInt64} (ha : ws[q0]? = some (a, .inl (cA, n, .inr (.inr (.inr (.inl f)))))) (ht : tys[t0]? = some (cA, .double)) {i : Int32} {x : UInt64} (hout : ¬ vp_in i n) (hdg : decode cc pc = .ok (.dastore, 1))
    (k : ∀ tx : String, tx = (toString "Index " ++ toString i ++ toString " out of bounds for length " ++ toString n : String) → vx_Note p l e R s m args below meth c H locs cells slots Q (F0 m pc ls rest) "java/lang/ArrayIndexOutOfBoundsException" tx) : W p l e R s m args below meth c H locs cells slots Q (F0 m pc ls (.double x :: .int i :: .ref a :: rest)) := by
  intro T hT X
  obtain ⟨t, st, q⟩ := k _ rfl T hT X
  refine ⟨t, ?_, q⟩
  have h1 := X.dastoreOut hexec (by rw [hT]; exact hP q0 _ ha) ((hK.2 t0 _ ht).1 n (fun j => .double (f j))) (j := i) (by show (i < 0 ∨ (arrV _ _ _).slots.size ≤ _); rw [arrV_size]; exact Classical.byContradiction hout) (g := F0 m pc ls (.double x :: .int i :: .ref a :: rest)) rfl (rest := rest) rfl (by rw [hb]; exact hdg) t
  simp only [arrV_size] at h1
  exact h1 st
theorem vx_arraylengthN (hexec : p.tables.exec = Jvm.exec) (hb : c.code = cc) (hdg : decode cc pc = .ok (.arraylength, 1)) (k : vx_NoteN p l e R s m args below meth c H locs cells slots Q (F0 m pc ls rest)) : W p l e R s m args below meth c H locs cells slots Q (F0 m pc ls (.null :: rest)) := by
  intro T hT X
  obtain ⟨t, st, q⟩ := k T hT X
  exact ⟨t, X.arraylengthNull hexec (g := F0 m pc ls (.null :: rest)) rfl (rest := rest) rfl (by rw [hb]; exact hdg) t st, q⟩
theorem vx_ialoadN (hexec : p.tables.exec = Jvm.exec) (hb : c.code = cc) {i : Int32} (hdg : decode cc pc = .ok (.iaload, 1)) (k : vx_NoteN p l e R s m args below meth c H locs cells slots Q (F0 m pc ls rest)) : W p l e R s m args below meth c H locs cells slots Q (F0 m pc ls (.int i :: .null :: rest)) := by
  intro T hT X
  obtain ⟨t, st, q⟩ := k T hT X
  exact ⟨t, X.ialoadNull hexec (g := F0 m pc ls (.int i :: .null :: rest)) rfl (rest := rest) rfl (by rw [hb]; exact hdg) t st, q⟩
theorem vx_laloadN (hexec : p.tables.exec = Jvm.exec) (hb : c.code = cc) {i : Int32} (hdg : decode cc pc = .ok (.laload, 1)) (k : vx_NoteN p l e R s m args below meth c H locs cells slots Q (F0 m pc ls rest)) : W p l e R s m args below meth c H locs cells slots Q (F0 m pc ls (.int i :: .null :: rest)) := by
  intro T hT X
  obtain ⟨t, st, q⟩ := k T hT X
  exact ⟨t, X.laloadNull hexec (g := F0 m pc ls (.int i :: .null :: rest)) rfl (rest := rest) rfl (by rw [hb]; exact hdg) t st, q⟩
theorem vx_faloadN (hexec : p.tables.exec = Jvm.exec) (hb : c.code = cc) {i : Int32} (hdg : decode cc pc = .ok (.faload, 1)) (k : vx_NoteN p l e R s m args below meth c H locs cells slots Q (F0 m pc ls rest)) : W p l e R s m args below meth c H locs cells slots Q (F0 m pc ls (.int i :: .null :: rest)) := by
  intro T hT X
  obtain ⟨t, st, q⟩ := k T hT X
  exact ⟨t, X.faloadNull hexec (g := F0 m pc ls (.int i :: .null :: rest)) rfl (rest := rest) rfl (by rw [hb]; exact hdg) t st, q⟩
theorem vx_daloadN (hexec : p.tables.exec = Jvm.exec) (hb : c.code = cc) {i : Int32} (hdg : decode cc pc = .ok (.daload, 1)) (k : vx_NoteN p l e R s m args below meth c H locs cells slots Q (F0 m pc ls rest)) : W p l e R s m args below meth c H locs cells slots Q (F0 m pc ls (.int i :: .null :: rest)) := by
  intro T hT X
  obtain ⟨t, st, q⟩ := k T hT X
  exact ⟨t, X.daloadNull hexec (g := F0 m pc ls (.int i :: .null :: rest)) rfl (rest := rest) rfl (by rw [hb]; exact hdg) t st, q⟩
theorem vx_aaloadN (hexec : p.tables.exec = Jvm.exec) (hb : c.code = cc) {i : Int32} (hdg : decode cc pc = .ok (.aaload, 1)) (k : vx_NoteN p l e R s m args below meth c H locs cells slots Q (F0 m pc ls rest)) : W p l e R s m args below meth c H locs cells slots Q (F0 m pc ls (.int i :: .null :: rest)) := by
  intro T hT X
  obtain ⟨t, st, q⟩ := k T hT X
  exact ⟨t, X.aaloadNull hexec (g := F0 m pc ls (.int i :: .null :: rest)) rfl (rest := rest) rfl (by rw [hb]; exact hdg) t st, q⟩
theorem vx_baloadN (hexec : p.tables.exec = Jvm.exec) (hb : c.code = cc) {i : Int32} (hdg : decode cc pc = .ok (.baload, 1)) (k : vx_NoteN p l e R s m args below meth c H locs cells slots Q (F0 m pc ls rest)) : W p l e R s m args below meth c H locs cells slots Q (F0 m pc ls (.int i :: .null :: rest)) := by
  intro T hT X
  obtain ⟨t, st, q⟩ := k T hT X
  exact ⟨t, X.baloadNull hexec (g := F0 m pc ls (.int i :: .null :: rest)) rfl (rest := rest) rfl (by rw [hb]; exact hdg) t st, q⟩
theorem vx_caloadN (hexec : p.tables.exec = Jvm.exec) (hb : c.code = cc) {i : Int32} (hdg : decode cc pc = .ok (.caload, 1)) (k : vx_NoteN p l e R s m args below meth c H locs cells slots Q (F0 m pc ls rest)) : W p l e R s m args below meth c H locs cells slots Q (F0 m pc ls (.int i :: .null :: rest)) := by
  intro T hT X
  obtain ⟨t, st, q⟩ := k T hT X
  exact ⟨t, X.caloadNull hexec (g := F0 m pc ls (.int i :: .null :: rest)) rfl (rest := rest) rfl (by rw [hb]; exact hdg) t st, q⟩
theorem vx_saloadN (hexec : p.tables.exec = Jvm.exec) (hb : c.code = cc) {i : Int32} (hdg : decode cc pc = .ok (.saload, 1)) (k : vx_NoteN p l e R s m args below meth c H locs cells slots Q (F0 m pc ls rest)) : W p l e R s m args below meth c H locs cells slots Q (F0 m pc ls (.int i :: .null :: rest)) := by
  intro T hT X
  obtain ⟨t, st, q⟩ := k T hT X
  exact ⟨t, X.saloadNull hexec (g := F0 m pc ls (.int i :: .null :: rest)) rfl (rest := rest) rfl (by rw [hb]; exact hdg) t st, q⟩
theorem vx_iastoreN (hexec : p.tables.exec = Jvm.exec) (hb : c.code = cc) {x : Int32} {i : Int32} (hdg : decode cc pc = .ok (.iastore, 1)) (k : vx_NoteN p l e R s m args below meth c H locs cells slots Q (F0 m pc ls rest)) : W p l e R s m args below meth c H locs cells slots Q (F0 m pc ls (.int x :: .int i :: .null :: rest)) := by
  intro T hT X
  obtain ⟨t, st, q⟩ := k T hT X
  exact ⟨t, X.iastoreNull hexec (g := F0 m pc ls (.int x :: .int i :: .null :: rest)) rfl (rest := rest) rfl (by rw [hb]; exact hdg) t st, q⟩
theorem vx_lastoreN (hexec : p.tables.exec = Jvm.exec) (hb : c.code = cc) {x : Int64} {i : Int32} (hdg : decode cc pc = .ok (.lastore, 1)) (k : vx_NoteN p l e R s m args below meth c H locs cells slots Q (F0 m pc ls rest)) : W p l e R s m args below meth c H locs cells slots Q (F0 m pc ls (.long x :: .int i :: .null :: rest)) := by
  intro T hT X
  obtain ⟨t, st, q⟩ := k T hT X
  exact ⟨t, X.lastoreNull hexec (g := F0 m pc ls (.long x :: .int i :: .null :: rest)) rfl (rest := rest) rfl (by rw [hb]; exact hdg) t st, q⟩
theorem vx_fastoreN (hexec : p.tables.exec = Jvm.exec) (hb : c.code = cc) {x : UInt32} {i : Int32} (hdg : decode cc pc = .ok (.fastore, 1)) (k : vx_NoteN p l e R s m args below meth c H locs cells slots Q (F0 m pc ls rest)) : W p l e R s m args below meth c H locs cells slots Q (F0 m pc ls (.float x :: .int i :: .null :: rest)) := by
  intro T hT X
  obtain ⟨t, st, q⟩ := k T hT X
  exact ⟨t, X.fastoreNull hexec (g := F0 m pc ls (.float x :: .int i :: .null :: rest)) rfl (rest := rest) rfl (by rw [hb]; exact hdg) t st, q⟩
theorem vx_dastoreN (hexec : p.tables.exec = Jvm.exec) (hb : c.code = cc) {x : UInt64} {i : Int32} (hdg : decode cc pc = .ok (.dastore, 1)) (k : vx_NoteN p l e R s m args below meth c H locs cells slots Q (F0 m pc ls rest)) : W p l e R s m args below meth c H locs cells slots Q (F0 m pc ls (.double x :: .int i :: .null :: rest)) := by
  intro T hT X
  obtain ⟨t, st, q⟩ := k T hT X
  exact ⟨t, X.dastoreNull hexec (g := F0 m pc ls (.double x :: .int i :: .null :: rest)) rfl (rest := rest) rfl (by rw [hb]; exact hdg) t st, q⟩
theorem vx_bastoreN (hexec : p.tables.exec = Jvm.exec) (hb : c.code = cc) {x : Int32} {i : Int32} (hdg : decode cc pc = .ok (.bastore, 1)) (k : vx_NoteN p l e R s m args below meth c H locs cells slots Q (F0 m pc ls rest)) : W p l e R s m args below meth c H locs cells slots Q (F0 m pc ls (.int x :: .int i :: .null :: rest)) := by
  intro T hT X
  obtain ⟨t, st, q⟩ := k T hT X
  exact ⟨t, X.bastoreNull hexec (g := F0 m pc ls (.int x :: .int i :: .null :: rest)) rfl (rest := rest) rfl (by rw [hb]; exact hdg) t st, q⟩
theorem vx_castoreN (hexec : p.tables.exec = Jvm.exec) (hb : c.code = cc) {x : Int32} {i : Int32} (hdg : decode cc pc = .ok (.castore, 1)) (k : vx_NoteN p l e R s m args below meth c H locs cells slots Q (F0 m pc ls rest)) : W p l e R s m args below meth c H locs cells slots Q (F0 m pc ls (.int x :: .int i :: .null :: rest)) := by
  intro T hT X
  obtain ⟨t, st, q⟩ := k T hT X
  exact ⟨t, X.castoreNull hexec (g := F0 m pc ls (.int x :: .int i :: .null :: rest)) rfl (rest := rest) rfl (by rw [hb]; exact hdg) t st, q⟩
theorem vx_sastoreN (hexec : p.tables.exec = Jvm.exec) (hb : c.code = cc) {x : Int32} {i : Int32} (hdg : decode cc pc = .ok (.sastore, 1)) (k : vx_NoteN p l e R s m args below meth c H locs cells slots Q (F0 m pc ls rest)) : W p l e R s m args below meth c H locs cells slots Q (F0 m pc ls (.int x :: .int i :: .null :: rest)) := by
  intro T hT X
  obtain ⟨t, st, q⟩ := k T hT X
  exact ⟨t, X.sastoreNull hexec (g := F0 m pc ls (.int x :: .int i :: .null :: rest)) rfl (rest := rest) rfl (by rw [hb]; exact hdg) t st, q⟩
theorem vx_invokeN {own C : String} {index maxL : Nat} {y : MethodName} {bytes : ByteArray} {ret : Option FieldType} (hexec : p.tables.exec = Jvm.exec) (hb : c.code = cc) (hown : s.vm.findClass own = some m.cls) (hlink : (Cond.methodLink own index y).before args s = true) (hinst : (Cond.instanceMethod y).before args s = true) (hcode : (Cond.code y bytes maxL ret).before args s = true) (hsel : (Cond.selects C y y).before args s = true)
    (hx : y.cls ≠ "java/lang/invoke/MethodHandle" ∧ y.cls ≠ "java/lang/invoke/VarHandle") {As : List Value} (hlen : (parseMethodDescriptor y.desc).map (fun d => d.parameters.length) = some As.length) (hdg : decode cc pc = .ok (.invokevirtual index, 3))
    (k : vx_NoteN p l e R s m args below meth c H locs cells slots Q (F0 m pc ls rest)) {st0 : List Value} (hst : st0 = As.reverse ++ .null :: rest) : W p l e R s m args below meth c H locs cells slots Q (F0 m pc ls st0) := by
  intro T hT X
  obtain ⟨r0, r, hn, hrm, hstR, hsigR⟩ := va_Decl.of hinst hcode
  obtain ⟨c2, r2, m2, q1, q2, q3, q4, kP, hkP, hkPi⟩ := Cond.selects_spec hsel
  cases hn.symm.trans q3
  have hl9 : As.length = r.sig.parameters.length := by
    rw [hsigR] at hlen
    exact (Option.some.inj hlen).symm
  obtain ⟨vm', X1, st1⟩ := X.invokevirtualNull hexec hown hlink hn hrm hstR hkP hkPi hx (g := F0 m pc ls st0) rfl (argsL := As) (rest := rest) hl9 hst (by rw [hb]; exact hdg)
  obtain ⟨t, st, q⟩ := k (T.setVm vm') hT X1
  exact ⟨t, st1 t st, q⟩
theorem vx_newarrayZ {atype : ArrayType} (hexec : p.tables.exec = Jvm.exec) (hb : c.code = cc) {n : Int32} (h0 : n < 0) (hdg : decode cc pc = .ok (.newarray atype, 2)) (k : ∀ tx : String, tx = toString n → vx_Note p l e R s m args below meth c H locs cells slots Q (F0 m pc ls rest) "java/lang/NegativeArraySizeException" tx) : W p l e R s m args below meth c H locs cells slots Q (F0 m pc ls (.int n :: rest)) := by
  intro T hT X
  obtain ⟨t, st, q⟩ := k _ rfl T hT X
  exact ⟨t, X.newarrayNegative hexec (g := F0 m pc ls (.int n :: rest)) rfl h0 (rest := rest) rfl (by rw [hb]; exact hdg) t st, q⟩
end
end VXM
/-! ===== END ===== -/
end
section
-- ===== PART A: goes FIRST, ahead of the names: the tables' words, and 'selects' of the private methods out of them =====
/-- a private method of a class that the tables say can be made, by its rows of tables_1 -/
def lw_okq (q : MethodName × Nat) : Prop := (q.1.cls ≠ "java/lang/invoke/MethodHandle" ∧ q.1.cls ≠ "java/lang/invoke/VarHandle") ∧ Cond.instantiable q.1.cls q.2 ∈ tables_1 ∧ Cond.privateMethod q.1 ∈ tables_1 ∧ Cond.instanceMethod q.1 ∈ tables_1
theorem lw_p0 : lw_okq (⟨"Locihall$Facts", "leechBits", "()I"⟩, 9) := ⟨⟨by decide +kernel, by decide +kernel⟩, List.mem_of_getElem? (i := 233) (by decide +kernel), List.mem_of_getElem? (i := 315) (by decide +kernel), List.mem_of_getElem? (i := 316) (by decide +kernel)⟩
theorem lw_p1 : lw_okq (⟨"Locihall", "tableAt", "(I)LLocihall$Table;"⟩, 13) := ⟨⟨by decide +kernel, by decide +kernel⟩, List.mem_of_getElem? (i := 44) (by decide +kernel), List.mem_of_getElem? (i := 327) (by decide +kernel), List.mem_of_getElem? (i := 328) (by decide +kernel)⟩
theorem lw_p2 : lw_okq (⟨"Locihall$Table", "isSound", "(LLocihall$Images;)Z"⟩, 4) := ⟨⟨by decide +kernel, by decide +kernel⟩, List.mem_of_getElem? (i := 333) (by decide +kernel), List.mem_of_getElem? (i := 331) (by decide +kernel), List.mem_of_getElem? (i := 332) (by decide +kernel)⟩
theorem lw_p3 : lw_okq (⟨"Locihall$Images", "has", "(I)Z"⟩, 3) := ⟨⟨by decide +kernel, by decide +kernel⟩, List.mem_of_getElem? (i := 52) (by decide +kernel), List.mem_of_getElem? (i := 336) (by decide +kernel), List.mem_of_getElem? (i := 337) (by decide +kernel)⟩
theorem lw_p4 : lw_okq (⟨"Locihall$Tongues", "isSound", "()Z"⟩, 1) := ⟨⟨by decide +kernel, by decide +kernel⟩, List.mem_of_getElem? (i := 70) (by decide +kernel), List.mem_of_getElem? (i := 344) (by decide +kernel), List.mem_of_getElem? (i := 345) (by decide +kernel)⟩
theorem lw_p5 : lw_okq (⟨"Locihall$Tongues", "letterOf", "(II)I"⟩, 1) := ⟨⟨by decide +kernel, by decide +kernel⟩, List.mem_of_getElem? (i := 70) (by decide +kernel), List.mem_of_getElem? (i := 348) (by decide +kernel), List.mem_of_getElem? (i := 349) (by decide +kernel)⟩
theorem lw_p6 : lw_okq (⟨"Locihall$Tongues", "digitOf", "(II)I"⟩, 1) := ⟨⟨by decide +kernel, by decide +kernel⟩, List.mem_of_getElem? (i := 70) (by decide +kernel), List.mem_of_getElem? (i := 356) (by decide +kernel), List.mem_of_getElem? (i := 357) (by decide +kernel)⟩
theorem lw_p7 : lw_okq (⟨"Locihall$Mind", "isSound", "()Z"⟩, 6) := ⟨⟨by decide +kernel, by decide +kernel⟩, List.mem_of_getElem? (i := 84) (by decide +kernel), List.mem_of_getElem? (i := 360) (by decide +kernel), List.mem_of_getElem? (i := 361) (by decide +kernel)⟩
theorem lw_p8 : lw_okq (⟨"Locihall$Mind", "palaceAt", "(I)LLocihall$Palace;"⟩, 6) := ⟨⟨by decide +kernel, by decide +kernel⟩, List.mem_of_getElem? (i := 84) (by decide +kernel), List.mem_of_getElem? (i := 364) (by decide +kernel), List.mem_of_getElem? (i := 365) (by decide +kernel)⟩
theorem lw_p9 : lw_okq (⟨"Locihall$Palace", "at", "(I)LLocihall$Locus;"⟩, 5) := ⟨⟨by decide +kernel, by decide +kernel⟩, List.mem_of_getElem? (i := 371) (by decide +kernel), List.mem_of_getElem? (i := 369) (by decide +kernel), List.mem_of_getElem? (i := 370) (by decide +kernel)⟩
theorem lw_p10 : lw_okq (⟨"Locihall$Mind", "isSoundPile", "(LLocihall$Locus;)Z"⟩, 6) := ⟨⟨by decide +kernel, by decide +kernel⟩, List.mem_of_getElem? (i := 84) (by decide +kernel), List.mem_of_getElem? (i := 374) (by decide +kernel), List.mem_of_getElem? (i := 375) (by decide +kernel)⟩
theorem lw_p11 : lw_okq (⟨"Locihall$Locus", "fromTop", "(I)LLocihall$Trace;"⟩, 4) := ⟨⟨by decide +kernel, by decide +kernel⟩, List.mem_of_getElem? (i := 380) (by decide +kernel), List.mem_of_getElem? (i := 378) (by decide +kernel), List.mem_of_getElem? (i := 379) (by decide +kernel)⟩
theorem lw_p12 : lw_okq (⟨"Locihall$Trace", "isSound", "(I)Z"⟩, 8) := ⟨⟨by decide +kernel, by decide +kernel⟩, List.mem_of_getElem? (i := 385) (by decide +kernel), List.mem_of_getElem? (i := 383) (by decide +kernel), List.mem_of_getElem? (i := 384) (by decide +kernel)⟩
theorem lw_p13 : lw_okq (⟨"Locihall$Contest", "isSound", "()Z"⟩, 17) := ⟨⟨by decide +kernel, by decide +kernel⟩, List.mem_of_getElem? (i := 133) (by decide +kernel), List.mem_of_getElem? (i := 389) (by decide +kernel), List.mem_of_getElem? (i := 390) (by decide +kernel)⟩
theorem lw_p14 : lw_okq (⟨"Locihall$Stage", "isSound", "()Z"⟩, 7) := ⟨⟨by decide +kernel, by decide +kernel⟩, List.mem_of_getElem? (i := 202) (by decide +kernel), List.mem_of_getElem? (i := 394) (by decide +kernel), List.mem_of_getElem? (i := 395) (by decide +kernel)⟩
theorem lw_p15 : lw_okq (⟨"Locihall$Facts", "isSound", "()Z"⟩, 9) := ⟨⟨by decide +kernel, by decide +kernel⟩, List.mem_of_getElem? (i := 233) (by decide +kernel), List.mem_of_getElem? (i := 399) (by decide +kernel), List.mem_of_getElem? (i := 400) (by decide +kernel)⟩
def lw_privs_1 : List (MethodName × Nat) := [(⟨"Locihall$Facts", "leechBits", "()I"⟩, 9), (⟨"Locihall", "tableAt", "(I)LLocihall$Table;"⟩, 13), (⟨"Locihall$Table", "isSound", "(LLocihall$Images;)Z"⟩, 4), (⟨"Locihall$Images", "has", "(I)Z"⟩, 3), (⟨"Locihall$Tongues", "isSound", "()Z"⟩, 1), (⟨"Locihall$Tongues", "letterOf", "(II)I"⟩, 1), (⟨"Locihall$Tongues", "digitOf", "(II)I"⟩, 1), (⟨"Locihall$Mind", "isSound", "()Z"⟩, 6), (⟨"Locihall$Mind", "palaceAt", "(I)LLocihall$Palace;"⟩, 6), (⟨"Locihall$Palace", "at", "(I)LLocihall$Locus;"⟩, 5), (⟨"Locihall$Mind", "isSoundPile", "(LLocihall$Locus;)Z"⟩, 6), (⟨"Locihall$Locus", "fromTop", "(I)LLocihall$Trace;"⟩, 4), (⟨"Locihall$Trace", "isSound", "(I)Z"⟩, 8), (⟨"Locihall$Contest", "isSound", "()Z"⟩, 17), (⟨"Locihall$Stage", "isSound", "()Z"⟩, 7), (⟨"Locihall$Facts", "isSound", "()Z"⟩, 9)]
theorem lw_r1 : ∀ q ∈ lw_privs_1, lw_okq q := List.forall_mem_cons.mpr ⟨lw_p0, List.forall_mem_cons.mpr ⟨lw_p1, List.forall_mem_cons.mpr ⟨lw_p2, List.forall_mem_cons.mpr ⟨lw_p3, List.forall_mem_cons.mpr ⟨lw_p4, List.forall_mem_cons.mpr ⟨lw_p5, List.forall_mem_cons.mpr ⟨lw_p6, List.forall_mem_cons.mpr ⟨lw_p7, List.forall_mem_cons.mpr ⟨lw_p8, List.forall_mem_cons.mpr ⟨lw_p9, List.forall_mem_cons.mpr ⟨lw_p10, List.forall_mem_cons.mpr ⟨lw_p11, List.forall_mem_cons.mpr ⟨lw_p12, List.forall_mem_cons.mpr ⟨lw_p13, List.forall_mem_cons.mpr ⟨lw_p14, List.forall_mem_cons.mpr ⟨lw_p15, fun _ h => absurd h List.not_mem_nil⟩⟩⟩⟩⟩⟩⟩⟩⟩⟩⟩⟩⟩⟩⟩⟩
theorem lw_p16 : lw_okq (⟨"java/lang/Throwable", "fillInStackTrace", "(I)Ljava/lang/Throwable;"⟩, 6) := ⟨⟨by decide +kernel, by decide +kernel⟩, List.mem_of_getElem? (i := 455) (by decide +kernel), List.mem_of_getElem? (i := 453) (by decide +kernel), List.mem_of_getElem? (i := 454) (by decide +kernel)⟩
theorem lw_p17 : lw_okq (⟨"Locihall$Images", "add", "(II)I"⟩, 3) := ⟨⟨by decide +kernel, by decide +kernel⟩, List.mem_of_getElem? (i := 52) (by decide +kernel), List.mem_of_getElem? (i := 501) (by decide +kernel), List.mem_of_getElem? (i := 502) (by decide +kernel)⟩
theorem lw_p18 : lw_okq (⟨"Locihall$Table", "put", "(III)V"⟩, 4) := ⟨⟨by decide +kernel, by decide +kernel⟩, List.mem_of_getElem? (i := 333) (by decide +kernel), List.mem_of_getElem? (i := 587) (by decide +kernel), List.mem_of_getElem? (i := 588) (by decide +kernel)⟩
theorem lw_p19 : lw_okq (⟨"Locihall$Table", "countImages", "()I"⟩, 4) := ⟨⟨by decide +kernel, by decide +kernel⟩, List.mem_of_getElem? (i := 333) (by decide +kernel), List.mem_of_getElem? (i := 592) (by decide +kernel), List.mem_of_getElem? (i := 593) (by decide +kernel)⟩
theorem lw_p20 : lw_okq (⟨"Locihall$Table", "hasImage", "(I)Z"⟩, 4) := ⟨⟨by decide +kernel, by decide +kernel⟩, List.mem_of_getElem? (i := 333) (by decide +kernel), List.mem_of_getElem? (i := 605) (by decide +kernel), List.mem_of_getElem? (i := 606) (by decide +kernel)⟩
theorem lw_p21 : lw_okq (⟨"Locihall$Table", "imageAt", "(I)I"⟩, 4) := ⟨⟨by decide +kernel, by decide +kernel⟩, List.mem_of_getElem? (i := 333) (by decide +kernel), List.mem_of_getElem? (i := 609) (by decide +kernel), List.mem_of_getElem? (i := 610) (by decide +kernel)⟩
theorem lw_p22 : lw_okq (⟨"Locihall$Table", "skillAt", "(I)I"⟩, 4) := ⟨⟨by decide +kernel, by decide +kernel⟩, List.mem_of_getElem? (i := 333) (by decide +kernel), List.mem_of_getElem? (i := 637) (by decide +kernel), List.mem_of_getElem? (i := 638) (by decide +kernel)⟩
theorem lw_p23 : lw_okq (⟨"Locihall$Tongues", "put", "(IIC)V"⟩, 1) := ⟨⟨by decide +kernel, by decide +kernel⟩, List.mem_of_getElem? (i := 70) (by decide +kernel), List.mem_of_getElem? (i := 668) (by decide +kernel), List.mem_of_getElem? (i := 669) (by decide +kernel)⟩
theorem lw_p24 : lw_okq (⟨"Locihall$Tongues", "countLetters", "(I)I"⟩, 1) := ⟨⟨by decide +kernel, by decide +kernel⟩, List.mem_of_getElem? (i := 70) (by decide +kernel), List.mem_of_getElem? (i := 672) (by decide +kernel), List.mem_of_getElem? (i := 673) (by decide +kernel)⟩
theorem lw_p25 : lw_okq (⟨"Locihall$Tongues", "sameSpelling", "(III)I"⟩, 1) := ⟨⟨by decide +kernel, by decide +kernel⟩, List.mem_of_getElem? (i := 70) (by decide +kernel), List.mem_of_getElem? (i := 684) (by decide +kernel), List.mem_of_getElem? (i := 685) (by decide +kernel)⟩
theorem lw_p26 : lw_okq (⟨"Locihall$Table", "spendHours", "(I)I"⟩, 4) := ⟨⟨by decide +kernel, by decide +kernel⟩, List.mem_of_getElem? (i := 333) (by decide +kernel), List.mem_of_getElem? (i := 696) (by decide +kernel), List.mem_of_getElem? (i := 697) (by decide +kernel)⟩
theorem lw_p27 : lw_okq (⟨"Locihall$Table", "spend", "([II)I"⟩, 4) := ⟨⟨by decide +kernel, by decide +kernel⟩, List.mem_of_getElem? (i := 333) (by decide +kernel), List.mem_of_getElem? (i := 700) (by decide +kernel), List.mem_of_getElem? (i := 701) (by decide +kernel)⟩
theorem lw_p28 : lw_okq (⟨"Locihall$Table", "tenthsAfter", "(LLocihall$Images;I)I"⟩, 4) := ⟨⟨by decide +kernel, by decide +kernel⟩, List.mem_of_getElem? (i := 333) (by decide +kernel), List.mem_of_getElem? (i := 713) (by decide +kernel), List.mem_of_getElem? (i := 714) (by decide +kernel)⟩
theorem lw_p29 : lw_okq (⟨"Locihall$Images", "vividnessOf", "(I)I"⟩, 3) := ⟨⟨by decide +kernel, by decide +kernel⟩, List.mem_of_getElem? (i := 52) (by decide +kernel), List.mem_of_getElem? (i := 723) (by decide +kernel), List.mem_of_getElem? (i := 724) (by decide +kernel)⟩
theorem lw_p30 : lw_okq (⟨"Locihall$Mind", "addPalace", "()I"⟩, 6) := ⟨⟨by decide +kernel, by decide +kernel⟩, List.mem_of_getElem? (i := 84) (by decide +kernel), List.mem_of_getElem? (i := 744) (by decide +kernel), List.mem_of_getElem? (i := 745) (by decide +kernel)⟩
theorem lw_p31 : lw_okq (⟨"Locihall$Palace", "addLocus", "(I)I"⟩, 5) := ⟨⟨by decide +kernel, by decide +kernel⟩, List.mem_of_getElem? (i := 371) (by decide +kernel), List.mem_of_getElem? (i := 785) (by decide +kernel), List.mem_of_getElem? (i := 786) (by decide +kernel)⟩
def lw_privs_2 : List (MethodName × Nat) := [(⟨"java/lang/Throwable", "fillInStackTrace", "(I)Ljava/lang/Throwable;"⟩, 6), (⟨"Locihall$Images", "add", "(II)I"⟩, 3), (⟨"Locihall$Table", "put", "(III)V"⟩, 4), (⟨"Locihall$Table", "countImages", "()I"⟩, 4), (⟨"Locihall$Table", "hasImage", "(I)Z"⟩, 4), (⟨"Locihall$Table", "imageAt", "(I)I"⟩, 4), (⟨"Locihall$Table", "skillAt", "(I)I"⟩, 4), (⟨"Locihall$Tongues", "put", "(IIC)V"⟩, 1), (⟨"Locihall$Tongues", "countLetters", "(I)I"⟩, 1), (⟨"Locihall$Tongues", "sameSpelling", "(III)I"⟩, 1), (⟨"Locihall$Table", "spendHours", "(I)I"⟩, 4), (⟨"Locihall$Table", "spend", "([II)I"⟩, 4), (⟨"Locihall$Table", "tenthsAfter", "(LLocihall$Images;I)I"⟩, 4), (⟨"Locihall$Images", "vividnessOf", "(I)I"⟩, 3), (⟨"Locihall$Mind", "addPalace", "()I"⟩, 6), (⟨"Locihall$Palace", "addLocus", "(I)I"⟩, 5)]
theorem lw_r2 : ∀ q ∈ lw_privs_2, lw_okq q := List.forall_mem_cons.mpr ⟨lw_p16, List.forall_mem_cons.mpr ⟨lw_p17, List.forall_mem_cons.mpr ⟨lw_p18, List.forall_mem_cons.mpr ⟨lw_p19, List.forall_mem_cons.mpr ⟨lw_p20, List.forall_mem_cons.mpr ⟨lw_p21, List.forall_mem_cons.mpr ⟨lw_p22, List.forall_mem_cons.mpr ⟨lw_p23, List.forall_mem_cons.mpr ⟨lw_p24, List.forall_mem_cons.mpr ⟨lw_p25, List.forall_mem_cons.mpr ⟨lw_p26, List.forall_mem_cons.mpr ⟨lw_p27, List.forall_mem_cons.mpr ⟨lw_p28, List.forall_mem_cons.mpr ⟨lw_p29, List.forall_mem_cons.mpr ⟨lw_p30, List.forall_mem_cons.mpr ⟨lw_p31, fun _ h => absurd h List.not_mem_nil⟩⟩⟩⟩⟩⟩⟩⟩⟩⟩⟩⟩⟩⟩⟩⟩
theorem lw_p32 : lw_okq (⟨"Locihall$Mind", "locusAt", "(II)LLocihall$Locus;"⟩, 6) := ⟨⟨by decide +kernel, by decide +kernel⟩, List.mem_of_getElem? (i := 84) (by decide +kernel), List.mem_of_getElem? (i := 819) (by decide +kernel), List.mem_of_getElem? (i := 820) (by decide +kernel)⟩
theorem lw_p33 : lw_okq (⟨"Locihall", "haveImages", "(LLocihall$Table;)Z"⟩, 13) := ⟨⟨by decide +kernel, by decide +kernel⟩, List.mem_of_getElem? (i := 44) (by decide +kernel), List.mem_of_getElem? (i := 840) (by decide +kernel), List.mem_of_getElem? (i := 841) (by decide +kernel)⟩
theorem lw_p34 : lw_okq (⟨"Locihall$Mind", "layTrace", "(LLocihall$Locus;LLocihall$Table;[IIIZ)I"⟩, 6) := ⟨⟨by decide +kernel, by decide +kernel⟩, List.mem_of_getElem? (i := 84) (by decide +kernel), List.mem_of_getElem? (i := 845) (by decide +kernel), List.mem_of_getElem? (i := 846) (by decide +kernel)⟩
theorem lw_p35 : lw_okq (⟨"Locihall$Locus", "raise", "()LLocihall$Trace;"⟩, 4) := ⟨⟨by decide +kernel, by decide +kernel⟩, List.mem_of_getElem? (i := 380) (by decide +kernel), List.mem_of_getElem? (i := 849) (by decide +kernel), List.mem_of_getElem? (i := 850) (by decide +kernel)⟩
theorem lw_p36 : lw_okq (⟨"Locihall$Locus", "moveOldestUp", "()V"⟩, 4) := ⟨⟨by decide +kernel, by decide +kernel⟩, List.mem_of_getElem? (i := 380) (by decide +kernel), List.mem_of_getElem? (i := 853) (by decide +kernel), List.mem_of_getElem? (i := 854) (by decide +kernel)⟩
theorem lw_p37 : lw_okq (⟨"Locihall$Trace", "begin", "(LLocihall$Table;IZ)V"⟩, 8) := ⟨⟨by decide +kernel, by decide +kernel⟩, List.mem_of_getElem? (i := 385) (by decide +kernel), List.mem_of_getElem? (i := 891) (by decide +kernel), List.mem_of_getElem? (i := 892) (by decide +kernel)⟩
theorem lw_p38 : lw_okq (⟨"Locihall$Images", "kindOf", "(I)I"⟩, 3) := ⟨⟨by decide +kernel, by decide +kernel⟩, List.mem_of_getElem? (i := 52) (by decide +kernel), List.mem_of_getElem? (i := 896) (by decide +kernel), List.mem_of_getElem? (i := 897) (by decide +kernel)⟩
theorem lw_p39 : lw_okq (⟨"Locihall$Trace", "add", "(III)V"⟩, 8) := ⟨⟨by decide +kernel, by decide +kernel⟩, List.mem_of_getElem? (i := 385) (by decide +kernel), List.mem_of_getElem? (i := 900) (by decide +kernel), List.mem_of_getElem? (i := 901) (by decide +kernel)⟩
theorem lw_p40 : lw_okq (⟨"Locihall$Trace", "strengthen", "(I)Z"⟩, 8) := ⟨⟨by decide +kernel, by decide +kernel⟩, List.mem_of_getElem? (i := 385) (by decide +kernel), List.mem_of_getElem? (i := 907) (by decide +kernel), List.mem_of_getElem? (i := 908) (by decide +kernel)⟩
theorem lw_p41 : lw_okq (⟨"Locihall$Trace", "isVaried", "()Z"⟩, 8) := ⟨⟨by decide +kernel, by decide +kernel⟩, List.mem_of_getElem? (i := 385) (by decide +kernel), List.mem_of_getElem? (i := 914) (by decide +kernel), List.mem_of_getElem? (i := 915) (by decide +kernel)⟩
theorem lw_p42 : lw_okq (⟨"Locihall$Trace", "kindAt", "(I)I"⟩, 8) := ⟨⟨by decide +kernel, by decide +kernel⟩, List.mem_of_getElem? (i := 385) (by decide +kernel), List.mem_of_getElem? (i := 918) (by decide +kernel), List.mem_of_getElem? (i := 919) (by decide +kernel)⟩
theorem lw_p43 : lw_okq (⟨"Locihall$Mind", "holdNow", "(LLocihall$Palace;ILLocihall$Trace;)F"⟩, 6) := ⟨⟨by decide +kernel, by decide +kernel⟩, List.mem_of_getElem? (i := 84) (by decide +kernel), List.mem_of_getElem? (i := 938) (by decide +kernel), List.mem_of_getElem? (i := 939) (by decide +kernel)⟩
theorem lw_p44 : lw_okq (⟨"Locihall$Mind", "hoursSince", "(LLocihall$Trace;)I"⟩, 6) := ⟨⟨by decide +kernel, by decide +kernel⟩, List.mem_of_getElem? (i := 84) (by decide +kernel), List.mem_of_getElem? (i := 943) (by decide +kernel), List.mem_of_getElem? (i := 944) (by decide +kernel)⟩
theorem lw_p45 : lw_okq (⟨"Locihall$Mind", "countLikes", "(LLocihall$Palace;I)I"⟩, 6) := ⟨⟨by decide +kernel, by decide +kernel⟩, List.mem_of_getElem? (i := 84) (by decide +kernel), List.mem_of_getElem? (i := 950) (by decide +kernel), List.mem_of_getElem? (i := 951) (by decide +kernel)⟩
theorem lw_p46 : lw_okq (⟨"Locihall$Mind", "countNeighbours", "(LLocihall$Palace;II)I"⟩, 6) := ⟨⟨by decide +kernel, by decide +kernel⟩, List.mem_of_getElem? (i := 84) (by decide +kernel), List.mem_of_getElem? (i := 956) (by decide +kernel), List.mem_of_getElem? (i := 957) (by decide +kernel)⟩
theorem lw_p47 : lw_okq (⟨"Locihall$Mind", "signOf", "(LLocihall$Palace;I)C"⟩, 6) := ⟨⟨by decide +kernel, by decide +kernel⟩, List.mem_of_getElem? (i := 84) (by decide +kernel), List.mem_of_getElem? (i := 968) (by decide +kernel), List.mem_of_getElem? (i := 969) (by decide +kernel)⟩
def lw_privs_3 : List (MethodName × Nat) := [(⟨"Locihall$Mind", "locusAt", "(II)LLocihall$Locus;"⟩, 6), (⟨"Locihall", "haveImages", "(LLocihall$Table;)Z"⟩, 13), (⟨"Locihall$Mind", "layTrace", "(LLocihall$Locus;LLocihall$Table;[IIIZ)I"⟩, 6), (⟨"Locihall$Locus", "raise", "()LLocihall$Trace;"⟩, 4), (⟨"Locihall$Locus", "moveOldestUp", "()V"⟩, 4), (⟨"Locihall$Trace", "begin", "(LLocihall$Table;IZ)V"⟩, 8), (⟨"Locihall$Images", "kindOf", "(I)I"⟩, 3), (⟨"Locihall$Trace", "add", "(III)V"⟩, 8), (⟨"Locihall$Trace", "strengthen", "(I)Z"⟩, 8), (⟨"Locihall$Trace", "isVaried", "()Z"⟩, 8), (⟨"Locihall$Trace", "kindAt", "(I)I"⟩, 8), (⟨"Locihall$Mind", "holdNow", "(LLocihall$Palace;ILLocihall$Trace;)F"⟩, 6), (⟨"Locihall$Mind", "hoursSince", "(LLocihall$Trace;)I"⟩, 6), (⟨"Locihall$Mind", "countLikes", "(LLocihall$Palace;I)I"⟩, 6), (⟨"Locihall$Mind", "countNeighbours", "(LLocihall$Palace;II)I"⟩, 6), (⟨"Locihall$Mind", "signOf", "(LLocihall$Palace;I)C"⟩, 6)]
theorem lw_r3 : ∀ q ∈ lw_privs_3, lw_okq q := List.forall_mem_cons.mpr ⟨lw_p32, List.forall_mem_cons.mpr ⟨lw_p33, List.forall_mem_cons.mpr ⟨lw_p34, List.forall_mem_cons.mpr ⟨lw_p35, List.forall_mem_cons.mpr ⟨lw_p36, List.forall_mem_cons.mpr ⟨lw_p37, List.forall_mem_cons.mpr ⟨lw_p38, List.forall_mem_cons.mpr ⟨lw_p39, List.forall_mem_cons.mpr ⟨lw_p40, List.forall_mem_cons.mpr ⟨lw_p41, List.forall_mem_cons.mpr ⟨lw_p42, List.forall_mem_cons.mpr ⟨lw_p43, List.forall_mem_cons.mpr ⟨lw_p44, List.forall_mem_cons.mpr ⟨lw_p45, List.forall_mem_cons.mpr ⟨lw_p46, List.forall_mem_cons.mpr ⟨lw_p47, fun _ h => absurd h List.not_mem_nil⟩⟩⟩⟩⟩⟩⟩⟩⟩⟩⟩⟩⟩⟩⟩⟩
theorem lw_p48 : lw_okq (⟨"Locihall$Mind", "ownSign", "(LLocihall$Palace;I)C"⟩, 6) := ⟨⟨by decide +kernel, by decide +kernel⟩, List.mem_of_getElem? (i := 84) (by decide +kernel), List.mem_of_getElem? (i := 972) (by decide +kernel), List.mem_of_getElem? (i := 973) (by decide +kernel)⟩
theorem lw_p49 : lw_okq (⟨"Locihall$Palace", "topAt", "(I)LLocihall$Trace;"⟩, 5) := ⟨⟨by decide +kernel, by decide +kernel⟩, List.mem_of_getElem? (i := 371) (by decide +kernel), List.mem_of_getElem? (i := 976) (by decide +kernel), List.mem_of_getElem? (i := 977) (by decide +kernel)⟩
theorem lw_p50 : lw_okq (⟨"Locihall$Mind", "heldBelow", "(LLocihall$Palace;I)I"⟩, 6) := ⟨⟨by decide +kernel, by decide +kernel⟩, List.mem_of_getElem? (i := 84) (by decide +kernel), List.mem_of_getElem? (i := 982) (by decide +kernel), List.mem_of_getElem? (i := 983) (by decide +kernel)⟩
theorem lw_p51 : lw_okq (⟨"Locihall$Mind", "inferredKey", "(LLocihall$Palace;I)I"⟩, 6) := ⟨⟨by decide +kernel, by decide +kernel⟩, List.mem_of_getElem? (i := 84) (by decide +kernel), List.mem_of_getElem? (i := 988) (by decide +kernel), List.mem_of_getElem? (i := 989) (by decide +kernel)⟩
theorem lw_p52 : lw_okq (⟨"Locihall$Palace", "groupOf", "(I)I"⟩, 5) := ⟨⟨by decide +kernel, by decide +kernel⟩, List.mem_of_getElem? (i := 371) (by decide +kernel), List.mem_of_getElem? (i := 992) (by decide +kernel), List.mem_of_getElem? (i := 993) (by decide +kernel)⟩
theorem lw_p53 : lw_okq (⟨"Locihall$Palace", "sumOf", "(I)I"⟩, 5) := ⟨⟨by decide +kernel, by decide +kernel⟩, List.mem_of_getElem? (i := 371) (by decide +kernel), List.mem_of_getElem? (i := 996) (by decide +kernel), List.mem_of_getElem? (i := 997) (by decide +kernel)⟩
theorem lw_p54 : lw_okq (⟨"Locihall$Mind", "isRecalled", "(LLocihall$Palace;I)Z"⟩, 6) := ⟨⟨by decide +kernel, by decide +kernel⟩, List.mem_of_getElem? (i := 84) (by decide +kernel), List.mem_of_getElem? (i := 1000) (by decide +kernel), List.mem_of_getElem? (i := 1001) (by decide +kernel)⟩
theorem lw_p55 : lw_okq (⟨"Locihall$Palace", "firstKeyAt", "(I)I"⟩, 5) := ⟨⟨by decide +kernel, by decide +kernel⟩, List.mem_of_getElem? (i := 371) (by decide +kernel), List.mem_of_getElem? (i := 1004) (by decide +kernel), List.mem_of_getElem? (i := 1005) (by decide +kernel)⟩
theorem lw_p56 : lw_okq (⟨"Locihall$Trace", "keyAt", "(I)I"⟩, 8) := ⟨⟨by decide +kernel, by decide +kernel⟩, List.mem_of_getElem? (i := 385) (by decide +kernel), List.mem_of_getElem? (i := 1009) (by decide +kernel), List.mem_of_getElem? (i := 1010) (by decide +kernel)⟩
theorem lw_p57 : lw_okq (⟨"Locihall$Mind", "toldKey", "(LLocihall$Palace;II)I"⟩, 6) := ⟨⟨by decide +kernel, by decide +kernel⟩, List.mem_of_getElem? (i := 84) (by decide +kernel), List.mem_of_getElem? (i := 1026) (by decide +kernel), List.mem_of_getElem? (i := 1027) (by decide +kernel)⟩
theorem lw_p58 : lw_okq (⟨"Locihall$Trace", "guessAt", "(LLocihall$Images;I)I"⟩, 8) := ⟨⟨by decide +kernel, by decide +kernel⟩, List.mem_of_getElem? (i := 385) (by decide +kernel), List.mem_of_getElem? (i := 1030) (by decide +kernel), List.mem_of_getElem? (i := 1031) (by decide +kernel)⟩
theorem lw_p59 : lw_okq (⟨"Locihall$Table", "lowestOfKind", "(LLocihall$Images;I)I"⟩, 4) := ⟨⟨by decide +kernel, by decide +kernel⟩, List.mem_of_getElem? (i := 333) (by decide +kernel), List.mem_of_getElem? (i := 1034) (by decide +kernel), List.mem_of_getElem? (i := 1035) (by decide +kernel)⟩
theorem lw_p60 : lw_okq (⟨"Locihall$Mind", "walkThrough", "(LLocihall$Palace;)I"⟩, 6) := ⟨⟨by decide +kernel, by decide +kernel⟩, List.mem_of_getElem? (i := 84) (by decide +kernel), List.mem_of_getElem? (i := 1048) (by decide +kernel), List.mem_of_getElem? (i := 1049) (by decide +kernel)⟩
theorem lw_p61 : lw_okq (⟨"Locihall$Palace", "tellGroups", "(I)I"⟩, 5) := ⟨⟨by decide +kernel, by decide +kernel⟩, List.mem_of_getElem? (i := 371) (by decide +kernel), List.mem_of_getElem? (i := 1060) (by decide +kernel), List.mem_of_getElem? (i := 1061) (by decide +kernel)⟩
theorem lw_p62 : lw_okq (⟨"Locihall$Mind", "strengthenBySleep", "()I"⟩, 6) := ⟨⟨by decide +kernel, by decide +kernel⟩, List.mem_of_getElem? (i := 84) (by decide +kernel), List.mem_of_getElem? (i := 1090) (by decide +kernel), List.mem_of_getElem? (i := 1091) (by decide +kernel)⟩
theorem lw_p63 : lw_okq (⟨"Locihall$Mind", "strengthenPile", "(LLocihall$Locus;)I"⟩, 6) := ⟨⟨by decide +kernel, by decide +kernel⟩, List.mem_of_getElem? (i := 84) (by decide +kernel), List.mem_of_getElem? (i := 1094) (by decide +kernel), List.mem_of_getElem? (i := 1095) (by decide +kernel)⟩
def lw_privs_4 : List (MethodName × Nat) := [(⟨"Locihall$Mind", "ownSign", "(LLocihall$Palace;I)C"⟩, 6), (⟨"Locihall$Palace", "topAt", "(I)LLocihall$Trace;"⟩, 5), (⟨"Locihall$Mind", "heldBelow", "(LLocihall$Palace;I)I"⟩, 6), (⟨"Locihall$Mind", "inferredKey", "(LLocihall$Palace;I)I"⟩, 6), (⟨"Locihall$Palace", "groupOf", "(I)I"⟩, 5), (⟨"Locihall$Palace", "sumOf", "(I)I"⟩, 5), (⟨"Locihall$Mind", "isRecalled", "(LLocihall$Palace;I)Z"⟩, 6), (⟨"Locihall$Palace", "firstKeyAt", "(I)I"⟩, 5), (⟨"Locihall$Trace", "keyAt", "(I)I"⟩, 8), (⟨"Locihall$Mind", "toldKey", "(LLocihall$Palace;II)I"⟩, 6), (⟨"Locihall$Trace", "guessAt", "(LLocihall$Images;I)I"⟩, 8), (⟨"Locihall$Table", "lowestOfKind", "(LLocihall$Images;I)I"⟩, 4), (⟨"Locihall$Mind", "walkThrough", "(LLocihall$Palace;)I"⟩, 6), (⟨"Locihall$Palace", "tellGroups", "(I)I"⟩, 5), (⟨"Locihall$Mind", "strengthenBySleep", "()I"⟩, 6), (⟨"Locihall$Mind", "strengthenPile", "(LLocihall$Locus;)I"⟩, 6)]
theorem lw_r4 : ∀ q ∈ lw_privs_4, lw_okq q := List.forall_mem_cons.mpr ⟨lw_p48, List.forall_mem_cons.mpr ⟨lw_p49, List.forall_mem_cons.mpr ⟨lw_p50, List.forall_mem_cons.mpr ⟨lw_p51, List.forall_mem_cons.mpr ⟨lw_p52, List.forall_mem_cons.mpr ⟨lw_p53, List.forall_mem_cons.mpr ⟨lw_p54, List.forall_mem_cons.mpr ⟨lw_p55, List.forall_mem_cons.mpr ⟨lw_p56, List.forall_mem_cons.mpr ⟨lw_p57, List.forall_mem_cons.mpr ⟨lw_p58, List.forall_mem_cons.mpr ⟨lw_p59, List.forall_mem_cons.mpr ⟨lw_p60, List.forall_mem_cons.mpr ⟨lw_p61, List.forall_mem_cons.mpr ⟨lw_p62, List.forall_mem_cons.mpr ⟨lw_p63, fun _ h => absurd h List.not_mem_nil⟩⟩⟩⟩⟩⟩⟩⟩⟩⟩⟩⟩⟩⟩⟩⟩
theorem lw_p64 : lw_okq (⟨"Locihall$YearRows", "isFullFor", "(I)Z"⟩, 4) := ⟨⟨by decide +kernel, by decide +kernel⟩, List.mem_of_getElem? (i := 114) (by decide +kernel), List.mem_of_getElem? (i := 1117) (by decide +kernel), List.mem_of_getElem? (i := 1118) (by decide +kernel)⟩
theorem lw_p65 : lw_okq (⟨"Locihall$YearRows", "rowOf", "(I)I"⟩, 4) := ⟨⟨by decide +kernel, by decide +kernel⟩, List.mem_of_getElem? (i := 114) (by decide +kernel), List.mem_of_getElem? (i := 1121) (by decide +kernel), List.mem_of_getElem? (i := 1122) (by decide +kernel)⟩
theorem lw_p66 : lw_okq (⟨"Locihall$YearRows", "put", "(III)I"⟩, 4) := ⟨⟨by decide +kernel, by decide +kernel⟩, List.mem_of_getElem? (i := 114) (by decide +kernel), List.mem_of_getElem? (i := 1126) (by decide +kernel), List.mem_of_getElem? (i := 1127) (by decide +kernel)⟩
theorem lw_p67 : lw_okq (⟨"Locihall$Contest", "draw", "(LLocihall$Table;II)Z"⟩, 17) := ⟨⟨by decide +kernel, by decide +kernel⟩, List.mem_of_getElem? (i := 133) (by decide +kernel), List.mem_of_getElem? (i := 1150) (by decide +kernel), List.mem_of_getElem? (i := 1151) (by decide +kernel)⟩
theorem lw_p68 : lw_okq (⟨"Locihall$Contest", "begin", "(ILLocihall$Palace;LLocihall$Table;I)V"⟩, 17) := ⟨⟨by decide +kernel, by decide +kernel⟩, List.mem_of_getElem? (i := 133) (by decide +kernel), List.mem_of_getElem? (i := 1161) (by decide +kernel), List.mem_of_getElem? (i := 1162) (by decide +kernel)⟩
theorem lw_p69 : lw_okq (⟨"Locihall$Mind", "layAlong", "(LLocihall$Palace;LLocihall$Table;[II)I"⟩, 6) := ⟨⟨by decide +kernel, by decide +kernel⟩, List.mem_of_getElem? (i := 84) (by decide +kernel), List.mem_of_getElem? (i := 1166) (by decide +kernel), List.mem_of_getElem? (i := 1167) (by decide +kernel)⟩
theorem lw_p70 : lw_okq (⟨"Locihall$Contest", "give", "(II)Z"⟩, 17) := ⟨⟨by decide +kernel, by decide +kernel⟩, List.mem_of_getElem? (i := 133) (by decide +kernel), List.mem_of_getElem? (i := 1190) (by decide +kernel), List.mem_of_getElem? (i := 1191) (by decide +kernel)⟩
theorem lw_p71 : lw_okq (⟨"Locihall$Contest", "keysAtLocus", "()I"⟩, 17) := ⟨⟨by decide +kernel, by decide +kernel⟩, List.mem_of_getElem? (i := 133) (by decide +kernel), List.mem_of_getElem? (i := 1202) (by decide +kernel), List.mem_of_getElem? (i := 1203) (by decide +kernel)⟩
theorem lw_p72 : lw_okq (⟨"Locihall$Contest", "isRightAt", "(I)Z"⟩, 17) := ⟨⟨by decide +kernel, by decide +kernel⟩, List.mem_of_getElem? (i := 133) (by decide +kernel), List.mem_of_getElem? (i := 1215) (by decide +kernel), List.mem_of_getElem? (i := 1216) (by decide +kernel)⟩
theorem lw_p73 : lw_okq (⟨"Locihall$Contest", "hear", "(I)Z"⟩, 17) := ⟨⟨by decide +kernel, by decide +kernel⟩, List.mem_of_getElem? (i := 133) (by decide +kernel), List.mem_of_getElem? (i := 1220) (by decide +kernel), List.mem_of_getElem? (i := 1221) (by decide +kernel)⟩
theorem lw_p74 : lw_okq (⟨"Locihall$YearRows", "latest", "(I)I"⟩, 4) := ⟨⟨by decide +kernel, by decide +kernel⟩, List.mem_of_getElem? (i := 114) (by decide +kernel), List.mem_of_getElem? (i := 1232) (by decide +kernel), List.mem_of_getElem? (i := 1233) (by decide +kernel)⟩
theorem lw_p75 : lw_okq (⟨"Locihall$YearRows", "firstAt", "(II)I"⟩, 4) := ⟨⟨by decide +kernel, by decide +kernel⟩, List.mem_of_getElem? (i := 114) (by decide +kernel), List.mem_of_getElem? (i := 1236) (by decide +kernel), List.mem_of_getElem? (i := 1237) (by decide +kernel)⟩
theorem lw_p76 : lw_okq (⟨"Locihall$YearRows", "secondAt", "(II)I"⟩, 4) := ⟨⟨by decide +kernel, by decide +kernel⟩, List.mem_of_getElem? (i := 114) (by decide +kernel), List.mem_of_getElem? (i := 1240) (by decide +kernel), List.mem_of_getElem? (i := 1241) (by decide +kernel)⟩
theorem lw_p77 : lw_okq (⟨"Locihall$Contest", "score", "(II)I"⟩, 17) := ⟨⟨by decide +kernel, by decide +kernel⟩, List.mem_of_getElem? (i := 133) (by decide +kernel), List.mem_of_getElem? (i := 1244) (by decide +kernel), List.mem_of_getElem? (i := 1245) (by decide +kernel)⟩
theorem lw_p78 : lw_okq (⟨"Locihall$Contest", "rightsFrom", "(II)I"⟩, 17) := ⟨⟨by decide +kernel, by decide +kernel⟩, List.mem_of_getElem? (i := 133) (by decide +kernel), List.mem_of_getElem? (i := 1248) (by decide +kernel), List.mem_of_getElem? (i := 1249) (by decide +kernel)⟩
theorem lw_p79 : lw_okq (⟨"Locihall$Contest", "scoreOfRow", "(III)I"⟩, 17) := ⟨⟨by decide +kernel, by decide +kernel⟩, List.mem_of_getElem? (i := 133) (by decide +kernel), List.mem_of_getElem? (i := 1254) (by decide +kernel), List.mem_of_getElem? (i := 1255) (by decide +kernel)⟩
def lw_privs_5 : List (MethodName × Nat) := [(⟨"Locihall$YearRows", "isFullFor", "(I)Z"⟩, 4), (⟨"Locihall$YearRows", "rowOf", "(I)I"⟩, 4), (⟨"Locihall$YearRows", "put", "(III)I"⟩, 4), (⟨"Locihall$Contest", "draw", "(LLocihall$Table;II)Z"⟩, 17), (⟨"Locihall$Contest", "begin", "(ILLocihall$Palace;LLocihall$Table;I)V"⟩, 17), (⟨"Locihall$Mind", "layAlong", "(LLocihall$Palace;LLocihall$Table;[II)I"⟩, 6), (⟨"Locihall$Contest", "give", "(II)Z"⟩, 17), (⟨"Locihall$Contest", "keysAtLocus", "()I"⟩, 17), (⟨"Locihall$Contest", "isRightAt", "(I)Z"⟩, 17), (⟨"Locihall$Contest", "hear", "(I)Z"⟩, 17), (⟨"Locihall$YearRows", "latest", "(I)I"⟩, 4), (⟨"Locihall$YearRows", "firstAt", "(II)I"⟩, 4), (⟨"Locihall$YearRows", "secondAt", "(II)I"⟩, 4), (⟨"Locihall$Contest", "score", "(II)I"⟩, 17), (⟨"Locihall$Contest", "rightsFrom", "(II)I"⟩, 17), (⟨"Locihall$Contest", "scoreOfRow", "(III)I"⟩, 17)]
theorem lw_r5 : ∀ q ∈ lw_privs_5, lw_okq q := List.forall_mem_cons.mpr ⟨lw_p64, List.forall_mem_cons.mpr ⟨lw_p65, List.forall_mem_cons.mpr ⟨lw_p66, List.forall_mem_cons.mpr ⟨lw_p67, List.forall_mem_cons.mpr ⟨lw_p68, List.forall_mem_cons.mpr ⟨lw_p69, List.forall_mem_cons.mpr ⟨lw_p70, List.forall_mem_cons.mpr ⟨lw_p71, List.forall_mem_cons.mpr ⟨lw_p72, List.forall_mem_cons.mpr ⟨lw_p73, List.forall_mem_cons.mpr ⟨lw_p74, List.forall_mem_cons.mpr ⟨lw_p75, List.forall_mem_cons.mpr ⟨lw_p76, List.forall_mem_cons.mpr ⟨lw_p77, List.forall_mem_cons.mpr ⟨lw_p78, List.forall_mem_cons.mpr ⟨lw_p79, fun _ h => absurd h List.not_mem_nil⟩⟩⟩⟩⟩⟩⟩⟩⟩⟩⟩⟩⟩⟩⟩⟩
theorem lw_p80 : lw_okq (⟨"Locihall$Contest", "isMissingFrom", "(II)Z"⟩, 17) := ⟨⟨by decide +kernel, by decide +kernel⟩, List.mem_of_getElem? (i := 133) (by decide +kernel), List.mem_of_getElem? (i := 1258) (by decide +kernel), List.mem_of_getElem? (i := 1259) (by decide +kernel)⟩
theorem lw_p81 : lw_okq (⟨"Locihall$Contest", "isMissingAt", "(I)Z"⟩, 17) := ⟨⟨by decide +kernel, by decide +kernel⟩, List.mem_of_getElem? (i := 133) (by decide +kernel), List.mem_of_getElem? (i := 1262) (by decide +kernel), List.mem_of_getElem? (i := 1263) (by decide +kernel)⟩
theorem lw_p82 : lw_okq (⟨"Locihall$Contest", "end", "(I)I"⟩, 17) := ⟨⟨by decide +kernel, by decide +kernel⟩, List.mem_of_getElem? (i := 133) (by decide +kernel), List.mem_of_getElem? (i := 1266) (by decide +kernel), List.mem_of_getElem? (i := 1267) (by decide +kernel)⟩
theorem lw_p83 : lw_okq (⟨"Locihall$Contest", "bestUpTo", "(I)I"⟩, 17) := ⟨⟨by decide +kernel, by decide +kernel⟩, List.mem_of_getElem? (i := 133) (by decide +kernel), List.mem_of_getElem? (i := 1286) (by decide +kernel), List.mem_of_getElem? (i := 1287) (by decide +kernel)⟩
theorem lw_p84 : lw_okq (⟨"Locihall$Contest", "isTooFast", "()Z"⟩, 17) := ⟨⟨by decide +kernel, by decide +kernel⟩, List.mem_of_getElem? (i := 133) (by decide +kernel), List.mem_of_getElem? (i := 1299) (by decide +kernel), List.mem_of_getElem? (i := 1300) (by decide +kernel)⟩
theorem lw_p85 : lw_okq (⟨"Locihall$Stage", "add", "(I)I"⟩, 7) := ⟨⟨by decide +kernel, by decide +kernel⟩, List.mem_of_getElem? (i := 202) (by decide +kernel), List.mem_of_getElem? (i := 1313) (by decide +kernel), List.mem_of_getElem? (i := 1314) (by decide +kernel)⟩
theorem lw_p86 : lw_okq (⟨"Locihall$Stage", "goesOn", "(I)Z"⟩, 7) := ⟨⟨by decide +kernel, by decide +kernel⟩, List.mem_of_getElem? (i := 202) (by decide +kernel), List.mem_of_getElem? (i := 1325) (by decide +kernel), List.mem_of_getElem? (i := 1326) (by decide +kernel)⟩
theorem lw_p87 : lw_okq (⟨"Locihall$Stage", "begin", "(I)I"⟩, 7) := ⟨⟨by decide +kernel, by decide +kernel⟩, List.mem_of_getElem? (i := 202) (by decide +kernel), List.mem_of_getElem? (i := 1330) (by decide +kernel), List.mem_of_getElem? (i := 1331) (by decide +kernel)⟩
theorem lw_p88 : lw_okq (⟨"Locihall$Stage", "tellNext", "()I"⟩, 7) := ⟨⟨by decide +kernel, by decide +kernel⟩, List.mem_of_getElem? (i := 202) (by decide +kernel), List.mem_of_getElem? (i := 1342) (by decide +kernel), List.mem_of_getElem? (i := 1343) (by decide +kernel)⟩
theorem lw_p89 : lw_okq (⟨"Locihall$Stage", "innermost", "()I"⟩, 7) := ⟨⟨by decide +kernel, by decide +kernel⟩, List.mem_of_getElem? (i := 202) (by decide +kernel), List.mem_of_getElem? (i := 1346) (by decide +kernel), List.mem_of_getElem? (i := 1347) (by decide +kernel)⟩
theorem lw_p90 : lw_okq (⟨"Locihall$Stage", "stop", "(I)I"⟩, 7) := ⟨⟨by decide +kernel, by decide +kernel⟩, List.mem_of_getElem? (i := 202) (by decide +kernel), List.mem_of_getElem? (i := 1357) (by decide +kernel), List.mem_of_getElem? (i := 1358) (by decide +kernel)⟩
theorem lw_p91 : lw_okq (⟨"Locihall$Stage", "goOn", "(I)I"⟩, 7) := ⟨⟨by decide +kernel, by decide +kernel⟩, List.mem_of_getElem? (i := 202) (by decide +kernel), List.mem_of_getElem? (i := 1369) (by decide +kernel), List.mem_of_getElem? (i := 1370) (by decide +kernel)⟩
theorem lw_p92 : lw_okq (⟨"Locihall$Facts", "add", "(II)I"⟩, 9) := ⟨⟨by decide +kernel, by decide +kernel⟩, List.mem_of_getElem? (i := 233) (by decide +kernel), List.mem_of_getElem? (i := 1383) (by decide +kernel), List.mem_of_getElem? (i := 1384) (by decide +kernel)⟩
theorem lw_p93 : lw_okq (⟨"Locihall$Facts", "has", "(I)Z"⟩, 9) := ⟨⟨by decide +kernel, by decide +kernel⟩, List.mem_of_getElem? (i := 233) (by decide +kernel), List.mem_of_getElem? (i := 1394) (by decide +kernel), List.mem_of_getElem? (i := 1395) (by decide +kernel)⟩
theorem lw_p94 : lw_okq (⟨"Locihall$Facts", "reviewAt", "(II)Z"⟩, 9) := ⟨⟨by decide +kernel, by decide +kernel⟩, List.mem_of_getElem? (i := 233) (by decide +kernel), List.mem_of_getElem? (i := 1399) (by decide +kernel), List.mem_of_getElem? (i := 1400) (by decide +kernel)⟩
theorem lw_p95 : lw_okq (⟨"Locihall$Facts", "isRightAt", "(II)Z"⟩, 9) := ⟨⟨by decide +kernel, by decide +kernel⟩, List.mem_of_getElem? (i := 233) (by decide +kernel), List.mem_of_getElem? (i := 1403) (by decide +kernel), List.mem_of_getElem? (i := 1404) (by decide +kernel)⟩
def lw_privs_6 : List (MethodName × Nat) := [(⟨"Locihall$Contest", "isMissingFrom", "(II)Z"⟩, 17), (⟨"Locihall$Contest", "isMissingAt", "(I)Z"⟩, 17), (⟨"Locihall$Contest", "end", "(I)I"⟩, 17), (⟨"Locihall$Contest", "bestUpTo", "(I)I"⟩, 17), (⟨"Locihall$Contest", "isTooFast", "()Z"⟩, 17), (⟨"Locihall$Stage", "add", "(I)I"⟩, 7), (⟨"Locihall$Stage", "goesOn", "(I)Z"⟩, 7), (⟨"Locihall$Stage", "begin", "(I)I"⟩, 7), (⟨"Locihall$Stage", "tellNext", "()I"⟩, 7), (⟨"Locihall$Stage", "innermost", "()I"⟩, 7), (⟨"Locihall$Stage", "stop", "(I)I"⟩, 7), (⟨"Locihall$Stage", "goOn", "(I)I"⟩, 7), (⟨"Locihall$Facts", "add", "(II)I"⟩, 9), (⟨"Locihall$Facts", "has", "(I)Z"⟩, 9), (⟨"Locihall$Facts", "reviewAt", "(II)Z"⟩, 9), (⟨"Locihall$Facts", "isRightAt", "(II)Z"⟩, 9)]
theorem lw_r6 : ∀ q ∈ lw_privs_6, lw_okq q := List.forall_mem_cons.mpr ⟨lw_p80, List.forall_mem_cons.mpr ⟨lw_p81, List.forall_mem_cons.mpr ⟨lw_p82, List.forall_mem_cons.mpr ⟨lw_p83, List.forall_mem_cons.mpr ⟨lw_p84, List.forall_mem_cons.mpr ⟨lw_p85, List.forall_mem_cons.mpr ⟨lw_p86, List.forall_mem_cons.mpr ⟨lw_p87, List.forall_mem_cons.mpr ⟨lw_p88, List.forall_mem_cons.mpr ⟨lw_p89, List.forall_mem_cons.mpr ⟨lw_p90, List.forall_mem_cons.mpr ⟨lw_p91, List.forall_mem_cons.mpr ⟨lw_p92, List.forall_mem_cons.mpr ⟨lw_p93, List.forall_mem_cons.mpr ⟨lw_p94, List.forall_mem_cons.mpr ⟨lw_p95, fun _ h => absurd h List.not_mem_nil⟩⟩⟩⟩⟩⟩⟩⟩⟩⟩⟩⟩⟩⟩⟩⟩
theorem lw_p96 : lw_okq (⟨"Locihall$Facts", "restudy", "(II)V"⟩, 9) := ⟨⟨by decide +kernel, by decide +kernel⟩, List.mem_of_getElem? (i := 233) (by decide +kernel), List.mem_of_getElem? (i := 1408) (by decide +kernel), List.mem_of_getElem? (i := 1409) (by decide +kernel)⟩
theorem lw_p97 : lw_okq (⟨"Locihall$Facts", "plan", "(II)V"⟩, 9) := ⟨⟨by decide +kernel, by decide +kernel⟩, List.mem_of_getElem? (i := 233) (by decide +kernel), List.mem_of_getElem? (i := 1439) (by decide +kernel), List.mem_of_getElem? (i := 1440) (by decide +kernel)⟩
theorem lw_p98 : lw_okq (⟨"Locihall$Facts", "tryHour", "(IIII)V"⟩, 9) := ⟨⟨by decide +kernel, by decide +kernel⟩, List.mem_of_getElem? (i := 233) (by decide +kernel), List.mem_of_getElem? (i := 1443) (by decide +kernel), List.mem_of_getElem? (i := 1444) (by decide +kernel)⟩
theorem lw_p99 : lw_okq (⟨"Locihall$Facts", "keepIfBetter", "(II)V"⟩, 9) := ⟨⟨by decide +kernel, by decide +kernel⟩, List.mem_of_getElem? (i := 233) (by decide +kernel), List.mem_of_getElem? (i := 1447) (by decide +kernel), List.mem_of_getElem? (i := 1448) (by decide +kernel)⟩
theorem lw_p100 : lw_okq (⟨"Locihall$Mind", "countLaid", "()I"⟩, 6) := ⟨⟨by decide +kernel, by decide +kernel⟩, List.mem_of_getElem? (i := 84) (by decide +kernel), List.mem_of_getElem? (i := 1481) (by decide +kernel), List.mem_of_getElem? (i := 1482) (by decide +kernel)⟩
theorem lw_p101 : lw_okq (⟨"Locihall$Mind", "countHeld", "()I"⟩, 6) := ⟨⟨by decide +kernel, by decide +kernel⟩, List.mem_of_getElem? (i := 84) (by decide +kernel), List.mem_of_getElem? (i := 1488) (by decide +kernel), List.mem_of_getElem? (i := 1489) (by decide +kernel)⟩
theorem lw_p102 : lw_okq (⟨"Locihall$Mind", "sumHolds", "()D"⟩, 6) := ⟨⟨by decide +kernel, by decide +kernel⟩, List.mem_of_getElem? (i := 84) (by decide +kernel), List.mem_of_getElem? (i := 1499) (by decide +kernel), List.mem_of_getElem? (i := 1500) (by decide +kernel)⟩
theorem lw_p103 : lw_okq (⟨"LocihallModel", "no", "(ZI)Z"⟩, 28) := ⟨⟨by decide +kernel, by decide +kernel⟩, List.mem_of_getElem? (i := 1503) (by decide +kernel), List.mem_of_getElem? (i := 1640) (by decide +kernel), List.mem_of_getElem? (i := 1641) (by decide +kernel)⟩
theorem lw_p104 : lw_okq (⟨"java/util/ArrayList", "add", "(Ljava/lang/Object;[Ljava/lang/Object;I)V"⟩, 3) := ⟨⟨by decide +kernel, by decide +kernel⟩, List.mem_of_getElem? (i := 1509) (by decide +kernel), List.mem_of_getElem? (i := 1663) (by decide +kernel), List.mem_of_getElem? (i := 1664) (by decide +kernel)⟩
theorem lw_p105 : lw_okq (⟨"java/util/ArrayList", "grow", "()[Ljava/lang/Object;"⟩, 3) := ⟨⟨by decide +kernel, by decide +kernel⟩, List.mem_of_getElem? (i := 1509) (by decide +kernel), List.mem_of_getElem? (i := 1667) (by decide +kernel), List.mem_of_getElem? (i := 1668) (by decide +kernel)⟩
theorem lw_p106 : lw_okq (⟨"java/util/ArrayList", "grow", "(I)[Ljava/lang/Object;"⟩, 3) := ⟨⟨by decide +kernel, by decide +kernel⟩, List.mem_of_getElem? (i := 1509) (by decide +kernel), List.mem_of_getElem? (i := 1671) (by decide +kernel), List.mem_of_getElem? (i := 1672) (by decide +kernel)⟩
theorem lw_p107 : lw_okq (⟨"LocihallModel", "isSystem", "(I)Z"⟩, 28) := ⟨⟨by decide +kernel, by decide +kernel⟩, List.mem_of_getElem? (i := 1503) (by decide +kernel), List.mem_of_getElem? (i := 1735) (by decide +kernel), List.mem_of_getElem? (i := 1736) (by decide +kernel)⟩
theorem lw_p108 : lw_okq (⟨"LocihallModel", "many", "(I)I"⟩, 28) := ⟨⟨by decide +kernel, by decide +kernel⟩, List.mem_of_getElem? (i := 1503) (by decide +kernel), List.mem_of_getElem? (i := 1740) (by decide +kernel), List.mem_of_getElem? (i := 1741) (by decide +kernel)⟩
theorem lw_p109 : lw_okq (⟨"LocihallModel", "digitOf", "(IC)I"⟩, 28) := ⟨⟨by decide +kernel, by decide +kernel⟩, List.mem_of_getElem? (i := 1503) (by decide +kernel), List.mem_of_getElem? (i := 1761) (by decide +kernel), List.mem_of_getElem? (i := 1762) (by decide +kernel)⟩
theorem lw_p110 : lw_okq (⟨"LocihallModel", "trains", "(I[II)I"⟩, 28) := ⟨⟨by decide +kernel, by decide +kernel⟩, List.mem_of_getElem? (i := 1503) (by decide +kernel), List.mem_of_getElem? (i := 1770) (by decide +kernel), List.mem_of_getElem? (i := 1771) (by decide +kernel)⟩
theorem lw_p111 : lw_okq (⟨"LocihallModel", "sum", "(I[I)I"⟩, 28) := ⟨⟨by decide +kernel, by decide +kernel⟩, List.mem_of_getElem? (i := 1503) (by decide +kernel), List.mem_of_getElem? (i := 1779) (by decide +kernel), List.mem_of_getElem? (i := 1780) (by decide +kernel)⟩
def lw_privs_7 : List (MethodName × Nat) := [(⟨"Locihall$Facts", "restudy", "(II)V"⟩, 9), (⟨"Locihall$Facts", "plan", "(II)V"⟩, 9), (⟨"Locihall$Facts", "tryHour", "(IIII)V"⟩, 9), (⟨"Locihall$Facts", "keepIfBetter", "(II)V"⟩, 9), (⟨"Locihall$Mind", "countLaid", "()I"⟩, 6), (⟨"Locihall$Mind", "countHeld", "()I"⟩, 6), (⟨"Locihall$Mind", "sumHolds", "()D"⟩, 6), (⟨"LocihallModel", "no", "(ZI)Z"⟩, 28), (⟨"java/util/ArrayList", "add", "(Ljava/lang/Object;[Ljava/lang/Object;I)V"⟩, 3), (⟨"java/util/ArrayList", "grow", "()[Ljava/lang/Object;"⟩, 3), (⟨"java/util/ArrayList", "grow", "(I)[Ljava/lang/Object;"⟩, 3), (⟨"LocihallModel", "isSystem", "(I)Z"⟩, 28), (⟨"LocihallModel", "many", "(I)I"⟩, 28), (⟨"LocihallModel", "digitOf", "(IC)I"⟩, 28), (⟨"LocihallModel", "trains", "(I[II)I"⟩, 28), (⟨"LocihallModel", "sum", "(I[I)I"⟩, 28)]
theorem lw_r7 : ∀ q ∈ lw_privs_7, lw_okq q := List.forall_mem_cons.mpr ⟨lw_p96, List.forall_mem_cons.mpr ⟨lw_p97, List.forall_mem_cons.mpr ⟨lw_p98, List.forall_mem_cons.mpr ⟨lw_p99, List.forall_mem_cons.mpr ⟨lw_p100, List.forall_mem_cons.mpr ⟨lw_p101, List.forall_mem_cons.mpr ⟨lw_p102, List.forall_mem_cons.mpr ⟨lw_p103, List.forall_mem_cons.mpr ⟨lw_p104, List.forall_mem_cons.mpr ⟨lw_p105, List.forall_mem_cons.mpr ⟨lw_p106, List.forall_mem_cons.mpr ⟨lw_p107, List.forall_mem_cons.mpr ⟨lw_p108, List.forall_mem_cons.mpr ⟨lw_p109, List.forall_mem_cons.mpr ⟨lw_p110, List.forall_mem_cons.mpr ⟨lw_p111, fun _ h => absurd h List.not_mem_nil⟩⟩⟩⟩⟩⟩⟩⟩⟩⟩⟩⟩⟩⟩⟩⟩
theorem lw_p112 : lw_okq (⟨"LocihallModel", "sumBehind", "(II)I"⟩, 28) := ⟨⟨by decide +kernel, by decide +kernel⟩, List.mem_of_getElem? (i := 1503) (by decide +kernel), List.mem_of_getElem? (i := 1803) (by decide +kernel), List.mem_of_getElem? (i := 1804) (by decide +kernel)⟩
theorem lw_p113 : lw_okq (⟨"LocihallModel", "isPalace", "(I)Z"⟩, 28) := ⟨⟨by decide +kernel, by decide +kernel⟩, List.mem_of_getElem? (i := 1503) (by decide +kernel), List.mem_of_getElem? (i := 1848) (by decide +kernel), List.mem_of_getElem? (i := 1849) (by decide +kernel)⟩
theorem lw_p114 : lw_okq (⟨"LocihallModel", "noLocus", "(II)Z"⟩, 28) := ⟨⟨by decide +kernel, by decide +kernel⟩, List.mem_of_getElem? (i := 1503) (by decide +kernel), List.mem_of_getElem? (i := 1876) (by decide +kernel), List.mem_of_getElem? (i := 1877) (by decide +kernel)⟩
theorem lw_p115 : lw_okq (⟨"LocihallModel", "at", "(II)LLocihallModel$Locus;"⟩, 28) := ⟨⟨by decide +kernel, by decide +kernel⟩, List.mem_of_getElem? (i := 1503) (by decide +kernel), List.mem_of_getElem? (i := 1880) (by decide +kernel), List.mem_of_getElem? (i := 1881) (by decide +kernel)⟩
theorem lw_p116 : lw_okq (⟨"LocihallModel", "lays", "(III[IZ)I"⟩, 28) := ⟨⟨by decide +kernel, by decide +kernel⟩, List.mem_of_getElem? (i := 1503) (by decide +kernel), List.mem_of_getElem? (i := 1935) (by decide +kernel), List.mem_of_getElem? (i := 1936) (by decide +kernel)⟩
theorem lw_p117 : lw_okq (⟨"LocihallModel", "kind", "(I)I"⟩, 28) := ⟨⟨by decide +kernel, by decide +kernel⟩, List.mem_of_getElem? (i := 1503) (by decide +kernel), List.mem_of_getElem? (i := 1939) (by decide +kernel), List.mem_of_getElem? (i := 1940) (by decide +kernel)⟩
theorem lw_p118 : lw_okq (⟨"java/util/ArrayList", "fastRemove", "([Ljava/lang/Object;I)V"⟩, 3) := ⟨⟨by decide +kernel, by decide +kernel⟩, List.mem_of_getElem? (i := 1509) (by decide +kernel), List.mem_of_getElem? (i := 1988) (by decide +kernel), List.mem_of_getElem? (i := 1989) (by decide +kernel)⟩
theorem lw_p119 : lw_okq (⟨"LocihallModel", "holdOf", "(IILLocihallModel$Trace;)F"⟩, 28) := ⟨⟨by decide +kernel, by decide +kernel⟩, List.mem_of_getElem? (i := 1503) (by decide +kernel), List.mem_of_getElem? (i := 2001) (by decide +kernel), List.mem_of_getElem? (i := 2002) (by decide +kernel)⟩
theorem lw_p120 : lw_okq (⟨"LocihallModel", "recalls", "(II)C"⟩, 28) := ⟨⟨by decide +kernel, by decide +kernel⟩, List.mem_of_getElem? (i := 1503) (by decide +kernel), List.mem_of_getElem? (i := 2094) (by decide +kernel), List.mem_of_getElem? (i := 2095) (by decide +kernel)⟩
theorem lw_p121 : lw_okq (⟨"LocihallModel", "plain", "(II)C"⟩, 28) := ⟨⟨by decide +kernel, by decide +kernel⟩, List.mem_of_getElem? (i := 1503) (by decide +kernel), List.mem_of_getElem? (i := 2098) (by decide +kernel), List.mem_of_getElem? (i := 2099) (by decide +kernel)⟩
theorem lw_p122 : lw_okq (⟨"LocihallModel", "held", "(II)LLocihallModel$Trace;"⟩, 28) := ⟨⟨by decide +kernel, by decide +kernel⟩, List.mem_of_getElem? (i := 1503) (by decide +kernel), List.mem_of_getElem? (i := 2102) (by decide +kernel), List.mem_of_getElem? (i := 2103) (by decide +kernel)⟩
theorem lw_p123 : lw_okq (⟨"LocihallModel", "inferred", "(II)I"⟩, 28) := ⟨⟨by decide +kernel, by decide +kernel⟩, List.mem_of_getElem? (i := 1503) (by decide +kernel), List.mem_of_getElem? (i := 2107) (by decide +kernel), List.mem_of_getElem? (i := 2108) (by decide +kernel)⟩
theorem lw_p124 : lw_okq (⟨"LocihallModel", "keyAt", "(III)I"⟩, 28) := ⟨⟨by decide +kernel, by decide +kernel⟩, List.mem_of_getElem? (i := 1503) (by decide +kernel), List.mem_of_getElem? (i := 2116) (by decide +kernel), List.mem_of_getElem? (i := 2117) (by decide +kernel)⟩
theorem lw_p125 : lw_okq (⟨"LocihallModel", "score", "()I"⟩, 28) := ⟨⟨by decide +kernel, by decide +kernel⟩, List.mem_of_getElem? (i := 1503) (by decide +kernel), List.mem_of_getElem? (i := 2200) (by decide +kernel), List.mem_of_getElem? (i := 2201) (by decide +kernel)⟩
theorem lw_p126 : lw_okq (⟨"LocihallModel", "rowScore", "(III)I"⟩, 28) := ⟨⟨by decide +kernel, by decide +kernel⟩, List.mem_of_getElem? (i := 1503) (by decide +kernel), List.mem_of_getElem? (i := 2207) (by decide +kernel), List.mem_of_getElem? (i := 2208) (by decide +kernel)⟩
theorem lw_p127 : lw_okq (⟨"LocihallModel", "noSpeech", "()Z"⟩, 28) := ⟨⟨by decide +kernel, by decide +kernel⟩, List.mem_of_getElem? (i := 1503) (by decide +kernel), List.mem_of_getElem? (i := 2293) (by decide +kernel), List.mem_of_getElem? (i := 2294) (by decide +kernel)⟩
def lw_privs_8 : List (MethodName × Nat) := [(⟨"LocihallModel", "sumBehind", "(II)I"⟩, 28), (⟨"LocihallModel", "isPalace", "(I)Z"⟩, 28), (⟨"LocihallModel", "noLocus", "(II)Z"⟩, 28), (⟨"LocihallModel", "at", "(II)LLocihallModel$Locus;"⟩, 28), (⟨"LocihallModel", "lays", "(III[IZ)I"⟩, 28), (⟨"LocihallModel", "kind", "(I)I"⟩, 28), (⟨"java/util/ArrayList", "fastRemove", "([Ljava/lang/Object;I)V"⟩, 3), (⟨"LocihallModel", "holdOf", "(IILLocihallModel$Trace;)F"⟩, 28), (⟨"LocihallModel", "recalls", "(II)C"⟩, 28), (⟨"LocihallModel", "plain", "(II)C"⟩, 28), (⟨"LocihallModel", "held", "(II)LLocihallModel$Trace;"⟩, 28), (⟨"LocihallModel", "inferred", "(II)I"⟩, 28), (⟨"LocihallModel", "keyAt", "(III)I"⟩, 28), (⟨"LocihallModel", "score", "()I"⟩, 28), (⟨"LocihallModel", "rowScore", "(III)I"⟩, 28), (⟨"LocihallModel", "noSpeech", "()Z"⟩, 28)]
theorem lw_r8 : ∀ q ∈ lw_privs_8, lw_okq q := List.forall_mem_cons.mpr ⟨lw_p112, List.forall_mem_cons.mpr ⟨lw_p113, List.forall_mem_cons.mpr ⟨lw_p114, List.forall_mem_cons.mpr ⟨lw_p115, List.forall_mem_cons.mpr ⟨lw_p116, List.forall_mem_cons.mpr ⟨lw_p117, List.forall_mem_cons.mpr ⟨lw_p118, List.forall_mem_cons.mpr ⟨lw_p119, List.forall_mem_cons.mpr ⟨lw_p120, List.forall_mem_cons.mpr ⟨lw_p121, List.forall_mem_cons.mpr ⟨lw_p122, List.forall_mem_cons.mpr ⟨lw_p123, List.forall_mem_cons.mpr ⟨lw_p124, List.forall_mem_cons.mpr ⟨lw_p125, List.forall_mem_cons.mpr ⟨lw_p126, List.forall_mem_cons.mpr ⟨lw_p127, fun _ h => absurd h List.not_mem_nil⟩⟩⟩⟩⟩⟩⟩⟩⟩⟩⟩⟩⟩⟩⟩⟩
theorem lw_p128 : lw_okq (⟨"LocihallModel", "inner", "()[I"⟩, 28) := ⟨⟨by decide +kernel, by decide +kernel⟩, List.mem_of_getElem? (i := 1503) (by decide +kernel), List.mem_of_getElem? (i := 2297) (by decide +kernel), List.mem_of_getElem? (i := 2298) (by decide +kernel)⟩
theorem lw_p129 : lw_okq (⟨"LocihallModel", "noFact", "(I)Z"⟩, 28) := ⟨⟨by decide +kernel, by decide +kernel⟩, List.mem_of_getElem? (i := 1503) (by decide +kernel), List.mem_of_getElem? (i := 2318) (by decide +kernel), List.mem_of_getElem? (i := 2319) (by decide +kernel)⟩
theorem lw_p130 : lw_okq (⟨"LocihallModel", "noBest", "(Z)Z"⟩, 28) := ⟨⟨by decide +kernel, by decide +kernel⟩, List.mem_of_getElem? (i := 1503) (by decide +kernel), List.mem_of_getElem? (i := 2344) (by decide +kernel), List.mem_of_getElem? (i := 2345) (by decide +kernel)⟩
theorem lw_p131 : lw_okq (⟨"LocihallModel", "best", "(I)[I"⟩, 28) := ⟨⟨by decide +kernel, by decide +kernel⟩, List.mem_of_getElem? (i := 1503) (by decide +kernel), List.mem_of_getElem? (i := 2348) (by decide +kernel), List.mem_of_getElem? (i := 2349) (by decide +kernel)⟩
def lw_privs_9 : List (MethodName × Nat) := [(⟨"LocihallModel", "inner", "()[I"⟩, 28), (⟨"LocihallModel", "noFact", "(I)Z"⟩, 28), (⟨"LocihallModel", "noBest", "(Z)Z"⟩, 28), (⟨"LocihallModel", "best", "(I)[I"⟩, 28)]
theorem lw_r9 : ∀ q ∈ lw_privs_9, lw_okq q := List.forall_mem_cons.mpr ⟨lw_p128, List.forall_mem_cons.mpr ⟨lw_p129, List.forall_mem_cons.mpr ⟨lw_p130, List.forall_mem_cons.mpr ⟨lw_p131, fun _ h => absurd h List.not_mem_nil⟩⟩⟩⟩
def lw_privs : List (MethodName × Nat) := lw_privs_1 ++ (lw_privs_2 ++ (lw_privs_3 ++ (lw_privs_4 ++ (lw_privs_5 ++ (lw_privs_6 ++ (lw_privs_7 ++ (lw_privs_8 ++ (lw_privs_9))))))))
def lw_tbl : List Cond := k2_sels lw_privs ++ tables_1
theorem lw_privs_ok : ∀ q ∈ lw_privs, lw_okq q := by
  show ∀ q ∈ lw_privs_1 ++ (lw_privs_2 ++ (lw_privs_3 ++ (lw_privs_4 ++ (lw_privs_5 ++ (lw_privs_6 ++ (lw_privs_7 ++ (lw_privs_8 ++ (lw_privs_9)))))))), lw_okq q
  exact List.forall_mem_append.mpr ⟨lw_r1, List.forall_mem_append.mpr ⟨lw_r2, List.forall_mem_append.mpr ⟨lw_r3, List.forall_mem_append.mpr ⟨lw_r4, List.forall_mem_append.mpr ⟨lw_r5, List.forall_mem_append.mpr ⟨lw_r6, List.forall_mem_append.mpr ⟨lw_r7, List.forall_mem_append.mpr ⟨lw_r8, lw_r9⟩⟩⟩⟩⟩⟩⟩⟩
/-- the streams that the claim lets the run draw from -/
abbrev lw_cs : List Choice := [Jvm.Choice.named "NaN.bits"]
theorem lw_bits : nanBits ∈ lw_cs := by first | decide | exact List.mem_cons_self | simp [lw_cs, nanBits]
end
section
/-- the words that every contract here carries: the good ones of the tables -/
def qw : List Cond := lw_tbl.filter goodWord
theorem qw_tbl {w : Cond} (h : w ∈ qw) : w ∈ lw_tbl := (List.mem_filter.mp h).1
theorem qw_good {w : Cond} (h : w ∈ qw) : goodWord w = true := (List.mem_filter.mp h).2
theorem qw_at {w : Cond} (i : Nat) (h : lw_tbl[i]? = some w) (hg : goodWord w = true) : w ∈ qw := List.mem_filter.mpr ⟨List.mem_of_getElem? h, hg⟩
theorem qg_of {Ts ws : List Cond} (hT : ∀ w ∈ qw, w ∈ Ts) (h : ∀ w ∈ ws, w ∈ qw) : GoodIn Ts ws := fun w hw => ⟨hT w (h w hw), good_of_word (qw_good (h w hw))⟩
theorem qg_c {x : Cond} (h : x ∈ qw) : ∀ w ∈ x :: qw, w ∈ qw := fun _ hw => (List.mem_cons.mp hw).elim (fun e => e ▸ h) id
theorem qg_I {Ts : List Cond} (hT : ∀ w ∈ qw, w ∈ Ts) {x : Cond} (h : x ∈ qw) : GoodIn Ts (x :: qw) := qg_of hT (qg_c h)
theorem qg_V {Ts : List Cond} (hT : ∀ w ∈ qw, w ∈ Ts) {own C : String} {idx : Nat} {y : MethodName} {x : Cond} (h1 : Cond.methodLink own idx y ∈ qw) (h2 : Cond.instanceMethod y ∈ qw) (h3 : Cond.selects C y y ∈ qw) (h4 : Cond.initialized C ∈ qw) (h5 : x ∈ qw) : GoodIn Ts (wsV own idx C y (x :: qw)) :=
  qg_of hT (fun w hw => by
    rcases List.mem_append.mp hw with h | h
    · rcases List.mem_cons.mp h with rfl | h
      · exact h1
      · rcases List.mem_cons.mp h with rfl | h
        · exact h2
        · rcases List.mem_cons.mp h with rfl | h
          · exact h3
          · rcases List.mem_cons.mp h with rfl | h
            · exact h4
            · exact absurd h List.not_mem_nil
    · exact qg_c h5 w h)
theorem qg_S {Ts : List Cond} (hT : ∀ w ∈ qw, w ∈ Ts) {own : String} {idx : Nat} {y : MethodName} {x : Cond} (h1 : Cond.methodLink own idx y ∈ qw) (h2 : Cond.static y ∈ qw) (h4 : Cond.initialized own ∈ qw) (h5 : x ∈ qw) : GoodIn Ts (wsS own idx y (x :: qw)) :=
  qg_of hT (fun w hw => by
    rcases List.mem_append.mp hw with h | h
    · rcases List.mem_cons.mp h with rfl | h
      · exact h1
      · rcases List.mem_cons.mp h with rfl | h
        · exact h2
        · rcases List.mem_cons.mp h with rfl | h
          · exact h4
          · exact absurd h List.not_mem_nil
    · exact qg_c h5 w h)
/-- what a body has at hand -/
def qB (p : Program) (s : State) (m : MethodId) (args : Array Value) (meth : Method) (c : Code) (cc : ByteArray) (n : Nat) (ret : Option FieldType) (own : String) : Prop :=
  p.tables.exec = Jvm.exec ∧ c.code = cc ∧ meth.sig.returnType = ret ∧ c.maxLocals = n ∧ s.vm.findClass own = some m.cls ∧ (∀ w ∈ qw, w.before args s = true) ∧ meth.locks = false ∧ (meth.name, meth.name) = (meth.name, meth.name)
/-- a contract's walk, from its first instruction -/
theorem q_start {l : Launch} {y : MethodName} {cc : ByteArray} {n : Nat} {ret : Option FieldType} {rm : Room} {Pre : State → Prop} {av : List Value} {Qc : Array Value → State → Outcome → State → Prop} {mc ms : Nat} {free : Addr → Prop} (hy : plainName y.cls = true) (hn : (lg_sl av).length ≤ n)
    (body : ∀ (p : Program) (e : Env) (s : State) (m : MethodId) (below : List Frame) (meth : Method) (c : Code), qB p s m av.toArray meth c cc n ret y.cls → meth.name = y.name → Pre s → ∀ ls : Array Slot, lv_has ls n (lv_args 0 av) →
      W p l e rm s m av.toArray below meth c s.heap [] 0 0 (MQ below Qc av.toArray s mc ms free) (F0 m 0 ls [])) :
    Met l y (.code y cc n ret :: qw) rm (va_Pc av Pre) Qc mc ms free := by
  refine Met.ofW (cc := cc) (maxL := n) (ret := ret) hy rfl ?_
  intro p e s m args below meth c s₁ B hml hv
  obtain ⟨rfl, hpre⟩ := hv
  have hts := atoms_spec (ws := .code y cc n ret :: qw) B.pre
  have hown : s.vm.findClass y.cls = some m.cls := findClass_of_methodNamed B.named
  have hin : meth.name = y.name := (name_of_methodNamed B.named B.method).1
  have hl := lv_entry av (n := n) hn
  rw [lg_entry_eq]
  generalize (lg_sl av ++ List.replicate (n - (lg_sl av).length) Slot.unset).toArray = ls at hl ⊢
  exact body p e s m below meth c ⟨B.exec, B.bytes, B.returns, hml, hown, fun w h => hts w (List.mem_cons_of_mem _ h), B.notSynchronized, rfl⟩ hin hpre ls hl
end
section
/-! the classes whose objects the worlds hold: names, fields, types (out of the printed names) -/
def RJ0 : String := "java/lang/String"
def TJ0 : u_T := fun k => match k with
  | 0 => ("java/lang/String", "value", "[B", true)
  | _ => ("java/lang/String", "coder", "B", true)
def tyJ0 : Nat → FieldType := fun k => match k with
  | 0 => .array .byte
  | _ => .byte
theorem nmJ0 : ∀ a, a < 2 → ∀ b, b < 2 → a ≠ b → (TJ0 a).2.1 ≠ (TJ0 b).2.1 := by decide +kernel
theorem tyJ0_ok : ∀ k, k < 2 → parseFieldDescriptor (TJ0 k).2.2.1 = some (tyJ0 k) := by decide +kernel
def RJ6 : String := "java/lang/Integer"
def TJ6 : u_T := fun k => match k with
  | _ => ("java/lang/Integer", "value", "I", true)
def tyJ6 : Nat → FieldType := fun k => match k with
  | _ => .int
theorem nmJ6 : ∀ a, a < 1 → ∀ b, b < 1 → a ≠ b → (TJ6 a).2.1 ≠ (TJ6 b).2.1 := by decide +kernel
theorem tyJ6_ok : ∀ k, k < 1 → parseFieldDescriptor (TJ6 k).2.2.1 = some (tyJ6 k) := by decide +kernel
def RJx00060 : String := "java/lang/ArrayIndexOutOfBoundsException"
def TJx00060 : u_T := fun k => match k with
  | 0 => ("java/lang/Throwable", "backtrace", "Ljava/lang/Object;", false)
  | 1 => ("java/lang/Throwable", "detailMessage", "Ljava/lang/String;", false)
  | 2 => ("java/lang/Throwable", "cause", "Ljava/lang/Throwable;", false)
  | 3 => ("java/lang/Throwable", "stackTrace", "[Ljava/lang/StackTraceElement;", false)
  | 4 => ("java/lang/Throwable", "depth", "I", false)
  | _ => ("java/lang/Throwable", "suppressedExceptions", "Ljava/util/List;", false)
def tyJx00060 : Nat → FieldType := fun k => match k with
  | 0 => .object "java/lang/Object"
  | 1 => .object "java/lang/String"
  | 2 => .object "java/lang/Throwable"
  | 3 => .array (.object "java/lang/StackTraceElement")
  | 4 => .int
  | _ => .object "java/util/List"
theorem nmJx00060 : ∀ a, a < 6 → ∀ b, b < 6 → a ≠ b → (TJx00060 a).2.1 ≠ (TJx00060 b).2.1 := by decide +kernel
theorem tyJx00060_ok : ∀ k, k < 6 → parseFieldDescriptor (TJx00060 k).2.2.1 = some (tyJx00060 k) := by decide +kernel
def RJx35411 : String := "java/util/ArrayList$Itr"
def TJx35411 : u_T := fun k => match k with
  | 0 => ("java/util/ArrayList$Itr", "cursor", "I", false)
  | 1 => ("java/util/ArrayList$Itr", "lastRet", "I", false)
  | 2 => ("java/util/ArrayList$Itr", "expectedModCount", "I", false)
  | _ => ("java/util/ArrayList$Itr", "this$0", "Ljava/util/ArrayList;", true)
def tyJx35411 : Nat → FieldType := fun k => match k with
  | 0 => .int
  | 1 => .int
  | 2 => .int
  | _ => .object "java/util/ArrayList"
theorem nmJx35411 : ∀ a, a < 4 → ∀ b, b < 4 → a ≠ b → (TJx35411 a).2.1 ≠ (TJx35411 b).2.1 := by decide +kernel
theorem tyJx35411_ok : ∀ k, k < 4 → parseFieldDescriptor (TJx35411 k).2.2.1 = some (tyJx35411 k) := by decide +kernel
def RJx4a65c : String := "java/util/ArrayList"
def TJx4a65c : u_T := fun k => match k with
  | 0 => ("java/util/AbstractList", "modCount", "I", false)
  | 1 => ("java/util/ArrayList", "elementData", "[Ljava/lang/Object;", false)
  | _ => ("java/util/ArrayList", "size", "I", false)
def tyJx4a65c : Nat → FieldType := fun k => match k with
  | 0 => .int
  | 1 => .array (.object "java/lang/Object")
  | _ => .int
theorem nmJx4a65c : ∀ a, a < 3 → ∀ b, b < 3 → a ≠ b → (TJx4a65c a).2.1 ≠ (TJx4a65c b).2.1 := by decide +kernel
theorem tyJx4a65c_ok : ∀ k, k < 3 → parseFieldDescriptor (TJx4a65c k).2.2.1 = some (tyJx4a65c k) := by decide +kernel
def RX0 : String := "Locihall$Contest"
def TX0 : u_T := fun k => match k with
  | 0 => ("Locihall$Contest", "isOpen", "Z", false)
  | 1 => ("Locihall$Contest", "year", "I", false)
  | 2 => ("Locihall$Contest", "house", "LLocihall$Palace;", false)
  | 3 => ("Locihall$Contest", "table", "LLocihall$Table;", false)
  | 4 => ("Locihall$Contest", "count", "I", false)
  | 5 => ("Locihall$Contest", "drawnKeys", "[I", true)
  | 6 => ("Locihall$Contest", "draft", "[I", true)
  | 7 => ("Locihall$Contest", "given", "I", false)
  | 8 => ("Locihall$Contest", "answers", "[I", true)
  | 9 => ("Locihall$Contest", "times", "[I", true)
  | 10 => ("Locihall$Contest", "rights", "[Z", true)
  | 11 => ("Locihall$Contest", "appeals", "I", false)
  | 12 => ("Locihall$Contest", "closedCount", "I", false)
  | 13 => ("Locihall$Contest", "closedYear", "I", false)
  | 14 => ("Locihall$Contest", "closedScore", "I", false)
  | 15 => ("Locihall$Contest", "closedYears", "[I", true)
  | _ => ("Locihall$Contest", "closedScores", "[I", true)
def tyX0 : Nat → FieldType := fun k => match k with
  | 0 => .boolean
  | 1 => .int
  | 2 => .object "Locihall$Palace"
  | 3 => .object "Locihall$Table"
  | 4 => .int
  | 5 => .array .int
  | 6 => .array .int
  | 7 => .int
  | 8 => .array .int
  | 9 => .array .int
  | 10 => .array .boolean
  | 11 => .int
  | 12 => .int
  | 13 => .int
  | 14 => .int
  | 15 => .array .int
  | _ => .array .int
theorem nmX0 : ∀ a, a < 17 → ∀ b, b < 17 → a ≠ b → (TX0 a).2.1 ≠ (TX0 b).2.1 := by decide +kernel
theorem tyX0_ok : ∀ k, k < 17 → parseFieldDescriptor (TX0 k).2.2.1 = some (tyX0 k) := by decide +kernel
def RX1 : String := "Locihall$Facts"
def TX1 : u_T := fun k => match k with
  | 0 => ("Locihall$Facts", "eases", "[I", true)
  | 1 => ("Locihall$Facts", "strengths", "[I", true)
  | 2 => ("Locihall$Facts", "lasts", "[I", true)
  | 3 => ("Locihall$Facts", "lapses", "[I", true)
  | 4 => ("Locihall$Facts", "count", "I", false)
  | 5 => ("Locihall$Facts", "tried", "[I", true)
  | 6 => ("Locihall$Facts", "bestPlan", "[I", true)
  | 7 => ("Locihall$Facts", "bestStrengths", "I", false)
  | _ => ("Locihall$Facts", "bestReviews", "I", false)
def tyX1 : Nat → FieldType := fun k => match k with
  | 0 => .array .int
  | 1 => .array .int
  | 2 => .array .int
  | 3 => .array .int
  | 4 => .int
  | 5 => .array .int
  | 6 => .array .int
  | 7 => .int
  | _ => .int
theorem nmX1 : ∀ a, a < 9 → ∀ b, b < 9 → a ≠ b → (TX1 a).2.1 ≠ (TX1 b).2.1 := by decide +kernel
theorem tyX1_ok : ∀ k, k < 9 → parseFieldDescriptor (TX1 k).2.2.1 = some (tyX1 k) := by decide +kernel
def RX2 : String := "Locihall$Images"
def TX2 : u_T := fun k => match k with
  | 0 => ("Locihall$Images", "kinds", "[I", true)
  | 1 => ("Locihall$Images", "vividnesses", "[I", true)
  | _ => ("Locihall$Images", "count", "I", false)
def tyX2 : Nat → FieldType := fun k => match k with
  | 0 => .array .int
  | 1 => .array .int
  | _ => .int
theorem nmX2 : ∀ a, a < 3 → ∀ b, b < 3 → a ≠ b → (TX2 a).2.1 ≠ (TX2 b).2.1 := by decide +kernel
theorem tyX2_ok : ∀ k, k < 3 → parseFieldDescriptor (TX2 k).2.2.1 = some (tyX2 k) := by decide +kernel
def RX3 : String := "Locihall$Locus"
def TX3 : u_T := fun k => match k with
  | 0 => ("Locihall$Locus", "power", "I", true)
  | 1 => ("Locihall$Locus", "pile", "[LLocihall$Trace;", true)
  | 2 => ("Locihall$Locus", "height", "I", false)
  | _ => ("Locihall$Locus", "hasCue", "Z", false)
def tyX3 : Nat → FieldType := fun k => match k with
  | 0 => .int
  | 1 => .array (.object "Locihall$Trace")
  | 2 => .int
  | _ => .boolean
theorem nmX3 : ∀ a, a < 4 → ∀ b, b < 4 → a ≠ b → (TX3 a).2.1 ≠ (TX3 b).2.1 := by decide +kernel
theorem tyX3_ok : ∀ k, k < 4 → parseFieldDescriptor (TX3 k).2.2.1 = some (tyX3 k) := by decide +kernel
def RX4 : String := "Locihall$Mind"
def TX4 : u_T := fun k => match k with
  | 0 => ("Locihall$Mind", "images", "LLocihall$Images;", true)
  | 1 => ("Locihall$Mind", "palaces", "[LLocihall$Palace;", true)
  | 2 => ("Locihall$Mind", "palaceCount", "I", false)
  | 3 => ("Locihall$Mind", "hour", "I", false)
  | 4 => ("Locihall$Mind", "years", "I", false)
  | _ => ("Locihall$Mind", "sleptTo", "I", false)
def tyX4 : Nat → FieldType := fun k => match k with
  | 0 => .object "Locihall$Images"
  | 1 => .array (.object "Locihall$Palace")
  | 2 => .int
  | 3 => .int
  | 4 => .int
  | _ => .int
theorem nmX4 : ∀ a, a < 6 → ∀ b, b < 6 → a ≠ b → (TX4 a).2.1 ≠ (TX4 b).2.1 := by decide +kernel
theorem tyX4_ok : ∀ k, k < 6 → parseFieldDescriptor (TX4 k).2.2.1 = some (tyX4 k) := by decide +kernel
def RX5 : String := "Locihall$Palace"
def TX5 : u_T := fun k => match k with
  | 0 => ("Locihall$Palace", "loci", "[LLocihall$Locus;", true)
  | 1 => ("Locihall$Palace", "count", "I", false)
  | 2 => ("Locihall$Palace", "groupSize", "I", false)
  | 3 => ("Locihall$Palace", "groupedLoci", "I", false)
  | _ => ("Locihall$Palace", "sums", "[I", true)
def tyX5 : Nat → FieldType := fun k => match k with
  | 0 => .array (.object "Locihall$Locus")
  | 1 => .int
  | 2 => .int
  | 3 => .int
  | _ => .array .int
theorem nmX5 : ∀ a, a < 5 → ∀ b, b < 5 → a ≠ b → (TX5 a).2.1 ≠ (TX5 b).2.1 := by decide +kernel
theorem tyX5_ok : ∀ k, k < 5 → parseFieldDescriptor (TX5 k).2.2.1 = some (tyX5 k) := by decide +kernel
def RX6 : String := "Locihall$Stage"
def TX6 : u_T := fun k => match k with
  | 0 => ("Locihall$Stage", "lengths", "[I", true)
  | 1 => ("Locihall$Stage", "nexts", "[I", true)
  | 2 => ("Locihall$Stage", "count", "I", false)
  | 3 => ("Locihall$Stage", "going", "[I", true)
  | 4 => ("Locihall$Stage", "depth", "I", false)
  | 5 => ("Locihall$Stage", "isInterrupted", "Z", false)
  | _ => ("Locihall$Stage", "stoppedAt", "I", false)
def tyX6 : Nat → FieldType := fun k => match k with
  | 0 => .array .int
  | 1 => .array .int
  | 2 => .int
  | 3 => .array .int
  | 4 => .int
  | 5 => .boolean
  | _ => .int
theorem nmX6 : ∀ a, a < 7 → ∀ b, b < 7 → a ≠ b → (TX6 a).2.1 ≠ (TX6 b).2.1 := by decide +kernel
theorem tyX6_ok : ∀ k, k < 7 → parseFieldDescriptor (TX6 k).2.2.1 = some (tyX6 k) := by decide +kernel
def RX7 : String := "Locihall$Table"
def TX7 : u_T := fun k => match k with
  | 0 => ("Locihall$Table", "keysAtLocus", "I", true)
  | 1 => ("Locihall$Table", "imageByKey", "[I", true)
  | 2 => ("Locihall$Table", "skillByKey", "[I", true)
  | _ => ("Locihall$Table", "trial", "[I", true)
def tyX7 : Nat → FieldType := fun k => match k with
  | 0 => .int
  | 1 => .array .int
  | 2 => .array .int
  | _ => .array .int
theorem nmX7 : ∀ a, a < 4 → ∀ b, b < 4 → a ≠ b → (TX7 a).2.1 ≠ (TX7 b).2.1 := by decide +kernel
theorem tyX7_ok : ∀ k, k < 4 → parseFieldDescriptor (TX7 k).2.2.1 = some (tyX7 k) := by decide +kernel
def RX8 : String := "Locihall$Tongues"
def TX8 : u_T := fun k => match k with
  | _ => ("Locihall$Tongues", "letters", "[[I", true)
def tyX8 : Nat → FieldType := fun k => match k with
  | _ => .array (.array .int)
theorem nmX8 : ∀ a, a < 1 → ∀ b, b < 1 → a ≠ b → (TX8 a).2.1 ≠ (TX8 b).2.1 := by decide +kernel
theorem tyX8_ok : ∀ k, k < 1 → parseFieldDescriptor (TX8 k).2.2.1 = some (tyX8 k) := by decide +kernel
def RX9 : String := "Locihall$Trace"
def TX9 : u_T := fun k => match k with
  | 0 => ("Locihall$Trace", "laidKeys", "[I", true)
  | 1 => ("Locihall$Trace", "laidKinds", "[I", true)
  | 2 => ("Locihall$Trace", "count", "I", false)
  | 3 => ("Locihall$Trace", "firstImage", "I", false)
  | 4 => ("Locihall$Trace", "table", "LLocihall$Table;", false)
  | 5 => ("Locihall$Trace", "since", "I", false)
  | 6 => ("Locihall$Trace", "firmness", "I", false)
  | _ => ("Locihall$Trace", "isSuggested", "Z", false)
def tyX9 : Nat → FieldType := fun k => match k with
  | 0 => .array .int
  | 1 => .array .int
  | 2 => .int
  | 3 => .int
  | 4 => .object "Locihall$Table"
  | 5 => .int
  | 6 => .int
  | _ => .boolean
theorem nmX9 : ∀ a, a < 8 → ∀ b, b < 8 → a ≠ b → (TX9 a).2.1 ≠ (TX9 b).2.1 := by decide +kernel
theorem tyX9_ok : ∀ k, k < 8 → parseFieldDescriptor (TX9 k).2.2.1 = some (tyX9 k) := by decide +kernel
def RX10 : String := "Locihall$YearRows"
def TX10 : u_T := fun k => match k with
  | 0 => ("Locihall$YearRows", "years", "[I", true)
  | 1 => ("Locihall$YearRows", "firsts", "[I", true)
  | 2 => ("Locihall$YearRows", "seconds", "[I", true)
  | _ => ("Locihall$YearRows", "count", "I", false)
def tyX10 : Nat → FieldType := fun k => match k with
  | 0 => .array .int
  | 1 => .array .int
  | 2 => .array .int
  | _ => .int
theorem nmX10 : ∀ a, a < 4 → ∀ b, b < 4 → a ≠ b → (TX10 a).2.1 ≠ (TX10 b).2.1 := by decide +kernel
theorem tyX10_ok : ∀ k, k < 4 → parseFieldDescriptor (TX10 k).2.2.1 = some (tyX10 k) := by decide +kernel
def RX11 : String := "Locihall"
def TX11 : u_T := fun k => match k with
  | 0 => ("Locihall", "images", "LLocihall$Images;", true)
  | 1 => ("Locihall", "tongues", "LLocihall$Tongues;", true)
  | 2 => ("Locihall", "tables", "[LLocihall$Table;", true)
  | 3 => ("Locihall", "tableCount", "I", false)
  | 4 => ("Locihall", "mind", "LLocihall$Mind;", true)
  | 5 => ("Locihall", "nextKeys", "[I", true)
  | 6 => ("Locihall", "nextKeyCount", "I", false)
  | 7 => ("Locihall", "books", "LLocihall$YearRows;", true)
  | 8 => ("Locihall", "standards", "LLocihall$YearRows;", true)
  | 9 => ("Locihall", "match", "LLocihall$Contest;", true)
  | 10 => ("Locihall", "stage", "LLocihall$Stage;", true)
  | 11 => ("Locihall", "facts", "LLocihall$Facts;", true)
  | _ => ("Locihall", "tenthsInAll", "J", false)
def tyX11 : Nat → FieldType := fun k => match k with
  | 0 => .object "Locihall$Images"
  | 1 => .object "Locihall$Tongues"
  | 2 => .array (.object "Locihall$Table")
  | 3 => .int
  | 4 => .object "Locihall$Mind"
  | 5 => .array .int
  | 6 => .int
  | 7 => .object "Locihall$YearRows"
  | 8 => .object "Locihall$YearRows"
  | 9 => .object "Locihall$Contest"
  | 10 => .object "Locihall$Stage"
  | 11 => .object "Locihall$Facts"
  | _ => .long
theorem nmX11 : ∀ a, a < 13 → ∀ b, b < 13 → a ≠ b → (TX11 a).2.1 ≠ (TX11 b).2.1 := by decide +kernel
theorem tyX11_ok : ∀ k, k < 13 → parseFieldDescriptor (TX11 k).2.2.1 = some (tyX11 k) := by decide +kernel
def RX12 : String := "LocihallModel$Locus"
def TX12 : u_T := fun k => match k with
  | 0 => ("LocihallModel$Locus", "strength", "I", true)
  | 1 => ("LocihallModel$Locus", "traces", "Ljava/util/List;", true)
  | _ => ("LocihallModel$Locus", "cue", "Z", false)
def tyX12 : Nat → FieldType := fun k => match k with
  | 0 => .int
  | 1 => .object "java/util/List"
  | _ => .boolean
theorem nmX12 : ∀ a, a < 3 → ∀ b, b < 3 → a ≠ b → (TX12 a).2.1 ≠ (TX12 b).2.1 := by decide +kernel
theorem tyX12_ok : ∀ k, k < 3 → parseFieldDescriptor (TX12 k).2.2.1 = some (tyX12 k) := by decide +kernel
def RX13 : String := "LocihallModel$Palace"
def TX13 : u_T := fun k => match k with
  | 0 => ("LocihallModel$Palace", "loci", "Ljava/util/List;", true)
  | 1 => ("LocihallModel$Palace", "size", "I", false)
  | 2 => ("LocihallModel$Palace", "grouped", "I", false)
  | _ => ("LocihallModel$Palace", "sums", "[I", false)
def tyX13 : Nat → FieldType := fun k => match k with
  | 0 => .object "java/util/List"
  | 1 => .int
  | 2 => .int
  | _ => .array .int
theorem nmX13 : ∀ a, a < 4 → ∀ b, b < 4 → a ≠ b → (TX13 a).2.1 ≠ (TX13 b).2.1 := by decide +kernel
theorem tyX13_ok : ∀ k, k < 4 → parseFieldDescriptor (TX13 k).2.2.1 = some (tyX13 k) := by decide +kernel
def RX14 : String := "LocihallModel$Trace"
def TX14 : u_T := fun k => match k with
  | 0 => ("LocihallModel$Trace", "system", "I", true)
  | 1 => ("LocihallModel$Trace", "keys", "[I", true)
  | 2 => ("LocihallModel$Trace", "images", "[I", true)
  | 3 => ("LocihallModel$Trace", "suggested", "Z", true)
  | 4 => ("LocihallModel$Trace", "hold", "I", false)
  | 5 => ("LocihallModel$Trace", "hour", "I", false)
  | _ => ("LocihallModel$Trace", "fresh", "Z", false)
def tyX14 : Nat → FieldType := fun k => match k with
  | 0 => .int
  | 1 => .array .int
  | 2 => .array .int
  | 3 => .boolean
  | 4 => .int
  | 5 => .int
  | _ => .boolean
theorem nmX14 : ∀ a, a < 7 → ∀ b, b < 7 → a ≠ b → (TX14 a).2.1 ≠ (TX14 b).2.1 := by decide +kernel
theorem tyX14_ok : ∀ k, k < 7 → parseFieldDescriptor (TX14 k).2.2.1 = some (tyX14 k) := by decide +kernel
def RX15 : String := "LocihallModel"
def TX15 : u_T := fun k => match k with
  | 0 => ("LocihallModel", "images", "Ljava/util/List;", true)
  | 1 => ("LocihallModel", "palaces", "Ljava/util/List;", true)
  | 2 => ("LocihallModel", "buffer", "Ljava/util/List;", true)
  | 3 => ("LocihallModel", "lays", "[I", true)
  | 4 => ("LocihallModel", "table", "[[I", true)
  | 5 => ("LocihallModel", "skills", "[[I", true)
  | 6 => ("LocihallModel", "letters", "[[C", true)
  | 7 => ("LocihallModel", "books", "Ljava/util/List;", true)
  | 8 => ("LocihallModel", "standards", "Ljava/util/List;", true)
  | 9 => ("LocihallModel", "closed", "Ljava/util/List;", true)
  | 10 => ("LocihallModel", "speeches", "Ljava/util/List;", true)
  | 11 => ("LocihallModel", "facts", "Ljava/util/List;", true)
  | 12 => ("LocihallModel", "going", "Ljava/util/List;", true)
  | 13 => ("LocihallModel", "thrown", "I", false)
  | 14 => ("LocihallModel", "systems", "I", false)
  | 15 => ("LocihallModel", "hour", "I", false)
  | 16 => ("LocihallModel", "age", "I", false)
  | 17 => ("LocihallModel", "year", "I", false)
  | 18 => ("LocihallModel", "palaceOf", "I", false)
  | 19 => ("LocihallModel", "systemOf", "I", false)
  | 20 => ("LocihallModel", "appeals", "I", false)
  | 21 => ("LocihallModel", "interruptedAt", "I", false)
  | 22 => ("LocihallModel", "drawn", "[I", false)
  | 23 => ("LocihallModel", "answers", "[I", false)
  | 24 => ("LocihallModel", "times", "[I", false)
  | 25 => ("LocihallModel", "given", "I", false)
  | 26 => ("LocihallModel", "open", "Z", false)
  | _ => ("LocihallModel", "tenths", "J", false)
def tyX15 : Nat → FieldType := fun k => match k with
  | 0 => .object "java/util/List"
  | 1 => .object "java/util/List"
  | 2 => .object "java/util/List"
  | 3 => .array .int
  | 4 => .array (.array .int)
  | 5 => .array (.array .int)
  | 6 => .array (.array .char)
  | 7 => .object "java/util/List"
  | 8 => .object "java/util/List"
  | 9 => .object "java/util/List"
  | 10 => .object "java/util/List"
  | 11 => .object "java/util/List"
  | 12 => .object "java/util/List"
  | 13 => .int
  | 14 => .int
  | 15 => .int
  | 16 => .int
  | 17 => .int
  | 18 => .int
  | 19 => .int
  | 20 => .int
  | 21 => .int
  | 22 => .array .int
  | 23 => .array .int
  | 24 => .array .int
  | 25 => .int
  | 26 => .boolean
  | _ => .long
theorem nmX15 : ∀ a, a < 28 → ∀ b, b < 28 → a ≠ b → (TX15 a).2.1 ≠ (TX15 b).2.1 := by decide +kernel
theorem tyX15_ok : ∀ k, k < 28 → parseFieldDescriptor (TX15 k).2.2.1 = some (tyX15 k) := by decide +kernel
abbrev vwCl : List vw_C := [(RJ0, TJ0, 2), (RJ6, TJ6, 1), (RJx00060, TJx00060, 6), (RJx35411, TJx35411, 4), (RJx4a65c, TJx4a65c, 3), (RX0, TX0, 17), (RX1, TX1, 9), (RX2, TX2, 3), (RX3, TX3, 4), (RX4, TX4, 6), (RX5, TX5, 5), (RX6, TX6, 7), (RX7, TX7, 4), (RX8, TX8, 1), (RX9, TX9, 8), (RX10, TX10, 4), (RX11, TX11, 13), (RX12, TX12, 3), (RX13, TX13, 4), (RX14, TX14, 7), (RX15, TX15, 28)]
end
section
/-- the words that aren't kept by every step, but by warming: links of nest mates, castables, declared methods -/
def qn_ok : Cond → Bool
  | .fieldLinkNest .. => true
  | .methodLinkNest .. => true
  | .castable .. => true
  | .declares .. => true
  | _ => false
theorem qn_warm {s U : State} (hW : s.WarmedH U.vm) {w : Cond} (h : qn_ok w = true) (hz : va_Nw w s) : va_Nw w U := by
  cases w <;> first | exact va_Nw.warmF hW hz | exact va_Nw.warmM hW hz | exact va_Nw.warmC hW hz | exact va_Nw.warmD hW hz | (simp [qn_ok] at h)
/-- exceptions of one class that a row for another doesn't catch -/
def qnc : List (String × String) := [("java/lang/IllegalArgumentException", "java/lang/IllegalStateException"), ("java/lang/IllegalArgumentException", "java/lang/IndexOutOfBoundsException"), ("java/lang/IllegalArgumentException", "java/util/NoSuchElementException"), ("java/lang/IllegalArgumentException", "java/lang/UnsupportedOperationException"), ("java/lang/IllegalArgumentException", "java/lang/ArithmeticException"), ("java/lang/IllegalStateException", "java/lang/IllegalArgumentException"), ("java/lang/IllegalStateException", "java/lang/IndexOutOfBoundsException"), ("java/lang/IllegalStateException", "java/util/NoSuchElementException"), ("java/lang/IllegalStateException", "java/lang/UnsupportedOperationException"), ("java/lang/IllegalStateException", "java/lang/ArithmeticException"), ("java/lang/IndexOutOfBoundsException", "java/lang/IllegalArgumentException"), ("java/lang/IndexOutOfBoundsException", "java/lang/IllegalStateException"), ("java/lang/IndexOutOfBoundsException", "java/util/NoSuchElementException"), ("java/lang/IndexOutOfBoundsException", "java/lang/UnsupportedOperationException"), ("java/lang/IndexOutOfBoundsException", "java/lang/ArithmeticException"), ("java/util/NoSuchElementException", "java/lang/IllegalArgumentException"), ("java/util/NoSuchElementException", "java/lang/IllegalStateException"), ("java/util/NoSuchElementException", "java/lang/IndexOutOfBoundsException"), ("java/util/NoSuchElementException", "java/lang/UnsupportedOperationException"), ("java/util/NoSuchElementException", "java/lang/ArithmeticException"), ("java/lang/UnsupportedOperationException", "java/lang/IllegalArgumentException"), ("java/lang/UnsupportedOperationException", "java/lang/IllegalStateException"), ("java/lang/UnsupportedOperationException", "java/lang/IndexOutOfBoundsException"), ("java/lang/UnsupportedOperationException", "java/util/NoSuchElementException"), ("java/lang/UnsupportedOperationException", "java/lang/ArithmeticException"), ("java/lang/ArithmeticException", "java/lang/IllegalArgumentException"), ("java/lang/ArithmeticException", "java/lang/IllegalStateException"), ("java/lang/ArithmeticException", "java/lang/IndexOutOfBoundsException"), ("java/lang/ArithmeticException", "java/util/NoSuchElementException"), ("java/lang/ArithmeticException", "java/lang/UnsupportedOperationException")]
/-- the empty row that new lists begin with -/
def qL (A : Nat → Prop) (U : State) (H : Heap) : Prop := ∃ t : Nat, va_Z "java/util/ArrayList" "DEFAULTCAPACITY_EMPTY_ELEMENTDATA" "[Ljava/lang/Object;" (.ref t) A U H ∧ va_T (.object "java/lang/Object") t 0 (fun _ => .null) A U H
/-- what lies about: the nest words, Throwable's two statics, the texts, what isn't caught, the lists' empty row -/
def qE (A : Nat → Prop) (U : State) : Prop := (∀ w ∈ lw_tbl, qn_ok w = true → va_Nw w U) ∧ vx_Zq Bundle.tN "UNASSIGNED_STACK" Bundle.steD A U U.heap ∧ vx_Zq Bundle.tN "SUPPRESSED_SENTINEL" Bundle.listD A U U.heap ∧ (∀ (own tx : String) (k : Nat), Cond.stringRef own k tx ∈ lw_tbl → ∃ sa : Nat, vk_R own k tx sa U) ∧ (∀ q ∈ qnc, va_Nc q.1 q.2 U) ∧ qL A U U.heap
theorem qE_call {A A' : Nat → Prop} {s U : State} {H : Heap} {locs : List Loc} (hE : qE A s) (hS : va_S A s.heap H locs) (hU : U.heap = H) (hW : s.WarmedH U.vm) (hF : ∀ q, A' q → A q) : qE A' U := by
  obtain ⟨h1, h2, h3, h4, h5, t, h6, h7⟩ := hE
  refine ⟨fun w hw ho => qn_warm hW ho (h1 w hw ho), ?_, ?_, fun own tx k hw => ?_, fun q hq => va_Nc.moved hW.alike (h5 q hq), t, ?_, ?_⟩
  · rw [hU]; exact vx_Zq.narrow (vx_Zq.moved hW.alike (vx_Zq.kept h2 (fun a ha hn => hS.2.1 a ha hn))) hF
  · rw [hU]; exact vx_Zq.narrow (vx_Zq.moved hW.alike (vx_Zq.kept h3 (fun a ha hn => hS.2.1 a ha hn))) hF
  · obtain ⟨sa, h⟩ := h4 own tx k hw
    exact ⟨sa, vk_R.warm hW h⟩
  · rw [hU]; exact va_Z.narrow (va_Z.moved hW.alike (va_Z.kept h6 (fun a ha hn => hS.2.1 a ha hn))) hF
  · rw [hU]; exact va_T.narrow (va_T.moved hW.alike (va_T.kept h7 (fun a ha hn => hS.2.1 a ha hn))) hF
theorem qE_calling {A : Nat → Prop} {U : State} (g : JFrame) (mk : MethodId) (a : Array Value) (h : qE A U) : qE A (U.calling g mk a) := by
  obtain ⟨h1, h2, h3, h4, h5, t, h6, h7⟩ := h
  refine ⟨fun w hw ho => va_Nw.same (by cases w <;> first | rfl | simp [qn_ok] at ho) (show U.vm = (U.calling g mk a).vm from rfl) (h1 w hw ho), vx_Zq.moved (u := U) (U := U.calling g mk a) (Vm.Alike.refl U.vm) h2, vx_Zq.moved (u := U) (U := U.calling g mk a) (Vm.Alike.refl U.vm) h3, fun own tx k hw => ?_, fun q hq => va_Nc.moved (u := U) (U := U.calling g mk a) (Vm.Alike.refl U.vm) (h5 q hq), t, va_Z.moved (u := U) (U := U.calling g mk a) (Vm.Alike.refl U.vm) h6, va_T.moved (u := U) (U := U.calling g mk a) (Vm.Alike.refl U.vm) h7⟩
  obtain ⟨sa, h⟩ := h4 own tx k hw
  exact ⟨sa, vk_R.same (u := U) rfl h⟩
/-- where a contract begins: its cells, the classes and array classes, what lies about -/
def qPre (D : va_G) (ws : va_W) (tys : List (ClassId × FieldType)) (sz : Nat) (U : State) : Prop := U.heap.size = sz ∧ va_P D vwCl ws U.heap ∧ va_K D vwCl tys U ∧ va_D (fun _ => True) ws ∧ qE (va_A ws sz) U
theorem qPre_blind {D : va_G} {ws : va_W} {tys : List (ClassId × FieldType)} {sz : Nat} {av : List Value} : FrameBlind (va_Pc av (qPre D ws tys sz)) := fun a U g mk q => by
  obtain ⟨q0, q1, qP, qK, qD, qe⟩ := q
  exact ⟨q0, q1, qP, va_K.moved (u := U) (U := U.calling g mk a) (Vm.Alike.refl U.vm) qK, qD, qE_calling g mk a qe⟩
/-- the world on the way -/
def qH (D : va_G) (A : Nat → Prop) (s : State) (H : Heap) (locs : List Loc) (ws : va_W) (tys : List (ClassId × FieldType)) : Prop := va_P D vwCl ws H ∧ va_K D vwCl tys s ∧ va_D A ws ∧ va_S A s.heap H locs ∧ (∀ q, s.heap.size ≤ q → A q) ∧ qE A s
theorem qH_start {D : va_G} {ws : va_W} {tys : List (ClassId × FieldType)} {sz : Nat} {s : State} (h : qPre D ws tys sz s) : qH D (va_A ws sz) s s.heap [] ws tys := by
  obtain ⟨rfl, hP, hK, hD, hE⟩ := h
  exact ⟨hP, hK, hD.self, va_S.rf, fun q hq => Or.inr hq, hE⟩
/-- a callee's part of it -/
theorem qH_sub {D : va_G} {A : Nat → Prop} {s : State} {H : Heap} {locs : List Loc} {ws wc : va_W} {tys tc : List (ClassId × FieldType)} (h : qH D A s H locs ws tys) (is ts : List Nat) (hn : va_nd is = true) (hs : is.map (fun i => ws[i]?) = wc.map some) (hs2 : is.filterMap (fun i => ws[i]?) = wc) (ht : ts.filterMap (fun i => tys[i]?) = tc) : ∀ U : State, U.heap = H → s.WarmedH U.vm → qPre D wc tc H.size U := by
  obtain ⟨hP, hK, hD, hS, hA, hE⟩ := h
  intro U hU hW
  exact ⟨by rw [hU], by rw [hU]; exact hP.sub is hs2, va_K.moved hW.alike (hK.sub ts ht), (hD.sub is hn hs).weaken (fun _ _ _ _ => trivial), qE_call hE hS hU hW (va_free hD hS hA is hs)⟩
/-- a class of the claim: its place among vwCl, its fields -/
def qCl (ci : Nat) (C : String) (T : u_T) (N : Nat) (ty : Nat → FieldType) : Prop := vwCl[ci]? = some (C, T, N) ∧ (∀ w ∈ u_ws C T N, w ∈ qw) ∧ (∀ k, k < N → parseFieldDescriptor (T k).2.2.1 = some (ty k)) ∧ ∀ a, a < N → ∀ b, b < N → a ≠ b → (T a).2.1 ≠ (T b).2.1
section QR
variable {p : Program} {l : Launch} {e : Env} {R : Room} {s : State} {m : MethodId} {args : Array Value} {below : List Frame} {meth : Method} {c : Code} {H : Heap} {locs : List Loc} {cells slots : Nat} {Q : State → Prop}
variable {cc : ByteArray} {nL pc : Nat} {ret : Option FieldType} {own : String} {ls : Array Slot} {rest : List Value} {D : va_G} {A : Nat → Prop} {ws : va_W} {tys : List (ClassId × FieldType)}
theorem q_topi {x v : Int32} (h : x = v) (k : W p l e R s m args below meth c H locs cells slots Q (F0 m pc ls (.int v :: rest))) : W p l e R s m args below meth c H locs cells slots Q (F0 m pc ls (.int x :: rest)) := h ▸ k
theorem q_topl {x v : Int64} (h : x = v) (k : W p l e R s m args below meth c H locs cells slots Q (F0 m pc ls (.long v :: rest))) : W p l e R s m args below meth c H locs cells slots Q (F0 m pc ls (.long x :: rest)) := h ▸ k
theorem q_get (hB : qB p s m args meth c cc nL ret own) (hW : qH D A s H locs ws tys) {ci N : Nat} {C : String} {T : u_T} {ty : Nat → FieldType} (hC : qCl ci C T N ty) (q0 : Nat) {a : Nat} {fs : List Value} (he : ws[q0]? = some (a, .inr (ci, fs))) (k : Nat) (hk : k < N) {idx : Nat} (hlink : Cond.fieldLink own idx (T k).1 (T k).2.1 (T k).2.2.1 ∈ qw) {v : Value} (hv : fs[k]? = some v) (hdg : decode cc pc = .ok (.getfield idx, 3))
    (kk : W p l e R s m args below meth c H locs cells slots Q (F0 m (pc + 3) ls (v :: rest))) : W p l e R s m args below meth c H locs cells slots Q (F0 m pc ls (.ref a :: rest)) :=
  va_get hB.1 hB.2.1 hB.2.2.2.2.2.1 hC.2.1 hB.2.2.2.2.1 hW.2.1 hW.1 q0 he hC.1 k hk (hB.2.2.2.2.2.1 _ hlink) (fun _ h => h) hv hdg kk
theorem q_getN (hB : qB p s m args meth c cc nL ret own) (hW : qH D A s H locs ws tys) {ci N : Nat} {C : String} {T : u_T} {ty : Nat → FieldType} (hC : qCl ci C T N ty) (q0 : Nat) {a : Nat} {fs : List Value} (he : ws[q0]? = some (a, .inr (ci, fs))) (k : Nat) (hk : k < N) {idx : Nat} {host : String} (hlink : Cond.fieldLinkNest own idx (T k).1 (T k).2.1 (T k).2.2.1 host ∈ lw_tbl) {v : Value} (hv : fs[k]? = some v) (hdg : decode cc pc = .ok (.getfield idx, 3))
    (kk : W p l e R s m args below meth c H locs cells slots Q (F0 m (pc + 3) ls (v :: rest))) : W p l e R s m args below meth c H locs cells slots Q (F0 m pc ls (.ref a :: rest)) :=
  va_getN hB.1 hB.2.1 hB.2.2.2.2.2.1 hC.2.1 hB.2.2.2.2.1 hW.2.1 hW.1 q0 he hC.1 k hk (va_Nw.use rfl (hW.2.2.2.2.2.1 _ hlink rfl)) (fun _ h => h) hv hdg kk
theorem q_put (hB : qB p s m args meth c cc nL ret own) (hW : qH D A s H locs ws tys) {ci N : Nat} {C : String} {T : u_T} {ty : Nat → FieldType} (hC : qCl ci C T N ty) (q0 : Nat) {a : Nat} {fs : List Value} (he : ws[q0]? = some (a, .inr (ci, fs))) (k : Nat) (hk : k < N) {idx : Nat} (hlink : Cond.fieldLink own idx (T k).1 (T k).2.1 (T k).2.2.1 ∈ qw) (hfin : (T k).2.2.2 = false) {v : Value} (hn : narrow (ty k) v = v) (hfit : fits (ty k) v = true) (hlen : k < fs.length) {ws' : va_W} (hws : ws.set q0 (a, .inr (ci, fs.set k v)) = ws') (hdg : decode cc pc = .ok (.putfield idx, 3))
    (kk : ∀ (H1 : Heap) (locs1 : List Loc), qH D A s H1 locs1 ws' tys → W p l e R s m args below meth c H1 locs1 cells slots Q (F0 m (pc + 3) ls rest)) : W p l e R s m args below meth c H locs cells slots Q (F0 m pc ls (v :: .ref a :: rest)) :=
  va_put hB.1 hB.2.1 hB.2.2.2.2.2.1 hC.2.1 ty hC.2.2.1 hC.2.2.2 hB.2.2.2.2.1 hW.2.1 hW.1 hW.2.2.1 hW.2.2.2.1 q0 he hC.1 k hk (hB.2.2.2.2.2.1 _ hlink) (fun _ h => h) hfin (hC.2.2.1 k hk) hn hfit hlen hdg (fun H1 locs1 hP hD hS => kk H1 locs1 ⟨hws ▸ hP, hW.2.1, hws ▸ hD, hS, hW.2.2.2.2⟩)
theorem q_putN (hB : qB p s m args meth c cc nL ret own) (hW : qH D A s H locs ws tys) {ci N : Nat} {C : String} {T : u_T} {ty : Nat → FieldType} (hC : qCl ci C T N ty) (q0 : Nat) {a : Nat} {fs : List Value} (he : ws[q0]? = some (a, .inr (ci, fs))) (k : Nat) (hk : k < N) {idx : Nat} {host : String} (hlink : Cond.fieldLinkNest own idx (T k).1 (T k).2.1 (T k).2.2.1 host ∈ lw_tbl) (hfin : (T k).2.2.2 = false) {v : Value} (hn : narrow (ty k) v = v) (hfit : fits (ty k) v = true) (hlen : k < fs.length) {ws' : va_W} (hws : ws.set q0 (a, .inr (ci, fs.set k v)) = ws') (hdg : decode cc pc = .ok (.putfield idx, 3))
    (kk : ∀ (H1 : Heap) (locs1 : List Loc), qH D A s H1 locs1 ws' tys → W p l e R s m args below meth c H1 locs1 cells slots Q (F0 m (pc + 3) ls rest)) : W p l e R s m args below meth c H locs cells slots Q (F0 m pc ls (v :: .ref a :: rest)) :=
  va_putN hB.1 hB.2.1 hB.2.2.2.2.2.1 hC.2.1 ty hC.2.2.1 hC.2.2.2 hB.2.2.2.2.1 hW.2.1 hW.1 hW.2.2.1 hW.2.2.2.1 q0 he hC.1 k hk (va_Nw.use rfl (hW.2.2.2.2.2.1 _ hlink rfl)) (fun _ h => h) hfin (hC.2.2.1 k hk) hn hfit hlen hdg (fun H1 locs1 hP hD hS => kk H1 locs1 ⟨hws ▸ hP, hW.2.1, hws ▸ hD, hS, hW.2.2.2.2⟩)
theorem q_putF (hB : qB p s m args meth c cc nL ret own) (hin : meth.name = "<init>") (hW : qH D A s H locs ws tys) {ci N : Nat} {C : String} {T : u_T} {ty : Nat → FieldType} (hC : qCl ci C T N ty) (q0 : Nat) {a : Nat} {fs : List Value} (he : ws[q0]? = some (a, .inr (ci, fs))) (k : Nat) (hk : k < N) {idx : Nat} (hlink : Cond.fieldLink own idx (T k).1 (T k).2.1 (T k).2.2.1 ∈ qw) (hfin : (T k).2.2.2 = true) (hdecl : (T k).1 = own) {v : Value} (hn : narrow (ty k) v = v) (hfit : fits (ty k) v = true) (hlen : k < fs.length) {ws' : va_W} (hws : ws.set q0 (a, .inr (ci, fs.set k v)) = ws') (hdg : decode cc pc = .ok (.putfield idx, 3))
    (kk : ∀ (H1 : Heap) (locs1 : List Loc), qH D A s H1 locs1 ws' tys → W p l e R s m args below meth c H1 locs1 cells slots Q (F0 m (pc + 3) ls rest)) : W p l e R s m args below meth c H locs cells slots Q (F0 m pc ls (v :: .ref a :: rest)) :=
  va_putF hB.1 hB.2.1 hB.2.2.2.2.2.1 hC.2.1 ty hC.2.2.1 hC.2.2.2 hB.2.2.2.2.1 hW.2.1 hW.1 hW.2.2.1 hW.2.2.2.1 q0 he hC.1 k hk (hB.2.2.2.2.2.1 _ hlink) (fun _ h => h) hfin hin hdecl (hC.2.2.1 k hk) hn hfit hlen hdg (fun H1 locs1 hP hD hS => kk H1 locs1 ⟨hws ▸ hP, hW.2.1, hws ▸ hD, hS, hW.2.2.2.2⟩)
/-- a call of a static method that only reads -/
theorem q_readS (hB : qB p s m args meth c cc nL ret own) (hW : qH D A s H locs ws tys) {y : MethodName} {bytes : ByteArray} {maxL idx : Nat} {rt : Option FieldType} {rm : Room} {wc : va_W} {tc : List (ClassId × FieldType)} {As : List Value} {r : Value} (hM : Met l y (.code y bytes maxL rt :: qw) rm (va_Pc As (qPre D wc tc H.size)) (k2_QcV r) 0 0 (fun _ => False))
    (h1 : Cond.methodLink own idx y ∈ qw) (h2 : Cond.static y ∈ qw) (h4 : Cond.initialized own ∈ qw) (h5 : Cond.code y bytes maxL rt ∈ qw) (n : Nat) (hrm : rm.cells = 0 ∧ rm.slots = 0) (hd : y.cls = own ∧ y.cls ≠ "java/lang/invoke/MethodHandle" ∧ y.cls ≠ "java/lang/invoke/VarHandle" ∧ (parseMethodDescriptor y.desc).map (fun d => d.parameters.length) = some n) (hn : As.length = n) (hR : rm.frames + 1 ≤ R.frames ∧ 8 + (maxL + 11) + rm.locals ≤ R.locals)
    (is ts : List Nat) (hnd : va_nd is = true) (hs : is.map (fun i => ws[i]?) = wc.map some) (hs2 : is.filterMap (fun i => ws[i]?) = wc) (ht : ts.filterMap (fun i => tys[i]?) = tc) (hls : ls.size = nL) (hcat : (rest.map fun v => v.category).sum ≤ 8) (hf : cells ≤ R.cells ∧ slots ≤ R.slots) {st : List Value} (hst : st = As.reverse ++ rest) (hdg : decode cc pc = .ok (.invokestatic idx, 3))
    (kk : W p l e R s m args below meth c H locs cells slots Q (F0 m (pc + 3) ls (r :: rest))) : W p l e R s m args below meth c H locs cells slots Q (F0 m pc ls st) :=
  W.callV (W.runS (g := F0 m pc ls st) ⟨hB.1, hB.2.1, hB.2.2.2.1, hB.2.2.2.2.1, hB.2.2.2.2.2.1⟩ hM (cwS n hB.2.2.2.2.2.1 (qg_S (fun _ h => h) h1 h2 h4 h5) rfl hrm.1 hrm.2 hd hR) ⟨qPre_blind, fun U hU hWm => ⟨rfl, qH_sub hW is ts hnd hs hs2 ht U hU hWm⟩⟩ rfl hn hls hst (lv_room hcat) hdg hf) kk
/-- .. of a method of its own class, or of one that all may call -/
theorem q_readV (hB : qB p s m args meth c cc nL ret own) (hW : qH D A s H locs ws tys) {y : MethodName} {bytes : ByteArray} {maxL idx : Nat} {rt : Option FieldType} {rm : Room} {wc : va_W} {tc : List (ClassId × FieldType)} {As : List Value} {b : Nat} {r : Value} (hM : Met l y (.code y bytes maxL rt :: qw) rm (va_Pc (.ref b :: As) (qPre D wc tc H.size)) (k2_QcV r) 0 0 (fun _ => False))
    {ci q0 : Nat} {cq : vw_C} {fs : List Value} (hc : vwCl[ci]? = some cq) (he : ws[q0]? = some (b, .inr (ci, fs)))
    (h1 : Cond.methodLink own idx y ∈ qw) (h2 : Cond.instanceMethod y ∈ qw) (h3 : Cond.selects cq.1 y y ∈ qw) (h4 : Cond.initialized cq.1 ∈ qw) (h5 : Cond.code y bytes maxL rt ∈ qw) (n : Nat) (hrm : rm.cells = 0 ∧ rm.slots = 0) (hd : y.cls = cq.1 ∧ y.cls ≠ "java/lang/invoke/MethodHandle" ∧ y.cls ≠ "java/lang/invoke/VarHandle" ∧ (parseMethodDescriptor y.desc).map (fun d => d.parameters.length) = some n) (hn : As.length = n) (hR : rm.frames + 1 ≤ R.frames ∧ 8 + (maxL + 11) + rm.locals ≤ R.locals)
    (is ts : List Nat) (hnd : va_nd is = true) (hs : is.map (fun i => ws[i]?) = wc.map some) (hs2 : is.filterMap (fun i => ws[i]?) = wc) (ht : ts.filterMap (fun i => tys[i]?) = tc) (hls : ls.size = nL) (hcat : (rest.map fun v => v.category).sum ≤ 8) (hf : cells ≤ R.cells ∧ slots ≤ R.slots) {st : List Value} (hst : st = As.reverse ++ .ref b :: rest) (hdg : decode cc pc = .ok (.invokevirtual idx, 3))
    (kk : W p l e R s m args below meth c H locs cells slots Q (F0 m (pc + 3) ls (r :: rest))) : W p l e R s m args below meth c H locs cells slots Q (F0 m pc ls st) :=
  W.callV (W.runV (g := F0 m pc ls st) ⟨hB.1, hB.2.1, hB.2.2.2.1, hB.2.2.2.2.1, hB.2.2.2.2.2.1⟩ hM (cwV n hB.2.2.2.2.2.1 (qg_V (fun _ h => h) h1 h2 h3 h4 h5) rfl hrm.1 hrm.2 hd hR) ⟨qPre_blind, va_recv hW.2.1 hW.1 hc he, fun U hU hWm => ⟨rfl, qH_sub hW is ts hnd hs hs2 ht U hU hWm⟩⟩ rfl hn hls hst (lv_room hcat) hdg hf) kk
/-- .. of a private method of a nest mate -/
theorem q_readVN (hB : qB p s m args meth c cc nL ret own) (hW : qH D A s H locs ws tys) {y : MethodName} {bytes : ByteArray} {maxL idx : Nat} {rt : Option FieldType} {rm : Room} {wc : va_W} {tc : List (ClassId × FieldType)} {As : List Value} {b : Nat} {r : Value} (hM : Met l y (.code y bytes maxL rt :: qw) rm (va_Pc (.ref b :: As) (qPre D wc tc H.size)) (k2_QcV r) 0 0 (fun _ => False))
    {ci q0 : Nat} {cq : vw_C} {fs : List Value} (hc : vwCl[ci]? = some cq) (he : ws[q0]? = some (b, .inr (ci, fs)))
    {host : String} (h1 : Cond.methodLinkNest own idx y host ∈ lw_tbl) (h2 : Cond.instanceMethod y ∈ qw) (h3 : Cond.selects cq.1 y y ∈ qw) (h4 : Cond.initialized y.cls ∈ qw) (h5 : Cond.code y bytes maxL rt ∈ qw) (n : Nat) (hrm : rm.cells = 0 ∧ rm.slots = 0) (hd : y.cls ≠ "java/lang/invoke/MethodHandle" ∧ y.cls ≠ "java/lang/invoke/VarHandle" ∧ (parseMethodDescriptor y.desc).map (fun d => d.parameters.length) = some n) (hn : As.length = n) (hR : rm.frames + 1 ≤ R.frames ∧ 8 + (maxL + 11) + rm.locals ≤ R.locals)
    (is ts : List Nat) (hnd : va_nd is = true) (hs : is.map (fun i => ws[i]?) = wc.map some) (hs2 : is.filterMap (fun i => ws[i]?) = wc) (ht : ts.filterMap (fun i => tys[i]?) = tc) (hls : ls.size = nL) (hcat : (rest.map fun v => v.category).sum ≤ 8) (hf : cells ≤ R.cells ∧ slots ≤ R.slots) {st : List Value} (hst : st = As.reverse ++ .ref b :: rest) (hdg : decode cc pc = .ok (.invokevirtual idx, 3))
    (kk : W p l e R s m args below meth c H locs cells slots Q (F0 m (pc + 3) ls (r :: rest))) : W p l e R s m args below meth c H locs cells slots Q (F0 m pc ls st) :=
  W.callV (va_Run.run (va_runVN (g := F0 m pc ls st) (C := cq.1) ⟨hB.1, hB.2.1, hB.2.2.2.1, hB.2.2.2.2.1, hB.2.2.2.2.2.1⟩ hM ⟨va_cnB n hB.2.2.2.2.2.1 (qg_I (fun _ h => h) h5) rfl hrm.1 hrm.2 (hW.2.2.2.2.2.1 _ h1 rfl) (hB.2.2.2.2.2.1 _ h4) hd hR, hB.2.2.2.2.2.1 _ h2, hB.2.2.2.2.2.1 _ h3⟩ ⟨qPre_blind, va_recv hW.2.1 hW.1 hc he, fun U hU hWm => ⟨rfl, qH_sub hW is ts hnd hs hs2 ht U hU hWm⟩⟩ rfl hn hls hst (lv_room hcat) hdg hf)) kk
end QR
end
section
theorem fa_lt' (a b : Int32) : a < b ↔ a.toInt < b.toInt := Int32.lt_iff_toInt_lt
theorem qwide_lt (a b : Int32) : a.toInt64 < b.toInt64 ↔ a < b := by rw [Int64.lt_iff_toInt_lt, Int32.lt_iff_toInt_lt, Int32.toInt_toInt64, Int32.toInt_toInt64]
theorem qwide_eq (a b : Int32) : a.toInt64 = b.toInt64 ↔ a = b := by rw [← Int64.toInt_inj, ← Int32.toInt_inj, Int32.toInt_toInt64, Int32.toInt_toInt64]
theorem qcm_3 (x y : Int32) : (y < x ∧ lg_cmp x.toInt64 y.toInt64 = 1) ∨ (¬ y < x ∧ x = y ∧ lg_cmp x.toInt64 y.toInt64 = 0) ∨ (¬ y < x ∧ ¬ x = y ∧ x < y ∧ lg_cmp x.toInt64 y.toInt64 = -1) := by
  unfold lg_cmp
  by_cases h1 : y < x
  · exact Or.inl ⟨h1, if_pos ((qwide_lt y x).mpr h1)⟩
  · rw [if_neg (fun q => h1 ((qwide_lt y x).mp q))]
    by_cases h2 : x = y
    · exact Or.inr (Or.inl ⟨h1, h2, if_pos ((qwide_eq x y).mpr h2)⟩)
    · refine Or.inr (Or.inr ⟨h1, h2, ?_, if_neg (fun q => h2 ((qwide_eq x y).mp q))⟩)
      rw [Int32.lt_iff_toInt_lt] at h1 ⊢
      rw [← Int32.toInt_inj] at h2
      omega
theorem qnlt {x y : Int32} (h : x < y) : ¬ y < x ∧ ¬ x = y := by
  rw [Int32.lt_iff_toInt_lt] at h
  rw [Int32.lt_iff_toInt_lt, ← Int32.toInt_inj]
  omega
theorem qcm_lt {x y : Int32} (h : lg_cmp x.toInt64 y.toInt64 < 0) : x < y := by
  rcases qcm_3 x y with ⟨_, q⟩ | ⟨_, _, q⟩ | ⟨_, _, a, q⟩ <;> first | exact a | (rw [q] at h; exact absurd h (by decide))
theorem qcm_nlt {x y : Int32} (h : ¬ lg_cmp x.toInt64 y.toInt64 < 0) : ¬ x < y := by
  rcases qcm_3 x y with ⟨a, q⟩ | ⟨a, b, q⟩ | ⟨_, _, a, q⟩
  · exact (qnlt a).1
  · rw [b]; rw [Int32.lt_iff_toInt_lt]; omega
  · rw [q] at h; exact absurd (by decide) h
theorem qcm_gt {x y : Int32} (h : 0 < lg_cmp x.toInt64 y.toInt64) : y < x := by
  rcases qcm_3 x y with ⟨a, q⟩ | ⟨_, _, q⟩ | ⟨_, _, _, q⟩ <;> first | exact a | (rw [q] at h; exact absurd h (by decide))
theorem qcm_ngt {x y : Int32} (h : ¬ 0 < lg_cmp x.toInt64 y.toInt64) : ¬ y < x := by
  rcases qcm_3 x y with ⟨a, q⟩ | ⟨a, _, q⟩ | ⟨a, _, _, q⟩
  · rw [q] at h; exact absurd (by decide) h
  · exact a
  · exact a
theorem qcm_eq {x y : Int32} (h : lg_cmp x.toInt64 y.toInt64 = 0) : x = y := by
  rcases qcm_3 x y with ⟨_, q⟩ | ⟨_, a, q⟩ | ⟨_, _, _, q⟩ <;> first | exact a | (rw [q] at h; exact absurd h (by decide))
theorem qcm_neq {x y : Int32} (h : ¬ lg_cmp x.toInt64 y.toInt64 = 0) : ¬ x = y := by
  rcases qcm_3 x y with ⟨a, q⟩ | ⟨_, _, q⟩ | ⟨_, a, _, q⟩
  · exact fun e => (qnlt a).2 e.symm
  · rw [q] at h; exact absurd rfl h
  · exact a
/-- what a writer leaves -/
def qPost (D : va_G) (w1 : va_W) (t1 : List (ClassId × FieldType)) (A1 : Nat → Prop) (t : State) : Prop := va_P D vwCl w1 t.heap ∧ va_K D vwCl t1 t ∧ va_D A1 w1
theorem qH_end {D : va_G} {A : Nat → Prop} {s : State} {H : Heap} {locs : List Loc} {ws w1 : va_W} {tys t1 : List (ClassId × FieldType)} (h : qH D A s H locs ws tys) (is ts : List Nat) (hn : va_nd is = true) (hs : is.map (fun i => ws[i]?) = w1.map some) (hs2 : is.filterMap (fun i => ws[i]?) = w1) (ht : ts.filterMap (fun i => tys[i]?) = t1) {t : State} (hh : t.heap = H) (hW : s.WarmedH t.vm) : qPost D w1 t1 A t :=
  ⟨by rw [hh]; exact h.1.sub is hs2, va_K.moved hW.alike (h.2.1.sub ts ht), h.2.2.1.sub is hn hs⟩
theorem qH_join {D : va_G} {A : Nat → Prop} {s t : State} {H H1 : Heap} {locs locs1 : List Loc} {ws wc wr w1 : va_W} {tys t1 : List (ClassId × FieldType)} (h : qH D A s H locs ws tys) (isC isR : List Nat) (hC : isC.map (fun i => ws[i]?) = wc.map some) (hR : isR.map (fun i => ws[i]?) = wr.map some) (hn : va_nd isR = true) (hdis : ∀ i ∈ isR, i ∉ isC)
    (ht : t.heap = H1) (hvm : s.vm.Alike t.vm) (hp : qPost D w1 t1 (va_A wc H.size) t) (hk : ∀ q : Nat, q < H.size → ¬ va_A wc H.size q → H1[q]? = H[q]?) (hS1 : va_S A s.heap H1 locs1) : qH D A s H1 locs1 (wr ++ w1) (tys ++ t1) := by
  obtain ⟨hP, hK, hD, hS, hA, hE⟩ := h
  obtain ⟨hP1, hK1, hD1⟩ := hp
  have hF := va_free (wc := wc) hD hS hA isC hC
  obtain ⟨a, b⟩ := va_join (wr := wr) (w1 := w1) hP hD isC isR hC hR hn hdis hk hF (ht ▸ hP1) hD1
  exact ⟨a, hK.app (va_K.moved hvm.symm hK1), b, hS1, hA, hE⟩
theorem qH_free {D : va_G} {A : Nat → Prop} {s : State} {H : Heap} {locs : List Loc} {ws wc : va_W} {tys : List (ClassId × FieldType)} (h : qH D A s H locs ws tys) (isC : List Nat) (hC : isC.map (fun i => ws[i]?) = wc.map some) : ∀ q, va_A wc H.size q → A q := va_free h.2.2.1 h.2.2.2.1 h.2.2.2.2.1 isC hC
section QC
variable {p : Program} {l : Launch} {e : Env} {R : Room} {s : State} {m : MethodId} {args : Array Value} {below : List Frame} {meth : Method} {c : Code} {H : Heap} {locs : List Loc} {cells slots : Nat} {Q : State → Prop}
variable {cc : ByteArray} {nL pc : Nat} {ret : Option FieldType} {own : String} {ls : Array Slot} {rest : List Value} {D : va_G} {A : Nat → Prop} {ws : va_W} {tys : List (ClassId × FieldType)}
theorem q_callFV {r : Value} {a : Array Value} {st0 : List Value} (hr : va_Run5 p l e R s m args below meth c H locs cells slots 0 0 (F0 m pc ls st0) rest (k2_QcV r a) (fun _ => False)) (kk : W p l e R s m args below meth c H locs cells slots Q (F0 m (pc + 5) ls (r :: rest))) : W p l e R s m args below meth c H locs cells slots Q (F0 m pc ls st0) := by
  intro T hT X
  obtain ⟨v, st₀, t, T', L, h0, X', hL, e1, -, ⟨hv, hh⟩, st⟩ := hr T hT X
  cases hv
  obtain ⟨t2, a1, b1⟩ := kk T' (by rw [e1, hh, h0]) (Stand.forget X' (fun q h => (hL q h).elim))
  exact ⟨t2, st t2 a1, b1⟩
/-- by an interface, a method that only reads -/
theorem q_readF (hB : qB p s m args meth c cc nL ret own) (hW : qH D A s H locs ws tys) {x y : MethodName} {bytes : ByteArray} {maxL idx count : Nat} {rt : Option FieldType} {rm : Room} {wc : va_W} {tc : List (ClassId × FieldType)} {As : List Value} {b : Nat} {r : Value} (hM : Met l y (.code y bytes maxL rt :: qw) rm (va_Pc (.ref b :: As) (qPre D wc tc H.size)) (k2_QcV r) 0 0 (fun _ => False))
    {ci q0 : Nat} {cq : vw_C} {fs : List Value} (hc : vwCl[ci]? = some cq) (he : ws[q0]? = some (b, .inr (ci, fs)))
    (h1 : Cond.methodLink own idx x ∈ qw) (h2 : Cond.instanceMethod y ∈ qw) (h3 : Cond.selects cq.1 x y ∈ qw) (h4 : Cond.initialized y.cls ∈ qw) (h5 : Cond.code y bytes maxL rt ∈ qw) (hF : va_Fw cq.1 x y s) (n : Nat) (hrm : rm.cells = 0 ∧ rm.slots = 0) (hd : x.cls ≠ "java/lang/invoke/MethodHandle" ∧ x.cls ≠ "java/lang/invoke/VarHandle" ∧ (parseMethodDescriptor x.desc).map (fun d => d.parameters.length) = some n) (hn : As.length = n) (hR : rm.frames + 1 ≤ R.frames ∧ 8 + (maxL + 11) + rm.locals ≤ R.locals)
    (is ts : List Nat) (hnd : va_nd is = true) (hs : is.map (fun i => ws[i]?) = wc.map some) (hs2 : is.filterMap (fun i => ws[i]?) = wc) (ht : ts.filterMap (fun i => tys[i]?) = tc) (hls : ls.size = nL) (hcat : (rest.map fun v => v.category).sum ≤ 8) (hf : cells ≤ R.cells ∧ slots ≤ R.slots) {st : List Value} (hst : st = As.reverse ++ .ref b :: rest) (hdg : decode cc pc = .ok (.invokeinterface idx count, 5))
    (kk : W p l e R s m args below meth c H locs cells slots Q (F0 m (pc + 5) ls (r :: rest))) : W p l e R s m args below meth c H locs cells slots Q (F0 m pc ls st) :=
  q_callFV (va_runF (g := F0 m pc ls st) (hW.2.1.1 ci cq hc).2 ⟨hB.1, hB.2.1, hB.2.2.2.1, hB.2.2.2.2.1, hB.2.2.2.2.2.1⟩ hM (va_cwF n hB.2.2.2.2.2.1 (qg_of (fun _ h => h) (fun w hw => by
    rcases List.mem_append.mp hw with h | h
    · rcases List.mem_cons.mp h with rfl | h
      · exact h1
      · rcases List.mem_cons.mp h with rfl | h
        · exact h3
        · rcases List.mem_cons.mp h with rfl | h
          · exact h2
          · rcases List.mem_cons.mp h with rfl | h
            · exact h4
            · exact absurd h List.not_mem_nil
    · exact qg_c h5 w h)) rfl hrm.1 hrm.2 hF hd hR) ⟨qPre_blind, va_recv hW.2.1 hW.1 hc he, fun U hU hWm => ⟨rfl, qH_sub hW is ts hnd hs hs2 ht U hU hWm⟩⟩ rfl hn hls hst (lv_room hcat) hdg hf) kk
/-- the runs of the other calls, by the words -/
theorem q_runV (hB : qB p s m args meth c cc nL ret own) (hW : qH D A s H locs ws tys) {y : MethodName} {bytes : ByteArray} {maxL idx mc ms : Nat} {rt : Option FieldType} {rm : Room} {wc : va_W} {tc : List (ClassId × FieldType)} {As : List Value} {b : Nat} {Qc : Array Value → State → Outcome → State → Prop} {free : Addr → Prop} (hM : Met l y (.code y bytes maxL rt :: qw) rm (va_Pc (.ref b :: As) (qPre D wc tc H.size)) Qc mc ms free)
    {ci q0 : Nat} {cq : vw_C} {fs : List Value} (hc : vwCl[ci]? = some cq) (he : ws[q0]? = some (b, .inr (ci, fs)))
    (h1 : Cond.methodLink own idx y ∈ qw) (h2 : Cond.instanceMethod y ∈ qw) (h3 : Cond.selects cq.1 y y ∈ qw) (h4 : Cond.initialized cq.1 ∈ qw) (h5 : Cond.code y bytes maxL rt ∈ qw) (n : Nat) (hrm : rm.cells = mc ∧ rm.slots = ms) (hd : y.cls = cq.1 ∧ y.cls ≠ "java/lang/invoke/MethodHandle" ∧ y.cls ≠ "java/lang/invoke/VarHandle" ∧ (parseMethodDescriptor y.desc).map (fun d => d.parameters.length) = some n) (hn : As.length = n) (hR : rm.frames + 1 ≤ R.frames ∧ 8 + (maxL + 11) + rm.locals ≤ R.locals)
    (is ts : List Nat) (hnd : va_nd is = true) (hs : is.map (fun i => ws[i]?) = wc.map some) (hs2 : is.filterMap (fun i => ws[i]?) = wc) (ht : ts.filterMap (fun i => tys[i]?) = tc) (hls : ls.size = nL) (hcat : (rest.map fun v => v.category).sum ≤ 8) (hf : cells + mc ≤ R.cells ∧ slots + ms ≤ R.slots) {st : List Value} (hst : st = As.reverse ++ .ref b :: rest) (hdg : decode cc pc = .ok (.invokevirtual idx, 3)) :
    va_Run p l e R s m args below meth c H locs cells slots mc ms (F0 m pc ls st) rest (Qc (Value.ref b :: As).toArray) free :=
  va_runV (g := F0 m pc ls st) ⟨hB.1, hB.2.1, hB.2.2.2.1, hB.2.2.2.2.1, hB.2.2.2.2.2.1⟩ hM (cwV n hB.2.2.2.2.2.1 (qg_V (fun _ h => h) h1 h2 h3 h4 h5) rfl hrm.1 hrm.2 hd hR) ⟨qPre_blind, va_recv hW.2.1 hW.1 hc he, fun U hU hWm => ⟨rfl, qH_sub hW is ts hnd hs hs2 ht U hU hWm⟩⟩ rfl hn hls hst (lv_room hcat) hdg hf
theorem q_runVN (hB : qB p s m args meth c cc nL ret own) (hW : qH D A s H locs ws tys) {y : MethodName} {bytes : ByteArray} {maxL idx mc ms : Nat} {rt : Option FieldType} {rm : Room} {wc : va_W} {tc : List (ClassId × FieldType)} {As : List Value} {b : Nat} {Qc : Array Value → State → Outcome → State → Prop} {free : Addr → Prop} (hM : Met l y (.code y bytes maxL rt :: qw) rm (va_Pc (.ref b :: As) (qPre D wc tc H.size)) Qc mc ms free)
    {ci q0 : Nat} {cq : vw_C} {fs : List Value} (hc : vwCl[ci]? = some cq) (he : ws[q0]? = some (b, .inr (ci, fs)))
    {host : String} (h1 : Cond.methodLinkNest own idx y host ∈ lw_tbl) (h2 : Cond.instanceMethod y ∈ qw) (h3 : Cond.selects cq.1 y y ∈ qw) (h4 : Cond.initialized y.cls ∈ qw) (h5 : Cond.code y bytes maxL rt ∈ qw) (n : Nat) (hrm : rm.cells = mc ∧ rm.slots = ms) (hd : y.cls ≠ "java/lang/invoke/MethodHandle" ∧ y.cls ≠ "java/lang/invoke/VarHandle" ∧ (parseMethodDescriptor y.desc).map (fun d => d.parameters.length) = some n) (hn : As.length = n) (hR : rm.frames + 1 ≤ R.frames ∧ 8 + (maxL + 11) + rm.locals ≤ R.locals)
    (is ts : List Nat) (hnd : va_nd is = true) (hs : is.map (fun i => ws[i]?) = wc.map some) (hs2 : is.filterMap (fun i => ws[i]?) = wc) (ht : ts.filterMap (fun i => tys[i]?) = tc) (hls : ls.size = nL) (hcat : (rest.map fun v => v.category).sum ≤ 8) (hf : cells + mc ≤ R.cells ∧ slots + ms ≤ R.slots) {st : List Value} (hst : st = As.reverse ++ .ref b :: rest) (hdg : decode cc pc = .ok (.invokevirtual idx, 3)) :
    va_Run p l e R s m args below meth c H locs cells slots mc ms (F0 m pc ls st) rest (Qc (Value.ref b :: As).toArray) free :=
  va_runVN (g := F0 m pc ls st) (C := cq.1) ⟨hB.1, hB.2.1, hB.2.2.2.1, hB.2.2.2.2.1, hB.2.2.2.2.2.1⟩ hM ⟨va_cnB n hB.2.2.2.2.2.1 (qg_I (fun _ h => h) h5) rfl hrm.1 hrm.2 (hW.2.2.2.2.2.1 _ h1 rfl) (hB.2.2.2.2.2.1 _ h4) hd hR, hB.2.2.2.2.2.1 _ h2, hB.2.2.2.2.2.1 _ h3⟩ ⟨qPre_blind, va_recv hW.2.1 hW.1 hc he, fun U hU hWm => ⟨rfl, qH_sub hW is ts hnd hs hs2 ht U hU hWm⟩⟩ rfl hn hls hst (lv_room hcat) hdg hf
/-- an object's constructor: one that all may call, and a nest mate's -/
theorem q_runI (hB : qB p s m args meth c cc nL ret own) (hW : qH D A s H locs ws tys) {y : MethodName} {bytes : ByteArray} {maxL idx mc ms : Nat} {rm : Room} {wc : va_W} {tc : List (ClassId × FieldType)} {As : List Value} {b : Nat} {Qc : Array Value → State → Outcome → State → Prop} {free : Addr → Prop} (hM : Met l y (.code y bytes maxL none :: qw) rm (va_Pc (.ref b :: As) (qPre D wc tc H.size)) Qc mc ms free)
    (h1 : Cond.methodLink own idx y ∈ qw) (h2 : Cond.instanceMethod y ∈ qw) (h4 : Cond.initialized y.cls ∈ qw) (h5 : Cond.code y bytes maxL none ∈ qw) (hy : y.name = "<init>") (n : Nat) (hrm : rm.cells = mc ∧ rm.slots = ms) (hd : y.cls ≠ "java/lang/invoke/MethodHandle" ∧ y.cls ≠ "java/lang/invoke/VarHandle" ∧ (parseMethodDescriptor y.desc).map (fun d => d.parameters.length) = some n) (hn : As.length = n) (hR : rm.frames + 1 ≤ R.frames ∧ 8 + (maxL + 11) + rm.locals ≤ R.locals)
    (is ts : List Nat) (hnd : va_nd is = true) (hs : is.map (fun i => ws[i]?) = wc.map some) (hs2 : is.filterMap (fun i => ws[i]?) = wc) (ht : ts.filterMap (fun i => tys[i]?) = tc) (hls : ls.size = nL) (hcat : (rest.map fun v => v.category).sum ≤ 8) (hf : cells + mc ≤ R.cells ∧ slots + ms ≤ R.slots) {st : List Value} (hst : st = As.reverse ++ .ref b :: rest) (hdg : decode cc pc = .ok (.invokespecial idx, 3)) :
    va_Run p l e R s m args below meth c H locs cells slots mc ms (F0 m pc ls st) rest (Qc (Value.ref b :: As).toArray) free :=
  va_runI (g := F0 m pc ls st) ⟨hB.1, hB.2.1, hB.2.2.2.1, hB.2.2.2.2.1, hB.2.2.2.2.2.1⟩ hM (cwI n hB.2.2.2.2.2.1 (qg_I (fun _ h => h) h5) rfl hrm.1 hrm.2 (hB.2.2.2.2.2.1 _ h4) (hB.2.2.2.2.2.1 _ h1) (hB.2.2.2.2.2.1 _ h2) hy hd hR) ⟨qPre_blind, fun U hU hWm => ⟨rfl, qH_sub hW is ts hnd hs hs2 ht U hU hWm⟩⟩ rfl hn hls hst (lv_room hcat) hdg hf
theorem q_runIN (hB : qB p s m args meth c cc nL ret own) (hW : qH D A s H locs ws tys) {y : MethodName} {bytes : ByteArray} {maxL idx mc ms : Nat} {rm : Room} {wc : va_W} {tc : List (ClassId × FieldType)} {As : List Value} {b : Nat} {Qc : Array Value → State → Outcome → State → Prop} {free : Addr → Prop} (hM : Met l y (.code y bytes maxL none :: qw) rm (va_Pc (.ref b :: As) (qPre D wc tc H.size)) Qc mc ms free)
    {host : String} (h1 : Cond.methodLinkNest own idx y host ∈ lw_tbl) (h2 : Cond.instanceMethod y ∈ qw) (h4 : Cond.initialized y.cls ∈ qw) (h5 : Cond.code y bytes maxL none ∈ qw) (hy : y.name = "<init>") (n : Nat) (hrm : rm.cells = mc ∧ rm.slots = ms) (hd : y.cls ≠ "java/lang/invoke/MethodHandle" ∧ y.cls ≠ "java/lang/invoke/VarHandle" ∧ (parseMethodDescriptor y.desc).map (fun d => d.parameters.length) = some n) (hn : As.length = n) (hR : rm.frames + 1 ≤ R.frames ∧ 8 + (maxL + 11) + rm.locals ≤ R.locals)
    (is ts : List Nat) (hnd : va_nd is = true) (hs : is.map (fun i => ws[i]?) = wc.map some) (hs2 : is.filterMap (fun i => ws[i]?) = wc) (ht : ts.filterMap (fun i => tys[i]?) = tc) (hls : ls.size = nL) (hcat : (rest.map fun v => v.category).sum ≤ 8) (hf : cells + mc ≤ R.cells ∧ slots + ms ≤ R.slots) {st : List Value} (hst : st = As.reverse ++ .ref b :: rest) (hdg : decode cc pc = .ok (.invokespecial idx, 3)) :
    va_Run p l e R s m args below meth c H locs cells slots mc ms (F0 m pc ls st) rest (Qc (Value.ref b :: As).toArray) free :=
  va_runIN (g := F0 m pc ls st) ⟨hB.1, hB.2.1, hB.2.2.2.1, hB.2.2.2.2.1, hB.2.2.2.2.2.1⟩ hM ⟨va_cnB n hB.2.2.2.2.2.1 (qg_I (fun _ h => h) h5) rfl hrm.1 hrm.2 (hW.2.2.2.2.2.1 _ h1 rfl) (hB.2.2.2.2.2.1 _ h4) hd hR, hy, hB.2.2.2.2.2.1 _ h2⟩ ⟨qPre_blind, fun U hU hWm => ⟨rfl, qH_sub hW is ts hnd hs hs2 ht U hU hWm⟩⟩ rfl hn hls hst (lv_room hcat) hdg hf
/-- behind a writer that answers an int that is known, and behind one that answers nothing -/
theorem q_wi {wc wr w1 : va_W} {t1 : List (ClassId × FieldType)} {a : Array Value} {st : List Value} {mc ms : Nat} {r0 : Int32} (hW : qH D A s H locs ws tys) (hr : va_Run p l e R s m args below meth c H locs cells slots mc ms (F0 m pc ls st) rest (va_Qi (fun (r : Int32) (_ : Unit) => r = r0) (fun _ => qPost D w1 t1 (va_A wc H.size)) (va_A wc H.size) a) (va_A wc H.size))
    (isC isR : List Nat) (hC : isC.map (fun i => ws[i]?) = wc.map some) (hR : isR.map (fun i => ws[i]?) = wr.map some) (hn : va_nd isR = true) (hdis : ∀ i ∈ isR, i ∉ isC)
    (kk : ∀ (H1 : Heap) (locs1 : List Loc), qH D A s H1 locs1 (wr ++ w1) (tys ++ t1) → W p l e R s m args below meth c H1 locs1 (cells + mc) (slots + ms) Q (F0 m (pc + 3) ls (.int r0 :: rest))) : W p l e R s m args below meth c H locs cells slots Q (F0 m pc ls st) :=
  va_calli hr hW.2.2.2.1 (fun q _ h => qH_free hW isC hC q h) (qH_free hW isC hC) (fun r _ t H1 locs1 ht hvm hw hb _ hk hS1 => hw ▸ kk H1 locs1 (qH_join hW isC isR hC hR hn hdis ht hvm hb hk hS1))
theorem q_wv {wc wr w1 : va_W} {t1 : List (ClassId × FieldType)} {a : Array Value} {st : List Value} {mc ms : Nat} (hW : qH D A s H locs ws tys) (hr : va_Run p l e R s m args below meth c H locs cells slots mc ms (F0 m pc ls st) rest (va_Qv (fun (_ : Unit) => True) (fun _ => qPost D w1 t1 (va_A wc H.size)) (va_A wc H.size) a) (va_A wc H.size))
    (isC isR : List Nat) (hC : isC.map (fun i => ws[i]?) = wc.map some) (hR : isR.map (fun i => ws[i]?) = wr.map some) (hn : va_nd isR = true) (hdis : ∀ i ∈ isR, i ∉ isC)
    (kk : ∀ (H1 : Heap) (locs1 : List Loc), qH D A s H1 locs1 (wr ++ w1) (tys ++ t1) → W p l e R s m args below meth c H1 locs1 (cells + mc) (slots + ms) Q (F0 m (pc + 3) ls rest)) : W p l e R s m args below meth c H locs cells slots Q (F0 m pc ls st) :=
  va_callv hr hW.2.2.2.1 (fun q _ h => qH_free hW isC hC q h) (qH_free hW isC hC) (fun _ t H1 locs1 ht hvm _ hb _ hk hS1 => kk H1 locs1 (qH_join hW isC isR hC hR hn hdis ht hvm hb hk hS1))
end QC
end
section
section QCT
variable {p : Program} {l : Launch} {e : Env} {R : Room} {s : State} {m₀ : MethodId} {args : Array Value} {below : List Frame} {meth : Method} {c : Code} {W : State} {locs : List Loc} {cells slots : Nat}
set_option maxHeartbeats 1000000 in
/-- a constructor that hands its text on to a class above, its own call at any place of its pool (follows the library's ctorThrowS, which has it at 7) -/
theorem qx_ctorThrow {ix : Nat} {rx : ByteArray} (x0 : decode rx 0 = .ok (.aload_n 0, 1)) (x1 : decode rx 1 = .ok (.aload_n 1, 1)) (x2 : decode rx 2 = .ok (.invokespecial ix, 3)) (x5 : decode rx 5 = .ok (.return_, 1)) (X : Stand p l e R s m₀ args below meth c W locs cells slots) (hexec : p.tables.exec = Jvm.exec) (htr : e.platform.stackTraces = false) {own cls : String} {names : List String} {ic : Nat}
    (hown : s.vm.findClass own = some m₀.cls) (hcls : Bundle.fit cls = true) (hnames : ∀ n ∈ names, Bundle.fit n = true)
    (h : ∀ a ∈ Bundle.ownAtomsX own ic cls ix rx names, a.before args s = true)
    (hlocs : ∀ x ∈ locs, ∀ cell, s.heap[x.base]? = some cell → cell.vm.isStatics = false)
    {a : Addr} {cX : ClassId} {kX : Class} (hfoundX : s.vm.findClass cls = some cX) (hkX : s.vm.classes[cX]? = some kX) (hcell : W.heap[a]? = some (freshCell cX kX)) (hnew : s.heap.size ≤ a)
    {msg : Value} (hmsg : msg.isRef = true)
    {g : JFrame} (hg : g.method = m₀) (hsize : g.locals.size = c.maxLocals) (hlocked : g.locked = none) (hentered : g.entered = []) {rest : List Value} (hstack : g.stack = msg :: .ref a :: .ref a :: rest)
    (hd6 : decode c.code g.pc = .ok (.invokespecial ic, 3)) (hd9 : decode c.code (g.pc + 3) = .ok (.athrow, 1)) (hout : ∀ x ∈ c.exceptionTable.toList, covers x (g.pc + 3) = false)
    (hRframes : names.length + 3 < R.frames) (hRlocals : 2 * g.monitorRoom + ((Value.ref a :: rest).map fun v => v.category).sum + (13 * (names.length + 1) + 42) ≤ R.locals) (hlocks : meth.locks = false := by first | assumption | exact BodyLoose.notSynchronized (by assumption) | exact Body.notSynchronized (by assumption)) :
    ∃ U : State, Steps p.tables e below (W.setTop g) U ∧ U.status = .running ∧ Ended U below (.threw a) ∧ s.WarmedH U.vm ∧ s.sameButNew ({ U with vm := s.vm } : State) locs cells slots ∧
      ∃ ce : Cell, U.heap[a]? = some ce ∧ ce.vm = .none ∧ s.vm.findClass cls = some ce.cls := by
  have howns : e.platform.frameOwnsMonitors = true := by rw [X.admits.platform]
  have hfin : e.platform.finalization = false := by rw [X.admits.platform]
  have hpl : e.platform.magicAccessors = ({} : Platform).magicAccessors := by rw [X.admits.platform]
  have a' : ∀ x, x ∈ Bundle.ownAtomsX own ic cls ix rx names → x.holds args s none s [] = true := fun x hx => h x hx
  obtain ⟨T, Z0, L, -, Y⟩ := ThrowableC.of_atoms (args := args) howns hfin hpl (fun x hx => h x (by simp [Bundle.ownAtomsX, hx]))
  obtain ⟨Z, M, LZ, LM, hnZ⟩ := Init0T.ofS_atoms (args := args) hpl L Y (fun x hx => h x (by simp [Bundle.ownAtomsX, hx]))
  obtain ⟨P1, Ps, hlen, L1, hL, hP1m, hlink1, hlink⟩ := Bundle.chainSX (args := args) hpl hnZ x0 x1 x2 x5 names cls hcls hnames (fun x hx => h x (by simp [Bundle.ownAtomsX, hx]))
              
  have hfound : s.vm.findClass cls = some P1.m.cls := findClass_of_methodNamed hP1m
  cases Option.some.inj (hfoundX.symm.trans hfound)
  obtain ⟨c1, kX', hc1, hk, hord, -, -, hn6⟩ := Cond.instantiable_spec (a' (.instantiable cls 6) (by simp [Bundle.ownAtomsX]))
  cases Option.some.inj (hc1.symm.trans hfound)
  cases Option.some.inj (hkX.symm.trans hk)
  have hsel0 : selectMethod e.platform s.vm P1.m.cls T.fill0 = .method T.fill0 := by
    obtain ⟨c2, r2, m2, q1, q2, q3, q4, -⟩ := Cond.selects_spec (a' (.selects cls Bundle.tFill0 Bundle.tFill0) (by simp [Bundle.ownAtomsX]))
    cases Option.some.inj (q1.symm.trans hfound)
    cases Option.some.inj (q2.symm.trans (State.methodFound?_of_named Y.fill0 (by decide)))
    cases Option.some.inj (q3.symm.trans Y.fill0)
    rw [Launch.admits_selectMethod X.admits]; exact q4
  have hselF : selectMethod e.platform s.vm P1.m.cls T.fill = .method T.fill := by
    obtain ⟨c2, r2, m2, q1, q2, q3, q4, -⟩ := Cond.selects_spec (a' (.selects cls Bundle.tFill Bundle.tFill) (by simp [Bundle.ownAtomsX]))
    cases Option.some.inj (q1.symm.trans hfound)
    cases Option.some.inj (q2.symm.trans (State.methodFound?_of_named Y.fill (by decide)))
    cases Option.some.inj (q3.symm.trans Y.fill)
    rw [Launch.admits_selectMethod X.admits]; exact q4
  obtain ⟨cellS0, hcS0, hiss⟩ := Y.statics
  obtain ⟨u0, hu0⟩ := Cond.staticRefV Y.unassigned L.unassignedStatic L.statics hcS0 hiss (a' (.isRef (.static Bundle.tN "UNASSIGNED_STACK" Bundle.steD)) (by simp [Bundle.ownAtomsX]))
  obtain ⟨sen, hsen⟩ := Cond.staticRefV Y.sentinel L.sentinelStatic L.statics hcS0 hiss (a' (.isRef (.static Bundle.tN "SUPPRESSED_SENTINEL" Bundle.listD)) (by simp [Bundle.ownAtomsX]))
  obtain ⟨ci198, i198, fB, hk198, hg198, ha198, hsB, -, hnB, htB, hffB⟩ := Cond.ownField (t := .object "java/lang/Object") Y.found L.cls (by decide +kernel) (a' (.fieldLink Bundle.tN 198 Bundle.tN "backtrace" "Ljava/lang/Object;") (by simp [Bundle.ownAtomsX])) (a' (.lays Bundle.tN Bundle.tN "backtrace" "Ljava/lang/Object;") (by simp [Bundle.ownAtomsX])) e.platform hpl
  obtain ⟨cellS, hcS', heS, -, hkeep⟩ := X.same.2.2.2.2.2 T.aS cellS0 hcS0
  have hcellS : W.heap[T.aS]? = some cellS := hcS'
  have hout' : ∀ i, (⟨T.aS, i⟩ : Loc) ∉ locs := fun i hmem => by
    have := hlocs _ hmem cellS0 hcS0
    rw [hiss] at this; cases this
  have hknownS : cellS.vm ≠ .unknown := by
    rw [heS]; intro hu
    rw [show cellS0.vm = .unknown from hu] at hiss
    cases hiss
  have hneS : T.aS ≠ a := Nat.ne_of_lt (Nat.lt_of_lt_of_le (Array.getElem?_eq_some_iff.mp hcS0).1 hnew)
  obtain ⟨iM, hffM⟩ := Y.msg
  obtain ⟨tyC, dC, hdC, hdnC⟩ := Cond.laysAt hfound hk Y.cause (a' (.lays cls Bundle.tN "cause" "Ljava/lang/Throwable;") (by simp [Bundle.ownAtomsX]))
  obtain ⟨tyS, dS, hdS, hdnS⟩ := Cond.laysAt hfound hk Y.stack (a' (.lays cls Bundle.tN "stackTrace" Bundle.steD) (by simp [Bundle.ownAtomsX]))
  obtain ⟨tyP, dP, hdP, hdnP⟩ := Cond.laysAt hfound hk Y.supp (a' (.lays cls Bundle.tN "suppressedExceptions" Bundle.listD) (by simp [Bundle.ownAtomsX]))
  obtain ⟨tyM, dM, hdM, hdnM⟩ := Cond.laysAt hfound hk hffM (a' (.lays cls Bundle.tN "detailMessage" "Ljava/lang/String;") (by simp [Bundle.ownAtomsX]))
  obtain ⟨tyB, dB, hdB, hdnB⟩ := Cond.laysAt hfound hk hffB (a' (.lays cls Bundle.tN "backtrace" "Ljava/lang/Object;") (by simp [Bundle.ownAtomsX]))
  have bC := Cond.laysApart hdB hdC hdnB hdnC (by rw [hnB, Y.causeName]; decide)
  have bS := Cond.laysApart hdB hdS hdnB hdnS (by rw [hnB, Y.stackName]; decide)
  have bP := Cond.laysApart hdB hdP hdnB hdnP (by rw [hnB, Y.suppName]; decide)
  have hskip : SkipFacts T e.platform s (fun u => u) u0 ((preparedCellV T.toThrowableT (freshCell P1.m.cls kX) a u0 sen).withEntry W.cur) :=
    ⟨{ ci198 := ci198, i198 := i198, fBack := fB }, ⟨hk198, hg198, ha198, hsB⟩, by
      have := fresh_default (c := P1.m.cls) tyB
      rw [htB] at this
      simpa [preparedCellV, Cell.setSlot, Cell.withEntry, Array.getElem?_setIfInBounds, bC, bS, bP, bC.symm, bS.symm, bP.symm, defaultValue] using this, fun _ _ => rfl⟩
                                     
  obtain ⟨tm, methC, cdC, kC, vm₁, hnC, -, -, -, -, -, -, -, hW₁, st1⟩ := Steps.initColdS (tb := p.tables) (e := e) (below := below) (s := s) (U := W) X.here hexec X.warmed hpl hown (t := Bundle.initS cls) rfl rfl (Bundle.fit_spec hcls).2
    (a' (.methodLink own ic (Bundle.initS cls)) (by simp [Bundle.ownAtomsX])) (h (.instanceMethod (Bundle.initS cls)) (by cases names <;> simp [Bundle.ownAtomsX, Bundle.chainSAtomsX, Bundle.passSAtoms])) (bytes := rx) (maxL := 2) (h (.code (Bundle.initS cls) rx 2 none) (by cases names <;> simp [Bundle.ownAtomsX, Bundle.chainSAtomsX, Bundle.passSAtoms]))
    (f := g) hg (a := a) (msg := msg) (rest := .ref a :: rest) hstack hd6
  cases Option.some.inj (hnC.symm.trans hP1m)
  have X₁ := X.noted hW₁
                                 
  obtain ⟨vm₂, X₂, st2⟩ := X₁.ctorMessageOffV hexec (g := { g with stack := .ref a :: rest }) hg hsize T L Z LZ M LM (P1 :: Ps)
    (fun P hP => by rcases List.mem_cons.mp hP with rfl | hP; exact L1; exact hL P hP) ⟨hlink1, hlink⟩ (u0 := u0) (sen := sen) (self := a) hmsg (cell := freshCell P1.m.cls kX) (cellS := cellS)
    hcell (fun _ => by simp) (by simp) rfl rfl hsel0 hselF hcellS hneS hknownS (by rw [hkeep _ (hout' _)]; exact hu0) (by rw [hkeep _ (hout' _)]; exact hsen)
    (Takes.of_laid hk hord tyC (by rw [Y.causeType]; rfl)) (Takes.of_laid hk hord tyS (by rw [Y.stackType]; exact fits_refV_array _ u0)) (Takes.of_laid hk hord tyP (by rw [Y.suppType]; exact fits_refV_object _ sen))
    (Takes.of_laid hk hord tyM (by rw [Y.msgType]; exact fits_refV_object _ ⟨msg, hmsg⟩)) Y.objLocals hskip htr [] hd6
    (by simp only [List.length_cons, hlen]; omega) (by simp only [List.length_cons, hlen]; exact hRlocals)
                                    
  obtain ⟨hwalk, hrun, hended, hWU, hsame⟩ := X₂.athrowLeaves hexec (g := { g with stack := .ref a :: rest, pc := g.pc + 3 }) hg hlocked hentered hout (a := a) (rest := rest) rfl hd9
  have hlt : a < ((W.setVm vm₁).setVm vm₂).heap.size := (Array.getElem?_eq_some_iff.mp hcell).1
  have hU := heapAt_setCell_self (s := (W.setVm vm₁).setVm vm₂) (plainBareV T.toThrowableT (freshCell P1.m.cls kX) a u0 sen msg) hlt
  refine ⟨_, st1 _ (fun acts => ?_), hrun, hended, hWU, hsame.weaken (fun y hy hlt' => ?_) (Nat.le_refl _) (Nat.le_refl _), _, hU, ?_⟩
  · rw [doInvoke_state]
    exact st2 _ hwalk
  · rcases List.mem_append.mp hy with h1 | h1
    · exact h1
    · exfalso
      have hb : y.base = a := by
        simp only [List.mem_cons, List.not_mem_nil, or_false] at h1
        rcases h1 with rfl | rfl | rfl | rfl | rfl <;> rfl
      rw [hb] at hlt'
      exact Nat.not_lt.mpr hnew hlt'
  · exact ⟨rfl, hfound⟩
end QCT
end
section
def qx_atS (own : String) (ic : Nat) (X : String) (ix : Nat) (rx : ByteArray) (names : List String) : List Cond := (Bundle.ownAtomsX own ic X ix rx names).filter vx_no
section QTX
variable {p : Program} {l : Launch} {e : Env} {R : Room} {s : State} {m : MethodId} {args : Array Value} {below : List Frame} {meth : Method} {c : Code} {H : Heap} {locs : List Loc} {cells slots : Nat} {Q : State → Prop}
variable {mc ms : Nat} {free : Addr → Prop} {A0 A1 : Nat → Prop} {H0 : Heap} {a : Array Value} {ls : Array Slot} {st0 rest : List Value}
variable {Qc : Array Value → State → Outcome → State → Prop} {XC : String → State → State → Prop}
theorem qx_throwS {ix : Nat} {rx : ByteArray} (x0 : decode rx 0 = .ok (.aload_n 0, 1)) (x1 : decode rx 1 = .ok (.aload_n 1, 1)) (x2 : decode rx 2 = .ok (.invokespecial ix, 3)) (x5 : decode rx 5 = .ok (.return_, 1)) {cc : ByteArray} {pc : Nat} (hexec : p.tables.exec = Jvm.exec) (hb : c.code = cc) (hl : l.stackTraces = false) {own cls text : String} {names : List String} {ik is ic mc ms sa : Nat} {A : Nat → Prop}
    (hown : s.vm.findClass own = some m.cls) (hcls : Bundle.fit cls = true) (hnames : ∀ n ∈ names, Bundle.fit n = true)
    (hk : (Cond.classLink own ik cls).before args s = true) (hini : (Cond.initialized cls).before args s = true) (hstr : vk_R own is text sa s) (hat : ∀ w ∈ qx_atS own ic cls ix rx names, w.before args s = true)
    (hgood : ∀ w ∈ Cond.classLink own ik cls :: Cond.initialized cls :: qx_atS own ic cls ix rx names, vx_ot w = true)
    (hU : vx_Zq Bundle.tN "UNASSIGNED_STACK" Bundle.steD A s s.heap) (hN : vx_Zq Bundle.tN "SUPPRESSED_SENTINEL" Bundle.listD A s s.heap) (hS : va_S A s.heap H locs) (hsize : ls.size = c.maxLocals)
    (d0 : decode cc pc = .ok (.new ik, 3)) (d3 : decode cc (pc + 3) = .ok (.dup, 1)) (d4 : decode cc (pc + 4) = .ok (.ldc is, 2)) (d6 : decode cc (pc + 6) = .ok (.invokespecial ic, 3)) (d9 : decode cc (pc + 9) = .ok (.athrow, 1))
    (hout : ∀ x ∈ c.exceptionTable.toList, covers x (pc + 9) = false)
    (hRframes : names.length + 3 < R.frames) (hRlocals : (rest.map fun v => v.category).sum + (13 * (names.length + 1) + 43) ≤ R.locals) (hRcells : cells + 1 ≤ R.cells) (hRslots : slots + 6 ≤ R.slots) (hlocks : meth.locks = false)
    (hx : ∀ t : State, s.vm.Alike t.vm → H.size ≤ t.heap.size → (∀ q : Nat, q < H.size → t.heap[q]? = H[q]?) → XC cls s t)
    (hf : ∀ z ∈ locs, free z.base) (hc : cells + 1 ≤ mc) (hs : slots + 6 ≤ ms) :
    W p l e R s m args below meth c H locs cells slots (vx_MQ below Qc XC args s mc ms free) (F0 m pc ls rest) := by
  intro T hT X
  have htr : e.platform.stackTraces = false := (show e.platform.stackTraces = l.stackTraces by rw [X.admits.platform]).trans hl
  have Y := vx_rebase X (R' := { frames := R.frames, locals := R.locals, cells := 1, slots := 6 }) (Nat.le_refl _) (Nat.le_refl _) hRcells hRslots
  obtain ⟨s', hA⟩ : ∃ z, z = (T.setVm s.vm).setFrames (.invoking m args :: below) := ⟨_, rfl⟩
  rw [← hA] at Y
  have hvm : s'.vm = s.vm := by rw [hA]; rfl
  have hhp : s'.heap = H := by rw [hA]; exact hT
  have hW0 : s.WarmedH s'.vm := by rw [hvm]; exact State.WarmedH.refl s
  have hat' : ∀ w ∈ qx_atS own ic cls ix rx names, w.before args s' = true := fun w hw => vx_ot_at hW0 hvm.symm (hgood w (List.mem_cons_of_mem _ (List.mem_cons_of_mem _ hw))) (hat w hw)
  have hk' : (Cond.classLink own ik cls).before args s' = true := vx_ot_at hW0 hvm.symm (hgood _ List.mem_cons_self) hk
  have hini' : (Cond.initialized cls).before args s' = true := vx_ot_at hW0 hvm.symm (hgood _ (List.mem_cons_of_mem _ List.mem_cons_self)) hini
  have hU' : vx_Zq Bundle.tN "UNASSIGNED_STACK" Bundle.steD A s' s'.heap := by rw [hhp]; exact vx_Zq.moved hW0.alike (hU.kept hS.2.1)
  have hN' : vx_Zq Bundle.tN "SUPPRESSED_SENTINEL" Bundle.listD A s' s'.heap := by rw [hhp]; exact vx_Zq.moved hW0.alike (hN.kept hS.2.1)
  have h : ∀ w ∈ Bundle.ownAtomsX own ic cls ix rx names, w.before args s' = true := vx_own hat' (vx_isRefq hU'.1) (vx_isRefq hN'.1) hU'.2.word hN'.2.word
  have hown' : s'.vm.findClass own = some m.cls := by rw [hvm]; exact hown
  have hins : (Cond.instantiable cls 6).before args s' = true := h _ (by simp [Bundle.ownAtomsX])
  obtain ⟨vm₁, cX, kX, hfX, hkX, -, -, X₁, st1⟩ := Y.newCold hexec (own := own) (C := cls) (index := ik) (n := 6) hown' hk' hins hini'
    (g := F0 m pc ls rest) rfl (by rw [hb]; exact d0) (Nat.le_refl _) (Nat.le_refl _)
  generalize hT1 : (T.setVm vm₁).pushCell { cls := cX, slots := kX.instanceTypes.map defaultValue, vm := .none } = T1 at X₁ st1
  have hcat : (Value.ref T.heap.size).category = 1 := rfl
  have hcellA : T1.heap[T.heap.size]? = some (freshCell cX kX) := by rw [← hT1]; exact State.heap_pushCell_size _ _
  have d3' : decode c.code (pc + 3) = .ok (.dup, 1) := by rw [hb]; exact d3
  have d4' : decode c.code (pc + 4) = .ok (.ldc is, 2) := by rw [hb]; exact d4
  have hstr' : vk_R own is text sa s' := vk_R.warm hW0 hstr
  obtain ⟨U, hsteps, hrun, hend, hW, hsame, ce, hce, hO1, hO2⟩ := qx_ctorThrow x0 x1 x2 x5 X₁ hexec htr (own := own) (cls := cls) (names := names) (ic := ic) hown' hcls hnames h (fun x hx => nomatch hx) hfX hkX hcellA (by rw [hhp, hT]; exact Nat.le_refl _) (msg := .ref sa) rfl
    (g := { method := m, pc := pc + 6, locals := ls, stack := .ref sa :: .ref T.heap.size :: .ref T.heap.size :: rest, locked := none }) rfl hsize rfl rfl (rest := rest) rfl
    (by rw [hb]; exact d6) (by rw [hb]; exact d9) hout hRframes (by simp only [List.map_cons, List.sum_cons, hcat]; omega) hlocks
  obtain ⟨f1, f2⟩ := vx_frame hsame
  rw [hhp] at f1 f2
  have hWs : s.WarmedH U.vm := State.WarmedH.trans hW0 hW
  have hcl : s.vm.findClass cls = some ce.cls := by
    have h9 := hO2
    rw [hvm] at h9
    exact h9
  have hall : s.sameButNew ({ U with vm := s.vm } : State) locs mc ms := by
    subst hA
    obtain ⟨e1, e2⟩ := hsame
    rw [State.setFrames_setFrames] at e1
    have h2 : (T.setVm s.vm).sameButNew ({ U with vm := s.vm } : State) [] (0 + 1) (0 + 6) := ⟨e1, e2⟩
    have h3 := X.same.trans h2
    rw [List.append_nil] at h3
    exact h3.mono hc hs
  refine ⟨U, ?_, .threw T.heap.size, hrun, hend, Or.inr ⟨T.heap.size, rfl, cls, ce, locs, hx U hWs.alike f1 (fun q hq => f2 q hq (fun z hz => nomatch hz)), hce, hO1, hcl, hWs, hall, hf⟩⟩
  refine st1 _ ?_
  show Steps p.tables e below (T1.setTop { method := m, pc := pc + 3, locals := ls, stack := .ref T.heap.size :: rest, locked := none }) _
  jvm_step X₁.here [X₁.here.top, hexec, d3', Value.category]
  exact X₁.ldcString hexec (own := own) (text := text) (index := is) (a := sa) hown' hstr'.1 hstr'.2
    (g := { method := m, pc := pc + 4, locals := ls, stack := .ref T.heap.size :: .ref T.heap.size :: rest, locked := none }) rfl d4' _ hsteps

theorem qx_throwSW {ix : Nat} {rx : ByteArray} (x0 : decode rx 0 = .ok (.aload_n 0, 1)) (x1 : decode rx 1 = .ok (.aload_n 1, 1)) (x2 : decode rx 2 = .ok (.invokespecial ix, 3)) (x5 : decode rx 5 = .ok (.return_, 1)) {cc : ByteArray} {pc : Nat} (hexec : p.tables.exec = Jvm.exec) (hb : c.code = cc) (hl : l.stackTraces = false) {own cls text : String} {names : List String} {ik is ic mc ms sa : Nat} {A : Nat → Prop}
    (hown : s.vm.findClass own = some m.cls) (hcls : Bundle.fit cls = true) (hnames : ∀ n ∈ names, Bundle.fit n = true)
    (hk : (Cond.classLink own ik cls).before args s = true) (hini : (Cond.initialized cls).before args s = true) (hstr : vk_R own is text sa s) (hat : ∀ w ∈ qx_atS own ic cls ix rx names, w.before args s = true)
    (hgood : ∀ w ∈ Cond.classLink own ik cls :: Cond.initialized cls :: qx_atS own ic cls ix rx names, vx_ot w = true)
    (hU : vx_Zq Bundle.tN "UNASSIGNED_STACK" Bundle.steD A s s.heap) (hN : vx_Zq Bundle.tN "SUPPRESSED_SENTINEL" Bundle.listD A s s.heap) (hS : va_S A s.heap H locs) (hsize : ls.size = c.maxLocals)
    (d0 : decode cc pc = .ok (.new ik, 3)) (d3 : decode cc (pc + 3) = .ok (.dup, 1)) (d4 : decode cc (pc + 4) = .ok (.ldc_w is, 3)) (d7 : decode cc (pc + 7) = .ok (.invokespecial ic, 3)) (d10 : decode cc (pc + 10) = .ok (.athrow, 1))
    (hout : ∀ x ∈ c.exceptionTable.toList, covers x (pc + 10) = false)
    (hRframes : names.length + 3 < R.frames) (hRlocals : (rest.map fun v => v.category).sum + (13 * (names.length + 1) + 43) ≤ R.locals) (hRcells : cells + 1 ≤ R.cells) (hRslots : slots + 6 ≤ R.slots) (hlocks : meth.locks = false)
    (hx : ∀ t : State, s.vm.Alike t.vm → H.size ≤ t.heap.size → (∀ q : Nat, q < H.size → t.heap[q]? = H[q]?) → XC cls s t)
    (hf : ∀ z ∈ locs, free z.base) (hc : cells + 1 ≤ mc) (hs : slots + 6 ≤ ms) :
    W p l e R s m args below meth c H locs cells slots (vx_MQ below Qc XC args s mc ms free) (F0 m pc ls rest) := by
  intro T hT X
  have htr : e.platform.stackTraces = false := (show e.platform.stackTraces = l.stackTraces by rw [X.admits.platform]).trans hl
  have Y := vx_rebase X (R' := { frames := R.frames, locals := R.locals, cells := 1, slots := 6 }) (Nat.le_refl _) (Nat.le_refl _) hRcells hRslots
  obtain ⟨s', hA⟩ : ∃ z, z = (T.setVm s.vm).setFrames (.invoking m args :: below) := ⟨_, rfl⟩
  rw [← hA] at Y
  have hvm : s'.vm = s.vm := by rw [hA]; rfl
  have hhp : s'.heap = H := by rw [hA]; exact hT
  have hW0 : s.WarmedH s'.vm := by rw [hvm]; exact State.WarmedH.refl s
  have hat' : ∀ w ∈ qx_atS own ic cls ix rx names, w.before args s' = true := fun w hw => vx_ot_at hW0 hvm.symm (hgood w (List.mem_cons_of_mem _ (List.mem_cons_of_mem _ hw))) (hat w hw)
  have hk' : (Cond.classLink own ik cls).before args s' = true := vx_ot_at hW0 hvm.symm (hgood _ List.mem_cons_self) hk
  have hini' : (Cond.initialized cls).before args s' = true := vx_ot_at hW0 hvm.symm (hgood _ (List.mem_cons_of_mem _ List.mem_cons_self)) hini
  have hU' : vx_Zq Bundle.tN "UNASSIGNED_STACK" Bundle.steD A s' s'.heap := by rw [hhp]; exact vx_Zq.moved hW0.alike (hU.kept hS.2.1)
  have hN' : vx_Zq Bundle.tN "SUPPRESSED_SENTINEL" Bundle.listD A s' s'.heap := by rw [hhp]; exact vx_Zq.moved hW0.alike (hN.kept hS.2.1)
  have h : ∀ w ∈ Bundle.ownAtomsX own ic cls ix rx names, w.before args s' = true := vx_own hat' (vx_isRefq hU'.1) (vx_isRefq hN'.1) hU'.2.word hN'.2.word
  have hown' : s'.vm.findClass own = some m.cls := by rw [hvm]; exact hown
  have hins : (Cond.instantiable cls 6).before args s' = true := h _ (by simp [Bundle.ownAtomsX])
  obtain ⟨vm₁, cX, kX, hfX, hkX, -, -, X₁, st1⟩ := Y.newCold hexec (own := own) (C := cls) (index := ik) (n := 6) hown' hk' hins hini'
    (g := F0 m pc ls rest) rfl (by rw [hb]; exact d0) (Nat.le_refl _) (Nat.le_refl _)
  generalize hT1 : (T.setVm vm₁).pushCell { cls := cX, slots := kX.instanceTypes.map defaultValue, vm := .none } = T1 at X₁ st1
  have hcat : (Value.ref T.heap.size).category = 1 := rfl
  have hcellA : T1.heap[T.heap.size]? = some (freshCell cX kX) := by rw [← hT1]; exact State.heap_pushCell_size _ _
  have d3' : decode c.code (pc + 3) = .ok (.dup, 1) := by rw [hb]; exact d3
  have d4' : decode c.code (pc + 4) = .ok (.ldc_w is, 3) := by rw [hb]; exact d4
  have hstr' : vk_R own is text sa s' := vk_R.warm hW0 hstr
  obtain ⟨U, hsteps, hrun, hend, hW, hsame, ce, hce, hO1, hO2⟩ := qx_ctorThrow x0 x1 x2 x5 X₁ hexec htr (own := own) (cls := cls) (names := names) (ic := ic) hown' hcls hnames h (fun x hx => nomatch hx) hfX hkX hcellA (by rw [hhp, hT]; exact Nat.le_refl _) (msg := .ref sa) rfl
    (g := { method := m, pc := pc + 7, locals := ls, stack := .ref sa :: .ref T.heap.size :: .ref T.heap.size :: rest, locked := none }) rfl hsize rfl rfl (rest := rest) rfl
    (by rw [hb]; exact d7) (by rw [hb]; exact d10) hout hRframes (by simp only [List.map_cons, List.sum_cons, hcat]; omega) hlocks
  obtain ⟨f1, f2⟩ := vx_frame hsame
  rw [hhp] at f1 f2
  have hWs : s.WarmedH U.vm := State.WarmedH.trans hW0 hW
  have hcl : s.vm.findClass cls = some ce.cls := by
    have h9 := hO2
    rw [hvm] at h9
    exact h9
  have hall : s.sameButNew ({ U with vm := s.vm } : State) locs mc ms := by
    subst hA
    obtain ⟨e1, e2⟩ := hsame
    rw [State.setFrames_setFrames] at e1
    have h2 : (T.setVm s.vm).sameButNew ({ U with vm := s.vm } : State) [] (0 + 1) (0 + 6) := ⟨e1, e2⟩
    have h3 := X.same.trans h2
    rw [List.append_nil] at h3
    exact h3.mono hc hs
  refine ⟨U, ?_, .threw T.heap.size, hrun, hend, Or.inr ⟨T.heap.size, rfl, cls, ce, locs, hx U hWs.alike f1 (fun q hq => f2 q hq (fun z hz => nomatch hz)), hce, hO1, hcl, hWs, hall, hf⟩⟩
  refine st1 _ ?_
  show Steps p.tables e below (T1.setTop { method := m, pc := pc + 3, locals := ls, stack := .ref T.heap.size :: rest, locked := none }) _
  jvm_step X₁.here [X₁.here.top, hexec, d3', Value.category]
  exact X₁.ldcStringW hexec (own := own) (text := text) (index := is) (a := sa) hown' hstr'.1 hstr'.2
    (g := { method := m, pc := pc + 4, locals := ls, stack := .ref T.heap.size :: .ref T.heap.size :: rest, locked := none }) rfl d4' _ hsteps
end QTX
end
section
theorem qin {i : Int32} {N : Nat} (n : Nat) (h : i = nI n) (hn : n < N) (hN : N < 2 ^ 31) : vp_in i N := h ▸ vp_in_nI hn hN
section QA
variable {p : Program} {l : Launch} {e : Env} {R : Room} {s : State} {m : MethodId} {args : Array Value} {below : List Frame} {meth : Method} {c : Code} {H : Heap} {locs : List Loc} {cells slots : Nat} {Q : State → Prop}
variable {cc : ByteArray} {nL pc : Nat} {ret : Option FieldType} {own : String} {ls : Array Slot} {rest : List Value} {D : va_G} {A : Nat → Prop} {ws : va_W} {tys : List (ClassId × FieldType)}
theorem q_iast (hB : qB p s m args meth c cc nL ret own) (hW : qH D A s H locs ws tys) (q0 t0 : Nat) {a : Nat} {cA : ClassId} {n : Nat} {f : Nat → Int32} (ha : ws[q0]? = some (a, .inl (cA, n, .inl f))) (ht : tys[t0]? = some (cA, .int)) {i : Int32} {x : Int32} (hin : vp_in i n) {ws' : va_W} (hws : ws.set q0 (a, .inl (cA, n, .inl (upd f i.toNatClampNeg x))) = ws') (hdg : decode cc pc = .ok (.iastore, 1))
    (kk : ∀ (H1 : Heap) (locs1 : List Loc), qH D A s H1 locs1 ws' tys → W p l e R s m args below meth c H1 locs1 cells slots Q (F0 m (pc + 1) ls rest)) : W p l e R s m args below meth c H locs cells slots Q (F0 m pc ls (.int x :: .int i :: .ref a :: rest)) :=
  va_iast hB.1 hB.2.1 hW.2.1 hW.1 hW.2.2.1 hW.2.2.2.1 q0 t0 ha ht hin hdg (fun H1 locs1 hP hD hS => kk H1 locs1 ⟨hws ▸ hP, hW.2.1, hws ▸ hD, hS, hW.2.2.2.2⟩)
theorem q_zast (hB : qB p s m args meth c cc nL ret own) (hW : qH D A s H locs ws tys) (q0 t0 : Nat) {a : Nat} {cA : ClassId} {n : Nat} {f : Nat → Int32} (ha : ws[q0]? = some (a, .inl (cA, n, .inl f))) (ht : tys[t0]? = some (cA, .boolean)) {i : Int32} {x : Int32} (hin : vp_in i n) {ws' : va_W} (hws : ws.set q0 (a, .inl (cA, n, .inl (upd f i.toNatClampNeg (vp_nar .boolean x)))) = ws') (hdg : decode cc pc = .ok (.bastore, 1))
    (kk : ∀ (H1 : Heap) (locs1 : List Loc), qH D A s H1 locs1 ws' tys → W p l e R s m args below meth c H1 locs1 cells slots Q (F0 m (pc + 1) ls rest)) : W p l e R s m args below meth c H locs cells slots Q (F0 m pc ls (.int x :: .int i :: .ref a :: rest)) :=
  va_zast hB.1 hB.2.1 hW.2.1 hW.1 hW.2.2.1 hW.2.2.2.1 q0 t0 ha ht hin hdg (fun H1 locs1 hP hD hS => kk H1 locs1 ⟨hws ▸ hP, hW.2.1, hws ▸ hD, hS, hW.2.2.2.2⟩)
theorem q_cast (hB : qB p s m args meth c cc nL ret own) (hW : qH D A s H locs ws tys) (q0 t0 : Nat) {a : Nat} {cA : ClassId} {n : Nat} {f : Nat → Int32} (ha : ws[q0]? = some (a, .inl (cA, n, .inl f))) (ht : tys[t0]? = some (cA, .char)) {i : Int32} {x : Int32} (hin : vp_in i n) {ws' : va_W} (hws : ws.set q0 (a, .inl (cA, n, .inl (upd f i.toNatClampNeg (vp_nar .char x)))) = ws') (hdg : decode cc pc = .ok (.castore, 1))
    (kk : ∀ (H1 : Heap) (locs1 : List Loc), qH D A s H1 locs1 ws' tys → W p l e R s m args below meth c H1 locs1 cells slots Q (F0 m (pc + 1) ls rest)) : W p l e R s m args below meth c H locs cells slots Q (F0 m pc ls (.int x :: .int i :: .ref a :: rest)) :=
  va_cast hB.1 hB.2.1 hW.2.1 hW.1 hW.2.2.1 hW.2.2.2.1 q0 t0 ha ht hin hdg (fun H1 locs1 hP hD hS => kk H1 locs1 ⟨hws ▸ hP, hW.2.1, hws ▸ hD, hS, hW.2.2.2.2⟩)
theorem q_last (hB : qB p s m args meth c cc nL ret own) (hW : qH D A s H locs ws tys) (q0 t0 : Nat) {a : Nat} {cA : ClassId} {n : Nat} {f : Nat → Int64} (ha : ws[q0]? = some (a, .inl (cA, n, .inr (.inl f)))) (ht : tys[t0]? = some (cA, .long)) {i : Int32} {x : Int64} (hin : vp_in i n) {ws' : va_W} (hws : ws.set q0 (a, .inl (cA, n, .inr (.inl (vp_updL f i.toNatClampNeg x)))) = ws') (hdg : decode cc pc = .ok (.lastore, 1))
    (kk : ∀ (H1 : Heap) (locs1 : List Loc), qH D A s H1 locs1 ws' tys → W p l e R s m args below meth c H1 locs1 cells slots Q (F0 m (pc + 1) ls rest)) : W p l e R s m args below meth c H locs cells slots Q (F0 m pc ls (.long x :: .int i :: .ref a :: rest)) :=
  va_last hB.1 hB.2.1 hW.2.1 hW.1 hW.2.2.1 hW.2.2.2.1 q0 t0 ha ht hin hdg (fun H1 locs1 hP hD hS => kk H1 locs1 ⟨hws ▸ hP, hW.2.1, hws ▸ hD, hS, hW.2.2.2.2⟩)
theorem q_astq (hB : qB p s m args meth c cc nL ret own) (hW : qH D A s H locs ws tys) (q0 t0 qk ci : Nat) {a : Nat} {cA : ClassId} {r : vw_C} {n v : Nat} {vs : List Value} {f : Nat → Option Nat} (ha : ws[q0]? = some (a, .inl (cA, n, .inr (.inr (.inr (.inr f)))))) (ht : tys[t0]? = some (cA, .object r.1)) (hv : ws[qk]? = some (v, .inr (ci, vs))) (hc : vwCl[ci]? = some r) {i : Int32} (hin : vp_in i n) {ws' : va_W} (hws : ws.set q0 (a, .inl (cA, n, .inr (.inr (.inr (.inr (va_up f i.toNatClampNeg (some v))))))) = ws') (hdg : decode cc pc = .ok (.aastore, 1))
    (kk : ∀ (H1 : Heap) (locs1 : List Loc), qH D A s H1 locs1 ws' tys → W p l e R s m args below meth c H1 locs1 cells slots Q (F0 m (pc + 1) ls rest)) : W p l e R s m args below meth c H locs cells slots Q (F0 m pc ls (.ref v :: .int i :: .ref a :: rest)) :=
  va_astq hB.1 hB.2.1 hW.2.1 hW.1 hW.2.2.1 hW.2.2.2.1 q0 t0 qk ci ha ht hv hc hin hdg (fun H1 locs1 hP hD hS => kk H1 locs1 ⟨hws ▸ hP, hW.2.1, hws ▸ hD, hS, hW.2.2.2.2⟩)
theorem q_new (hB : qB p s m args meth c cc nL ret own) (hW : qH D A s H locs ws tys) {ci N : Nat} {C : String} {T : u_T} {ty : Nat → FieldType} (hC : qCl ci C T N ty) {idx : Nat} (h1 : Cond.classLink own idx C ∈ qw) (h2 : Cond.instantiable C N ∈ qw) (h3 : Cond.initialized C ∈ qw) {fs : List Value} (hfs : ∀ j, j < N → defaultValue (ty j) = vp_V fs j) (hcells : cells + 1 ≤ R.cells) (hslots : slots + N ≤ R.slots) (hdg : decode cc pc = .ok (.new idx, 3))
    (kk : ∀ (q : Nat) (H1 : Heap), qH D A s H1 locs (ws ++ [(q, .inr (ci, fs))]) tys → W p l e R s m args below meth c H1 locs (cells + 1) (slots + N) Q (F0 m (pc + 3) ls (.ref q :: rest))) : W p l e R s m args below meth c H locs cells slots Q (F0 m pc ls rest) :=
  va_new hB.1 hB.2.1 hB.2.2.2.2.2.1 hC.2.1 ty hC.2.2.1 hB.2.2.2.2.1 (hB.2.2.2.2.2.1 _ h1) (hB.2.2.2.2.2.1 _ h2) (hB.2.2.2.2.2.1 _ h3) hW.2.1 hW.1 hW.2.2.1 hW.2.2.2.1 hW.2.2.2.2.1 hC.1 hfs hcells hslots hdg (fun q H1 hP hD hS => kk q H1 ⟨hP, hW.2.1, hD, hS, hW.2.2.2.2⟩)
theorem q_newa (hB : qB p s m args meth c cc nL ret own) (hW : qH D A s H locs ws tys) {atype : ArrayType} {ty : FieldType} (hty : newarray.typeOf atype = ty) (hw : Cond.arrayClass (newarray.typeOf atype) ∈ qw) {n : Int32} {N' : Nat} {a0 : vp_A} (ha : ∀ cA : ClassId, vp_cell cA a0 = arrV cA N' (fun _ => defaultValue ty)) (hn : ¬ n < 0) (hN : n.toNatClampNeg = N') (hbytes : N' * componentBytes ty ≤ 536870912) (hcells : cells + 1 ≤ R.cells) (hslots : slots + N' ≤ R.slots) (hdg : decode cc pc = .ok (.newarray atype, 2))
    (kk : ∀ (q : Nat) (cA : ClassId) (H1 : Heap), qH D A s H1 locs (ws ++ [(q, .inl (cA, a0))]) (tys ++ [(cA, ty)]) → W p l e R s m args below meth c H1 locs (cells + 1) (slots + N') Q (F0 m (pc + 2) ls (.ref q :: rest))) : W p l e R s m args below meth c H locs cells slots Q (F0 m pc ls (.int n :: rest)) :=
  va_newa hB.1 hB.2.1 (hB.2.2.2.2.2.1 _ hw) hty hW.2.1 hW.1 hW.2.2.1 hW.2.2.2.1 hW.2.2.2.2.1 ha hn hN hbytes hcells hslots hdg (fun q cA H1 hK hP hD hS => kk q cA H1 ⟨hP, hK, hD, hS, hW.2.2.2.2⟩)
theorem q_newq (hB : qB p s m args meth c cc nL ret own) (hW : qH D A s H locs ws tys) {C : String} {idx : Nat} (h1 : Cond.classLink own idx C ∈ qw) (h2 : Cond.arrayOver (.object C) ∈ qw) {n : Int32} {N' : Nat} (hn : ¬ n < 0) (hN : n.toNatClampNeg = N') (hbytes : N' * 4 ≤ 536870912) (hcells : cells + 1 ≤ R.cells) (hslots : slots + N' ≤ R.slots) (hdg : decode cc pc = .ok (.anewarray idx, 3))
    (kk : ∀ (q : Nat) (cA : ClassId) (H1 : Heap), qH D A s H1 locs (ws ++ [(q, .inl (cA, N', .inr (.inr (.inr (.inr (fun _ => none))))))]) (tys ++ [(cA, .object C)]) → W p l e R s m args below meth c H1 locs (cells + 1) (slots + N') Q (F0 m (pc + 3) ls (.ref q :: rest))) : W p l e R s m args below meth c H locs cells slots Q (F0 m pc ls (.int n :: rest)) :=
  va_newq hB.1 hB.2.1 hB.2.2.2.2.1 (hB.2.2.2.2.2.1 _ h1) (va_AO.of (hB.2.2.2.2.2.1 _ h2)) hW.2.1 hW.1 hW.2.2.1 hW.2.2.2.1 hW.2.2.2.2.1 hn hN hbytes hcells hslots hdg (fun q cA H1 hK hP hD hS => kk q cA H1 ⟨hP, hK, hD, hS, hW.2.2.2.2⟩)
theorem q_objInit (hB : qB p s m args meth c cc nL ret own) {idx : Nat} {a : Nat} (h1 : Cond.methodLink own idx objectInit ∈ qw) (h2 : Cond.instanceMethod objectInit ∈ qw) (h3 : Cond.code objectInit ⟨#[0xb1]⟩ 1 none ∈ qw) (hls : ls.size = nL) (hdg : decode cc pc = .ok (.invokespecial idx, 3)) (hRf : 1 ≤ R.frames) (hRl : (rest.map fun v => v.category).sum + 12 ≤ R.locals)
    (kk : W p l e R s m args below meth c H locs cells slots Q (F0 m (pc + 3) ls rest)) : W p l e R s m args below meth c H locs cells slots Q (F0 m pc ls (.ref a :: rest)) := by
  refine W.objInit hB.1 hB.2.1 hB.2.2.2.2.1 (hB.2.2.2.2.2.1 _ h1) (hB.2.2.2.2.2.1 _ h2) (hB.2.2.2.2.2.1 _ h3) rfl (hls.trans hB.2.2.2.1.symm) rfl hdg ?_ ?_ ?_
  · exact hRf
  · show 2 * 0 + (rest.map fun v => v.category).sum + 12 ≤ R.locals
    omega
  · exact kk
end QA
end
section
/-- which exception a call ends with: the j-th of its wrapper's list, where the operation's number is j + 1 -/
def qx (L : List String) (k : Int32) (E : String) : Prop := ∃ j : Nat, L[j]? = some E ∧ k = nI (j + 1)
abbrev qX (P : String → Prop) (A : Nat → Prop) : String → State → State → Prop := vx_X (fun _ : Unit => True) (fun E _ _ => P E) A
theorem q_startX {l : Launch} {y : MethodName} {cc : ByteArray} {n : Nat} {ret : Option FieldType} {rm : Room} {Pre : State → Prop} {av : List Value} {Qc : Array Value → State → Outcome → State → Prop} {XC : String → State → State → Prop} {mc ms : Nat} {free : Addr → Prop} (hy : plainName y.cls = true) (hn : (lg_sl av).length ≤ n)
    (body : ∀ (p : Program) (e : Env) (s : State) (m : MethodId) (below : List Frame) (meth : Method) (c : Code), qB p s m av.toArray meth c cc n ret y.cls → (∀ x ∈ c.exceptionTable.toList, False) → Pre s → ∀ ls : Array Slot, lv_has ls n (lv_args 0 av) →
      W p l e rm s m av.toArray below meth c s.heap [] 0 0 (vx_MQ below Qc XC av.toArray s mc ms free) (F0 m 0 ls [])) :
    vx_Met l y (.code y cc n ret :: qw) rm (va_Pc av Pre) Qc XC mc ms free := by
  refine vx_ofW (cc := cc) (maxL := n) (ret := ret) hy rfl ?_
  intro p e s m args below meth c s₁ B hml hno hv
  obtain ⟨rfl, hpre⟩ := hv
  have hts := atoms_spec (ws := .code y cc n ret :: qw) B.pre
  have hown : s.vm.findClass y.cls = some m.cls := findClass_of_methodNamed B.named
  have hl := lv_entry av (n := n) hn
  rw [lg_entry_eq]
  generalize (lg_sl av ++ List.replicate (n - (lg_sl av).length) Slot.unset).toArray = ls at hl ⊢
  exact body p e s m below meth c ⟨B.exec, B.bytes, B.returns, hml, hown, fun w h => hts w (List.mem_cons_of_mem _ h), B.notSynchronized, rfl⟩ hno hpre ls hl
/-- a method with a table of its own that returns -/
theorem q_startH {l : Launch} {y : MethodName} {cc : ByteArray} {n : Nat} {ret : Option FieldType} {hh : List (Nat × Nat × Nat × Nat)} {rm : Room} {Pre : State → Prop} {av : List Value} {Qc : Array Value → State → Outcome → State → Prop} {mc ms : Nat} {free : Addr → Prop} (hy : plainName y.cls = true) (hn : (lg_sl av).length ≤ n)
    (body : ∀ (p : Program) (e : Env) (s : State) (m : MethodId) (below : List Frame) (meth : Method) (c : Code), qB p s m av.toArray meth c cc n ret y.cls → c.exceptionTable.toList = tableOf hh → Pre s → ∀ ls : Array Slot, lv_has ls n (lv_args 0 av) →
      W p l e rm s m av.toArray below meth c s.heap [] 0 0 (MQ below Qc av.toArray s mc ms free) (F0 m 0 ls [])) :
    Met l y (.codeWith y cc n ret hh :: qw) rm (va_Pc av Pre) Qc mc ms free := by
  refine va_MetW (cc := cc) (maxL := n) (ret := ret) (hh := hh) hy rfl ?_
  intro p e s m args below meth c s₁ B hml hv
  obtain ⟨rfl, hpre⟩ := hv
  have hts := atoms_spec (ws := .codeWith y cc n ret hh :: qw) B.pre
  have hown : s.vm.findClass y.cls = some m.cls := findClass_of_methodNamed B.named
  have htab := vx_table (x := y) B (hts _ List.mem_cons_self)
  have hl := lv_entry av (n := n) hn
  rw [lg_entry_eq]
  generalize (lg_sl av ++ List.replicate (n - (lg_sl av).length) Slot.unset).toArray = ls at hl ⊢
  exact body p e s m below meth c ⟨B.exec, B.bytes, B.returns, hml, hown, fun w h => hts w (List.mem_cons_of_mem _ h), B.notSynchronized, rfl⟩ htab hpre ls hl
section QT
variable {p : Program} {l : Launch} {e : Env} {R : Room} {s : State} {m : MethodId} {args : Array Value} {below : List Frame} {meth : Method} {c : Code} {H : Heap} {locs : List Loc} {cells slots : Nat} {Q : State → Prop}
variable {cc : ByteArray} {nL pc : Nat} {ret : Option FieldType} {own : String} {ls : Array Slot} {rest : List Value} {D : va_G} {A : Nat → Prop} {ws : va_W} {tys : List (ClassId × FieldType)}
theorem qE_at (hB : qB p s m args meth c cc nL ret own) (hW : qH D A s H locs ws tys) {L : List Cond} (h : ∀ w ∈ L, w ∈ lw_tbl ∧ (goodWord w || qn_ok w) = true) : ∀ w ∈ L, w.before args s = true := fun w hw => by
  obtain ⟨h1, h2⟩ := h w hw
  rcases Bool.or_eq_true _ _ |>.mp h2 with h3 | h3
  · exact hB.2.2.2.2.2.1 w (List.mem_filter.mpr ⟨h1, h3⟩)
  · exact va_Nw.use (by cases w <;> first | rfl | simp [qn_ok] at h3) (hW.2.2.2.2.2.1 w h1 h3)
theorem q_throw {Qc : Array Value → State → Outcome → State → Prop} {P : String → Prop} {mc ms : Nat} (hB : qB p s m args meth c cc nL ret own) (hW : qH D A s H locs ws tys) (hfl : l.stackTraces = false) (hno : ∀ x ∈ c.exceptionTable.toList, False)
    {cls text : String} {ik is ic : Nat} (hcls : Bundle.fit cls = true) (hk : Cond.classLink own ik cls ∈ qw) (hini : Cond.initialized cls ∈ qw) (hstr : Cond.stringRef own is text ∈ lw_tbl)
    (hat : ∀ w ∈ vx_atS own ic cls ["java/lang/RuntimeException", "java/lang/Exception"], w ∈ lw_tbl ∧ (goodWord w || qn_ok w) = true) (hgood : ∀ w ∈ Cond.classLink own ik cls :: Cond.initialized cls :: vx_atS own ic cls ["java/lang/RuntimeException", "java/lang/Exception"], vx_ot w = true) (hls : ls.size = nL)
    (d0 : decode cc pc = .ok (.new ik, 3)) (d3 : decode cc (pc + 3) = .ok (.dup, 1)) (d4 : decode cc (pc + 4) = .ok (.ldc is, 2)) (d6 : decode cc (pc + 6) = .ok (.invokespecial ic, 3)) (d9 : decode cc (pc + 9) = .ok (.athrow, 1))
    (hRf : 5 < R.frames) (hRl : (rest.map fun v => v.category).sum + 82 ≤ R.locals) (hRc : cells + 1 ≤ R.cells) (hRs : slots + 6 ≤ R.slots) (hc : cells + 1 ≤ mc) (hs : slots + 6 ≤ ms) (hP : P cls) :
    W p l e R s m args below meth c H locs cells slots (vx_MQ below Qc (qX P A) args s mc ms A) (F0 m pc ls rest) := by
  obtain ⟨sa, hsa⟩ := hW.2.2.2.2.2.2.2.2.1 _ _ _ hstr
  exact vx_throwS (names := ["java/lang/RuntimeException", "java/lang/Exception"]) hB.1 hB.2.1 hfl hB.2.2.2.2.1 hcls (by decide +kernel) (hB.2.2.2.2.2.1 _ hk) (hB.2.2.2.2.2.1 _ hini) hsa (qE_at hB hW hat) hgood hW.2.2.2.2.2.2.1 hW.2.2.2.2.2.2.2.1 hW.2.2.2.1 (hls.trans hB.2.2.2.1.symm) d0 d3 d4 d6 d9 (fun x hx => (hno x hx).elim) hRf hRl hRc hRs hB.2.2.2.2.2.2.1
    (fun t _ hz hk => ⟨(), trivial, hP, Nat.le_trans hW.2.2.2.1.1 hz, fun q h1 h2 => by rw [hk q (Nat.lt_of_lt_of_le h1 hW.2.2.2.1.1)]; exact hW.2.2.2.1.2.1 q h1 h2⟩) hW.2.2.2.1.2.2 hc hs
theorem q_throwW {Qc : Array Value → State → Outcome → State → Prop} {P : String → Prop} {mc ms : Nat} (hB : qB p s m args meth c cc nL ret own) (hW : qH D A s H locs ws tys) (hfl : l.stackTraces = false) (hno : ∀ x ∈ c.exceptionTable.toList, False)
    {cls text : String} {ik is ic : Nat} (hcls : Bundle.fit cls = true) (hk : Cond.classLink own ik cls ∈ qw) (hini : Cond.initialized cls ∈ qw) (hstr : Cond.stringRef own is text ∈ lw_tbl)
    (hat : ∀ w ∈ vx_atS own ic cls ["java/lang/RuntimeException", "java/lang/Exception"], w ∈ lw_tbl ∧ (goodWord w || qn_ok w) = true) (hgood : ∀ w ∈ Cond.classLink own ik cls :: Cond.initialized cls :: vx_atS own ic cls ["java/lang/RuntimeException", "java/lang/Exception"], vx_ot w = true) (hls : ls.size = nL)
    (d0 : decode cc pc = .ok (.new ik, 3)) (d3 : decode cc (pc + 3) = .ok (.dup, 1)) (d4 : decode cc (pc + 4) = .ok (.ldc_w is, 3)) (d6 : decode cc (pc + 7) = .ok (.invokespecial ic, 3)) (d9 : decode cc (pc + 10) = .ok (.athrow, 1))
    (hRf : 5 < R.frames) (hRl : (rest.map fun v => v.category).sum + 82 ≤ R.locals) (hRc : cells + 1 ≤ R.cells) (hRs : slots + 6 ≤ R.slots) (hc : cells + 1 ≤ mc) (hs : slots + 6 ≤ ms) (hP : P cls) :
    W p l e R s m args below meth c H locs cells slots (vx_MQ below Qc (qX P A) args s mc ms A) (F0 m pc ls rest) := by
  obtain ⟨sa, hsa⟩ := hW.2.2.2.2.2.2.2.2.1 _ _ _ hstr
  exact vx_throwSW (names := ["java/lang/RuntimeException", "java/lang/Exception"]) hB.1 hB.2.1 hfl hB.2.2.2.2.1 hcls (by decide +kernel) (hB.2.2.2.2.2.1 _ hk) (hB.2.2.2.2.2.1 _ hini) hsa (qE_at hB hW hat) hgood hW.2.2.2.2.2.2.1 hW.2.2.2.2.2.2.2.1 hW.2.2.2.1 (hls.trans hB.2.2.2.1.symm) d0 d3 d4 d6 d9 (fun x hx => (hno x hx).elim) hRf hRl hRc hRs hB.2.2.2.2.2.2.1
    (fun t _ hz hk => ⟨(), trivial, hP, Nat.le_trans hW.2.2.2.1.1 hz, fun q h1 h2 => by rw [hk q (Nat.lt_of_lt_of_le h1 hW.2.2.2.1.1)]; exact hW.2.2.2.1.2.1 q h1 h2⟩) hW.2.2.2.1.2.2 hc hs
theorem q_throwX {ix : Nat} {rx : ByteArray} (x0 : decode rx 0 = .ok (.aload_n 0, 1)) (x1 : decode rx 1 = .ok (.aload_n 1, 1)) (x2 : decode rx 2 = .ok (.invokespecial ix, 3)) (x5 : decode rx 5 = .ok (.return_, 1)) {Qc : Array Value → State → Outcome → State → Prop} {P : String → Prop} {mc ms : Nat} (hB : qB p s m args meth c cc nL ret own) (hW : qH D A s H locs ws tys) (hfl : l.stackTraces = false) (hno : ∀ x ∈ c.exceptionTable.toList, False)
    {cls text : String} {ik is ic : Nat} (hcls : Bundle.fit cls = true) (hk : Cond.classLink own ik cls ∈ qw) (hini : Cond.initialized cls ∈ qw) (hstr : Cond.stringRef own is text ∈ lw_tbl)
    (hat : ∀ w ∈ qx_atS own ic cls ix rx ["java/lang/RuntimeException", "java/lang/Exception"], w ∈ lw_tbl ∧ (goodWord w || qn_ok w) = true) (hgood : ∀ w ∈ Cond.classLink own ik cls :: Cond.initialized cls :: qx_atS own ic cls ix rx ["java/lang/RuntimeException", "java/lang/Exception"], vx_ot w = true) (hls : ls.size = nL)
    (d0 : decode cc pc = .ok (.new ik, 3)) (d3 : decode cc (pc + 3) = .ok (.dup, 1)) (d4 : decode cc (pc + 4) = .ok (.ldc is, 2)) (d6 : decode cc (pc + 6) = .ok (.invokespecial ic, 3)) (d9 : decode cc (pc + 9) = .ok (.athrow, 1))
    (hRf : 5 < R.frames) (hRl : (rest.map fun v => v.category).sum + 82 ≤ R.locals) (hRc : cells + 1 ≤ R.cells) (hRs : slots + 6 ≤ R.slots) (hc : cells + 1 ≤ mc) (hs : slots + 6 ≤ ms) (hP : P cls) :
    W p l e R s m args below meth c H locs cells slots (vx_MQ below Qc (qX P A) args s mc ms A) (F0 m pc ls rest) := by
  obtain ⟨sa, hsa⟩ := hW.2.2.2.2.2.2.2.2.1 _ _ _ hstr
  exact qx_throwS x0 x1 x2 x5 (names := ["java/lang/RuntimeException", "java/lang/Exception"]) hB.1 hB.2.1 hfl hB.2.2.2.2.1 hcls (by decide +kernel) (hB.2.2.2.2.2.1 _ hk) (hB.2.2.2.2.2.1 _ hini) hsa (qE_at hB hW hat) hgood hW.2.2.2.2.2.2.1 hW.2.2.2.2.2.2.2.1 hW.2.2.2.1 (hls.trans hB.2.2.2.1.symm) d0 d3 d4 d6 d9 (fun x hx => (hno x hx).elim) hRf hRl hRc hRs hB.2.2.2.2.2.2.1
    (fun t _ hz hk => ⟨(), trivial, hP, Nat.le_trans hW.2.2.2.1.1 hz, fun q h1 h2 => by rw [hk q (Nat.lt_of_lt_of_le h1 hW.2.2.2.1.1)]; exact hW.2.2.2.1.2.1 q h1 h2⟩) hW.2.2.2.1.2.2 hc hs
theorem q_throwWX {ix : Nat} {rx : ByteArray} (x0 : decode rx 0 = .ok (.aload_n 0, 1)) (x1 : decode rx 1 = .ok (.aload_n 1, 1)) (x2 : decode rx 2 = .ok (.invokespecial ix, 3)) (x5 : decode rx 5 = .ok (.return_, 1)) {Qc : Array Value → State → Outcome → State → Prop} {P : String → Prop} {mc ms : Nat} (hB : qB p s m args meth c cc nL ret own) (hW : qH D A s H locs ws tys) (hfl : l.stackTraces = false) (hno : ∀ x ∈ c.exceptionTable.toList, False)
    {cls text : String} {ik is ic : Nat} (hcls : Bundle.fit cls = true) (hk : Cond.classLink own ik cls ∈ qw) (hini : Cond.initialized cls ∈ qw) (hstr : Cond.stringRef own is text ∈ lw_tbl)
    (hat : ∀ w ∈ qx_atS own ic cls ix rx ["java/lang/RuntimeException", "java/lang/Exception"], w ∈ lw_tbl ∧ (goodWord w || qn_ok w) = true) (hgood : ∀ w ∈ Cond.classLink own ik cls :: Cond.initialized cls :: qx_atS own ic cls ix rx ["java/lang/RuntimeException", "java/lang/Exception"], vx_ot w = true) (hls : ls.size = nL)
    (d0 : decode cc pc = .ok (.new ik, 3)) (d3 : decode cc (pc + 3) = .ok (.dup, 1)) (d4 : decode cc (pc + 4) = .ok (.ldc_w is, 3)) (d6 : decode cc (pc + 7) = .ok (.invokespecial ic, 3)) (d9 : decode cc (pc + 10) = .ok (.athrow, 1))
    (hRf : 5 < R.frames) (hRl : (rest.map fun v => v.category).sum + 82 ≤ R.locals) (hRc : cells + 1 ≤ R.cells) (hRs : slots + 6 ≤ R.slots) (hc : cells + 1 ≤ mc) (hs : slots + 6 ≤ ms) (hP : P cls) :
    W p l e R s m args below meth c H locs cells slots (vx_MQ below Qc (qX P A) args s mc ms A) (F0 m pc ls rest) := by
  obtain ⟨sa, hsa⟩ := hW.2.2.2.2.2.2.2.2.1 _ _ _ hstr
  exact qx_throwSW x0 x1 x2 x5 (names := ["java/lang/RuntimeException", "java/lang/Exception"]) hB.1 hB.2.1 hfl hB.2.2.2.2.1 hcls (by decide +kernel) (hB.2.2.2.2.2.1 _ hk) (hB.2.2.2.2.2.1 _ hini) hsa (qE_at hB hW hat) hgood hW.2.2.2.2.2.2.1 hW.2.2.2.2.2.2.2.1 hW.2.2.2.1 (hls.trans hB.2.2.2.1.symm) d0 d3 d4 d6 d9 (fun x hx => (hno x hx).elim) hRf hRl hRc hRs hB.2.2.2.2.2.2.1
    (fun t _ hz hk => ⟨(), trivial, hP, Nat.le_trans hW.2.2.2.1.1 hz, fun q h1 h2 => by rw [hk q (Nat.lt_of_lt_of_le h1 hW.2.2.2.1.1)]; exact hW.2.2.2.1.2.1 q h1 h2⟩) hW.2.2.2.1.2.2 hc hs
end QT
end
section
theorem qw_list {ws : List Cond} (is : List Nat) (h : is.map (fun i => lw_tbl[i]?) = ws.map some) (hg : ws.all goodWord = true) : ∀ w ∈ ws, w ∈ qw := by
  intro w hw
  obtain ⟨k, hk⟩ := List.mem_iff_getElem?.mp hw
  have h1 : (is.map (fun i => lw_tbl[i]?))[k]? = some (some w) := by rw [h, List.getElem?_map, hk]; rfl
  rw [List.getElem?_map] at h1
  obtain ⟨i, hi, e⟩ := Option.map_eq_some_iff.mp h1
  exact List.mem_filter.mpr ⟨List.mem_of_getElem? e, List.all_eq_true.mp hg w hw⟩
theorem qc_0 : qCl 0 RJ0 TJ0 2 tyJ0 := ⟨rfl, qw_list [692, 694] (by decide +kernel) (by decide +kernel), tyJ0_ok, nmJ0⟩
theorem qc_1 : qCl 1 RJ6 TJ6 1 tyJ6 := ⟨rfl, qw_list [2036] (by decide +kernel) (by decide +kernel), tyJ6_ok, nmJ6⟩
theorem qc_2 : qCl 2 RJx00060 TJx00060 6 tyJx00060 := ⟨rfl, qw_list [680, 681, 682, 683, 684, 685] (by decide +kernel) (by decide +kernel), tyJx00060_ok, nmJx00060⟩
theorem qc_3 : qCl 3 RJx35411 TJx35411 4 tyJx35411 := ⟨rfl, qw_list [2155, 2157, 2159, 2161] (by decide +kernel) (by decide +kernel), tyJx35411_ok, nmJx35411⟩
theorem qc_4 : qCl 4 RJx4a65c TJx4a65c 3 tyJx4a65c := ⟨rfl, qw_list [1666, 1662, 1664] (by decide +kernel) (by decide +kernel), tyJx4a65c_ok, nmJx4a65c⟩
theorem qc_5 : qCl 5 RX0 TX0 17 tyX0 := ⟨rfl, qw_list [297, 299, 301, 303, 305, 307, 309, 311, 313, 315, 317, 319, 321, 323, 325, 327, 329] (by decide +kernel) (by decide +kernel), tyX0_ok, nmX0⟩
theorem qc_6 : qCl 6 RX1 TX1 9 tyX1 := ⟨rfl, qw_list [383, 385, 387, 389, 391, 393, 395, 397, 399] (by decide +kernel) (by decide +kernel), tyX1_ok, nmX1⟩
theorem qc_7 : qCl 7 RX2 TX2 3 tyX2 := ⟨rfl, qw_list [193, 195, 197] (by decide +kernel) (by decide +kernel), tyX2_ok, nmX2⟩
theorem qc_8 : qCl 8 RX3 TX3 4 tyX3 := ⟨rfl, qw_list [934, 936, 938, 940] (by decide +kernel) (by decide +kernel), tyX3_ok, nmX3⟩
theorem qc_9 : qCl 9 RX4 TX4 6 tyX4 := ⟨rfl, qw_list [232, 234, 236, 238, 240, 242] (by decide +kernel) (by decide +kernel), tyX4_ok, nmX4⟩
theorem qc_10 : qCl 10 RX5 TX5 5 tyX5 := ⟨rfl, qw_list [894, 896, 898, 900, 902] (by decide +kernel) (by decide +kernel), tyX5_ok, nmX5⟩
theorem qc_11 : qCl 11 RX6 TX6 7 tyX6 := ⟨rfl, qw_list [349, 351, 353, 355, 357, 359, 361] (by decide +kernel) (by decide +kernel), tyX6_ok, nmX6⟩
theorem qc_12 : qCl 12 RX7 TX7 4 tyX7 := ⟨rfl, qw_list [660, 662, 664, 666] (by decide +kernel) (by decide +kernel), tyX7_ok, nmX7⟩
theorem qc_13 : qCl 13 RX8 TX8 1 tyX8 := ⟨rfl, qw_list [210] (by decide +kernel) (by decide +kernel), tyX8_ok, nmX8⟩
theorem qc_14 : qCl 14 RX9 TX9 8 tyX9 := ⟨rfl, qw_list [1005, 1007, 1009, 1011, 1013, 1015, 1017, 1019] (by decide +kernel) (by decide +kernel), tyX9_ok, nmX9⟩
theorem qc_15 : qCl 15 RX10 TX10 4 tyX10 := ⟨rfl, qw_list [255, 257, 259, 261] (by decide +kernel) (by decide +kernel), tyX10_ok, nmX10⟩
theorem qc_16 : qCl 16 RX11 TX11 13 tyX11 := ⟨rfl, qw_list [415, 417, 419, 421, 423, 425, 427, 429, 431, 433, 435, 437, 439] (by decide +kernel) (by decide +kernel), tyX11_ok, nmX11⟩
theorem qc_17 : qCl 17 RX12 TX12 3 tyX12 := ⟨rfl, qw_list [1996, 1998, 2000] (by decide +kernel) (by decide +kernel), tyX12_ok, nmX12⟩
theorem qc_18 : qCl 18 RX13 TX13 4 tyX13 := ⟨rfl, qw_list [1966, 1968, 1970, 1972] (by decide +kernel) (by decide +kernel), tyX13_ok, nmX13⟩
theorem qc_19 : qCl 19 RX14 TX14 7 tyX14 := ⟨rfl, qw_list [2095, 2097, 2099, 2101, 2103, 2105, 2107] (by decide +kernel) (by decide +kernel), tyX14_ok, nmX14⟩
theorem qc_20 : qCl 20 RX15 TX15 28 tyX15 := ⟨rfl, qw_list [1700, 1702, 1704, 1706, 1708, 1710, 1712, 1714, 1716, 1718, 1720, 1722, 1724, 1726, 1728, 1730, 1732, 1734, 1736, 1738, 1740, 1742, 1744, 1746, 1748, 1750, 1752, 1754] (by decide +kernel) (by decide +kernel), tyX15_ok, nmX15⟩
/-! the words, the code, the decode rows that are used -/
theorem k1 : Cond.selects "Locihall" ⟨"Locihall", "tableAt", "(I)LLocihall$Table;"⟩ ⟨"Locihall", "tableAt", "(I)LLocihall$Table;"⟩ ∈ qw := qw_at 1 (by decide +kernel) (by decide +kernel)
theorem k8 : Cond.selects "Locihall$Mind" ⟨"Locihall$Mind", "palaceAt", "(I)LLocihall$Palace;"⟩ ⟨"Locihall$Mind", "palaceAt", "(I)LLocihall$Palace;"⟩ ∈ qw := qw_at 8 (by decide +kernel) (by decide +kernel)
theorem k32 : Cond.selects "Locihall$Mind" ⟨"Locihall$Mind", "locusAt", "(II)LLocihall$Locus;"⟩ ⟨"Locihall$Mind", "locusAt", "(II)LLocihall$Locus;"⟩ ∈ qw := qw_at 32 (by decide +kernel) (by decide +kernel)
theorem k65 : Cond.selects "Locihall$YearRows" ⟨"Locihall$YearRows", "rowOf", "(I)I"⟩ ⟨"Locihall$YearRows", "rowOf", "(I)I"⟩ ∈ qw := qw_at 65 (by decide +kernel) (by decide +kernel)
theorem k83 : Cond.selects "Locihall$Contest" ⟨"Locihall$Contest", "bestUpTo", "(I)I"⟩ ⟨"Locihall$Contest", "bestUpTo", "(I)I"⟩ ∈ qw := qw_at 83 (by decide +kernel) (by decide +kernel)
theorem k93 : Cond.selects "Locihall$Facts" ⟨"Locihall$Facts", "has", "(I)Z"⟩ ⟨"Locihall$Facts", "has", "(I)Z"⟩ ∈ qw := qw_at 93 (by decide +kernel) (by decide +kernel)
theorem k100 : Cond.selects "Locihall$Mind" ⟨"Locihall$Mind", "countLaid", "()I"⟩ ⟨"Locihall$Mind", "countLaid", "()I"⟩ ∈ qw := qw_at 100 (by decide +kernel) (by decide +kernel)
theorem k133 : Cond.initialized "Locihall" ∈ qw := qw_at 133 (by decide +kernel) (by decide +kernel)
theorem k136 : Cond.initialized "Locihall$Mind" ∈ qw := qw_at 136 (by decide +kernel) (by decide +kernel)
theorem k137 : Cond.initialized "Locihall$YearRows" ∈ qw := qw_at 137 (by decide +kernel) (by decide +kernel)
theorem k138 : Cond.initialized "Locihall$Contest" ∈ qw := qw_at 138 (by decide +kernel) (by decide +kernel)
theorem k140 : Cond.initialized "Locihall$Facts" ∈ qw := qw_at 140 (by decide +kernel) (by decide +kernel)
theorem k141 : Cond.initialized "LocihallModel" ∈ qw := qw_at 141 (by decide +kernel) (by decide +kernel)
theorem k148 : Cond.initialized "java/lang/IllegalArgumentException" ∈ qw := qw_at 148 (by decide +kernel) (by decide +kernel)
theorem k151 : Cond.initialized "java/lang/Math" ∈ qw := qw_at 151 (by decide +kernel) (by decide +kernel)
theorem k155 : Cond.initialized "java/lang/IndexOutOfBoundsException" ∈ qw := qw_at 155 (by decide +kernel) (by decide +kernel)
theorem k158 : Cond.initialized "java/util/NoSuchElementException" ∈ qw := qw_at 158 (by decide +kernel) (by decide +kernel)
theorem k174 : Cond.initialized "java/lang/ArithmeticException" ∈ qw := qw_at 174 (by decide +kernel) (by decide +kernel)
theorem k189 : Cond.fieldLink "Locihall$Images" 9 "Locihall$Images" "kinds" "[I" ∈ qw := qw_at 189 (by decide +kernel) (by decide +kernel)
theorem k190 : Cond.fieldLink "Locihall$Images" 15 "Locihall$Images" "vividnesses" "[I" ∈ qw := qw_at 190 (by decide +kernel) (by decide +kernel)
theorem k191 : Cond.fieldLink "Locihall$Images" 18 "Locihall$Images" "count" "I" ∈ qw := qw_at 191 (by decide +kernel) (by decide +kernel)
theorem k225 : Cond.fieldLink "Locihall$Mind" 25 "Locihall$Mind" "palaceCount" "I" ∈ qw := qw_at 225 (by decide +kernel) (by decide +kernel)
theorem k227 : Cond.fieldLink "Locihall$Mind" 43 "Locihall$Mind" "hour" "I" ∈ qw := qw_at 227 (by decide +kernel) (by decide +kernel)
theorem k231 : Cond.fieldLink "Locihall$Mind" 206 "Locihall$Mind" "sleptTo" "I" ∈ qw := qw_at 231 (by decide +kernel) (by decide +kernel)
theorem k251 : Cond.fieldLink "Locihall$YearRows" 9 "Locihall$YearRows" "years" "[I" ∈ qw := qw_at 251 (by decide +kernel) (by decide +kernel)
theorem k252 : Cond.fieldLink "Locihall$YearRows" 15 "Locihall$YearRows" "firsts" "[I" ∈ qw := qw_at 252 (by decide +kernel) (by decide +kernel)
theorem k253 : Cond.fieldLink "Locihall$YearRows" 18 "Locihall$YearRows" "seconds" "[I" ∈ qw := qw_at 253 (by decide +kernel) (by decide +kernel)
theorem k254 : Cond.fieldLink "Locihall$YearRows" 21 "Locihall$YearRows" "count" "I" ∈ qw := qw_at 254 (by decide +kernel) (by decide +kernel)
theorem k289 : Cond.fieldLink "Locihall$Contest" 116 "Locihall$Contest" "closedCount" "I" ∈ qw := qw_at 289 (by decide +kernel) (by decide +kernel)
theorem k370 : Cond.fieldLink "Locihall$Facts" 9 "Locihall$Facts" "eases" "[I" ∈ qw := qw_at 370 (by decide +kernel) (by decide +kernel)
theorem k371 : Cond.fieldLink "Locihall$Facts" 15 "Locihall$Facts" "strengths" "[I" ∈ qw := qw_at 371 (by decide +kernel) (by decide +kernel)
theorem k373 : Cond.fieldLink "Locihall$Facts" 18 "Locihall$Facts" "lasts" "[I" ∈ qw := qw_at 373 (by decide +kernel) (by decide +kernel)
theorem k375 : Cond.fieldLink "Locihall$Facts" 30 "Locihall$Facts" "count" "I" ∈ qw := qw_at 375 (by decide +kernel) (by decide +kernel)
theorem k405 : Cond.fieldLink "Locihall" 99 "Locihall" "tableCount" "I" ∈ qw := qw_at 405 (by decide +kernel) (by decide +kernel)
theorem k406 : Cond.fieldLink "Locihall" 34 "Locihall" "mind" "LLocihall$Mind;" ∈ qw := qw_at 406 (by decide +kernel) (by decide +kernel)
theorem k411 : Cond.fieldLink "Locihall" 55 "Locihall" "match" "LLocihall$Contest;" ∈ qw := qw_at 411 (by decide +kernel) (by decide +kernel)
theorem k412 : Cond.fieldLink "Locihall" 62 "Locihall" "stage" "LLocihall$Stage;" ∈ qw := qw_at 412 (by decide +kernel) (by decide +kernel)
theorem k413 : Cond.fieldLink "Locihall" 69 "Locihall" "facts" "LLocihall$Facts;" ∈ qw := qw_at 413 (by decide +kernel) (by decide +kernel)
theorem k458 : Cond.methodLink "Locihall" 107 ⟨"Locihall", "tableAt", "(I)LLocihall$Table;"⟩ ∈ qw := qw_at 458 (by decide +kernel) (by decide +kernel)
theorem k460 : Cond.instanceMethod ⟨"Locihall", "tableAt", "(I)LLocihall$Table;"⟩ ∈ qw := qw_at 460 (by decide +kernel) (by decide +kernel)
theorem k461 : Cond.code ⟨"Locihall", "tableAt", "(I)LLocihall$Table;"⟩ prog_1_method_58_code 2 (some (.object "Locihall$Table")) ∈ qw := qw_at 461 (by decide +kernel) (by decide +kernel)
theorem k472 : Cond.static ⟨"Locihall", "isIn", "(III)Z"⟩ ∈ qw := qw_at 472 (by decide +kernel) (by decide +kernel)
theorem k473 : Cond.code ⟨"Locihall", "isIn", "(III)Z"⟩ prog_1_method_54_code 3 (some .boolean) ∈ qw := qw_at 473 (by decide +kernel) (by decide +kernel)
theorem k474 : Cond.methodLink "Locihall" 73 ⟨"Locihall", "isIn", "(III)Z"⟩ ∈ qw := qw_at 474 (by decide +kernel) (by decide +kernel)
theorem k495 : Cond.methodLink "Locihall$Mind" 29 ⟨"Locihall$Mind", "palaceAt", "(I)LLocihall$Palace;"⟩ ∈ qw := qw_at 495 (by decide +kernel) (by decide +kernel)
theorem k497 : Cond.instanceMethod ⟨"Locihall$Mind", "palaceAt", "(I)LLocihall$Palace;"⟩ ∈ qw := qw_at 497 (by decide +kernel) (by decide +kernel)
theorem k498 : Cond.code ⟨"Locihall$Mind", "palaceAt", "(I)LLocihall$Palace;"⟩ prog_6_method_3_code 2 (some (.object "Locihall$Palace")) ∈ qw := qw_at 498 (by decide +kernel) (by decide +kernel)
theorem k544 : Cond.classLink "Locihall" 77 "java/lang/IllegalArgumentException" ∈ qw := qw_at 544 (by decide +kernel) (by decide +kernel)
theorem k701 : Cond.classLink "Locihall" 115 "java/lang/IndexOutOfBoundsException" ∈ qw := qw_at 701 (by decide +kernel) (by decide +kernel)
theorem k744 : Cond.classLink "Locihall" 138 "java/util/NoSuchElementException" ∈ qw := qw_at 744 (by decide +kernel) (by decide +kernel)
theorem k952 : Cond.instanceMethod ⟨"Locihall$Mind", "locusAt", "(II)LLocihall$Locus;"⟩ ∈ qw := qw_at 952 (by decide +kernel) (by decide +kernel)
theorem k953 : Cond.code ⟨"Locihall$Mind", "locusAt", "(II)LLocihall$Locus;"⟩ prog_6_method_4_code 4 (some (.object "Locihall$Locus")) ∈ qw := qw_at 953 (by decide +kernel) (by decide +kernel)
theorem k1079 : Cond.static ⟨"java/lang/Math", "max", "(II)I"⟩ ∈ qw := qw_at 1079 (by decide +kernel) (by decide +kernel)
theorem k1080 : Cond.code ⟨"java/lang/Math", "max", "(II)I"⟩ prog_32_method_65_code 2 (some .int) ∈ qw := qw_at 1080 (by decide +kernel) (by decide +kernel)
theorem k1244 : Cond.methodLink "Locihall" 299 ⟨"Locihall", "isYear", "(I)Z"⟩ ∈ qw := qw_at 1244 (by decide +kernel) (by decide +kernel)
theorem k1245 : Cond.static ⟨"Locihall", "isYear", "(I)Z"⟩ ∈ qw := qw_at 1245 (by decide +kernel) (by decide +kernel)
theorem k1246 : Cond.code ⟨"Locihall", "isYear", "(I)Z"⟩ prog_1_method_57_code 1 (some .boolean) ∈ qw := qw_at 1246 (by decide +kernel) (by decide +kernel)
theorem k1252 : Cond.methodLink "Locihall$YearRows" 25 ⟨"Locihall$YearRows", "rowOf", "(I)I"⟩ ∈ qw := qw_at 1252 (by decide +kernel) (by decide +kernel)
theorem k1254 : Cond.instanceMethod ⟨"Locihall$YearRows", "rowOf", "(I)I"⟩ ∈ qw := qw_at 1254 (by decide +kernel) (by decide +kernel)
theorem k1255 : Cond.code ⟨"Locihall$YearRows", "rowOf", "(I)I"⟩ prog_12_method_2_code 3 (some .int) ∈ qw := qw_at 1255 (by decide +kernel) (by decide +kernel)
theorem k1261 : Cond.methodLink "Locihall$YearRows" 29 ⟨"java/lang/Math", "max", "(II)I"⟩ ∈ qw := qw_at 1261 (by decide +kernel) (by decide +kernel)
theorem k1419 : Cond.instanceMethod ⟨"Locihall$Contest", "bestUpTo", "(I)I"⟩ ∈ qw := qw_at 1419 (by decide +kernel) (by decide +kernel)
theorem k1420 : Cond.code ⟨"Locihall$Contest", "bestUpTo", "(I)I"⟩ prog_2_method_14_code 4 (some .int) ∈ qw := qw_at 1420 (by decide +kernel) (by decide +kernel)
theorem k1527 : Cond.instanceMethod ⟨"Locihall$Facts", "has", "(I)Z"⟩ ∈ qw := qw_at 1527 (by decide +kernel) (by decide +kernel)
theorem k1528 : Cond.code ⟨"Locihall$Facts", "has", "(I)Z"⟩ prog_3_method_3_code 2 (some .boolean) ∈ qw := qw_at 1528 (by decide +kernel) (by decide +kernel)
theorem k1614 : Cond.instanceMethod ⟨"Locihall$Mind", "countLaid", "()I"⟩ ∈ qw := qw_at 1614 (by decide +kernel) (by decide +kernel)
theorem k1615 : Cond.code ⟨"Locihall$Mind", "countLaid", "()I"⟩ prog_6_method_20_code 5 (some .int) ∈ qw := qw_at 1615 (by decide +kernel) (by decide +kernel)
theorem k1616 : Cond.classLink "Locihall" 498 "java/lang/ArithmeticException" ∈ qw := qw_at 1616 (by decide +kernel) (by decide +kernel)
theorem k1685 : Cond.fieldLink "LocihallModel" 73 "LocihallModel" "thrown" "I" ∈ qw := qw_at 1685 (by decide +kernel) (by decide +kernel)
theorem k1686 : Cond.fieldLink "LocihallModel" 76 "LocihallModel" "systems" "I" ∈ qw := qw_at 1686 (by decide +kernel) (by decide +kernel)
theorem k1767 : Cond.methodLink "LocihallModel" 79 ⟨"LocihallModel", "isIn", "(JJJ)Z"⟩ ∈ qw := qw_at 1767 (by decide +kernel) (by decide +kernel)
theorem k1768 : Cond.static ⟨"LocihallModel", "isIn", "(JJJ)Z"⟩ ∈ qw := qw_at 1768 (by decide +kernel) (by decide +kernel)
theorem k1769 : Cond.code ⟨"LocihallModel", "isIn", "(JJJ)Z"⟩ prog_14_method_4_code 6 (some .boolean) ∈ qw := qw_at 1769 (by decide +kernel) (by decide +kernel)
theorem j271 : Cond.fieldLinkNest "Locihall" 319 "Locihall$Contest" "isOpen" "Z" "Locihall" ∈ lw_tbl := List.mem_of_getElem? (i := 271) (by decide +kernel)
theorem j278 : Cond.fieldLinkNest "Locihall" 341 "Locihall$Contest" "count" "I" "Locihall" ∈ lw_tbl := List.mem_of_getElem? (i := 278) (by decide +kernel)
theorem j290 : Cond.fieldLinkNest "Locihall" 398 "Locihall$Contest" "closedCount" "I" "Locihall" ∈ lw_tbl := List.mem_of_getElem? (i := 290) (by decide +kernel)
theorem j342 : Cond.fieldLinkNest "Locihall" 424 "Locihall$Stage" "count" "I" "Locihall" ∈ lw_tbl := List.mem_of_getElem? (i := 342) (by decide +kernel)
theorem j345 : Cond.fieldLinkNest "Locihall" 434 "Locihall$Stage" "depth" "I" "Locihall" ∈ lw_tbl := List.mem_of_getElem? (i := 345) (by decide +kernel)
theorem j347 : Cond.fieldLinkNest "Locihall" 437 "Locihall$Stage" "isInterrupted" "Z" "Locihall" ∈ lw_tbl := List.mem_of_getElem? (i := 347) (by decide +kernel)
theorem j376 : Cond.fieldLinkNest "Locihall" 459 "Locihall$Facts" "count" "I" "Locihall" ∈ lw_tbl := List.mem_of_getElem? (i := 376) (by decide +kernel)
theorem j710 : Cond.stringRef "Locihall" 117 "no such system or image" ∈ lw_tbl := List.mem_of_getElem? (i := 710) (by decide +kernel)
theorem j735 : Cond.stringRef "Locihall" 133 "no such system" ∈ lw_tbl := List.mem_of_getElem? (i := 735) (by decide +kernel)
theorem j912 : Cond.methodLinkNest "Locihall" 201 ⟨"Locihall$Mind", "palaceAt", "(I)LLocihall$Palace;"⟩ "Locihall" ∈ lw_tbl := List.mem_of_getElem? (i := 912) (by decide +kernel)
theorem j913 : Cond.stringRef "Locihall" 205 "no such palace" ∈ lw_tbl := List.mem_of_getElem? (i := 913) (by decide +kernel)
theorem j950 : Cond.methodLinkNest "Locihall" 217 ⟨"Locihall$Mind", "locusAt", "(II)LLocihall$Locus;"⟩ "Locihall" ∈ lw_tbl := List.mem_of_getElem? (i := 950) (by decide +kernel)
theorem j954 : Cond.stringRef "Locihall" 221 "no such palace or locus" ∈ lw_tbl := List.mem_of_getElem? (i := 954) (by decide +kernel)
theorem j970 : Cond.stringRef "Locihall" 234 "no such palace, locus or system" ∈ lw_tbl := List.mem_of_getElem? (i := 970) (by decide +kernel)
theorem j1278 : Cond.stringRef "Locihall" 315 "no such palace or system" ∈ lw_tbl := List.mem_of_getElem? (i := 1278) (by decide +kernel)
theorem j1310 : Cond.stringRef "Locihall" 342 "no such key was drawn" ∈ lw_tbl := List.mem_of_getElem? (i := 1310) (by decide +kernel)
theorem j1318 : Cond.stringRef "Locihall" 344 "no contest is open" ∈ lw_tbl := List.mem_of_getElem? (i := 1318) (by decide +kernel)
theorem j1345 : Cond.stringRef "Locihall" 365 "no contest is open, or no such answer" ∈ lw_tbl := List.mem_of_getElem? (i := 1345) (by decide +kernel)
theorem j1408 : Cond.stringRef "Locihall" 401 "no contest was closed" ∈ lw_tbl := List.mem_of_getElem? (i := 1408) (by decide +kernel)
theorem j1416 : Cond.stringRef "Locihall" 409 "no such year" ∈ lw_tbl := List.mem_of_getElem? (i := 1416) (by decide +kernel)
theorem j1417 : Cond.methodLinkNest "Locihall" 411 ⟨"Locihall$Contest", "bestUpTo", "(I)I"⟩ "Locihall" ∈ lw_tbl := List.mem_of_getElem? (i := 1417) (by decide +kernel)
theorem j1421 : Cond.stringRef "Locihall" 414 "there is no record" ∈ lw_tbl := List.mem_of_getElem? (i := 1421) (by decide +kernel)
theorem j1429 : Cond.stringRef "Locihall" 416 "there was no contest" ∈ lw_tbl := List.mem_of_getElem? (i := 1429) (by decide +kernel)
theorem j1455 : Cond.stringRef "Locihall" 429 "no such speech" ∈ lw_tbl := List.mem_of_getElem? (i := 1455) (by decide +kernel)
theorem j1472 : Cond.stringRef "Locihall" 444 "no speech goes on, or it was interrupted" ∈ lw_tbl := List.mem_of_getElem? (i := 1472) (by decide +kernel)
theorem j1499 : Cond.stringRef "Locihall" 452 "no speech was interrupted" ∈ lw_tbl := List.mem_of_getElem? (i := 1499) (by decide +kernel)
theorem j1525 : Cond.methodLinkNest "Locihall" 463 ⟨"Locihall$Facts", "has", "(I)Z"⟩ "Locihall" ∈ lw_tbl := List.mem_of_getElem? (i := 1525) (by decide +kernel)
theorem j1529 : Cond.stringRef "Locihall" 464 "no such fact" ∈ lw_tbl := List.mem_of_getElem? (i := 1529) (by decide +kernel)
theorem j1567 : Cond.stringRef "Locihall" 477 "1 to 5 hours" ∈ lw_tbl := List.mem_of_getElem? (i := 1567) (by decide +kernel)
theorem j1569 : Cond.stringRef "Locihall" 481 "there are no facts" ∈ lw_tbl := List.mem_of_getElem? (i := 1569) (by decide +kernel)
theorem j1590 : Cond.stringRef "Locihall" 490 "1 to 5 hours, and one of them" ∈ lw_tbl := List.mem_of_getElem? (i := 1590) (by decide +kernel)
theorem j1612 : Cond.methodLinkNest "Locihall" 495 ⟨"Locihall$Mind", "countLaid", "()I"⟩ "Locihall" ∈ lw_tbl := List.mem_of_getElem? (i := 1612) (by decide +kernel)
theorem j1617 : Cond.stringRef "Locihall" 500 "no locus has traces" ∈ lw_tbl := List.mem_of_getElem? (i := 1617) (by decide +kernel)
theorem d_H_isIn_0 : decode prog_1_method_54_code 0 = .ok (.iload_n 0, 1) := by decide +kernel
theorem d_H_isIn_1 : decode prog_1_method_54_code 1 = .ok (.iload_n 1, 1) := by decide +kernel
theorem d_H_isIn_2 : decode prog_1_method_54_code 2 = .ok (.if_icmp .lt 12, 3) := by decide +kernel
theorem d_H_isIn_5 : decode prog_1_method_54_code 5 = .ok (.iload_n 0, 1) := by decide +kernel
theorem d_H_isIn_6 : decode prog_1_method_54_code 6 = .ok (.iload_n 2, 1) := by decide +kernel
theorem d_H_isIn_7 : decode prog_1_method_54_code 7 = .ok (.if_icmp .gt 7, 3) := by decide +kernel
theorem d_H_isIn_10 : decode prog_1_method_54_code 10 = .ok (.iconst 1, 1) := by decide +kernel
theorem d_H_isIn_11 : decode prog_1_method_54_code 11 = .ok (.goto 4, 3) := by decide +kernel
theorem d_H_isIn_14 : decode prog_1_method_54_code 14 = .ok (.iconst 0, 1) := by decide +kernel
theorem d_H_isIn_15 : decode prog_1_method_54_code 15 = .ok (.ireturn, 1) := by decide +kernel
theorem d_H_isKey_0 : decode prog_1_method_55_code 0 = .ok (.iload_n 0, 1) := by decide +kernel
theorem d_H_isKey_1 : decode prog_1_method_55_code 1 = .ok (.iconst 0, 1) := by decide +kernel
theorem d_H_isKey_2 : decode prog_1_method_55_code 2 = .ok (.bipush 99, 2) := by decide +kernel
theorem d_H_isKey_4 : decode prog_1_method_55_code 4 = .ok (.invokestatic 73, 3) := by decide +kernel
theorem d_H_isKey_7 : decode prog_1_method_55_code 7 = .ok (.ireturn, 1) := by decide +kernel
theorem d_H_isTongue_0 : decode prog_1_method_56_code 0 = .ok (.iload_n 0, 1) := by decide +kernel
theorem d_H_isTongue_1 : decode prog_1_method_56_code 1 = .ok (.iconst 0, 1) := by decide +kernel
theorem d_H_isTongue_2 : decode prog_1_method_56_code 2 = .ok (.iconst 2, 1) := by decide +kernel
theorem d_H_isTongue_3 : decode prog_1_method_56_code 3 = .ok (.invokestatic 73, 3) := by decide +kernel
theorem d_H_isTongue_6 : decode prog_1_method_56_code 6 = .ok (.ireturn, 1) := by decide +kernel
theorem d_H_isYear_0 : decode prog_1_method_57_code 0 = .ok (.iload_n 0, 1) := by decide +kernel
theorem d_H_isYear_1 : decode prog_1_method_57_code 1 = .ok (.iconst 0, 1) := by decide +kernel
theorem d_H_isYear_2 : decode prog_1_method_57_code 2 = .ok (.sipush 9999, 3) := by decide +kernel
theorem d_H_isYear_5 : decode prog_1_method_57_code 5 = .ok (.invokestatic 73, 3) := by decide +kernel
theorem d_H_isYear_8 : decode prog_1_method_57_code 8 = .ok (.ireturn, 1) := by decide +kernel
theorem d_H_tableAt_0 : decode prog_1_method_58_code 0 = .ok (.iload_n 1, 1) := by decide +kernel
theorem d_H_tableAt_1 : decode prog_1_method_58_code 1 = .ok (.ifCond .lt 29, 3) := by decide +kernel
theorem d_H_tableAt_4 : decode prog_1_method_58_code 4 = .ok (.iload_n 1, 1) := by decide +kernel
theorem d_H_tableAt_5 : decode prog_1_method_58_code 5 = .ok (.aload_n 0, 1) := by decide +kernel
theorem d_H_tableAt_6 : decode prog_1_method_58_code 6 = .ok (.getfield 99, 3) := by decide +kernel
theorem d_H_tableAt_9 : decode prog_1_method_58_code 9 = .ok (.if_icmp .ge 21, 3) := by decide +kernel
theorem d_H_tableAt_30 : decode prog_1_method_58_code 30 = .ok (.aconst_null, 1) := by decide +kernel
theorem d_H_tableAt_31 : decode prog_1_method_58_code 31 = .ok (.areturn, 1) := by decide +kernel
theorem d_HMind_palaceAt_0 : decode prog_6_method_3_code 0 = .ok (.iload_n 1, 1) := by decide +kernel
theorem d_HMind_palaceAt_1 : decode prog_6_method_3_code 1 = .ok (.ifCond .lt 29, 3) := by decide +kernel
theorem d_HMind_palaceAt_4 : decode prog_6_method_3_code 4 = .ok (.iload_n 1, 1) := by decide +kernel
theorem d_HMind_palaceAt_5 : decode prog_6_method_3_code 5 = .ok (.aload_n 0, 1) := by decide +kernel
theorem d_HMind_palaceAt_6 : decode prog_6_method_3_code 6 = .ok (.getfield 25, 3) := by decide +kernel
theorem d_HMind_palaceAt_9 : decode prog_6_method_3_code 9 = .ok (.if_icmp .ge 21, 3) := by decide +kernel
theorem d_HMind_palaceAt_30 : decode prog_6_method_3_code 30 = .ok (.aconst_null, 1) := by decide +kernel
theorem d_HMind_palaceAt_31 : decode prog_6_method_3_code 31 = .ok (.areturn, 1) := by decide +kernel
theorem d_HMind_locusAt_0 : decode prog_6_method_4_code 0 = .ok (.aload_n 0, 1) := by decide +kernel
theorem d_HMind_locusAt_1 : decode prog_6_method_4_code 1 = .ok (.iload_n 1, 1) := by decide +kernel
theorem d_HMind_locusAt_2 : decode prog_6_method_4_code 2 = .ok (.invokevirtual 29, 3) := by decide +kernel
theorem d_HMind_locusAt_5 : decode prog_6_method_4_code 5 = .ok (.astore_n 3, 1) := by decide +kernel
theorem d_HMind_locusAt_6 : decode prog_6_method_4_code 6 = .ok (.aload_n 3, 1) := by decide +kernel
theorem d_HMind_locusAt_7 : decode prog_6_method_4_code 7 = .ok (.ifnonnull 7, 3) := by decide +kernel
theorem d_HMind_locusAt_10 : decode prog_6_method_4_code 10 = .ok (.aconst_null, 1) := by decide +kernel
theorem d_HMind_locusAt_11 : decode prog_6_method_4_code 11 = .ok (.goto 8, 3) := by decide +kernel
theorem d_HMind_locusAt_19 : decode prog_6_method_4_code 19 = .ok (.areturn, 1) := by decide +kernel
theorem d_HFacts_has_0 : decode prog_3_method_3_code 0 = .ok (.iload_n 1, 1) := by decide +kernel
theorem d_HFacts_has_1 : decode prog_3_method_3_code 1 = .ok (.ifCond .lt 21, 3) := by decide +kernel
theorem d_HFacts_has_4 : decode prog_3_method_3_code 4 = .ok (.iload_n 1, 1) := by decide +kernel
theorem d_HFacts_has_5 : decode prog_3_method_3_code 5 = .ok (.aload_n 0, 1) := by decide +kernel
theorem d_HFacts_has_6 : decode prog_3_method_3_code 6 = .ok (.getfield 30, 3) := by decide +kernel
theorem d_HFacts_has_9 : decode prog_3_method_3_code 9 = .ok (.if_icmp .ge 13, 3) := by decide +kernel
theorem d_HFacts_has_22 : decode prog_3_method_3_code 22 = .ok (.iconst 0, 1) := by decide +kernel
theorem d_HFacts_has_23 : decode prog_3_method_3_code 23 = .ok (.ireturn, 1) := by decide +kernel
theorem d_M_isIn_0 : decode prog_14_method_4_code 0 = .ok (.lload_n 0, 1) := by decide +kernel
theorem d_M_isIn_1 : decode prog_14_method_4_code 1 = .ok (.lload_n 2, 1) := by decide +kernel
theorem d_M_isIn_2 : decode prog_14_method_4_code 2 = .ok (.lcmp, 1) := by decide +kernel
theorem d_M_isIn_3 : decode prog_14_method_4_code 3 = .ok (.ifCond .lt 14, 3) := by decide +kernel
theorem d_M_isIn_6 : decode prog_14_method_4_code 6 = .ok (.lload_n 0, 1) := by decide +kernel
theorem d_M_isIn_7 : decode prog_14_method_4_code 7 = .ok (.lload 4, 2) := by decide +kernel
theorem d_M_isIn_9 : decode prog_14_method_4_code 9 = .ok (.lcmp, 1) := by decide +kernel
theorem d_M_isIn_10 : decode prog_14_method_4_code 10 = .ok (.ifCond .gt 7, 3) := by decide +kernel
theorem d_M_isIn_13 : decode prog_14_method_4_code 13 = .ok (.iconst 1, 1) := by decide +kernel
theorem d_M_isIn_14 : decode prog_14_method_4_code 14 = .ok (.goto 4, 3) := by decide +kernel
theorem d_M_isIn_17 : decode prog_14_method_4_code 17 = .ok (.iconst 0, 1) := by decide +kernel
theorem d_M_isIn_18 : decode prog_14_method_4_code 18 = .ok (.ireturn, 1) := by decide +kernel
theorem d_M_isSystem_0 : decode prog_14_method_6_code 0 = .ok (.iload_n 1, 1) := by decide +kernel
theorem d_M_isSystem_1 : decode prog_14_method_6_code 1 = .ok (.i2l, 1) := by decide +kernel
theorem d_M_isSystem_2 : decode prog_14_method_6_code 2 = .ok (.lconst 0, 1) := by decide +kernel
theorem d_M_isSystem_3 : decode prog_14_method_6_code 3 = .ok (.aload_n 0, 1) := by decide +kernel
theorem d_M_isSystem_4 : decode prog_14_method_6_code 4 = .ok (.getfield 76, 3) := by decide +kernel
theorem d_M_isSystem_7 : decode prog_14_method_6_code 7 = .ok (.iconst 1, 1) := by decide +kernel
theorem d_M_isSystem_8 : decode prog_14_method_6_code 8 = .ok (.isub, 1) := by decide +kernel
theorem d_M_isSystem_9 : decode prog_14_method_6_code 9 = .ok (.i2l, 1) := by decide +kernel
theorem d_M_isSystem_10 : decode prog_14_method_6_code 10 = .ok (.invokestatic 79, 3) := by decide +kernel
theorem d_M_isSystem_13 : decode prog_14_method_6_code 13 = .ok (.ireturn, 1) := by decide +kernel
theorem d_M_thrown_0 : decode prog_14_method_2_code 0 = .ok (.aload_n 0, 1) := by decide +kernel
theorem d_M_thrown_1 : decode prog_14_method_2_code 1 = .ok (.getfield 73, 3) := by decide +kernel
theorem d_M_thrown_4 : decode prog_14_method_2_code 4 = .ok (.ireturn, 1) := by decide +kernel
theorem d_M_no_0 : decode prog_14_method_5_code 0 = .ok (.aload_n 0, 1) := by decide +kernel
theorem d_M_no_1 : decode prog_14_method_5_code 1 = .ok (.iload_n 1, 1) := by decide +kernel
theorem d_M_no_2 : decode prog_14_method_5_code 2 = .ok (.ifCond .eq 7, 3) := by decide +kernel
theorem d_M_no_5 : decode prog_14_method_5_code 5 = .ok (.iconst 0, 1) := by decide +kernel
theorem d_M_no_6 : decode prog_14_method_5_code 6 = .ok (.goto 4, 3) := by decide +kernel
theorem d_M_no_9 : decode prog_14_method_5_code 9 = .ok (.iload_n 2, 1) := by decide +kernel
theorem d_M_no_10 : decode prog_14_method_5_code 10 = .ok (.putfield 73, 3) := by decide +kernel
theorem d_M_no_13 : decode prog_14_method_5_code 13 = .ok (.iload_n 1, 1) := by decide +kernel
theorem d_M_no_14 : decode prog_14_method_5_code 14 = .ok (.ifCond .ne 7, 3) := by decide +kernel
theorem d_M_no_17 : decode prog_14_method_5_code 17 = .ok (.iconst 1, 1) := by decide +kernel
theorem d_M_no_18 : decode prog_14_method_5_code 18 = .ok (.goto 4, 3) := by decide +kernel
theorem d_M_no_21 : decode prog_14_method_5_code 21 = .ok (.iconst 0, 1) := by decide +kernel
theorem d_M_no_22 : decode prog_14_method_5_code 22 = .ok (.ireturn, 1) := by decide +kernel
theorem d_H_learn_0 : decode prog_1_method_4_code 0 = .ok (.aload_n 0, 1) := by decide +kernel
theorem d_H_learn_1 : decode prog_1_method_4_code 1 = .ok (.iload_n 1, 1) := by decide +kernel
theorem d_H_learn_2 : decode prog_1_method_4_code 2 = .ok (.invokevirtual 107, 3) := by decide +kernel
theorem d_H_learn_5 : decode prog_1_method_4_code 5 = .ok (.astore 4, 2) := by decide +kernel
theorem d_H_learn_7 : decode prog_1_method_4_code 7 = .ok (.aload 4, 2) := by decide +kernel
theorem d_H_learn_9 : decode prog_1_method_4_code 9 = .ok (.ifnull 14, 3) := by decide +kernel
theorem d_H_learn_23 : decode prog_1_method_4_code 23 = .ok (.new 115, 3) := by decide +kernel
theorem d_H_learn_26 : decode prog_1_method_4_code 26 = .ok (.dup, 1) := by decide +kernel
theorem d_H_learn_27 : decode prog_1_method_4_code 27 = .ok (.ldc 117, 2) := by decide +kernel
theorem d_H_learn_29 : decode prog_1_method_4_code 29 = .ok (.invokespecial 119, 3) := by decide +kernel
theorem d_H_learn_32 : decode prog_1_method_4_code 32 = .ok (.athrow, 1) := by decide +kernel
theorem d_H_imageOf_0 : decode prog_1_method_5_code 0 = .ok (.aload_n 0, 1) := by decide +kernel
theorem d_H_imageOf_1 : decode prog_1_method_5_code 1 = .ok (.iload_n 1, 1) := by decide +kernel
theorem d_H_imageOf_2 : decode prog_1_method_5_code 2 = .ok (.invokevirtual 107, 3) := by decide +kernel
theorem d_H_imageOf_5 : decode prog_1_method_5_code 5 = .ok (.astore_n 3, 1) := by decide +kernel
theorem d_H_imageOf_6 : decode prog_1_method_5_code 6 = .ok (.aload_n 3, 1) := by decide +kernel
theorem d_H_imageOf_7 : decode prog_1_method_5_code 7 = .ok (.ifnonnull 13, 3) := by decide +kernel
theorem d_H_imageOf_10 : decode prog_1_method_5_code 10 = .ok (.new 115, 3) := by decide +kernel
theorem d_H_imageOf_13 : decode prog_1_method_5_code 13 = .ok (.dup, 1) := by decide +kernel
theorem d_H_imageOf_14 : decode prog_1_method_5_code 14 = .ok (.ldc 133, 2) := by decide +kernel
theorem d_H_imageOf_16 : decode prog_1_method_5_code 16 = .ok (.invokespecial 119, 3) := by decide +kernel
theorem d_H_imageOf_19 : decode prog_1_method_5_code 19 = .ok (.athrow, 1) := by decide +kernel
theorem d_H_skill_0 : decode prog_1_method_6_code 0 = .ok (.aload_n 0, 1) := by decide +kernel
theorem d_H_skill_1 : decode prog_1_method_6_code 1 = .ok (.iload_n 1, 1) := by decide +kernel
theorem d_H_skill_2 : decode prog_1_method_6_code 2 = .ok (.invokevirtual 107, 3) := by decide +kernel
theorem d_H_skill_5 : decode prog_1_method_6_code 5 = .ok (.astore_n 3, 1) := by decide +kernel
theorem d_H_skill_6 : decode prog_1_method_6_code 6 = .ok (.aload_n 3, 1) := by decide +kernel
theorem d_H_skill_7 : decode prog_1_method_6_code 7 = .ok (.ifnonnull 13, 3) := by decide +kernel
theorem d_H_skill_10 : decode prog_1_method_6_code 10 = .ok (.new 115, 3) := by decide +kernel
theorem d_H_skill_13 : decode prog_1_method_6_code 13 = .ok (.dup, 1) := by decide +kernel
theorem d_H_skill_14 : decode prog_1_method_6_code 14 = .ok (.ldc 133, 2) := by decide +kernel
theorem d_H_skill_16 : decode prog_1_method_6_code 16 = .ok (.invokespecial 119, 3) := by decide +kernel
theorem d_H_skill_19 : decode prog_1_method_6_code 19 = .ok (.athrow, 1) := by decide +kernel
theorem d_H_takeOver_0 : decode prog_1_method_8_code 0 = .ok (.aload_n 0, 1) := by decide +kernel
theorem d_H_takeOver_1 : decode prog_1_method_8_code 1 = .ok (.iload_n 1, 1) := by decide +kernel
theorem d_H_takeOver_2 : decode prog_1_method_8_code 2 = .ok (.invokevirtual 107, 3) := by decide +kernel
theorem d_H_takeOver_5 : decode prog_1_method_8_code 5 = .ok (.astore 5, 2) := by decide +kernel
theorem d_H_takeOver_7 : decode prog_1_method_8_code 7 = .ok (.aload_n 0, 1) := by decide +kernel
theorem d_H_takeOver_8 : decode prog_1_method_8_code 8 = .ok (.iload_n 2, 1) := by decide +kernel
theorem d_H_takeOver_9 : decode prog_1_method_8_code 9 = .ok (.invokevirtual 107, 3) := by decide +kernel
theorem d_H_takeOver_12 : decode prog_1_method_8_code 12 = .ok (.astore 6, 2) := by decide +kernel
theorem d_H_takeOver_14 : decode prog_1_method_8_code 14 = .ok (.aload 5, 2) := by decide +kernel
theorem d_H_takeOver_16 : decode prog_1_method_8_code 16 = .ok (.ifnull 8, 3) := by decide +kernel
theorem d_H_takeOver_24 : decode prog_1_method_8_code 24 = .ok (.new 115, 3) := by decide +kernel
theorem d_H_takeOver_27 : decode prog_1_method_8_code 27 = .ok (.dup, 1) := by decide +kernel
theorem d_H_takeOver_28 : decode prog_1_method_8_code 28 = .ok (.ldc 133, 2) := by decide +kernel
theorem d_H_takeOver_30 : decode prog_1_method_8_code 30 = .ok (.invokespecial 119, 3) := by decide +kernel
theorem d_H_takeOver_33 : decode prog_1_method_8_code 33 = .ok (.athrow, 1) := by decide +kernel
theorem d_H_train_0 : decode prog_1_method_9_code 0 = .ok (.aload_n 0, 1) := by decide +kernel
theorem d_H_train_1 : decode prog_1_method_9_code 1 = .ok (.iload_n 1, 1) := by decide +kernel
theorem d_H_train_2 : decode prog_1_method_9_code 2 = .ok (.invokevirtual 107, 3) := by decide +kernel
theorem d_H_train_5 : decode prog_1_method_9_code 5 = .ok (.astore_n 3, 1) := by decide +kernel
theorem d_H_train_6 : decode prog_1_method_9_code 6 = .ok (.aload_n 3, 1) := by decide +kernel
theorem d_H_train_7 : decode prog_1_method_9_code 7 = .ok (.ifnonnull 13, 3) := by decide +kernel
theorem d_H_train_10 : decode prog_1_method_9_code 10 = .ok (.new 115, 3) := by decide +kernel
theorem d_H_train_13 : decode prog_1_method_9_code 13 = .ok (.dup, 1) := by decide +kernel
theorem d_H_train_14 : decode prog_1_method_9_code 14 = .ok (.ldc 133, 2) := by decide +kernel
theorem d_H_train_16 : decode prog_1_method_9_code 16 = .ok (.invokespecial 119, 3) := by decide +kernel
theorem d_H_train_19 : decode prog_1_method_9_code 19 = .ok (.athrow, 1) := by decide +kernel
theorem d_H_saved_0 : decode prog_1_method_10_code 0 = .ok (.aload_n 0, 1) := by decide +kernel
theorem d_H_saved_1 : decode prog_1_method_10_code 1 = .ok (.iload_n 1, 1) := by decide +kernel
theorem d_H_saved_2 : decode prog_1_method_10_code 2 = .ok (.invokevirtual 107, 3) := by decide +kernel
theorem d_H_saved_5 : decode prog_1_method_10_code 5 = .ok (.astore 4, 2) := by decide +kernel
theorem d_H_saved_7 : decode prog_1_method_10_code 7 = .ok (.aload 4, 2) := by decide +kernel
theorem d_H_saved_9 : decode prog_1_method_10_code 9 = .ok (.ifnonnull 13, 3) := by decide +kernel
theorem d_H_saved_12 : decode prog_1_method_10_code 12 = .ok (.new 115, 3) := by decide +kernel
theorem d_H_saved_15 : decode prog_1_method_10_code 15 = .ok (.dup, 1) := by decide +kernel
theorem d_H_saved_16 : decode prog_1_method_10_code 16 = .ok (.ldc 133, 2) := by decide +kernel
theorem d_H_saved_18 : decode prog_1_method_10_code 18 = .ok (.invokespecial 119, 3) := by decide +kernel
theorem d_H_saved_21 : decode prog_1_method_10_code 21 = .ok (.athrow, 1) := by decide +kernel
theorem d_H_paysBack_0 : decode prog_1_method_11_code 0 = .ok (.aload_n 0, 1) := by decide +kernel
theorem d_H_paysBack_1 : decode prog_1_method_11_code 1 = .ok (.iload_n 1, 1) := by decide +kernel
theorem d_H_paysBack_2 : decode prog_1_method_11_code 2 = .ok (.invokevirtual 107, 3) := by decide +kernel
theorem d_H_paysBack_5 : decode prog_1_method_11_code 5 = .ok (.astore 4, 2) := by decide +kernel
theorem d_H_paysBack_7 : decode prog_1_method_11_code 7 = .ok (.aload_n 0, 1) := by decide +kernel
theorem d_H_paysBack_8 : decode prog_1_method_11_code 8 = .ok (.iload_n 2, 1) := by decide +kernel
theorem d_H_paysBack_9 : decode prog_1_method_11_code 9 = .ok (.invokevirtual 107, 3) := by decide +kernel
theorem d_H_paysBack_12 : decode prog_1_method_11_code 12 = .ok (.astore 5, 2) := by decide +kernel
theorem d_H_paysBack_14 : decode prog_1_method_11_code 14 = .ok (.aload 4, 2) := by decide +kernel
theorem d_H_paysBack_16 : decode prog_1_method_11_code 16 = .ok (.ifnull 8, 3) := by decide +kernel
theorem d_H_paysBack_24 : decode prog_1_method_11_code 24 = .ok (.new 115, 3) := by decide +kernel
theorem d_H_paysBack_27 : decode prog_1_method_11_code 27 = .ok (.dup, 1) := by decide +kernel
theorem d_H_paysBack_28 : decode prog_1_method_11_code 28 = .ok (.ldc 133, 2) := by decide +kernel
theorem d_H_paysBack_30 : decode prog_1_method_11_code 30 = .ok (.invokespecial 119, 3) := by decide +kernel
theorem d_H_paysBack_33 : decode prog_1_method_11_code 33 = .ok (.athrow, 1) := by decide +kernel
theorem d_H_locus_0 : decode prog_1_method_13_code 0 = .ok (.aload_n 0, 1) := by decide +kernel
theorem d_H_locus_1 : decode prog_1_method_13_code 1 = .ok (.getfield 34, 3) := by decide +kernel
theorem d_H_locus_4 : decode prog_1_method_13_code 4 = .ok (.iload_n 1, 1) := by decide +kernel
theorem d_H_locus_5 : decode prog_1_method_13_code 5 = .ok (.invokevirtual 201, 3) := by decide +kernel
theorem d_H_locus_8 : decode prog_1_method_13_code 8 = .ok (.astore_n 3, 1) := by decide +kernel
theorem d_H_locus_9 : decode prog_1_method_13_code 9 = .ok (.aload_n 3, 1) := by decide +kernel
theorem d_H_locus_10 : decode prog_1_method_13_code 10 = .ok (.ifnonnull 13, 3) := by decide +kernel
theorem d_H_locus_13 : decode prog_1_method_13_code 13 = .ok (.new 115, 3) := by decide +kernel
theorem d_H_locus_16 : decode prog_1_method_13_code 16 = .ok (.dup, 1) := by decide +kernel
theorem d_H_locus_17 : decode prog_1_method_13_code 17 = .ok (.ldc 205, 2) := by decide +kernel
theorem d_H_locus_19 : decode prog_1_method_13_code 19 = .ok (.invokespecial 119, 3) := by decide +kernel
theorem d_H_locus_22 : decode prog_1_method_13_code 22 = .ok (.athrow, 1) := by decide +kernel
theorem d_H_cue_0 : decode prog_1_method_14_code 0 = .ok (.aload_n 0, 1) := by decide +kernel
theorem d_H_cue_1 : decode prog_1_method_14_code 1 = .ok (.getfield 34, 3) := by decide +kernel
theorem d_H_cue_4 : decode prog_1_method_14_code 4 = .ok (.iload_n 1, 1) := by decide +kernel
theorem d_H_cue_5 : decode prog_1_method_14_code 5 = .ok (.iload_n 2, 1) := by decide +kernel
theorem d_H_cue_6 : decode prog_1_method_14_code 6 = .ok (.invokevirtual 217, 3) := by decide +kernel
theorem d_H_cue_9 : decode prog_1_method_14_code 9 = .ok (.astore 4, 2) := by decide +kernel
theorem d_H_cue_11 : decode prog_1_method_14_code 11 = .ok (.aload 4, 2) := by decide +kernel
theorem d_H_cue_13 : decode prog_1_method_14_code 13 = .ok (.ifnonnull 13, 3) := by decide +kernel
theorem d_H_cue_16 : decode prog_1_method_14_code 16 = .ok (.new 115, 3) := by decide +kernel
theorem d_H_cue_19 : decode prog_1_method_14_code 19 = .ok (.dup, 1) := by decide +kernel
theorem d_H_cue_20 : decode prog_1_method_14_code 20 = .ok (.ldc 221, 2) := by decide +kernel
theorem d_H_cue_22 : decode prog_1_method_14_code 22 = .ok (.invokespecial 119, 3) := by decide +kernel
theorem d_H_cue_25 : decode prog_1_method_14_code 25 = .ok (.athrow, 1) := by decide +kernel
theorem d_H_lay_0 : decode prog_1_method_16_code 0 = .ok (.aload_n 0, 1) := by decide +kernel
theorem d_H_lay_1 : decode prog_1_method_16_code 1 = .ok (.getfield 34, 3) := by decide +kernel
theorem d_H_lay_4 : decode prog_1_method_16_code 4 = .ok (.iload_n 1, 1) := by decide +kernel
theorem d_H_lay_5 : decode prog_1_method_16_code 5 = .ok (.iload_n 2, 1) := by decide +kernel
theorem d_H_lay_6 : decode prog_1_method_16_code 6 = .ok (.invokevirtual 217, 3) := by decide +kernel
theorem d_H_lay_9 : decode prog_1_method_16_code 9 = .ok (.astore 5, 2) := by decide +kernel
theorem d_H_lay_11 : decode prog_1_method_16_code 11 = .ok (.aload_n 0, 1) := by decide +kernel
theorem d_H_lay_12 : decode prog_1_method_16_code 12 = .ok (.iload_n 3, 1) := by decide +kernel
theorem d_H_lay_13 : decode prog_1_method_16_code 13 = .ok (.invokevirtual 107, 3) := by decide +kernel
theorem d_H_lay_16 : decode prog_1_method_16_code 16 = .ok (.astore 6, 2) := by decide +kernel
theorem d_H_lay_18 : decode prog_1_method_16_code 18 = .ok (.aload 5, 2) := by decide +kernel
theorem d_H_lay_20 : decode prog_1_method_16_code 20 = .ok (.ifnull 8, 3) := by decide +kernel
theorem d_H_lay_28 : decode prog_1_method_16_code 28 = .ok (.new 115, 3) := by decide +kernel
theorem d_H_lay_31 : decode prog_1_method_16_code 31 = .ok (.dup, 1) := by decide +kernel
theorem d_H_lay_32 : decode prog_1_method_16_code 32 = .ok (.ldc 234, 2) := by decide +kernel
theorem d_H_lay_34 : decode prog_1_method_16_code 34 = .ok (.invokespecial 119, 3) := by decide +kernel
theorem d_H_lay_37 : decode prog_1_method_16_code 37 = .ok (.athrow, 1) := by decide +kernel
theorem d_H_traces_0 : decode prog_1_method_17_code 0 = .ok (.aload_n 0, 1) := by decide +kernel
theorem d_H_traces_1 : decode prog_1_method_17_code 1 = .ok (.getfield 34, 3) := by decide +kernel
theorem d_H_traces_4 : decode prog_1_method_17_code 4 = .ok (.iload_n 1, 1) := by decide +kernel
theorem d_H_traces_5 : decode prog_1_method_17_code 5 = .ok (.iload_n 2, 1) := by decide +kernel
theorem d_H_traces_6 : decode prog_1_method_17_code 6 = .ok (.invokevirtual 217, 3) := by decide +kernel
theorem d_H_traces_9 : decode prog_1_method_17_code 9 = .ok (.astore_n 3, 1) := by decide +kernel
theorem d_H_traces_10 : decode prog_1_method_17_code 10 = .ok (.aload_n 3, 1) := by decide +kernel
theorem d_H_traces_11 : decode prog_1_method_17_code 11 = .ok (.ifnonnull 13, 3) := by decide +kernel
theorem d_H_traces_14 : decode prog_1_method_17_code 14 = .ok (.new 115, 3) := by decide +kernel
theorem d_H_traces_17 : decode prog_1_method_17_code 17 = .ok (.dup, 1) := by decide +kernel
theorem d_H_traces_18 : decode prog_1_method_17_code 18 = .ok (.ldc 221, 2) := by decide +kernel
theorem d_H_traces_20 : decode prog_1_method_17_code 20 = .ok (.invokespecial 119, 3) := by decide +kernel
theorem d_H_traces_23 : decode prog_1_method_17_code 23 = .ok (.athrow, 1) := by decide +kernel
theorem d_H_hold_0 : decode prog_1_method_18_code 0 = .ok (.aload_n 0, 1) := by decide +kernel
theorem d_H_hold_1 : decode prog_1_method_18_code 1 = .ok (.getfield 34, 3) := by decide +kernel
theorem d_H_hold_4 : decode prog_1_method_18_code 4 = .ok (.iload_n 1, 1) := by decide +kernel
theorem d_H_hold_5 : decode prog_1_method_18_code 5 = .ok (.invokevirtual 201, 3) := by decide +kernel
theorem d_H_hold_8 : decode prog_1_method_18_code 8 = .ok (.astore 4, 2) := by decide +kernel
theorem d_H_hold_10 : decode prog_1_method_18_code 10 = .ok (.aload_n 0, 1) := by decide +kernel
theorem d_H_hold_11 : decode prog_1_method_18_code 11 = .ok (.getfield 34, 3) := by decide +kernel
theorem d_H_hold_14 : decode prog_1_method_18_code 14 = .ok (.iload_n 1, 1) := by decide +kernel
theorem d_H_hold_15 : decode prog_1_method_18_code 15 = .ok (.iload_n 2, 1) := by decide +kernel
theorem d_H_hold_16 : decode prog_1_method_18_code 16 = .ok (.invokevirtual 217, 3) := by decide +kernel
theorem d_H_hold_19 : decode prog_1_method_18_code 19 = .ok (.astore 5, 2) := by decide +kernel
theorem d_H_hold_21 : decode prog_1_method_18_code 21 = .ok (.aload 4, 2) := by decide +kernel
theorem d_H_hold_23 : decode prog_1_method_18_code 23 = .ok (.ifnull 8, 3) := by decide +kernel
theorem d_H_hold_31 : decode prog_1_method_18_code 31 = .ok (.new 115, 3) := by decide +kernel
theorem d_H_hold_34 : decode prog_1_method_18_code 34 = .ok (.dup, 1) := by decide +kernel
theorem d_H_hold_35 : decode prog_1_method_18_code 35 = .ok (.ldc 221, 2) := by decide +kernel
theorem d_H_hold_37 : decode prog_1_method_18_code 37 = .ok (.invokespecial 119, 3) := by decide +kernel
theorem d_H_hold_40 : decode prog_1_method_18_code 40 = .ok (.athrow, 1) := by decide +kernel
theorem d_H_recall_0 : decode prog_1_method_19_code 0 = .ok (.aload_n 0, 1) := by decide +kernel
theorem d_H_recall_1 : decode prog_1_method_19_code 1 = .ok (.getfield 34, 3) := by decide +kernel
theorem d_H_recall_4 : decode prog_1_method_19_code 4 = .ok (.iload_n 1, 1) := by decide +kernel
theorem d_H_recall_5 : decode prog_1_method_19_code 5 = .ok (.invokevirtual 201, 3) := by decide +kernel
theorem d_H_recall_8 : decode prog_1_method_19_code 8 = .ok (.astore_n 3, 1) := by decide +kernel
theorem d_H_recall_9 : decode prog_1_method_19_code 9 = .ok (.aload_n 3, 1) := by decide +kernel
theorem d_H_recall_10 : decode prog_1_method_19_code 10 = .ok (.ifnull 15, 3) := by decide +kernel
theorem d_H_recall_25 : decode prog_1_method_19_code 25 = .ok (.new 115, 3) := by decide +kernel
theorem d_H_recall_28 : decode prog_1_method_19_code 28 = .ok (.dup, 1) := by decide +kernel
theorem d_H_recall_29 : decode prog_1_method_19_code 29 = .ok (.ldc 221, 2) := by decide +kernel
theorem d_H_recall_31 : decode prog_1_method_19_code 31 = .ok (.invokespecial 119, 3) := by decide +kernel
theorem d_H_recall_34 : decode prog_1_method_19_code 34 = .ok (.athrow, 1) := by decide +kernel
theorem d_H_recalled_0 : decode prog_1_method_20_code 0 = .ok (.aload_n 0, 1) := by decide +kernel
theorem d_H_recalled_1 : decode prog_1_method_20_code 1 = .ok (.getfield 34, 3) := by decide +kernel
theorem d_H_recalled_4 : decode prog_1_method_20_code 4 = .ok (.iload_n 1, 1) := by decide +kernel
theorem d_H_recalled_5 : decode prog_1_method_20_code 5 = .ok (.invokevirtual 201, 3) := by decide +kernel
theorem d_H_recalled_8 : decode prog_1_method_20_code 8 = .ok (.astore 4, 2) := by decide +kernel
theorem d_H_recalled_10 : decode prog_1_method_20_code 10 = .ok (.aload 4, 2) := by decide +kernel
theorem d_H_recalled_12 : decode prog_1_method_20_code 12 = .ok (.ifnull 15, 3) := by decide +kernel
theorem d_H_recalled_27 : decode prog_1_method_20_code 27 = .ok (.new 115, 3) := by decide +kernel
theorem d_H_recalled_30 : decode prog_1_method_20_code 30 = .ok (.dup, 1) := by decide +kernel
theorem d_H_recalled_31 : decode prog_1_method_20_code 31 = .ok (.ldc 221, 2) := by decide +kernel
theorem d_H_recalled_33 : decode prog_1_method_20_code 33 = .ok (.invokespecial 119, 3) := by decide +kernel
theorem d_H_recalled_36 : decode prog_1_method_20_code 36 = .ok (.athrow, 1) := by decide +kernel
theorem d_H_walk_0 : decode prog_1_method_21_code 0 = .ok (.aload_n 0, 1) := by decide +kernel
theorem d_H_walk_1 : decode prog_1_method_21_code 1 = .ok (.getfield 34, 3) := by decide +kernel
theorem d_H_walk_4 : decode prog_1_method_21_code 4 = .ok (.iload_n 1, 1) := by decide +kernel
theorem d_H_walk_5 : decode prog_1_method_21_code 5 = .ok (.invokevirtual 201, 3) := by decide +kernel
theorem d_H_walk_8 : decode prog_1_method_21_code 8 = .ok (.astore_n 2, 1) := by decide +kernel
theorem d_H_walk_9 : decode prog_1_method_21_code 9 = .ok (.aload_n 2, 1) := by decide +kernel
theorem d_H_walk_10 : decode prog_1_method_21_code 10 = .ok (.ifnonnull 13, 3) := by decide +kernel
theorem d_H_walk_13 : decode prog_1_method_21_code 13 = .ok (.new 115, 3) := by decide +kernel
theorem d_H_walk_16 : decode prog_1_method_21_code 16 = .ok (.dup, 1) := by decide +kernel
theorem d_H_walk_17 : decode prog_1_method_21_code 17 = .ok (.ldc 205, 2) := by decide +kernel
theorem d_H_walk_19 : decode prog_1_method_21_code 19 = .ok (.invokespecial 119, 3) := by decide +kernel
theorem d_H_walk_22 : decode prog_1_method_21_code 22 = .ok (.athrow, 1) := by decide +kernel
theorem d_H_groups_0 : decode prog_1_method_22_code 0 = .ok (.aload_n 0, 1) := by decide +kernel
theorem d_H_groups_1 : decode prog_1_method_22_code 1 = .ok (.getfield 34, 3) := by decide +kernel
theorem d_H_groups_4 : decode prog_1_method_22_code 4 = .ok (.iload_n 1, 1) := by decide +kernel
theorem d_H_groups_5 : decode prog_1_method_22_code 5 = .ok (.invokevirtual 201, 3) := by decide +kernel
theorem d_H_groups_8 : decode prog_1_method_22_code 8 = .ok (.astore_n 3, 1) := by decide +kernel
theorem d_H_groups_9 : decode prog_1_method_22_code 9 = .ok (.aload_n 3, 1) := by decide +kernel
theorem d_H_groups_10 : decode prog_1_method_22_code 10 = .ok (.ifnonnull 13, 3) := by decide +kernel
theorem d_H_groups_13 : decode prog_1_method_22_code 13 = .ok (.new 115, 3) := by decide +kernel
theorem d_H_groups_16 : decode prog_1_method_22_code 16 = .ok (.dup, 1) := by decide +kernel
theorem d_H_groups_17 : decode prog_1_method_22_code 17 = .ok (.ldc 205, 2) := by decide +kernel
theorem d_H_groups_19 : decode prog_1_method_22_code 19 = .ok (.invokespecial 119, 3) := by decide +kernel
theorem d_H_groups_22 : decode prog_1_method_22_code 22 = .ok (.athrow, 1) := by decide +kernel
theorem d_H_wipe_0 : decode prog_1_method_23_code 0 = .ok (.aload_n 0, 1) := by decide +kernel
theorem d_H_wipe_1 : decode prog_1_method_23_code 1 = .ok (.getfield 34, 3) := by decide +kernel
theorem d_H_wipe_4 : decode prog_1_method_23_code 4 = .ok (.iload_n 1, 1) := by decide +kernel
theorem d_H_wipe_5 : decode prog_1_method_23_code 5 = .ok (.iload_n 2, 1) := by decide +kernel
theorem d_H_wipe_6 : decode prog_1_method_23_code 6 = .ok (.invokevirtual 217, 3) := by decide +kernel
theorem d_H_wipe_9 : decode prog_1_method_23_code 9 = .ok (.astore_n 3, 1) := by decide +kernel
theorem d_H_wipe_10 : decode prog_1_method_23_code 10 = .ok (.aload_n 3, 1) := by decide +kernel
theorem d_H_wipe_11 : decode prog_1_method_23_code 11 = .ok (.ifnonnull 13, 3) := by decide +kernel
theorem d_H_wipe_14 : decode prog_1_method_23_code 14 = .ok (.new 115, 3) := by decide +kernel
theorem d_H_wipe_17 : decode prog_1_method_23_code 17 = .ok (.dup, 1) := by decide +kernel
theorem d_H_wipe_18 : decode prog_1_method_23_code 18 = .ok (.ldc 221, 2) := by decide +kernel
theorem d_H_wipe_20 : decode prog_1_method_23_code 20 = .ok (.invokespecial 119, 3) := by decide +kernel
theorem d_H_wipe_23 : decode prog_1_method_23_code 23 = .ok (.athrow, 1) := by decide +kernel
theorem d_H_contest_0 : decode prog_1_method_29_code 0 = .ok (.aload_n 0, 1) := by decide +kernel
theorem d_H_contest_1 : decode prog_1_method_29_code 1 = .ok (.getfield 34, 3) := by decide +kernel
theorem d_H_contest_4 : decode prog_1_method_29_code 4 = .ok (.iload_n 3, 1) := by decide +kernel
theorem d_H_contest_5 : decode prog_1_method_29_code 5 = .ok (.invokevirtual 201, 3) := by decide +kernel
theorem d_H_contest_8 : decode prog_1_method_29_code 8 = .ok (.astore 6, 2) := by decide +kernel
theorem d_H_contest_10 : decode prog_1_method_29_code 10 = .ok (.aload_n 0, 1) := by decide +kernel
theorem d_H_contest_11 : decode prog_1_method_29_code 11 = .ok (.iload 4, 2) := by decide +kernel
theorem d_H_contest_13 : decode prog_1_method_29_code 13 = .ok (.invokevirtual 107, 3) := by decide +kernel
theorem d_H_contest_16 : decode prog_1_method_29_code 16 = .ok (.astore 7, 2) := by decide +kernel
theorem d_H_contest_18 : decode prog_1_method_29_code 18 = .ok (.aload 6, 2) := by decide +kernel
theorem d_H_contest_20 : decode prog_1_method_29_code 20 = .ok (.ifnull 8, 3) := by decide +kernel
theorem d_H_contest_28 : decode prog_1_method_29_code 28 = .ok (.new 115, 3) := by decide +kernel
theorem d_H_contest_31 : decode prog_1_method_29_code 31 = .ok (.dup, 1) := by decide +kernel
theorem d_H_contest_32 : decode prog_1_method_29_code 32 = .ok (.ldc_w 315, 3) := by decide +kernel
theorem d_H_contest_35 : decode prog_1_method_29_code 35 = .ok (.invokespecial 119, 3) := by decide +kernel
theorem d_H_contest_38 : decode prog_1_method_29_code 38 = .ok (.athrow, 1) := by decide +kernel
theorem d_H_speech_0 : decode prog_1_method_38_code 0 = .ok (.aload_n 0, 1) := by decide +kernel
theorem d_H_speech_1 : decode prog_1_method_38_code 1 = .ok (.getfield 34, 3) := by decide +kernel
theorem d_H_speech_4 : decode prog_1_method_38_code 4 = .ok (.iload_n 1, 1) := by decide +kernel
theorem d_H_speech_5 : decode prog_1_method_38_code 5 = .ok (.invokevirtual 201, 3) := by decide +kernel
theorem d_H_speech_8 : decode prog_1_method_38_code 8 = .ok (.astore_n 3, 1) := by decide +kernel
theorem d_H_speech_9 : decode prog_1_method_38_code 9 = .ok (.aload_n 3, 1) := by decide +kernel
theorem d_H_speech_10 : decode prog_1_method_38_code 10 = .ok (.ifnonnull 13, 3) := by decide +kernel
theorem d_H_speech_13 : decode prog_1_method_38_code 13 = .ok (.new 115, 3) := by decide +kernel
theorem d_H_speech_16 : decode prog_1_method_38_code 16 = .ok (.dup, 1) := by decide +kernel
theorem d_H_speech_17 : decode prog_1_method_38_code 17 = .ok (.ldc 205, 2) := by decide +kernel
theorem d_H_speech_19 : decode prog_1_method_38_code 19 = .ok (.invokespecial 119, 3) := by decide +kernel
theorem d_H_speech_22 : decode prog_1_method_38_code 22 = .ok (.athrow, 1) := by decide +kernel
theorem d_H_drawn_0 : decode prog_1_method_30_code 0 = .ok (.iload_n 1, 1) := by decide +kernel
theorem d_H_drawn_1 : decode prog_1_method_30_code 1 = .ok (.ifCond .lt 26, 3) := by decide +kernel
theorem d_H_drawn_4 : decode prog_1_method_30_code 4 = .ok (.iload_n 1, 1) := by decide +kernel
theorem d_H_drawn_5 : decode prog_1_method_30_code 5 = .ok (.aload_n 0, 1) := by decide +kernel
theorem d_H_drawn_6 : decode prog_1_method_30_code 6 = .ok (.getfield 55, 3) := by decide +kernel
theorem d_H_drawn_9 : decode prog_1_method_30_code 9 = .ok (.getfield 341, 3) := by decide +kernel
theorem d_H_drawn_12 : decode prog_1_method_30_code 12 = .ok (.if_icmp .ge 15, 3) := by decide +kernel
theorem d_H_drawn_27 : decode prog_1_method_30_code 27 = .ok (.new 138, 3) := by decide +kernel
theorem d_H_drawn_30 : decode prog_1_method_30_code 30 = .ok (.dup, 1) := by decide +kernel
theorem d_H_drawn_31 : decode prog_1_method_30_code 31 = .ok (.ldc_w 342, 3) := by decide +kernel
theorem d_H_drawn_34 : decode prog_1_method_30_code 34 = .ok (.invokespecial 142, 3) := by decide +kernel
theorem d_H_drawn_37 : decode prog_1_method_30_code 37 = .ok (.athrow, 1) := by decide +kernel
theorem d_H_answer_0 : decode prog_1_method_31_code 0 = .ok (.aload_n 0, 1) := by decide +kernel
theorem d_H_answer_1 : decode prog_1_method_31_code 1 = .ok (.getfield 55, 3) := by decide +kernel
theorem d_H_answer_4 : decode prog_1_method_31_code 4 = .ok (.getfield 319, 3) := by decide +kernel
theorem d_H_answer_7 : decode prog_1_method_31_code 7 = .ok (.ifCond .ne 14, 3) := by decide +kernel
theorem d_H_answer_10 : decode prog_1_method_31_code 10 = .ok (.new 138, 3) := by decide +kernel
theorem d_H_answer_13 : decode prog_1_method_31_code 13 = .ok (.dup, 1) := by decide +kernel
theorem d_H_answer_14 : decode prog_1_method_31_code 14 = .ok (.ldc_w 344, 3) := by decide +kernel
theorem d_H_answer_17 : decode prog_1_method_31_code 17 = .ok (.invokespecial 142, 3) := by decide +kernel
theorem d_H_answer_20 : decode prog_1_method_31_code 20 = .ok (.athrow, 1) := by decide +kernel
theorem d_H_answerAll_0 : decode prog_1_method_32_code 0 = .ok (.aload_n 0, 1) := by decide +kernel
theorem d_H_answerAll_1 : decode prog_1_method_32_code 1 = .ok (.getfield 55, 3) := by decide +kernel
theorem d_H_answerAll_4 : decode prog_1_method_32_code 4 = .ok (.getfield 319, 3) := by decide +kernel
theorem d_H_answerAll_7 : decode prog_1_method_32_code 7 = .ok (.ifCond .ne 14, 3) := by decide +kernel
theorem d_H_answerAll_10 : decode prog_1_method_32_code 10 = .ok (.new 138, 3) := by decide +kernel
theorem d_H_answerAll_13 : decode prog_1_method_32_code 13 = .ok (.dup, 1) := by decide +kernel
theorem d_H_answerAll_14 : decode prog_1_method_32_code 14 = .ok (.ldc_w 344, 3) := by decide +kernel
theorem d_H_answerAll_17 : decode prog_1_method_32_code 17 = .ok (.invokespecial 142, 3) := by decide +kernel
theorem d_H_answerAll_20 : decode prog_1_method_32_code 20 = .ok (.athrow, 1) := by decide +kernel
theorem d_H_appeal_0 : decode prog_1_method_33_code 0 = .ok (.aload_n 0, 1) := by decide +kernel
theorem d_H_appeal_1 : decode prog_1_method_33_code 1 = .ok (.getfield 55, 3) := by decide +kernel
theorem d_H_appeal_4 : decode prog_1_method_33_code 4 = .ok (.getfield 319, 3) := by decide +kernel
theorem d_H_appeal_7 : decode prog_1_method_33_code 7 = .ok (.ifCond .eq 18, 3) := by decide +kernel
theorem d_H_appeal_25 : decode prog_1_method_33_code 25 = .ok (.new 138, 3) := by decide +kernel
theorem d_H_appeal_28 : decode prog_1_method_33_code 28 = .ok (.dup, 1) := by decide +kernel
theorem d_H_appeal_29 : decode prog_1_method_33_code 29 = .ok (.ldc_w 365, 3) := by decide +kernel
theorem d_H_appeal_32 : decode prog_1_method_33_code 32 = .ok (.invokespecial 142, 3) := by decide +kernel
theorem d_H_appeal_35 : decode prog_1_method_33_code 35 = .ok (.athrow, 1) := by decide +kernel
theorem d_H_close_0 : decode prog_1_method_34_code 0 = .ok (.aload_n 0, 1) := by decide +kernel
theorem d_H_close_1 : decode prog_1_method_34_code 1 = .ok (.getfield 55, 3) := by decide +kernel
theorem d_H_close_4 : decode prog_1_method_34_code 4 = .ok (.getfield 319, 3) := by decide +kernel
theorem d_H_close_7 : decode prog_1_method_34_code 7 = .ok (.ifCond .ne 14, 3) := by decide +kernel
theorem d_H_close_10 : decode prog_1_method_34_code 10 = .ok (.new 138, 3) := by decide +kernel
theorem d_H_close_13 : decode prog_1_method_34_code 13 = .ok (.dup, 1) := by decide +kernel
theorem d_H_close_14 : decode prog_1_method_34_code 14 = .ok (.ldc_w 344, 3) := by decide +kernel
theorem d_H_close_17 : decode prog_1_method_34_code 17 = .ok (.invokespecial 142, 3) := by decide +kernel
theorem d_H_close_20 : decode prog_1_method_34_code 20 = .ok (.athrow, 1) := by decide +kernel
theorem d_H_points_0 : decode prog_1_method_35_code 0 = .ok (.aload_n 0, 1) := by decide +kernel
theorem d_H_points_1 : decode prog_1_method_35_code 1 = .ok (.getfield 55, 3) := by decide +kernel
theorem d_H_points_4 : decode prog_1_method_35_code 4 = .ok (.getfield 398, 3) := by decide +kernel
theorem d_H_points_7 : decode prog_1_method_35_code 7 = .ok (.ifCond .ne 14, 3) := by decide +kernel
theorem d_H_points_10 : decode prog_1_method_35_code 10 = .ok (.new 138, 3) := by decide +kernel
theorem d_H_points_13 : decode prog_1_method_35_code 13 = .ok (.dup, 1) := by decide +kernel
theorem d_H_points_14 : decode prog_1_method_35_code 14 = .ok (.ldc_w 401, 3) := by decide +kernel
theorem d_H_points_17 : decode prog_1_method_35_code 17 = .ok (.invokespecial 142, 3) := by decide +kernel
theorem d_H_points_20 : decode prog_1_method_35_code 20 = .ok (.athrow, 1) := by decide +kernel
theorem d_HContest_bestUpTo_0 : decode prog_2_method_14_code 0 = .ok (.iconst (-1), 1) := by decide +kernel
theorem d_HContest_bestUpTo_1 : decode prog_2_method_14_code 1 = .ok (.istore_n 2, 1) := by decide +kernel
theorem d_HContest_bestUpTo_2 : decode prog_2_method_14_code 2 = .ok (.iconst 0, 1) := by decide +kernel
theorem d_HContest_bestUpTo_3 : decode prog_2_method_14_code 3 = .ok (.istore_n 3, 1) := by decide +kernel
theorem d_HContest_bestUpTo_4 : decode prog_2_method_14_code 4 = .ok (.iload_n 3, 1) := by decide +kernel
theorem d_HContest_bestUpTo_5 : decode prog_2_method_14_code 5 = .ok (.aload_n 0, 1) := by decide +kernel
theorem d_HContest_bestUpTo_6 : decode prog_2_method_14_code 6 = .ok (.getfield 116, 3) := by decide +kernel
theorem d_HContest_bestUpTo_9 : decode prog_2_method_14_code 9 = .ok (.if_icmp .ge 39, 3) := by decide +kernel
theorem d_HContest_bestUpTo_48 : decode prog_2_method_14_code 48 = .ok (.iload_n 2, 1) := by decide +kernel
theorem d_HContest_bestUpTo_49 : decode prog_2_method_14_code 49 = .ok (.ireturn, 1) := by decide +kernel
theorem d_H_record_0 : decode prog_1_method_36_code 0 = .ok (.iload_n 1, 1) := by decide +kernel
theorem d_H_record_1 : decode prog_1_method_36_code 1 = .ok (.invokestatic 299, 3) := by decide +kernel
theorem d_H_record_4 : decode prog_1_method_36_code 4 = .ok (.ifCond .ne 14, 3) := by decide +kernel
theorem d_H_record_7 : decode prog_1_method_36_code 7 = .ok (.new 77, 3) := by decide +kernel
theorem d_H_record_10 : decode prog_1_method_36_code 10 = .ok (.dup, 1) := by decide +kernel
theorem d_H_record_11 : decode prog_1_method_36_code 11 = .ok (.ldc_w 409, 3) := by decide +kernel
theorem d_H_record_14 : decode prog_1_method_36_code 14 = .ok (.invokespecial 81, 3) := by decide +kernel
theorem d_H_record_17 : decode prog_1_method_36_code 17 = .ok (.athrow, 1) := by decide +kernel
theorem d_H_record_18 : decode prog_1_method_36_code 18 = .ok (.aload_n 0, 1) := by decide +kernel
theorem d_H_record_19 : decode prog_1_method_36_code 19 = .ok (.getfield 55, 3) := by decide +kernel
theorem d_H_record_22 : decode prog_1_method_36_code 22 = .ok (.iload_n 1, 1) := by decide +kernel
theorem d_H_record_23 : decode prog_1_method_36_code 23 = .ok (.invokevirtual 411, 3) := by decide +kernel
theorem d_H_record_26 : decode prog_1_method_36_code 26 = .ok (.istore_n 2, 1) := by decide +kernel
theorem d_H_record_27 : decode prog_1_method_36_code 27 = .ok (.iload_n 2, 1) := by decide +kernel
theorem d_H_record_28 : decode prog_1_method_36_code 28 = .ok (.iconst (-1), 1) := by decide +kernel
theorem d_H_record_29 : decode prog_1_method_36_code 29 = .ok (.if_icmp .ne 14, 3) := by decide +kernel
theorem d_H_record_32 : decode prog_1_method_36_code 32 = .ok (.new 138, 3) := by decide +kernel
theorem d_H_record_35 : decode prog_1_method_36_code 35 = .ok (.dup, 1) := by decide +kernel
theorem d_H_record_36 : decode prog_1_method_36_code 36 = .ok (.ldc_w 414, 3) := by decide +kernel
theorem d_H_record_39 : decode prog_1_method_36_code 39 = .ok (.invokespecial 142, 3) := by decide +kernel
theorem d_H_record_42 : decode prog_1_method_36_code 42 = .ok (.athrow, 1) := by decide +kernel
theorem d_H_isSuspect_0 : decode prog_1_method_37_code 0 = .ok (.aload_n 0, 1) := by decide +kernel
theorem d_H_isSuspect_1 : decode prog_1_method_37_code 1 = .ok (.getfield 55, 3) := by decide +kernel
theorem d_H_isSuspect_4 : decode prog_1_method_37_code 4 = .ok (.getfield 341, 3) := by decide +kernel
theorem d_H_isSuspect_7 : decode prog_1_method_37_code 7 = .ok (.ifCond .ne 14, 3) := by decide +kernel
theorem d_H_isSuspect_10 : decode prog_1_method_37_code 10 = .ok (.new 138, 3) := by decide +kernel
theorem d_H_isSuspect_13 : decode prog_1_method_37_code 13 = .ok (.dup, 1) := by decide +kernel
theorem d_H_isSuspect_14 : decode prog_1_method_37_code 14 = .ok (.ldc_w 416, 3) := by decide +kernel
theorem d_H_isSuspect_17 : decode prog_1_method_37_code 17 = .ok (.invokespecial 142, 3) := by decide +kernel
theorem d_H_isSuspect_20 : decode prog_1_method_37_code 20 = .ok (.athrow, 1) := by decide +kernel
theorem d_H_speak_0 : decode prog_1_method_39_code 0 = .ok (.iload_n 1, 1) := by decide +kernel
theorem d_H_speak_1 : decode prog_1_method_39_code 1 = .ok (.ifCond .lt 14, 3) := by decide +kernel
theorem d_H_speak_4 : decode prog_1_method_39_code 4 = .ok (.iload_n 1, 1) := by decide +kernel
theorem d_H_speak_5 : decode prog_1_method_39_code 5 = .ok (.aload_n 0, 1) := by decide +kernel
theorem d_H_speak_6 : decode prog_1_method_39_code 6 = .ok (.getfield 62, 3) := by decide +kernel
theorem d_H_speak_9 : decode prog_1_method_39_code 9 = .ok (.getfield 424, 3) := by decide +kernel
theorem d_H_speak_12 : decode prog_1_method_39_code 12 = .ok (.if_icmp .lt 14, 3) := by decide +kernel
theorem d_H_speak_15 : decode prog_1_method_39_code 15 = .ok (.new 115, 3) := by decide +kernel
theorem d_H_speak_18 : decode prog_1_method_39_code 18 = .ok (.dup, 1) := by decide +kernel
theorem d_H_speak_19 : decode prog_1_method_39_code 19 = .ok (.ldc_w 429, 3) := by decide +kernel
theorem d_H_speak_22 : decode prog_1_method_39_code 22 = .ok (.invokespecial 119, 3) := by decide +kernel
theorem d_H_speak_25 : decode prog_1_method_39_code 25 = .ok (.athrow, 1) := by decide +kernel
theorem d_H_point_0 : decode prog_1_method_40_code 0 = .ok (.aload_n 0, 1) := by decide +kernel
theorem d_H_point_1 : decode prog_1_method_40_code 1 = .ok (.getfield 62, 3) := by decide +kernel
theorem d_H_point_4 : decode prog_1_method_40_code 4 = .ok (.getfield 434, 3) := by decide +kernel
theorem d_H_point_7 : decode prog_1_method_40_code 7 = .ok (.ifCond .eq 13, 3) := by decide +kernel
theorem d_H_point_20 : decode prog_1_method_40_code 20 = .ok (.new 138, 3) := by decide +kernel
theorem d_H_point_23 : decode prog_1_method_40_code 23 = .ok (.dup, 1) := by decide +kernel
theorem d_H_point_24 : decode prog_1_method_40_code 24 = .ok (.ldc_w 444, 3) := by decide +kernel
theorem d_H_point_27 : decode prog_1_method_40_code 27 = .ok (.invokespecial 142, 3) := by decide +kernel
theorem d_H_point_30 : decode prog_1_method_40_code 30 = .ok (.athrow, 1) := by decide +kernel
theorem d_H_interrupt_0 : decode prog_1_method_41_code 0 = .ok (.aload_n 0, 1) := by decide +kernel
theorem d_H_interrupt_1 : decode prog_1_method_41_code 1 = .ok (.getfield 62, 3) := by decide +kernel
theorem d_H_interrupt_4 : decode prog_1_method_41_code 4 = .ok (.getfield 434, 3) := by decide +kernel
theorem d_H_interrupt_7 : decode prog_1_method_41_code 7 = .ok (.ifCond .eq 13, 3) := by decide +kernel
theorem d_H_interrupt_20 : decode prog_1_method_41_code 20 = .ok (.new 138, 3) := by decide +kernel
theorem d_H_interrupt_23 : decode prog_1_method_41_code 23 = .ok (.dup, 1) := by decide +kernel
theorem d_H_interrupt_24 : decode prog_1_method_41_code 24 = .ok (.ldc_w 444, 3) := by decide +kernel
theorem d_H_interrupt_27 : decode prog_1_method_41_code 27 = .ok (.invokespecial 142, 3) := by decide +kernel
theorem d_H_interrupt_30 : decode prog_1_method_41_code 30 = .ok (.athrow, 1) := by decide +kernel
theorem d_H_resume_0 : decode prog_1_method_42_code 0 = .ok (.aload_n 0, 1) := by decide +kernel
theorem d_H_resume_1 : decode prog_1_method_42_code 1 = .ok (.getfield 62, 3) := by decide +kernel
theorem d_H_resume_4 : decode prog_1_method_42_code 4 = .ok (.getfield 437, 3) := by decide +kernel
theorem d_H_resume_7 : decode prog_1_method_42_code 7 = .ok (.ifCond .ne 14, 3) := by decide +kernel
theorem d_H_resume_10 : decode prog_1_method_42_code 10 = .ok (.new 138, 3) := by decide +kernel
theorem d_H_resume_13 : decode prog_1_method_42_code 13 = .ok (.dup, 1) := by decide +kernel
theorem d_H_resume_14 : decode prog_1_method_42_code 14 = .ok (.ldc_w 452, 3) := by decide +kernel
theorem d_H_resume_17 : decode prog_1_method_42_code 17 = .ok (.invokespecial 142, 3) := by decide +kernel
theorem d_H_resume_20 : decode prog_1_method_42_code 20 = .ok (.athrow, 1) := by decide +kernel
theorem d_H_review_0 : decode prog_1_method_44_code 0 = .ok (.aload_n 0, 1) := by decide +kernel
theorem d_H_review_1 : decode prog_1_method_44_code 1 = .ok (.getfield 69, 3) := by decide +kernel
theorem d_H_review_4 : decode prog_1_method_44_code 4 = .ok (.iload_n 1, 1) := by decide +kernel
theorem d_H_review_5 : decode prog_1_method_44_code 5 = .ok (.invokevirtual 463, 3) := by decide +kernel
theorem d_H_review_8 : decode prog_1_method_44_code 8 = .ok (.ifCond .ne 14, 3) := by decide +kernel
theorem d_H_review_11 : decode prog_1_method_44_code 11 = .ok (.new 115, 3) := by decide +kernel
theorem d_H_review_14 : decode prog_1_method_44_code 14 = .ok (.dup, 1) := by decide +kernel
theorem d_H_review_15 : decode prog_1_method_44_code 15 = .ok (.ldc_w 464, 3) := by decide +kernel
theorem d_H_review_18 : decode prog_1_method_44_code 18 = .ok (.invokespecial 119, 3) := by decide +kernel
theorem d_H_review_21 : decode prog_1_method_44_code 21 = .ok (.athrow, 1) := by decide +kernel
theorem d_H_strength_0 : decode prog_1_method_45_code 0 = .ok (.aload_n 0, 1) := by decide +kernel
theorem d_H_strength_1 : decode prog_1_method_45_code 1 = .ok (.getfield 69, 3) := by decide +kernel
theorem d_H_strength_4 : decode prog_1_method_45_code 4 = .ok (.iload_n 1, 1) := by decide +kernel
theorem d_H_strength_5 : decode prog_1_method_45_code 5 = .ok (.invokevirtual 463, 3) := by decide +kernel
theorem d_H_strength_8 : decode prog_1_method_45_code 8 = .ok (.ifCond .ne 14, 3) := by decide +kernel
theorem d_H_strength_11 : decode prog_1_method_45_code 11 = .ok (.new 115, 3) := by decide +kernel
theorem d_H_strength_14 : decode prog_1_method_45_code 14 = .ok (.dup, 1) := by decide +kernel
theorem d_H_strength_15 : decode prog_1_method_45_code 15 = .ok (.ldc_w 464, 3) := by decide +kernel
theorem d_H_strength_18 : decode prog_1_method_45_code 18 = .ok (.invokespecial 119, 3) := by decide +kernel
theorem d_H_strength_21 : decode prog_1_method_45_code 21 = .ok (.athrow, 1) := by decide +kernel
theorem d_H_isDue_0 : decode prog_1_method_46_code 0 = .ok (.aload_n 0, 1) := by decide +kernel
theorem d_H_isDue_1 : decode prog_1_method_46_code 1 = .ok (.getfield 69, 3) := by decide +kernel
theorem d_H_isDue_4 : decode prog_1_method_46_code 4 = .ok (.iload_n 1, 1) := by decide +kernel
theorem d_H_isDue_5 : decode prog_1_method_46_code 5 = .ok (.invokevirtual 463, 3) := by decide +kernel
theorem d_H_isDue_8 : decode prog_1_method_46_code 8 = .ok (.ifCond .ne 14, 3) := by decide +kernel
theorem d_H_isDue_11 : decode prog_1_method_46_code 11 = .ok (.new 115, 3) := by decide +kernel
theorem d_H_isDue_14 : decode prog_1_method_46_code 14 = .ok (.dup, 1) := by decide +kernel
theorem d_H_isDue_15 : decode prog_1_method_46_code 15 = .ok (.ldc_w 464, 3) := by decide +kernel
theorem d_H_isDue_18 : decode prog_1_method_46_code 18 = .ok (.invokespecial 119, 3) := by decide +kernel
theorem d_H_isDue_21 : decode prog_1_method_46_code 21 = .ok (.athrow, 1) := by decide +kernel
theorem d_H_bestSum_0 : decode prog_1_method_48_code 0 = .ok (.iload_n 1, 1) := by decide +kernel
theorem d_H_bestSum_1 : decode prog_1_method_48_code 1 = .ok (.iconst 1, 1) := by decide +kernel
theorem d_H_bestSum_2 : decode prog_1_method_48_code 2 = .ok (.iconst 5, 1) := by decide +kernel
theorem d_H_bestSum_3 : decode prog_1_method_48_code 3 = .ok (.invokestatic 73, 3) := by decide +kernel
theorem d_H_bestSum_6 : decode prog_1_method_48_code 6 = .ok (.ifCond .ne 14, 3) := by decide +kernel
theorem d_H_bestSum_9 : decode prog_1_method_48_code 9 = .ok (.new 77, 3) := by decide +kernel
theorem d_H_bestSum_12 : decode prog_1_method_48_code 12 = .ok (.dup, 1) := by decide +kernel
theorem d_H_bestSum_13 : decode prog_1_method_48_code 13 = .ok (.ldc_w 477, 3) := by decide +kernel
theorem d_H_bestSum_16 : decode prog_1_method_48_code 16 = .ok (.invokespecial 81, 3) := by decide +kernel
theorem d_H_bestSum_19 : decode prog_1_method_48_code 19 = .ok (.athrow, 1) := by decide +kernel
theorem d_H_bestSum_20 : decode prog_1_method_48_code 20 = .ok (.aload_n 0, 1) := by decide +kernel
theorem d_H_bestSum_21 : decode prog_1_method_48_code 21 = .ok (.getfield 69, 3) := by decide +kernel
theorem d_H_bestSum_24 : decode prog_1_method_48_code 24 = .ok (.getfield 459, 3) := by decide +kernel
theorem d_H_bestSum_27 : decode prog_1_method_48_code 27 = .ok (.iconst 4, 1) := by decide +kernel
theorem d_H_bestSum_28 : decode prog_1_method_48_code 28 = .ok (.if_icmp .le 14, 3) := by decide +kernel
theorem d_H_bestSum_42 : decode prog_1_method_48_code 42 = .ok (.aload_n 0, 1) := by decide +kernel
theorem d_H_bestSum_43 : decode prog_1_method_48_code 43 = .ok (.getfield 69, 3) := by decide +kernel
theorem d_H_bestSum_46 : decode prog_1_method_48_code 46 = .ok (.getfield 459, 3) := by decide +kernel
theorem d_H_bestSum_49 : decode prog_1_method_48_code 49 = .ok (.ifCond .ne 14, 3) := by decide +kernel
theorem d_H_bestSum_52 : decode prog_1_method_48_code 52 = .ok (.new 138, 3) := by decide +kernel
theorem d_H_bestSum_55 : decode prog_1_method_48_code 55 = .ok (.dup, 1) := by decide +kernel
theorem d_H_bestSum_56 : decode prog_1_method_48_code 56 = .ok (.ldc_w 481, 3) := by decide +kernel
theorem d_H_bestSum_59 : decode prog_1_method_48_code 59 = .ok (.invokespecial 142, 3) := by decide +kernel
theorem d_H_bestSum_62 : decode prog_1_method_48_code 62 = .ok (.athrow, 1) := by decide +kernel
theorem d_H_bestAt_0 : decode prog_1_method_49_code 0 = .ok (.iload_n 1, 1) := by decide +kernel
theorem d_H_bestAt_1 : decode prog_1_method_49_code 1 = .ok (.iconst 1, 1) := by decide +kernel
theorem d_H_bestAt_2 : decode prog_1_method_49_code 2 = .ok (.iconst 5, 1) := by decide +kernel
theorem d_H_bestAt_3 : decode prog_1_method_49_code 3 = .ok (.invokestatic 73, 3) := by decide +kernel
theorem d_H_bestAt_6 : decode prog_1_method_49_code 6 = .ok (.ifCond .eq 12, 3) := by decide +kernel
theorem d_H_bestAt_9 : decode prog_1_method_49_code 9 = .ok (.iload_n 2, 1) := by decide +kernel
theorem d_H_bestAt_10 : decode prog_1_method_49_code 10 = .ok (.ifCond .lt 8, 3) := by decide +kernel
theorem d_H_bestAt_13 : decode prog_1_method_49_code 13 = .ok (.iload_n 2, 1) := by decide +kernel
theorem d_H_bestAt_14 : decode prog_1_method_49_code 14 = .ok (.iload_n 1, 1) := by decide +kernel
theorem d_H_bestAt_15 : decode prog_1_method_49_code 15 = .ok (.if_icmp .lt 14, 3) := by decide +kernel
theorem d_H_bestAt_18 : decode prog_1_method_49_code 18 = .ok (.new 77, 3) := by decide +kernel
theorem d_H_bestAt_21 : decode prog_1_method_49_code 21 = .ok (.dup, 1) := by decide +kernel
theorem d_H_bestAt_22 : decode prog_1_method_49_code 22 = .ok (.ldc_w 490, 3) := by decide +kernel
theorem d_H_bestAt_25 : decode prog_1_method_49_code 25 = .ok (.invokespecial 81, 3) := by decide +kernel
theorem d_H_bestAt_28 : decode prog_1_method_49_code 28 = .ok (.athrow, 1) := by decide +kernel
theorem d_H_bestAt_29 : decode prog_1_method_49_code 29 = .ok (.aload_n 0, 1) := by decide +kernel
theorem d_H_bestAt_30 : decode prog_1_method_49_code 30 = .ok (.getfield 69, 3) := by decide +kernel
theorem d_H_bestAt_33 : decode prog_1_method_49_code 33 = .ok (.getfield 459, 3) := by decide +kernel
theorem d_H_bestAt_36 : decode prog_1_method_49_code 36 = .ok (.iconst 4, 1) := by decide +kernel
theorem d_H_bestAt_37 : decode prog_1_method_49_code 37 = .ok (.if_icmp .le 14, 3) := by decide +kernel
theorem d_H_bestAt_51 : decode prog_1_method_49_code 51 = .ok (.aload_n 0, 1) := by decide +kernel
theorem d_H_bestAt_52 : decode prog_1_method_49_code 52 = .ok (.getfield 69, 3) := by decide +kernel
theorem d_H_bestAt_55 : decode prog_1_method_49_code 55 = .ok (.getfield 459, 3) := by decide +kernel
theorem d_H_bestAt_58 : decode prog_1_method_49_code 58 = .ok (.ifCond .ne 14, 3) := by decide +kernel
theorem d_H_bestAt_61 : decode prog_1_method_49_code 61 = .ok (.new 138, 3) := by decide +kernel
theorem d_H_bestAt_64 : decode prog_1_method_49_code 64 = .ok (.dup, 1) := by decide +kernel
theorem d_H_bestAt_65 : decode prog_1_method_49_code 65 = .ok (.ldc_w 481, 3) := by decide +kernel
theorem d_H_bestAt_68 : decode prog_1_method_49_code 68 = .ok (.invokespecial 142, 3) := by decide +kernel
theorem d_H_bestAt_71 : decode prog_1_method_49_code 71 = .ok (.athrow, 1) := by decide +kernel
theorem d_HMind_countLaid_0 : decode prog_6_method_20_code 0 = .ok (.iconst 0, 1) := by decide +kernel
theorem d_HMind_countLaid_1 : decode prog_6_method_20_code 1 = .ok (.istore_n 1, 1) := by decide +kernel
theorem d_HMind_countLaid_2 : decode prog_6_method_20_code 2 = .ok (.iconst 0, 1) := by decide +kernel
theorem d_HMind_countLaid_3 : decode prog_6_method_20_code 3 = .ok (.istore_n 2, 1) := by decide +kernel
theorem d_HMind_countLaid_4 : decode prog_6_method_20_code 4 = .ok (.iload_n 2, 1) := by decide +kernel
theorem d_HMind_countLaid_5 : decode prog_6_method_20_code 5 = .ok (.aload_n 0, 1) := by decide +kernel
theorem d_HMind_countLaid_6 : decode prog_6_method_20_code 6 = .ok (.getfield 25, 3) := by decide +kernel
theorem d_HMind_countLaid_9 : decode prog_6_method_20_code 9 = .ok (.if_icmp .ge 49, 3) := by decide +kernel
theorem d_HMind_countLaid_58 : decode prog_6_method_20_code 58 = .ok (.iload_n 1, 1) := by decide +kernel
theorem d_HMind_countLaid_59 : decode prog_6_method_20_code 59 = .ok (.ireturn, 1) := by decide +kernel
theorem d_H_heldShare_0 : decode prog_1_method_51_code 0 = .ok (.aload_n 0, 1) := by decide +kernel
theorem d_H_heldShare_1 : decode prog_1_method_51_code 1 = .ok (.getfield 34, 3) := by decide +kernel
theorem d_H_heldShare_4 : decode prog_1_method_51_code 4 = .ok (.invokevirtual 495, 3) := by decide +kernel
theorem d_H_heldShare_7 : decode prog_1_method_51_code 7 = .ok (.istore_n 1, 1) := by decide +kernel
theorem d_H_heldShare_8 : decode prog_1_method_51_code 8 = .ok (.iload_n 1, 1) := by decide +kernel
theorem d_H_heldShare_9 : decode prog_1_method_51_code 9 = .ok (.ifCond .ne 14, 3) := by decide +kernel
theorem d_H_heldShare_12 : decode prog_1_method_51_code 12 = .ok (.new 498, 3) := by decide +kernel
theorem d_H_heldShare_15 : decode prog_1_method_51_code 15 = .ok (.dup, 1) := by decide +kernel
theorem d_H_heldShare_16 : decode prog_1_method_51_code 16 = .ok (.ldc_w 500, 3) := by decide +kernel
theorem d_H_heldShare_19 : decode prog_1_method_51_code 19 = .ok (.invokespecial 502, 3) := by decide +kernel
theorem d_H_heldShare_22 : decode prog_1_method_51_code 22 = .ok (.athrow, 1) := by decide +kernel
theorem d_H_meanHold_0 : decode prog_1_method_52_code 0 = .ok (.aload_n 0, 1) := by decide +kernel
theorem d_H_meanHold_1 : decode prog_1_method_52_code 1 = .ok (.getfield 34, 3) := by decide +kernel
theorem d_H_meanHold_4 : decode prog_1_method_52_code 4 = .ok (.invokevirtual 495, 3) := by decide +kernel
theorem d_H_meanHold_7 : decode prog_1_method_52_code 7 = .ok (.istore_n 1, 1) := by decide +kernel
theorem d_H_meanHold_8 : decode prog_1_method_52_code 8 = .ok (.iload_n 1, 1) := by decide +kernel
theorem d_H_meanHold_9 : decode prog_1_method_52_code 9 = .ok (.ifCond .ne 14, 3) := by decide +kernel
theorem d_H_meanHold_12 : decode prog_1_method_52_code 12 = .ok (.new 498, 3) := by decide +kernel
theorem d_H_meanHold_15 : decode prog_1_method_52_code 15 = .ok (.dup, 1) := by decide +kernel
theorem d_H_meanHold_16 : decode prog_1_method_52_code 16 = .ok (.ldc_w 500, 3) := by decide +kernel
theorem d_H_meanHold_19 : decode prog_1_method_52_code 19 = .ok (.invokespecial 502, 3) := by decide +kernel
theorem d_H_meanHold_22 : decode prog_1_method_52_code 22 = .ok (.athrow, 1) := by decide +kernel
theorem d_HImages_add_0 : decode prog_4_method_2_code 0 = .ok (.aload_n 0, 1) := by decide +kernel
theorem d_HImages_add_1 : decode prog_4_method_2_code 1 = .ok (.getfield 18, 3) := by decide +kernel
theorem d_HImages_add_4 : decode prog_4_method_2_code 4 = .ok (.aload_n 0, 1) := by decide +kernel
theorem d_HImages_add_5 : decode prog_4_method_2_code 5 = .ok (.getfield 9, 3) := by decide +kernel
theorem d_HImages_add_8 : decode prog_4_method_2_code 8 = .ok (.arraylength, 1) := by decide +kernel
theorem d_HImages_add_9 : decode prog_4_method_2_code 9 = .ok (.if_icmp .ge 45, 3) := by decide +kernel
theorem d_HImages_add_12 : decode prog_4_method_2_code 12 = .ok (.aload_n 0, 1) := by decide +kernel
theorem d_HImages_add_13 : decode prog_4_method_2_code 13 = .ok (.getfield 18, 3) := by decide +kernel
theorem d_HImages_add_16 : decode prog_4_method_2_code 16 = .ok (.aload_n 0, 1) := by decide +kernel
theorem d_HImages_add_17 : decode prog_4_method_2_code 17 = .ok (.getfield 15, 3) := by decide +kernel
theorem d_HImages_add_20 : decode prog_4_method_2_code 20 = .ok (.arraylength, 1) := by decide +kernel
theorem d_HImages_add_21 : decode prog_4_method_2_code 21 = .ok (.if_icmp .ge 33, 3) := by decide +kernel
theorem d_HImages_add_24 : decode prog_4_method_2_code 24 = .ok (.aload_n 0, 1) := by decide +kernel
theorem d_HImages_add_25 : decode prog_4_method_2_code 25 = .ok (.getfield 9, 3) := by decide +kernel
theorem d_HImages_add_28 : decode prog_4_method_2_code 28 = .ok (.aload_n 0, 1) := by decide +kernel
theorem d_HImages_add_29 : decode prog_4_method_2_code 29 = .ok (.getfield 18, 3) := by decide +kernel
theorem d_HImages_add_32 : decode prog_4_method_2_code 32 = .ok (.iload_n 1, 1) := by decide +kernel
theorem d_HImages_add_33 : decode prog_4_method_2_code 33 = .ok (.iastore, 1) := by decide +kernel
theorem d_HImages_add_34 : decode prog_4_method_2_code 34 = .ok (.aload_n 0, 1) := by decide +kernel
theorem d_HImages_add_35 : decode prog_4_method_2_code 35 = .ok (.getfield 15, 3) := by decide +kernel
theorem d_HImages_add_38 : decode prog_4_method_2_code 38 = .ok (.aload_n 0, 1) := by decide +kernel
theorem d_HImages_add_39 : decode prog_4_method_2_code 39 = .ok (.getfield 18, 3) := by decide +kernel
theorem d_HImages_add_42 : decode prog_4_method_2_code 42 = .ok (.iload_n 2, 1) := by decide +kernel
theorem d_HImages_add_43 : decode prog_4_method_2_code 43 = .ok (.iastore, 1) := by decide +kernel
theorem d_HImages_add_44 : decode prog_4_method_2_code 44 = .ok (.aload_n 0, 1) := by decide +kernel
theorem d_HImages_add_45 : decode prog_4_method_2_code 45 = .ok (.dup, 1) := by decide +kernel
theorem d_HImages_add_46 : decode prog_4_method_2_code 46 = .ok (.getfield 18, 3) := by decide +kernel
theorem d_HImages_add_49 : decode prog_4_method_2_code 49 = .ok (.iconst 1, 1) := by decide +kernel
theorem d_HImages_add_50 : decode prog_4_method_2_code 50 = .ok (.iadd, 1) := by decide +kernel
theorem d_HImages_add_51 : decode prog_4_method_2_code 51 = .ok (.putfield 18, 3) := by decide +kernel
theorem d_HImages_add_54 : decode prog_4_method_2_code 54 = .ok (.aload_n 0, 1) := by decide +kernel
theorem d_HImages_add_55 : decode prog_4_method_2_code 55 = .ok (.getfield 18, 3) := by decide +kernel
theorem d_HImages_add_58 : decode prog_4_method_2_code 58 = .ok (.iconst 1, 1) := by decide +kernel
theorem d_HImages_add_59 : decode prog_4_method_2_code 59 = .ok (.isub, 1) := by decide +kernel
theorem d_HImages_add_60 : decode prog_4_method_2_code 60 = .ok (.ireturn, 1) := by decide +kernel
theorem d_HYearRows_rowOf_0 : decode prog_12_method_2_code 0 = .ok (.iconst 0, 1) := by decide +kernel
theorem d_HYearRows_rowOf_1 : decode prog_12_method_2_code 1 = .ok (.istore_n 2, 1) := by decide +kernel
theorem d_HYearRows_rowOf_2 : decode prog_12_method_2_code 2 = .ok (.iload_n 2, 1) := by decide +kernel
theorem d_HYearRows_rowOf_3 : decode prog_12_method_2_code 3 = .ok (.aload_n 0, 1) := by decide +kernel
theorem d_HYearRows_rowOf_4 : decode prog_12_method_2_code 4 = .ok (.getfield 21, 3) := by decide +kernel
theorem d_HYearRows_rowOf_7 : decode prog_12_method_2_code 7 = .ok (.if_icmp .ge 30, 3) := by decide +kernel
theorem d_HYearRows_rowOf_37 : decode prog_12_method_2_code 37 = .ok (.iconst (-1), 1) := by decide +kernel
theorem d_HYearRows_rowOf_38 : decode prog_12_method_2_code 38 = .ok (.ireturn, 1) := by decide +kernel
theorem d_HYearRows_isFullFor_0 : decode prog_12_method_3_code 0 = .ok (.aload_n 0, 1) := by decide +kernel
theorem d_HYearRows_isFullFor_1 : decode prog_12_method_3_code 1 = .ok (.getfield 21, 3) := by decide +kernel
theorem d_HYearRows_isFullFor_4 : decode prog_12_method_3_code 4 = .ok (.aload_n 0, 1) := by decide +kernel
theorem d_HYearRows_isFullFor_5 : decode prog_12_method_3_code 5 = .ok (.getfield 9, 3) := by decide +kernel
theorem d_HYearRows_isFullFor_8 : decode prog_12_method_3_code 8 = .ok (.arraylength, 1) := by decide +kernel
theorem d_HYearRows_isFullFor_9 : decode prog_12_method_3_code 9 = .ok (.if_icmp .lt 16, 3) := by decide +kernel
theorem d_HYearRows_isFullFor_25 : decode prog_12_method_3_code 25 = .ok (.iconst 0, 1) := by decide +kernel
theorem d_HYearRows_isFullFor_26 : decode prog_12_method_3_code 26 = .ok (.ireturn, 1) := by decide +kernel
theorem d_HYearRows_put_0 : decode prog_12_method_4_code 0 = .ok (.aload_n 0, 1) := by decide +kernel
theorem d_HYearRows_put_1 : decode prog_12_method_4_code 1 = .ok (.iload_n 1, 1) := by decide +kernel
theorem d_HYearRows_put_2 : decode prog_12_method_4_code 2 = .ok (.invokevirtual 25, 3) := by decide +kernel
theorem d_HYearRows_put_5 : decode prog_12_method_4_code 5 = .ok (.istore 4, 2) := by decide +kernel
theorem d_HYearRows_put_7 : decode prog_12_method_4_code 7 = .ok (.iload 4, 2) := by decide +kernel
theorem d_HYearRows_put_9 : decode prog_12_method_4_code 9 = .ok (.iconst (-1), 1) := by decide +kernel
theorem d_HYearRows_put_10 : decode prog_12_method_4_code 10 = .ok (.if_icmp .ne 10, 3) := by decide +kernel
theorem d_HYearRows_put_13 : decode prog_12_method_4_code 13 = .ok (.aload_n 0, 1) := by decide +kernel
theorem d_HYearRows_put_14 : decode prog_12_method_4_code 14 = .ok (.getfield 21, 3) := by decide +kernel
theorem d_HYearRows_put_17 : decode prog_12_method_4_code 17 = .ok (.goto 5, 3) := by decide +kernel
theorem d_HYearRows_put_22 : decode prog_12_method_4_code 22 = .ok (.istore 5, 2) := by decide +kernel
theorem d_HYearRows_put_24 : decode prog_12_method_4_code 24 = .ok (.iload 5, 2) := by decide +kernel
theorem d_HYearRows_put_26 : decode prog_12_method_4_code 26 = .ok (.ifCond .lt 72, 3) := by decide +kernel
theorem d_HYearRows_put_29 : decode prog_12_method_4_code 29 = .ok (.iload 5, 2) := by decide +kernel
theorem d_HYearRows_put_31 : decode prog_12_method_4_code 31 = .ok (.aload_n 0, 1) := by decide +kernel
theorem d_HYearRows_put_32 : decode prog_12_method_4_code 32 = .ok (.getfield 9, 3) := by decide +kernel
theorem d_HYearRows_put_35 : decode prog_12_method_4_code 35 = .ok (.arraylength, 1) := by decide +kernel
theorem d_HYearRows_put_36 : decode prog_12_method_4_code 36 = .ok (.if_icmp .ge 62, 3) := by decide +kernel
theorem d_HYearRows_put_39 : decode prog_12_method_4_code 39 = .ok (.iload 5, 2) := by decide +kernel
theorem d_HYearRows_put_41 : decode prog_12_method_4_code 41 = .ok (.aload_n 0, 1) := by decide +kernel
theorem d_HYearRows_put_42 : decode prog_12_method_4_code 42 = .ok (.getfield 15, 3) := by decide +kernel
theorem d_HYearRows_put_45 : decode prog_12_method_4_code 45 = .ok (.arraylength, 1) := by decide +kernel
theorem d_HYearRows_put_46 : decode prog_12_method_4_code 46 = .ok (.if_icmp .ge 52, 3) := by decide +kernel
theorem d_HYearRows_put_49 : decode prog_12_method_4_code 49 = .ok (.iload 5, 2) := by decide +kernel
theorem d_HYearRows_put_51 : decode prog_12_method_4_code 51 = .ok (.aload_n 0, 1) := by decide +kernel
theorem d_HYearRows_put_52 : decode prog_12_method_4_code 52 = .ok (.getfield 18, 3) := by decide +kernel
theorem d_HYearRows_put_55 : decode prog_12_method_4_code 55 = .ok (.arraylength, 1) := by decide +kernel
theorem d_HYearRows_put_56 : decode prog_12_method_4_code 56 = .ok (.if_icmp .ge 42, 3) := by decide +kernel
theorem d_HYearRows_put_59 : decode prog_12_method_4_code 59 = .ok (.aload_n 0, 1) := by decide +kernel
theorem d_HYearRows_put_60 : decode prog_12_method_4_code 60 = .ok (.getfield 9, 3) := by decide +kernel
theorem d_HYearRows_put_63 : decode prog_12_method_4_code 63 = .ok (.iload 5, 2) := by decide +kernel
theorem d_HYearRows_put_65 : decode prog_12_method_4_code 65 = .ok (.iload_n 1, 1) := by decide +kernel
theorem d_HYearRows_put_66 : decode prog_12_method_4_code 66 = .ok (.iastore, 1) := by decide +kernel
theorem d_HYearRows_put_67 : decode prog_12_method_4_code 67 = .ok (.aload_n 0, 1) := by decide +kernel
theorem d_HYearRows_put_68 : decode prog_12_method_4_code 68 = .ok (.getfield 15, 3) := by decide +kernel
theorem d_HYearRows_put_71 : decode prog_12_method_4_code 71 = .ok (.iload 5, 2) := by decide +kernel
theorem d_HYearRows_put_73 : decode prog_12_method_4_code 73 = .ok (.iload_n 2, 1) := by decide +kernel
theorem d_HYearRows_put_74 : decode prog_12_method_4_code 74 = .ok (.iastore, 1) := by decide +kernel
theorem d_HYearRows_put_75 : decode prog_12_method_4_code 75 = .ok (.aload_n 0, 1) := by decide +kernel
theorem d_HYearRows_put_76 : decode prog_12_method_4_code 76 = .ok (.getfield 18, 3) := by decide +kernel
theorem d_HYearRows_put_79 : decode prog_12_method_4_code 79 = .ok (.iload 5, 2) := by decide +kernel
theorem d_HYearRows_put_81 : decode prog_12_method_4_code 81 = .ok (.iload_n 3, 1) := by decide +kernel
theorem d_HYearRows_put_82 : decode prog_12_method_4_code 82 = .ok (.iastore, 1) := by decide +kernel
theorem d_HYearRows_put_83 : decode prog_12_method_4_code 83 = .ok (.aload_n 0, 1) := by decide +kernel
theorem d_HYearRows_put_84 : decode prog_12_method_4_code 84 = .ok (.aload_n 0, 1) := by decide +kernel
theorem d_HYearRows_put_85 : decode prog_12_method_4_code 85 = .ok (.getfield 21, 3) := by decide +kernel
theorem d_HYearRows_put_88 : decode prog_12_method_4_code 88 = .ok (.iload 5, 2) := by decide +kernel
theorem d_HYearRows_put_90 : decode prog_12_method_4_code 90 = .ok (.iconst 1, 1) := by decide +kernel
theorem d_HYearRows_put_91 : decode prog_12_method_4_code 91 = .ok (.iadd, 1) := by decide +kernel
theorem d_HYearRows_put_92 : decode prog_12_method_4_code 92 = .ok (.invokestatic 29, 3) := by decide +kernel
theorem d_HYearRows_put_95 : decode prog_12_method_4_code 95 = .ok (.putfield 21, 3) := by decide +kernel
theorem d_HYearRows_put_98 : decode prog_12_method_4_code 98 = .ok (.aload_n 0, 1) := by decide +kernel
theorem d_HYearRows_put_99 : decode prog_12_method_4_code 99 = .ok (.getfield 21, 3) := by decide +kernel
theorem d_HYearRows_put_102 : decode prog_12_method_4_code 102 = .ok (.ireturn, 1) := by decide +kernel
theorem d_HFacts_add_0 : decode prog_3_method_2_code 0 = .ok (.aload_n 0, 1) := by decide +kernel
theorem d_HFacts_add_1 : decode prog_3_method_2_code 1 = .ok (.getfield 30, 3) := by decide +kernel
theorem d_HFacts_add_4 : decode prog_3_method_2_code 4 = .ok (.bipush 12, 2) := by decide +kernel
theorem d_HFacts_add_6 : decode prog_3_method_2_code 6 = .ok (.if_icmp .ge 43, 3) := by decide +kernel
theorem d_HFacts_add_9 : decode prog_3_method_2_code 9 = .ok (.aload_n 0, 1) := by decide +kernel
theorem d_HFacts_add_10 : decode prog_3_method_2_code 10 = .ok (.getfield 9, 3) := by decide +kernel
theorem d_HFacts_add_13 : decode prog_3_method_2_code 13 = .ok (.aload_n 0, 1) := by decide +kernel
theorem d_HFacts_add_14 : decode prog_3_method_2_code 14 = .ok (.getfield 30, 3) := by decide +kernel
theorem d_HFacts_add_17 : decode prog_3_method_2_code 17 = .ok (.iload_n 1, 1) := by decide +kernel
theorem d_HFacts_add_18 : decode prog_3_method_2_code 18 = .ok (.iastore, 1) := by decide +kernel
theorem d_HFacts_add_19 : decode prog_3_method_2_code 19 = .ok (.aload_n 0, 1) := by decide +kernel
theorem d_HFacts_add_20 : decode prog_3_method_2_code 20 = .ok (.getfield 15, 3) := by decide +kernel
theorem d_HFacts_add_23 : decode prog_3_method_2_code 23 = .ok (.aload_n 0, 1) := by decide +kernel
theorem d_HFacts_add_24 : decode prog_3_method_2_code 24 = .ok (.getfield 30, 3) := by decide +kernel
theorem d_HFacts_add_27 : decode prog_3_method_2_code 27 = .ok (.iconst 1, 1) := by decide +kernel
theorem d_HFacts_add_28 : decode prog_3_method_2_code 28 = .ok (.iastore, 1) := by decide +kernel
theorem d_HFacts_add_29 : decode prog_3_method_2_code 29 = .ok (.aload_n 0, 1) := by decide +kernel
theorem d_HFacts_add_30 : decode prog_3_method_2_code 30 = .ok (.getfield 18, 3) := by decide +kernel
theorem d_HFacts_add_33 : decode prog_3_method_2_code 33 = .ok (.aload_n 0, 1) := by decide +kernel
theorem d_HFacts_add_34 : decode prog_3_method_2_code 34 = .ok (.getfield 30, 3) := by decide +kernel
theorem d_HFacts_add_37 : decode prog_3_method_2_code 37 = .ok (.iload_n 2, 1) := by decide +kernel
theorem d_HFacts_add_38 : decode prog_3_method_2_code 38 = .ok (.iastore, 1) := by decide +kernel
theorem d_HFacts_add_39 : decode prog_3_method_2_code 39 = .ok (.aload_n 0, 1) := by decide +kernel
theorem d_HFacts_add_40 : decode prog_3_method_2_code 40 = .ok (.dup, 1) := by decide +kernel
theorem d_HFacts_add_41 : decode prog_3_method_2_code 41 = .ok (.getfield 30, 3) := by decide +kernel
theorem d_HFacts_add_44 : decode prog_3_method_2_code 44 = .ok (.iconst 1, 1) := by decide +kernel
theorem d_HFacts_add_45 : decode prog_3_method_2_code 45 = .ok (.iadd, 1) := by decide +kernel
theorem d_HFacts_add_46 : decode prog_3_method_2_code 46 = .ok (.putfield 30, 3) := by decide +kernel
theorem d_HFacts_add_49 : decode prog_3_method_2_code 49 = .ok (.aload_n 0, 1) := by decide +kernel
theorem d_HFacts_add_50 : decode prog_3_method_2_code 50 = .ok (.getfield 30, 3) := by decide +kernel
theorem d_HFacts_add_53 : decode prog_3_method_2_code 53 = .ok (.iconst 1, 1) := by decide +kernel
theorem d_HFacts_add_54 : decode prog_3_method_2_code 54 = .ok (.isub, 1) := by decide +kernel
theorem d_HFacts_add_55 : decode prog_3_method_2_code 55 = .ok (.ireturn, 1) := by decide +kernel
theorem d_HMind_strengthenBySleep_0 : decode prog_6_method_18_code 0 = .ok (.iconst 0, 1) := by decide +kernel
theorem d_HMind_strengthenBySleep_1 : decode prog_6_method_18_code 1 = .ok (.istore_n 1, 1) := by decide +kernel
theorem d_HMind_strengthenBySleep_2 : decode prog_6_method_18_code 2 = .ok (.iconst 0, 1) := by decide +kernel
theorem d_HMind_strengthenBySleep_3 : decode prog_6_method_18_code 3 = .ok (.istore_n 2, 1) := by decide +kernel
theorem d_HMind_strengthenBySleep_4 : decode prog_6_method_18_code 4 = .ok (.iload_n 2, 1) := by decide +kernel
theorem d_HMind_strengthenBySleep_5 : decode prog_6_method_18_code 5 = .ok (.aload_n 0, 1) := by decide +kernel
theorem d_HMind_strengthenBySleep_6 : decode prog_6_method_18_code 6 = .ok (.getfield 25, 3) := by decide +kernel
theorem d_HMind_strengthenBySleep_9 : decode prog_6_method_18_code 9 = .ok (.if_icmp .ge 50, 3) := by decide +kernel
theorem d_HMind_strengthenBySleep_59 : decode prog_6_method_18_code 59 = .ok (.aload_n 0, 1) := by decide +kernel
theorem d_HMind_strengthenBySleep_60 : decode prog_6_method_18_code 60 = .ok (.aload_n 0, 1) := by decide +kernel
theorem d_HMind_strengthenBySleep_61 : decode prog_6_method_18_code 61 = .ok (.getfield 43, 3) := by decide +kernel
theorem d_HMind_strengthenBySleep_64 : decode prog_6_method_18_code 64 = .ok (.putfield 206, 3) := by decide +kernel
theorem d_HMind_strengthenBySleep_67 : decode prog_6_method_18_code 67 = .ok (.iload_n 1, 1) := by decide +kernel
theorem d_HMind_strengthenBySleep_68 : decode prog_6_method_18_code 68 = .ok (.ireturn, 1) := by decide +kernel
set_option maxRecDepth 100000 in
theorem hat_81 : ∀ w ∈ vx_atS "Locihall" 81 "java/lang/IllegalArgumentException" ["java/lang/RuntimeException", "java/lang/Exception"], w ∈ lw_tbl ∧ (goodWord w || qn_ok w) = true := by
  have h : (vx_atS "Locihall" 81 "java/lang/IllegalArgumentException" ["java/lang/RuntimeException", "java/lang/Exception"]).all (fun w => decide (w ∈ lw_tbl) && (goodWord w || qn_ok w)) = true := by decide +kernel
  intro w hw
  have h1 := List.all_eq_true.mp h w hw
  rw [Bool.and_eq_true, decide_eq_true_eq] at h1
  exact h1
set_option maxRecDepth 100000 in
theorem hgd_81 : ∀ w ∈ Cond.classLink "Locihall" 77 "java/lang/IllegalArgumentException" :: Cond.initialized "java/lang/IllegalArgumentException" :: vx_atS "Locihall" 81 "java/lang/IllegalArgumentException" ["java/lang/RuntimeException", "java/lang/Exception"], vx_ot w = true := List.all_eq_true.mp (by decide +kernel)
set_option maxRecDepth 100000 in
theorem hat_119 : ∀ w ∈ vx_atS "Locihall" 119 "java/lang/IndexOutOfBoundsException" ["java/lang/RuntimeException", "java/lang/Exception"], w ∈ lw_tbl ∧ (goodWord w || qn_ok w) = true := by
  have h : (vx_atS "Locihall" 119 "java/lang/IndexOutOfBoundsException" ["java/lang/RuntimeException", "java/lang/Exception"]).all (fun w => decide (w ∈ lw_tbl) && (goodWord w || qn_ok w)) = true := by decide +kernel
  intro w hw
  have h1 := List.all_eq_true.mp h w hw
  rw [Bool.and_eq_true, decide_eq_true_eq] at h1
  exact h1
set_option maxRecDepth 100000 in
theorem hgd_119 : ∀ w ∈ Cond.classLink "Locihall" 115 "java/lang/IndexOutOfBoundsException" :: Cond.initialized "java/lang/IndexOutOfBoundsException" :: vx_atS "Locihall" 119 "java/lang/IndexOutOfBoundsException" ["java/lang/RuntimeException", "java/lang/Exception"], vx_ot w = true := List.all_eq_true.mp (by decide +kernel)
theorem cx0 : decode prog_50_method_4_code 0 = .ok (.aload_n 0, 1) := by decide +kernel
theorem cx1 : decode prog_50_method_4_code 1 = .ok (.aload_n 1, 1) := by decide +kernel
theorem cx2 : decode prog_50_method_4_code 2 = .ok (.invokespecial 13, 3) := by decide +kernel
theorem cx5 : decode prog_50_method_4_code 5 = .ok (.return_, 1) := by decide +kernel
set_option maxRecDepth 100000 in
theorem hat_142 : ∀ w ∈ qx_atS "Locihall" 142 "java/util/NoSuchElementException" 13 prog_50_method_4_code ["java/lang/RuntimeException", "java/lang/Exception"], w ∈ lw_tbl ∧ (goodWord w || qn_ok w) = true := by
  have h : (qx_atS "Locihall" 142 "java/util/NoSuchElementException" 13 prog_50_method_4_code ["java/lang/RuntimeException", "java/lang/Exception"]).all (fun w => decide (w ∈ lw_tbl) && (goodWord w || qn_ok w)) = true := by decide +kernel
  intro w hw
  have h1 := List.all_eq_true.mp h w hw
  rw [Bool.and_eq_true, decide_eq_true_eq] at h1
  exact h1
set_option maxRecDepth 100000 in
theorem hgd_142 : ∀ w ∈ Cond.classLink "Locihall" 138 "java/util/NoSuchElementException" :: Cond.initialized "java/util/NoSuchElementException" :: qx_atS "Locihall" 142 "java/util/NoSuchElementException" 13 prog_50_method_4_code ["java/lang/RuntimeException", "java/lang/Exception"], vx_ot w = true := List.all_eq_true.mp (by decide +kernel)
set_option maxRecDepth 100000 in
theorem hat_502 : ∀ w ∈ vx_atS "Locihall" 502 "java/lang/ArithmeticException" ["java/lang/RuntimeException", "java/lang/Exception"], w ∈ lw_tbl ∧ (goodWord w || qn_ok w) = true := by
  have h : (vx_atS "Locihall" 502 "java/lang/ArithmeticException" ["java/lang/RuntimeException", "java/lang/Exception"]).all (fun w => decide (w ∈ lw_tbl) && (goodWord w || qn_ok w)) = true := by decide +kernel
  intro w hw
  have h1 := List.all_eq_true.mp h w hw
  rw [Bool.and_eq_true, decide_eq_true_eq] at h1
  exact h1
set_option maxRecDepth 100000 in
theorem hgd_502 : ∀ w ∈ Cond.classLink "Locihall" 498 "java/lang/ArithmeticException" :: Cond.initialized "java/lang/ArithmeticException" :: vx_atS "Locihall" 502 "java/lang/ArithmeticException" ["java/lang/RuntimeException", "java/lang/Exception"], vx_ot w = true := List.all_eq_true.mp (by decide +kernel)
end
section
/-- is v in lo .. hi -/
def f_isIn (v lo hi : Int32) : Int32 := if v < lo then 0 else if hi < v then 0 else 1
theorem f_isIn_01 (v lo hi : Int32) : f_isIn v lo hi = 0 ∨ f_isIn v lo hi = 1 := by
  unfold f_isIn
  split
  · exact Or.inl rfl
  · split
    · exact Or.inl rfl
    · exact Or.inr rfl
theorem nb_isIn (v lo hi : Int32) : narrow .boolean (.int (f_isIn v lo hi)) = .int (f_isIn v lo hi) := by
  rcases f_isIn_01 v lo hi with h | h <;> rw [h] <;> rfl
set_option maxHeartbeats 4000000 in
set_option maxRecDepth 100000 in
/-- isIn -/
theorem ct_H_isIn (l : Launch) (D : va_G) (sz : Nat) (v lo hi : Int32) : Met l ⟨"Locihall", "isIn", "(III)Z"⟩ (.code ⟨"Locihall", "isIn", "(III)Z"⟩ prog_1_method_54_code 3 (some .boolean) :: qw) ({ frames := 0, cells := 0, slots := 0, locals := 0 }) (va_Pc [.int v, .int lo, .int hi] (qPre D [] [] sz)) (k2_QcV (.int (f_isIn v lo hi))) 0 0 (fun _ => False) := by
  refine q_start (by decide) (Nat.le_of_ble_eq_true rfl) ?_
  intro p e s m below meth c hB hin hpre ls hl
  have hW := qH_start hpre
  have hx := hB.1
  have hb := hB.2.1
  have hq := hB.2.2.2.2.2.1
  have hl : lv_has ls 3 [(0, .int v), (1, .int lo), (2, .int hi)] := hl
  refine lv_iload_n hx hb d_H_isIn_0 rfl (lv_at hl 0 rfl) ?_
  refine lv_iload_n hx hb d_H_isIn_1 rfl (lv_at hl 1 rfl) ?_
  refine lv_icmp_lt (tgt := 14) hx hb d_H_isIn_2 (by decide) (fun c_1 => ?_) (fun c_1 => ?_)
  · refine lv_iconst (v := 0) hx hb d_H_isIn_14 (by decide) ?_
    exact W.zret hx hb hB.2.2.1 (by first | rfl | decide | exact nb_isIn _ _ _) (fun t ht _ => ⟨by simp only [f_isIn, c_1, if_true, if_false, ite_true, ite_false, reduceIte], ht⟩) (fun _ h => by cases h) d_H_isIn_15 hB.2.2.2.2.2.2.1
  · refine lv_iload_n hx hb d_H_isIn_5 rfl (lv_at hl 0 rfl) ?_
    refine lv_iload_n hx hb d_H_isIn_6 rfl (lv_at hl 2 rfl) ?_
    refine lv_icmp_gt (tgt := 14) hx hb d_H_isIn_7 (by decide) (fun c_2 => ?_) (fun c_2 => ?_)
    · refine lv_iconst (v := 0) hx hb d_H_isIn_14 (by decide) ?_
      exact W.zret hx hb hB.2.2.1 (by first | rfl | decide | exact nb_isIn _ _ _) (fun t ht _ => ⟨by simp only [f_isIn, c_1, c_2, if_true, if_false, ite_true, ite_false, reduceIte], ht⟩) (fun _ h => by cases h) d_H_isIn_15 hB.2.2.2.2.2.2.1
    · refine lv_iconst (v := 1) hx hb d_H_isIn_10 (by decide) ?_
      refine lv_goto (tgt := 15) hx hb d_H_isIn_11 (by decide) ?_
      exact W.zret hx hb hB.2.2.1 (by first | rfl | decide | exact nb_isIn _ _ _) (fun t ht _ => ⟨by simp only [f_isIn, c_1, c_2, if_true, if_false, ite_true, ite_false, reduceIte], ht⟩) (fun _ h => by cases h) d_H_isIn_15 hB.2.2.2.2.2.2.1
set_option maxHeartbeats 4000000 in
set_option maxRecDepth 100000 in
/-- isKey -/
theorem ct_H_isKey (l : Launch) (D : va_G) (sz : Nat) (v : Int32) : Met l ⟨"Locihall", "isKey", "(I)Z"⟩ (.code ⟨"Locihall", "isKey", "(I)Z"⟩ prog_1_method_55_code 1 (some .boolean) :: qw) ({ frames := 1, cells := 0, slots := 0, locals := 22 }) (va_Pc [.int v] (qPre D [] [] sz)) (k2_QcV (.int (f_isIn v 0 99))) 0 0 (fun _ => False) := by
  refine q_start (by decide) (Nat.le_of_ble_eq_true rfl) ?_
  intro p e s m below meth c hB hin hpre ls hl
  have hW := qH_start hpre
  have hx := hB.1
  have hb := hB.2.1
  have hq := hB.2.2.2.2.2.1
  have hl : lv_has ls 1 [(0, .int v)] := hl
  refine lv_iload_n hx hb d_H_isKey_0 rfl (lv_at hl 0 rfl) ?_
  refine lv_iconst (v := 0) hx hb d_H_isKey_1 (by decide) ?_
  refine lv_bipush (v := 99) hx hb d_H_isKey_2 (by decide) ?_
  refine q_readS (As := [.int v, .int 0, .int 99]) (rest := []) hB hW (ct_H_isIn l D _ v 0 99) k474 k472 k133 k473 3 ⟨rfl, rfl⟩ (by decide +kernel) rfl ⟨Nat.le_of_ble_eq_true rfl, Nat.le_of_ble_eq_true rfl⟩ [] [] rfl rfl rfl rfl hl.1 (Nat.le_of_ble_eq_true rfl) ⟨Nat.le_of_ble_eq_true rfl, Nat.le_of_ble_eq_true rfl⟩ (st := [.int 99, .int 0, .int v]) (by rfl) d_H_isKey_4 ?_
  exact W.zret hx hb hB.2.2.1 (by first | rfl | decide | exact nb_isIn _ _ _) (fun t ht _ => ⟨rfl, ht⟩) (fun _ h => by cases h) d_H_isKey_7 hB.2.2.2.2.2.2.1
set_option maxHeartbeats 4000000 in
set_option maxRecDepth 100000 in
/-- isTongue -/
theorem ct_H_isTongue (l : Launch) (D : va_G) (sz : Nat) (v : Int32) : Met l ⟨"Locihall", "isTongue", "(I)Z"⟩ (.code ⟨"Locihall", "isTongue", "(I)Z"⟩ prog_1_method_56_code 1 (some .boolean) :: qw) ({ frames := 1, cells := 0, slots := 0, locals := 22 }) (va_Pc [.int v] (qPre D [] [] sz)) (k2_QcV (.int (f_isIn v 0 2))) 0 0 (fun _ => False) := by
  refine q_start (by decide) (Nat.le_of_ble_eq_true rfl) ?_
  intro p e s m below meth c hB hin hpre ls hl
  have hW := qH_start hpre
  have hx := hB.1
  have hb := hB.2.1
  have hq := hB.2.2.2.2.2.1
  have hl : lv_has ls 1 [(0, .int v)] := hl
  refine lv_iload_n hx hb d_H_isTongue_0 rfl (lv_at hl 0 rfl) ?_
  refine lv_iconst (v := 0) hx hb d_H_isTongue_1 (by decide) ?_
  refine lv_iconst (v := 2) hx hb d_H_isTongue_2 (by decide) ?_
  refine q_readS (As := [.int v, .int 0, .int 2]) (rest := []) hB hW (ct_H_isIn l D _ v 0 2) k474 k472 k133 k473 3 ⟨rfl, rfl⟩ (by decide +kernel) rfl ⟨Nat.le_of_ble_eq_true rfl, Nat.le_of_ble_eq_true rfl⟩ [] [] rfl rfl rfl rfl hl.1 (Nat.le_of_ble_eq_true rfl) ⟨Nat.le_of_ble_eq_true rfl, Nat.le_of_ble_eq_true rfl⟩ (st := [.int 2, .int 0, .int v]) (by rfl) d_H_isTongue_3 ?_
  exact W.zret hx hb hB.2.2.1 (by first | rfl | decide | exact nb_isIn _ _ _) (fun t ht _ => ⟨rfl, ht⟩) (fun _ h => by cases h) d_H_isTongue_6 hB.2.2.2.2.2.2.1
set_option maxHeartbeats 4000000 in
set_option maxRecDepth 100000 in
/-- isYear -/
theorem ct_H_isYear (l : Launch) (D : va_G) (sz : Nat) (v : Int32) : Met l ⟨"Locihall", "isYear", "(I)Z"⟩ (.code ⟨"Locihall", "isYear", "(I)Z"⟩ prog_1_method_57_code 1 (some .boolean) :: qw) ({ frames := 1, cells := 0, slots := 0, locals := 22 }) (va_Pc [.int v] (qPre D [] [] sz)) (k2_QcV (.int (f_isIn v 0 9999))) 0 0 (fun _ => False) := by
  refine q_start (by decide) (Nat.le_of_ble_eq_true rfl) ?_
  intro p e s m below meth c hB hin hpre ls hl
  have hW := qH_start hpre
  have hx := hB.1
  have hb := hB.2.1
  have hq := hB.2.2.2.2.2.1
  have hl : lv_has ls 1 [(0, .int v)] := hl
  refine lv_iload_n hx hb d_H_isYear_0 rfl (lv_at hl 0 rfl) ?_
  refine lv_iconst (v := 0) hx hb d_H_isYear_1 (by decide) ?_
  refine lv_sipush (v := 9999) hx hb d_H_isYear_2 (by decide) ?_
  refine q_readS (As := [.int v, .int 0, .int 9999]) (rest := []) hB hW (ct_H_isIn l D _ v 0 9999) k474 k472 k133 k473 3 ⟨rfl, rfl⟩ (by decide +kernel) rfl ⟨Nat.le_of_ble_eq_true rfl, Nat.le_of_ble_eq_true rfl⟩ [] [] rfl rfl rfl rfl hl.1 (Nat.le_of_ble_eq_true rfl) ⟨Nat.le_of_ble_eq_true rfl, Nat.le_of_ble_eq_true rfl⟩ (st := [.int 9999, .int 0, .int v]) (by rfl) d_H_isYear_5 ?_
  exact W.zret hx hb hB.2.2.1 (by first | rfl | decide | exact nb_isIn _ _ _) (fun t ht _ => ⟨rfl, ht⟩) (fun _ h => by cases h) d_H_isYear_8 hB.2.2.2.2.2.2.1
set_option maxHeartbeats 4000000 in
set_option maxRecDepth 100000 in
/-- tableAt, without a system -/
theorem ct_H_tableAt (l : Launch) (D : va_G) (sz : Nat) (h0 : Nat) (fs : List Value) (h3 : fs[3]? = some (.int 0)) (v : Int32) : Met l ⟨"Locihall", "tableAt", "(I)LLocihall$Table;"⟩ (.code ⟨"Locihall", "tableAt", "(I)LLocihall$Table;"⟩ prog_1_method_58_code 2 (some (.object "Locihall$Table")) :: qw) ({ frames := 0, cells := 0, slots := 0, locals := 0 }) (va_Pc [.ref h0, .int v] (qPre D [(h0, .inr (16, fs))] [] sz)) (k2_QcV (.null)) 0 0 (fun _ => False) := by
  refine q_start (by decide) (Nat.le_of_ble_eq_true rfl) ?_
  intro p e s m below meth c hB hin hpre ls hl
  have hW := qH_start hpre
  have hx := hB.1
  have hb := hB.2.1
  have hq := hB.2.2.2.2.2.1
  have hl : lv_has ls 2 [(0, .ref h0), (1, .int v)] := hl
  refine lv_iload_n hx hb d_H_tableAt_0 rfl (lv_at hl 1 rfl) ?_
  refine lv_if_lt (tgt := 30) hx hb d_H_tableAt_1 (by decide) (fun c_1 => ?_) (fun c_1 => ?_)
  · refine lv_null hx hb d_H_tableAt_30 ?_
    exact W.aret hx hb hB.2.2.1 (by first | exact Or.inl ⟨_, rfl⟩ | exact Or.inr ⟨_, rfl⟩) (by first | exact Or.inl rfl | exact Or.inr ⟨_, rfl⟩) (fun t ht _ => ⟨rfl, ht⟩) (fun _ h => by cases h) d_H_tableAt_31 hB.2.2.2.2.2.2.1
  · refine lv_iload_n hx hb d_H_tableAt_4 rfl (lv_at hl 1 rfl) ?_
    refine lv_aload_n hx hb d_H_tableAt_5 rfl (lv_at hl 0 rfl) ?_
    refine q_get hB hW qc_16 0 rfl 3 (by decide) k405 h3 d_H_tableAt_6 ?_
    refine lv_icmp_ge (tgt := 30) hx hb d_H_tableAt_9 (by decide) (fun c_2 => ?_) (fun c_2 => ?_)
    · have c_2 := Int32.not_lt.mpr c_2
      refine lv_null hx hb d_H_tableAt_30 ?_
      exact W.aret hx hb hB.2.2.1 (by first | exact Or.inl ⟨_, rfl⟩ | exact Or.inr ⟨_, rfl⟩) (by first | exact Or.inl rfl | exact Or.inr ⟨_, rfl⟩) (fun t ht _ => ⟨rfl, ht⟩) (fun _ h => by cases h) d_H_tableAt_31 hB.2.2.2.2.2.2.1
    · have c_2 := Int32.not_le.mp c_2
      exact absurd c_2 c_1
set_option maxHeartbeats 4000000 in
set_option maxRecDepth 100000 in
/-- palaceAt, without a palace -/
theorem ct_Mi_palaceAt (l : Launch) (D : va_G) (sz : Nat) (h0 : Nat) (fs : List Value) (h2 : fs[2]? = some (.int 0)) (v : Int32) : Met l ⟨"Locihall$Mind", "palaceAt", "(I)LLocihall$Palace;"⟩ (.code ⟨"Locihall$Mind", "palaceAt", "(I)LLocihall$Palace;"⟩ prog_6_method_3_code 2 (some (.object "Locihall$Palace")) :: qw) ({ frames := 0, cells := 0, slots := 0, locals := 0 }) (va_Pc [.ref h0, .int v] (qPre D [(h0, .inr (9, fs))] [] sz)) (k2_QcV (.null)) 0 0 (fun _ => False) := by
  refine q_start (by decide) (Nat.le_of_ble_eq_true rfl) ?_
  intro p e s m below meth c hB hin hpre ls hl
  have hW := qH_start hpre
  have hx := hB.1
  have hb := hB.2.1
  have hq := hB.2.2.2.2.2.1
  have hl : lv_has ls 2 [(0, .ref h0), (1, .int v)] := hl
  refine lv_iload_n hx hb d_HMind_palaceAt_0 rfl (lv_at hl 1 rfl) ?_
  refine lv_if_lt (tgt := 30) hx hb d_HMind_palaceAt_1 (by decide) (fun c_1 => ?_) (fun c_1 => ?_)
  · refine lv_null hx hb d_HMind_palaceAt_30 ?_
    exact W.aret hx hb hB.2.2.1 (by first | exact Or.inl ⟨_, rfl⟩ | exact Or.inr ⟨_, rfl⟩) (by first | exact Or.inl rfl | exact Or.inr ⟨_, rfl⟩) (fun t ht _ => ⟨rfl, ht⟩) (fun _ h => by cases h) d_HMind_palaceAt_31 hB.2.2.2.2.2.2.1
  · refine lv_iload_n hx hb d_HMind_palaceAt_4 rfl (lv_at hl 1 rfl) ?_
    refine lv_aload_n hx hb d_HMind_palaceAt_5 rfl (lv_at hl 0 rfl) ?_
    refine q_get hB hW qc_9 0 rfl 2 (by decide) k225 h2 d_HMind_palaceAt_6 ?_
    refine lv_icmp_ge (tgt := 30) hx hb d_HMind_palaceAt_9 (by decide) (fun c_2 => ?_) (fun c_2 => ?_)
    · have c_2 := Int32.not_lt.mpr c_2
      refine lv_null hx hb d_HMind_palaceAt_30 ?_
      exact W.aret hx hb hB.2.2.1 (by first | exact Or.inl ⟨_, rfl⟩ | exact Or.inr ⟨_, rfl⟩) (by first | exact Or.inl rfl | exact Or.inr ⟨_, rfl⟩) (fun t ht _ => ⟨rfl, ht⟩) (fun _ h => by cases h) d_HMind_palaceAt_31 hB.2.2.2.2.2.2.1
    · have c_2 := Int32.not_le.mp c_2
      exact absurd c_2 c_1
set_option maxHeartbeats 4000000 in
set_option maxRecDepth 100000 in
/-- locusAt, without a palace -/
theorem ct_Mi_locusAt (l : Launch) (D : va_G) (sz : Nat) (h0 : Nat) (fs : List Value) (h2 : fs[2]? = some (.int 0)) (v w : Int32) : Met l ⟨"Locihall$Mind", "locusAt", "(II)LLocihall$Locus;"⟩ (.code ⟨"Locihall$Mind", "locusAt", "(II)LLocihall$Locus;"⟩ prog_6_method_4_code 4 (some (.object "Locihall$Locus")) :: qw) ({ frames := 1, cells := 0, slots := 0, locals := 21 }) (va_Pc [.ref h0, .int v, .int w] (qPre D [(h0, .inr (9, fs))] [] sz)) (k2_QcV (.null)) 0 0 (fun _ => False) := by
  refine q_start (by decide) (Nat.le_of_ble_eq_true rfl) ?_
  intro p e s m below meth c hB hin hpre ls hl
  have hW := qH_start hpre
  have hx := hB.1
  have hb := hB.2.1
  have hq := hB.2.2.2.2.2.1
  have hl : lv_has ls 4 [(0, .ref h0), (1, .int v), (2, .int w)] := hl
  refine lv_aload_n hx hb d_HMind_locusAt_0 rfl (lv_at hl 0 rfl) ?_
  refine lv_iload_n hx hb d_HMind_locusAt_1 rfl (lv_at hl 1 rfl) ?_
  refine q_readV (As := [.int v]) (rest := []) hB hW (ct_Mi_palaceAt l D _ h0 fs h2 v) (ci := 9) (q0 := 0) rfl rfl k495 k497 k8 k136 k498 1 ⟨rfl, rfl⟩ (by decide +kernel) rfl ⟨Nat.le_of_ble_eq_true rfl, Nat.le_of_ble_eq_true rfl⟩ [0] [] rfl rfl rfl rfl hl.1 (Nat.le_of_ble_eq_true rfl) ⟨Nat.le_of_ble_eq_true rfl, Nat.le_of_ble_eq_true rfl⟩ (st := [.int v, .ref h0]) (by rfl) d_HMind_locusAt_2 ?_
  refine lv_astore_nN (lv' := [(3, .null), (0, .ref h0), (1, .int v), (2, .int w)]) hx hb d_HMind_locusAt_5 rfl hl (by decide) rfl (fun ls hl => ?_)
  refine lv_aload_nN hx hb d_HMind_locusAt_6 rfl (lv_at hl 0 rfl) ?_
  refine lv_ifnonnullN hx hb d_HMind_locusAt_7 ?_
  refine lv_null hx hb d_HMind_locusAt_10 ?_
  refine lv_goto (tgt := 19) hx hb d_HMind_locusAt_11 (by decide) ?_
  exact W.aret hx hb hB.2.2.1 (by first | exact Or.inl ⟨_, rfl⟩ | exact Or.inr ⟨_, rfl⟩) (by first | exact Or.inl rfl | exact Or.inr ⟨_, rfl⟩) (fun t ht _ => ⟨rfl, ht⟩) (fun _ h => by cases h) d_HMind_locusAt_19 hB.2.2.2.2.2.2.1
set_option maxHeartbeats 4000000 in
set_option maxRecDepth 100000 in
/-- has, without a fact -/
theorem ct_Fa_has (l : Launch) (D : va_G) (sz : Nat) (h0 : Nat) (fs : List Value) (h4 : fs[4]? = some (.int 0)) (v : Int32) : Met l ⟨"Locihall$Facts", "has", "(I)Z"⟩ (.code ⟨"Locihall$Facts", "has", "(I)Z"⟩ prog_3_method_3_code 2 (some .boolean) :: qw) ({ frames := 0, cells := 0, slots := 0, locals := 0 }) (va_Pc [.ref h0, .int v] (qPre D [(h0, .inr (6, fs))] [] sz)) (k2_QcV (.int 0)) 0 0 (fun _ => False) := by
  refine q_start (by decide) (Nat.le_of_ble_eq_true rfl) ?_
  intro p e s m below meth c hB hin hpre ls hl
  have hW := qH_start hpre
  have hx := hB.1
  have hb := hB.2.1
  have hq := hB.2.2.2.2.2.1
  have hl : lv_has ls 2 [(0, .ref h0), (1, .int v)] := hl
  refine lv_iload_n hx hb d_HFacts_has_0 rfl (lv_at hl 1 rfl) ?_
  refine lv_if_lt (tgt := 22) hx hb d_HFacts_has_1 (by decide) (fun c_1 => ?_) (fun c_1 => ?_)
  · refine lv_iconst (v := 0) hx hb d_HFacts_has_22 (by decide) ?_
    exact W.zret hx hb hB.2.2.1 (by first | rfl | decide | exact nb_isIn _ _ _) (fun t ht _ => ⟨rfl, ht⟩) (fun _ h => by cases h) d_HFacts_has_23 hB.2.2.2.2.2.2.1
  · refine lv_iload_n hx hb d_HFacts_has_4 rfl (lv_at hl 1 rfl) ?_
    refine lv_aload_n hx hb d_HFacts_has_5 rfl (lv_at hl 0 rfl) ?_
    refine q_get hB hW qc_6 0 rfl 4 (by decide) k375 h4 d_HFacts_has_6 ?_
    refine lv_icmp_ge (tgt := 22) hx hb d_HFacts_has_9 (by decide) (fun c_2 => ?_) (fun c_2 => ?_)
    · have c_2 := Int32.not_lt.mpr c_2
      refine lv_iconst (v := 0) hx hb d_HFacts_has_22 (by decide) ?_
      exact W.zret hx hb hB.2.2.1 (by first | rfl | decide | exact nb_isIn _ _ _) (fun t ht _ => ⟨rfl, ht⟩) (fun _ h => by cases h) d_HFacts_has_23 hB.2.2.2.2.2.2.1
    · have c_2 := Int32.not_le.mp c_2
      exact absurd c_2 c_1
set_option maxHeartbeats 4000000 in
set_option maxRecDepth 100000 in
/-- isIn of the reference -/
theorem ct_M_isIn (l : Launch) (D : va_G) (sz : Nat) (v lo hi : Int32) : Met l ⟨"LocihallModel", "isIn", "(JJJ)Z"⟩ (.code ⟨"LocihallModel", "isIn", "(JJJ)Z"⟩ prog_14_method_4_code 6 (some .boolean) :: qw) ({ frames := 0, cells := 0, slots := 0, locals := 0 }) (va_Pc [.long v.toInt64, .long lo.toInt64, .long hi.toInt64] (qPre D [] [] sz)) (k2_QcV (.int (f_isIn v lo hi))) 0 0 (fun _ => False) := by
  refine q_start (by decide) (Nat.le_of_ble_eq_true rfl) ?_
  intro p e s m below meth c hB hin hpre ls hl
  have hW := qH_start hpre
  have hx := hB.1
  have hb := hB.2.1
  have hq := hB.2.2.2.2.2.1
  have hl : lv_has ls 6 [(0, .long v.toInt64), (2, .long lo.toInt64), (4, .long hi.toInt64)] := hl
  refine lv_lload_n hx hb d_M_isIn_0 rfl (lv_at hl 0 rfl) ?_
  refine lv_lload_n hx hb d_M_isIn_1 rfl (lv_at hl 1 rfl) ?_
  refine W.lcmp hx hb d_M_isIn_2 ?_
  refine lv_if_lt (tgt := 17) hx hb d_M_isIn_3 (by decide) (fun c_1 => ?_) (fun c_1 => ?_)
  · have c_1 : v < lo := qcm_lt (x := v) (y := lo) c_1
    refine lv_iconst (v := 0) hx hb d_M_isIn_17 (by decide) ?_
    exact W.zret hx hb hB.2.2.1 (by first | rfl | decide | exact nb_isIn _ _ _) (fun t ht _ => ⟨by simp only [f_isIn, c_1, if_true, if_false, ite_true, ite_false, reduceIte], ht⟩) (fun _ h => by cases h) d_M_isIn_18 hB.2.2.2.2.2.2.1
  · have c_1 : ¬ (v < lo) := qcm_nlt (x := v) (y := lo) c_1
    refine lv_lload_n hx hb d_M_isIn_6 rfl (lv_at hl 0 rfl) ?_
    refine lv_lload hx hb d_M_isIn_7 (lv_at hl 2 rfl) ?_
    refine W.lcmp hx hb d_M_isIn_9 ?_
    refine lv_if_gt (tgt := 17) hx hb d_M_isIn_10 (by decide) (fun c_2 => ?_) (fun c_2 => ?_)
    · have c_2 : hi < v := qcm_gt (x := v) (y := hi) c_2
      refine lv_iconst (v := 0) hx hb d_M_isIn_17 (by decide) ?_
      exact W.zret hx hb hB.2.2.1 (by first | rfl | decide | exact nb_isIn _ _ _) (fun t ht _ => ⟨by simp only [f_isIn, c_1, c_2, if_true, if_false, ite_true, ite_false, reduceIte], ht⟩) (fun _ h => by cases h) d_M_isIn_18 hB.2.2.2.2.2.2.1
    · have c_2 : ¬ (hi < v) := qcm_ngt (x := v) (y := hi) c_2
      refine lv_iconst (v := 1) hx hb d_M_isIn_13 (by decide) ?_
      refine lv_goto (tgt := 18) hx hb d_M_isIn_14 (by decide) ?_
      exact W.zret hx hb hB.2.2.1 (by first | rfl | decide | exact nb_isIn _ _ _) (fun t ht _ => ⟨by simp only [f_isIn, c_1, c_2, if_true, if_false, ite_true, ite_false, reduceIte], ht⟩) (fun _ h => by cases h) d_M_isIn_18 hB.2.2.2.2.2.2.1
set_option maxHeartbeats 4000000 in
set_option maxRecDepth 100000 in
/-- isSystem, without a system -/
theorem ct_M_isSystem (l : Launch) (D : va_G) (sz : Nat) (h0 : Nat) (fs : List Value) (h14 : fs[14]? = some (.int 0)) (v : Int32) : Met l ⟨"LocihallModel", "isSystem", "(I)Z"⟩ (.code ⟨"LocihallModel", "isSystem", "(I)Z"⟩ prog_14_method_6_code 2 (some .boolean) :: qw) ({ frames := 1, cells := 0, slots := 0, locals := 25 }) (va_Pc [.ref h0, .int v] (qPre D [(h0, .inr (20, fs))] [] sz)) (k2_QcV (.int (f_isIn v 0 (-1)))) 0 0 (fun _ => False) := by
  refine q_start (by decide) (Nat.le_of_ble_eq_true rfl) ?_
  intro p e s m below meth c hB hin hpre ls hl
  have hW := qH_start hpre
  have hx := hB.1
  have hb := hB.2.1
  have hq := hB.2.2.2.2.2.1
  have hl : lv_has ls 2 [(0, .ref h0), (1, .int v)] := hl
  refine lv_iload_n hx hb d_M_isSystem_0 rfl (lv_at hl 1 rfl) ?_
  refine lv_i2l (v := v.toInt64) hx hb d_M_isSystem_1 rfl ?_
  refine lv_lconst (v := 0) hx hb d_M_isSystem_2 (by decide) ?_
  refine q_topl (v := (0 : Int32).toInt64) (by decide) ?_
  refine lv_aload_n hx hb d_M_isSystem_3 rfl (lv_at hl 0 rfl) ?_
  refine q_get hB hW qc_20 0 rfl 14 (by decide) k1686 h14 d_M_isSystem_4 ?_
  refine lv_iconst (v := 1) hx hb d_M_isSystem_7 (by decide) ?_
  refine lv_isub hx hb d_M_isSystem_8 ?_
  refine q_topi (v := (-1)) (by decide) ?_
  refine lv_i2l (v := ((-1) : Int32).toInt64) hx hb d_M_isSystem_9 rfl ?_
  refine q_readS (As := [.long v.toInt64, .long ((0 : Int32).toInt64), .long (((-1) : Int32).toInt64)]) (rest := []) hB hW (ct_M_isIn l D _ v 0 (-1)) k1767 k1768 k141 k1769 3 ⟨rfl, rfl⟩ (by decide +kernel) rfl ⟨Nat.le_of_ble_eq_true rfl, Nat.le_of_ble_eq_true rfl⟩ [] [] rfl rfl rfl rfl hl.1 (Nat.le_of_ble_eq_true rfl) ⟨Nat.le_of_ble_eq_true rfl, Nat.le_of_ble_eq_true rfl⟩ (st := [.long (((-1) : Int32).toInt64), .long ((0 : Int32).toInt64), .long v.toInt64]) (by rfl) d_M_isSystem_10 ?_
  exact W.zret hx hb hB.2.2.1 (by first | rfl | decide | exact nb_isIn _ _ _) (fun t ht _ => ⟨rfl, ht⟩) (fun _ h => by cases h) d_M_isSystem_13 hB.2.2.2.2.2.2.1
set_option maxHeartbeats 4000000 in
set_option maxRecDepth 100000 in
/-- thrown -/
theorem ct_M_thrown (l : Launch) (D : va_G) (sz : Nat) (h0 : Nat) (fs : List Value) (k : Int32) (h13 : fs[13]? = some (.int k)) : Met l ⟨"LocihallModel", "thrown", "()I"⟩ (.code ⟨"LocihallModel", "thrown", "()I"⟩ prog_14_method_2_code 1 (some .int) :: qw) ({ frames := 0, cells := 0, slots := 0, locals := 0 }) (va_Pc [.ref h0] (qPre D [(h0, .inr (20, fs))] [] sz)) (k2_QcV (.int k)) 0 0 (fun _ => False) := by
  refine q_start (by decide) (Nat.le_of_ble_eq_true rfl) ?_
  intro p e s m below meth c hB hin hpre ls hl
  have hW := qH_start hpre
  have hx := hB.1
  have hb := hB.2.1
  have hq := hB.2.2.2.2.2.1
  have hl : lv_has ls 1 [(0, .ref h0)] := hl
  refine lv_aload_n hx hb d_M_thrown_0 rfl (lv_at hl 0 rfl) ?_
  refine q_get hB hW qc_20 0 rfl 13 (by decide) k1685 h13 d_M_thrown_1 ?_
  exact W.iret hx hb hB.2.2.1 (fun t ht _ => ⟨rfl, ht⟩) (fun _ h => by cases h) d_M_thrown_4 hB.2.2.2.2.2.2.1
set_option maxHeartbeats 4000000 in
set_option maxRecDepth 100000 in
/-- no -/
theorem ct_M_no_t (l : Launch) (D : va_G) (sz : Nat) (h0 : Nat) (fs : List Value) (hn : 13 < fs.length) (v : Int32) : Met l ⟨"LocihallModel", "no", "(ZI)Z"⟩ (.code ⟨"LocihallModel", "no", "(ZI)Z"⟩ prog_14_method_5_code 3 (some .boolean) :: qw) ({ frames := 0, cells := 0, slots := 0, locals := 0 }) (va_Pc [.ref h0, .int 1, .int v] (qPre D [(h0, .inr (20, fs))] [] sz)) (va_Qi (fun (r : Int32) (_ : Unit) => r = 0) (fun _ => qPost D [(h0, .inr (20, (fs.set 13 (.int 0))))] [] (va_A [(h0, .inr (20, fs))] sz)) (va_A [(h0, .inr (20, fs))] sz)) 0 0 (va_A [(h0, .inr (20, fs))] sz) := by
  refine q_start (by decide) (Nat.le_of_ble_eq_true rfl) ?_
  intro p e s m below meth c hB hin hpre ls hl
  have hW := qH_start hpre
  have hx := hB.1
  have hb := hB.2.1
  have hq := hB.2.2.2.2.2.1
  have hl : lv_has ls 3 [(0, .ref h0), (1, .int 1), (2, .int v)] := hl
  refine lv_aload_n hx hb d_M_no_0 rfl (lv_at hl 0 rfl) ?_
  refine lv_iload_n hx hb d_M_no_1 rfl (lv_at hl 1 rfl) ?_
  refine lv_if_eq (tgt := 9) hx hb d_M_no_2 (by decide) (fun c_1 => ?_) (fun c_1 => ?_)
  · exact absurd c_1 (by decide)
  · refine lv_iconst (v := 0) hx hb d_M_no_5 (by decide) ?_
    refine lv_goto (tgt := 10) hx hb d_M_no_6 (by decide) ?_
    refine q_put hB hW qc_20 0 rfl 13 (by decide) k1685 rfl  rfl rfl hn (ws' := [(h0, .inr (20, fs.set 13 (.int 0)))]) rfl d_M_no_10 (fun H locs hW => ?_)
    refine lv_iload_n hx hb d_M_no_13 rfl (lv_at hl 1 rfl) ?_
    refine lv_if_ne (tgt := 21) hx hb d_M_no_14 (by decide) (fun c_2 => ?_) (fun c_2 => ?_)
    · refine lv_iconst (v := 0) hx hb d_M_no_21 (by decide) ?_
      exact W.zret hx hb hB.2.2.1 (by first | rfl | decide | exact nb_isIn _ _ _) (fun t ht hWm => ⟨⟨0, (), rfl, rfl, qH_end hW [0] [] rfl rfl rfl rfl ht hWm⟩, hW.2.2.2.1.F ht⟩) hW.2.2.2.1.2.2 d_M_no_22 hB.2.2.2.2.2.2.1
    · exact absurd c_2 (by decide)
set_option maxHeartbeats 4000000 in
set_option maxRecDepth 100000 in
/-- no -/
theorem ct_M_no_f (l : Launch) (D : va_G) (sz : Nat) (h0 : Nat) (fs : List Value) (hn : 13 < fs.length) (v : Int32) : Met l ⟨"LocihallModel", "no", "(ZI)Z"⟩ (.code ⟨"LocihallModel", "no", "(ZI)Z"⟩ prog_14_method_5_code 3 (some .boolean) :: qw) ({ frames := 0, cells := 0, slots := 0, locals := 0 }) (va_Pc [.ref h0, .int 0, .int v] (qPre D [(h0, .inr (20, fs))] [] sz)) (va_Qi (fun (r : Int32) (_ : Unit) => r = 1) (fun _ => qPost D [(h0, .inr (20, (fs.set 13 (.int v))))] [] (va_A [(h0, .inr (20, fs))] sz)) (va_A [(h0, .inr (20, fs))] sz)) 0 0 (va_A [(h0, .inr (20, fs))] sz) := by
  refine q_start (by decide) (Nat.le_of_ble_eq_true rfl) ?_
  intro p e s m below meth c hB hin hpre ls hl
  have hW := qH_start hpre
  have hx := hB.1
  have hb := hB.2.1
  have hq := hB.2.2.2.2.2.1
  have hl : lv_has ls 3 [(0, .ref h0), (1, .int 0), (2, .int v)] := hl
  refine lv_aload_n hx hb d_M_no_0 rfl (lv_at hl 0 rfl) ?_
  refine lv_iload_n hx hb d_M_no_1 rfl (lv_at hl 1 rfl) ?_
  refine lv_if_eq (tgt := 9) hx hb d_M_no_2 (by decide) (fun c_1 => ?_) (fun c_1 => ?_)
  · refine lv_iload_n hx hb d_M_no_9 rfl (lv_at hl 2 rfl) ?_
    refine q_put hB hW qc_20 0 rfl 13 (by decide) k1685 rfl  rfl rfl hn (ws' := [(h0, .inr (20, fs.set 13 (.int v)))]) rfl d_M_no_10 (fun H locs hW => ?_)
    refine lv_iload_n hx hb d_M_no_13 rfl (lv_at hl 1 rfl) ?_
    refine lv_if_ne (tgt := 21) hx hb d_M_no_14 (by decide) (fun c_2 => ?_) (fun c_2 => ?_)
    · exact absurd c_2 (by decide)
    · refine lv_iconst (v := 1) hx hb d_M_no_17 (by decide) ?_
      refine lv_goto (tgt := 22) hx hb d_M_no_18 (by decide) ?_
      exact W.zret hx hb hB.2.2.1 (by first | rfl | decide | exact nb_isIn _ _ _) (fun t ht hWm => ⟨⟨1, (), rfl, rfl, qH_end hW [0] [] rfl rfl rfl rfl ht hWm⟩, hW.2.2.2.1.F ht⟩) hW.2.2.2.1.2.2 d_M_no_22 hB.2.2.2.2.2.2.1
  · exact absurd c_1 (by decide)
end
section
set_option maxHeartbeats 4000000 in
set_option maxRecDepth 100000 in
/-- learn -/
theorem cx_learn (l : Launch) (hfl : l.stackTraces = false) (D : va_G) (sz : Nat) (h0 : Nat) (fs : List Value) (p0 : Int32) (p1 : Int32) (p2 : Int32) (h3 : fs[3]? = some (.int 0)) : vx_Met l ⟨"Locihall", "learn", "(III)I"⟩ (.code ⟨"Locihall", "learn", "(III)I"⟩ prog_1_method_4_code 5 (some .int) :: qw) ({ frames := 6, cells := 1, slots := 6, locals := 82 }) (va_Pc [.ref h0, .int p0, .int p1, .int p2] (qPre D [(h0, .inr (16, fs))] [] sz)) (va_Qi (fun (r : Int32) (_ : Unit) => 1 = 0 ∧ r = 0) (fun _ _ => True) (va_A [(h0, .inr (16, fs))] sz)) (qX (qx ["java/lang/IndexOutOfBoundsException", "java/lang/IllegalArgumentException"] (1)) (va_A [(h0, .inr (16, fs))] sz)) 1 6 (va_A [(h0, .inr (16, fs))] sz) := by
  refine q_startX (by decide) (Nat.le_of_ble_eq_true rfl) ?_
  intro p e s m below meth c hB hno hpre ls hl
  have hW := qH_start hpre
  have hx := hB.1
  have hb := hB.2.1
  have hq := hB.2.2.2.2.2.1
  have hl : lv_has ls 5 [(0, .ref h0), (1, .int p0), (2, .int p1), (3, .int p2)] := hl
  refine lv_aload_n hx hb d_H_learn_0 rfl (lv_at hl 0 rfl) ?_
  refine lv_iload_n hx hb d_H_learn_1 rfl (lv_at hl 1 rfl) ?_
  refine q_readV (As := [.int p0]) (rest := []) hB hW (ct_H_tableAt l D _ h0 fs h3 p0) (ci := 16) (q0 := 0) rfl rfl k458 k460 k1 k133 k461 1 ⟨rfl, rfl⟩ (by decide +kernel) rfl ⟨Nat.le_of_ble_eq_true rfl, Nat.le_of_ble_eq_true rfl⟩ [0] [] rfl rfl rfl rfl hl.1 (Nat.le_of_ble_eq_true rfl) ⟨Nat.le_of_ble_eq_true rfl, Nat.le_of_ble_eq_true rfl⟩ (st := [.int p0, .ref h0]) (by rfl) d_H_learn_2 ?_
  refine lv_astoreN (lv' := [(4, .null), (0, .ref h0), (1, .int p0), (2, .int p1), (3, .int p2)]) hx hb d_H_learn_5 hl (by decide) rfl (fun ls hl => ?_)
  refine lv_aloadN hx hb d_H_learn_7 (lv_at hl 0 rfl) ?_
  refine lv_ifnullN (tgt := 23) hx hb d_H_learn_9 (by decide) ?_
  exact q_throw hB hW hfl hno (cls := "java/lang/IndexOutOfBoundsException") (text := "no such system or image") (by decide +kernel) k701 k155 j710 hat_119 hgd_119 hl.1 d_H_learn_23 d_H_learn_26 d_H_learn_27 d_H_learn_29 d_H_learn_32 (Nat.le_of_ble_eq_true rfl) (Nat.le_of_ble_eq_true rfl) (Nat.le_of_ble_eq_true rfl) (Nat.le_of_ble_eq_true rfl) (Nat.le_of_ble_eq_true rfl) (Nat.le_of_ble_eq_true rfl) ⟨0, rfl, rfl⟩
set_option maxHeartbeats 4000000 in
set_option maxRecDepth 100000 in
/-- imageOf -/
theorem cx_imageOf (l : Launch) (hfl : l.stackTraces = false) (D : va_G) (sz : Nat) (h0 : Nat) (fs : List Value) (p0 : Int32) (p1 : Int32) (h3 : fs[3]? = some (.int 0)) : vx_Met l ⟨"Locihall", "imageOf", "(II)I"⟩ (.code ⟨"Locihall", "imageOf", "(II)I"⟩ prog_1_method_5_code 4 (some .int) :: qw) ({ frames := 6, cells := 1, slots := 6, locals := 82 }) (va_Pc [.ref h0, .int p0, .int p1] (qPre D [(h0, .inr (16, fs))] [] sz)) (va_Qi (fun (r : Int32) (_ : Unit) => 1 = 0 ∧ r = 0) (fun _ _ => True) (va_A [(h0, .inr (16, fs))] sz)) (qX (qx ["java/lang/IndexOutOfBoundsException", "java/lang/IllegalArgumentException", "java/util/NoSuchElementException"] (1)) (va_A [(h0, .inr (16, fs))] sz)) 1 6 (va_A [(h0, .inr (16, fs))] sz) := by
  refine q_startX (by decide) (Nat.le_of_ble_eq_true rfl) ?_
  intro p e s m below meth c hB hno hpre ls hl
  have hW := qH_start hpre
  have hx := hB.1
  have hb := hB.2.1
  have hq := hB.2.2.2.2.2.1
  have hl : lv_has ls 4 [(0, .ref h0), (1, .int p0), (2, .int p1)] := hl
  refine lv_aload_n hx hb d_H_imageOf_0 rfl (lv_at hl 0 rfl) ?_
  refine lv_iload_n hx hb d_H_imageOf_1 rfl (lv_at hl 1 rfl) ?_
  refine q_readV (As := [.int p0]) (rest := []) hB hW (ct_H_tableAt l D _ h0 fs h3 p0) (ci := 16) (q0 := 0) rfl rfl k458 k460 k1 k133 k461 1 ⟨rfl, rfl⟩ (by decide +kernel) rfl ⟨Nat.le_of_ble_eq_true rfl, Nat.le_of_ble_eq_true rfl⟩ [0] [] rfl rfl rfl rfl hl.1 (Nat.le_of_ble_eq_true rfl) ⟨Nat.le_of_ble_eq_true rfl, Nat.le_of_ble_eq_true rfl⟩ (st := [.int p0, .ref h0]) (by rfl) d_H_imageOf_2 ?_
  refine lv_astore_nN (lv' := [(3, .null), (0, .ref h0), (1, .int p0), (2, .int p1)]) hx hb d_H_imageOf_5 rfl hl (by decide) rfl (fun ls hl => ?_)
  refine lv_aload_nN hx hb d_H_imageOf_6 rfl (lv_at hl 0 rfl) ?_
  refine lv_ifnonnullN hx hb d_H_imageOf_7 ?_
  exact q_throw hB hW hfl hno (cls := "java/lang/IndexOutOfBoundsException") (text := "no such system") (by decide +kernel) k701 k155 j735 hat_119 hgd_119 hl.1 d_H_imageOf_10 d_H_imageOf_13 d_H_imageOf_14 d_H_imageOf_16 d_H_imageOf_19 (Nat.le_of_ble_eq_true rfl) (Nat.le_of_ble_eq_true rfl) (Nat.le_of_ble_eq_true rfl) (Nat.le_of_ble_eq_true rfl) (Nat.le_of_ble_eq_true rfl) (Nat.le_of_ble_eq_true rfl) ⟨0, rfl, rfl⟩
set_option maxHeartbeats 4000000 in
set_option maxRecDepth 100000 in
/-- skill -/
theorem cx_skill (l : Launch) (hfl : l.stackTraces = false) (D : va_G) (sz : Nat) (h0 : Nat) (fs : List Value) (p0 : Int32) (p1 : Int32) (h3 : fs[3]? = some (.int 0)) : vx_Met l ⟨"Locihall", "skill", "(II)I"⟩ (.code ⟨"Locihall", "skill", "(II)I"⟩ prog_1_method_6_code 4 (some .int) :: qw) ({ frames := 6, cells := 1, slots := 6, locals := 82 }) (va_Pc [.ref h0, .int p0, .int p1] (qPre D [(h0, .inr (16, fs))] [] sz)) (va_Qi (fun (r : Int32) (_ : Unit) => 1 = 0 ∧ r = 0) (fun _ _ => True) (va_A [(h0, .inr (16, fs))] sz)) (qX (qx ["java/lang/IndexOutOfBoundsException", "java/lang/IllegalArgumentException"] (1)) (va_A [(h0, .inr (16, fs))] sz)) 1 6 (va_A [(h0, .inr (16, fs))] sz) := by
  refine q_startX (by decide) (Nat.le_of_ble_eq_true rfl) ?_
  intro p e s m below meth c hB hno hpre ls hl
  have hW := qH_start hpre
  have hx := hB.1
  have hb := hB.2.1
  have hq := hB.2.2.2.2.2.1
  have hl : lv_has ls 4 [(0, .ref h0), (1, .int p0), (2, .int p1)] := hl
  refine lv_aload_n hx hb d_H_skill_0 rfl (lv_at hl 0 rfl) ?_
  refine lv_iload_n hx hb d_H_skill_1 rfl (lv_at hl 1 rfl) ?_
  refine q_readV (As := [.int p0]) (rest := []) hB hW (ct_H_tableAt l D _ h0 fs h3 p0) (ci := 16) (q0 := 0) rfl rfl k458 k460 k1 k133 k461 1 ⟨rfl, rfl⟩ (by decide +kernel) rfl ⟨Nat.le_of_ble_eq_true rfl, Nat.le_of_ble_eq_true rfl⟩ [0] [] rfl rfl rfl rfl hl.1 (Nat.le_of_ble_eq_true rfl) ⟨Nat.le_of_ble_eq_true rfl, Nat.le_of_ble_eq_true rfl⟩ (st := [.int p0, .ref h0]) (by rfl) d_H_skill_2 ?_
  refine lv_astore_nN (lv' := [(3, .null), (0, .ref h0), (1, .int p0), (2, .int p1)]) hx hb d_H_skill_5 rfl hl (by decide) rfl (fun ls hl => ?_)
  refine lv_aload_nN hx hb d_H_skill_6 rfl (lv_at hl 0 rfl) ?_
  refine lv_ifnonnullN hx hb d_H_skill_7 ?_
  exact q_throw hB hW hfl hno (cls := "java/lang/IndexOutOfBoundsException") (text := "no such system") (by decide +kernel) k701 k155 j735 hat_119 hgd_119 hl.1 d_H_skill_10 d_H_skill_13 d_H_skill_14 d_H_skill_16 d_H_skill_19 (Nat.le_of_ble_eq_true rfl) (Nat.le_of_ble_eq_true rfl) (Nat.le_of_ble_eq_true rfl) (Nat.le_of_ble_eq_true rfl) (Nat.le_of_ble_eq_true rfl) (Nat.le_of_ble_eq_true rfl) ⟨0, rfl, rfl⟩
set_option maxHeartbeats 4000000 in
set_option maxRecDepth 100000 in
/-- takeOver -/
theorem cx_takeOver (l : Launch) (hfl : l.stackTraces = false) (D : va_G) (sz : Nat) (h0 : Nat) (fs : List Value) (p0 : Int32) (p1 : Int32) (p2 : Int32) (p3 : Int32) (h3 : fs[3]? = some (.int 0)) : vx_Met l ⟨"Locihall", "takeOver", "(IIII)I"⟩ (.code ⟨"Locihall", "takeOver", "(IIII)I"⟩ prog_1_method_8_code 10 (some .int) :: qw) ({ frames := 6, cells := 1, slots := 6, locals := 82 }) (va_Pc [.ref h0, .int p0, .int p1, .int p2, .int p3] (qPre D [(h0, .inr (16, fs))] [] sz)) (va_Qi (fun (r : Int32) (_ : Unit) => 1 = 0 ∧ r = 0) (fun _ _ => True) (va_A [(h0, .inr (16, fs))] sz)) (qX (qx ["java/lang/IndexOutOfBoundsException", "java/lang/IllegalArgumentException"] (1)) (va_A [(h0, .inr (16, fs))] sz)) 1 6 (va_A [(h0, .inr (16, fs))] sz) := by
  refine q_startX (by decide) (Nat.le_of_ble_eq_true rfl) ?_
  intro p e s m below meth c hB hno hpre ls hl
  have hW := qH_start hpre
  have hx := hB.1
  have hb := hB.2.1
  have hq := hB.2.2.2.2.2.1
  have hl : lv_has ls 10 [(0, .ref h0), (1, .int p0), (2, .int p1), (3, .int p2), (4, .int p3)] := hl
  refine lv_aload_n hx hb d_H_takeOver_0 rfl (lv_at hl 0 rfl) ?_
  refine lv_iload_n hx hb d_H_takeOver_1 rfl (lv_at hl 1 rfl) ?_
  refine q_readV (As := [.int p0]) (rest := []) hB hW (ct_H_tableAt l D _ h0 fs h3 p0) (ci := 16) (q0 := 0) rfl rfl k458 k460 k1 k133 k461 1 ⟨rfl, rfl⟩ (by decide +kernel) rfl ⟨Nat.le_of_ble_eq_true rfl, Nat.le_of_ble_eq_true rfl⟩ [0] [] rfl rfl rfl rfl hl.1 (Nat.le_of_ble_eq_true rfl) ⟨Nat.le_of_ble_eq_true rfl, Nat.le_of_ble_eq_true rfl⟩ (st := [.int p0, .ref h0]) (by rfl) d_H_takeOver_2 ?_
  refine lv_astoreN (lv' := [(5, .null), (0, .ref h0), (1, .int p0), (2, .int p1), (3, .int p2), (4, .int p3)]) hx hb d_H_takeOver_5 hl (by decide) rfl (fun ls hl => ?_)
  refine lv_aload_n hx hb d_H_takeOver_7 rfl (lv_at hl 1 rfl) ?_
  refine lv_iload_n hx hb d_H_takeOver_8 rfl (lv_at hl 3 rfl) ?_
  refine q_readV (As := [.int p1]) (rest := []) hB hW (ct_H_tableAt l D _ h0 fs h3 p1) (ci := 16) (q0 := 0) rfl rfl k458 k460 k1 k133 k461 1 ⟨rfl, rfl⟩ (by decide +kernel) rfl ⟨Nat.le_of_ble_eq_true rfl, Nat.le_of_ble_eq_true rfl⟩ [0] [] rfl rfl rfl rfl hl.1 (Nat.le_of_ble_eq_true rfl) ⟨Nat.le_of_ble_eq_true rfl, Nat.le_of_ble_eq_true rfl⟩ (st := [.int p1, .ref h0]) (by rfl) d_H_takeOver_9 ?_
  refine lv_astoreN (lv' := [(6, .null), (5, .null), (0, .ref h0), (1, .int p0), (2, .int p1), (3, .int p2), (4, .int p3)]) hx hb d_H_takeOver_12 hl (by decide) rfl (fun ls hl => ?_)
  refine lv_aloadN hx hb d_H_takeOver_14 (lv_at hl 1 rfl) ?_
  refine lv_ifnullN (tgt := 24) hx hb d_H_takeOver_16 (by decide) ?_
  exact q_throw hB hW hfl hno (cls := "java/lang/IndexOutOfBoundsException") (text := "no such system") (by decide +kernel) k701 k155 j735 hat_119 hgd_119 hl.1 d_H_takeOver_24 d_H_takeOver_27 d_H_takeOver_28 d_H_takeOver_30 d_H_takeOver_33 (Nat.le_of_ble_eq_true rfl) (Nat.le_of_ble_eq_true rfl) (Nat.le_of_ble_eq_true rfl) (Nat.le_of_ble_eq_true rfl) (Nat.le_of_ble_eq_true rfl) (Nat.le_of_ble_eq_true rfl) ⟨0, rfl, rfl⟩
set_option maxHeartbeats 4000000 in
set_option maxRecDepth 100000 in
/-- train -/
theorem cx_train (l : Launch) (hfl : l.stackTraces = false) (D : va_G) (sz : Nat) (h0 : Nat) (fs : List Value) (p0 : Int32) (p1 : Int32) (h3 : fs[3]? = some (.int 0)) : vx_Met l ⟨"Locihall", "train", "(II)I"⟩ (.code ⟨"Locihall", "train", "(II)I"⟩ prog_1_method_9_code 4 (some .int) :: qw) ({ frames := 6, cells := 1, slots := 6, locals := 82 }) (va_Pc [.ref h0, .int p0, .int p1] (qPre D [(h0, .inr (16, fs))] [] sz)) (va_Qi (fun (r : Int32) (_ : Unit) => 1 = 0 ∧ r = 0) (fun _ _ => True) (va_A [(h0, .inr (16, fs))] sz)) (qX (qx ["java/lang/IndexOutOfBoundsException", "java/lang/IllegalArgumentException"] (1)) (va_A [(h0, .inr (16, fs))] sz)) 1 6 (va_A [(h0, .inr (16, fs))] sz) := by
  refine q_startX (by decide) (Nat.le_of_ble_eq_true rfl) ?_
  intro p e s m below meth c hB hno hpre ls hl
  have hW := qH_start hpre
  have hx := hB.1
  have hb := hB.2.1
  have hq := hB.2.2.2.2.2.1
  have hl : lv_has ls 4 [(0, .ref h0), (1, .int p0), (2, .int p1)] := hl
  refine lv_aload_n hx hb d_H_train_0 rfl (lv_at hl 0 rfl) ?_
  refine lv_iload_n hx hb d_H_train_1 rfl (lv_at hl 1 rfl) ?_
  refine q_readV (As := [.int p0]) (rest := []) hB hW (ct_H_tableAt l D _ h0 fs h3 p0) (ci := 16) (q0 := 0) rfl rfl k458 k460 k1 k133 k461 1 ⟨rfl, rfl⟩ (by decide +kernel) rfl ⟨Nat.le_of_ble_eq_true rfl, Nat.le_of_ble_eq_true rfl⟩ [0] [] rfl rfl rfl rfl hl.1 (Nat.le_of_ble_eq_true rfl) ⟨Nat.le_of_ble_eq_true rfl, Nat.le_of_ble_eq_true rfl⟩ (st := [.int p0, .ref h0]) (by rfl) d_H_train_2 ?_
  refine lv_astore_nN (lv' := [(3, .null), (0, .ref h0), (1, .int p0), (2, .int p1)]) hx hb d_H_train_5 rfl hl (by decide) rfl (fun ls hl => ?_)
  refine lv_aload_nN hx hb d_H_train_6 rfl (lv_at hl 0 rfl) ?_
  refine lv_ifnonnullN hx hb d_H_train_7 ?_
  exact q_throw hB hW hfl hno (cls := "java/lang/IndexOutOfBoundsException") (text := "no such system") (by decide +kernel) k701 k155 j735 hat_119 hgd_119 hl.1 d_H_train_10 d_H_train_13 d_H_train_14 d_H_train_16 d_H_train_19 (Nat.le_of_ble_eq_true rfl) (Nat.le_of_ble_eq_true rfl) (Nat.le_of_ble_eq_true rfl) (Nat.le_of_ble_eq_true rfl) (Nat.le_of_ble_eq_true rfl) (Nat.le_of_ble_eq_true rfl) ⟨0, rfl, rfl⟩
set_option maxHeartbeats 4000000 in
set_option maxRecDepth 100000 in
/-- saved -/
theorem cx_saved (l : Launch) (hfl : l.stackTraces = false) (D : va_G) (sz : Nat) (h0 : Nat) (fs : List Value) (p0 : Int32) (p1 : Int32) (p2 : Int32) (h3 : fs[3]? = some (.int 0)) : vx_Met l ⟨"Locihall", "saved", "(III)F"⟩ (.code ⟨"Locihall", "saved", "(III)F"⟩ prog_1_method_10_code 8 (some .float) :: qw) ({ frames := 6, cells := 1, slots := 6, locals := 82 }) (va_Pc [.ref h0, .int p0, .int p1, .int p2] (qPre D [(h0, .inr (16, fs))] [] sz)) (va_Qf (fun (r : UInt32) (_ : Unit) => 1 = 0 ∧ r = 0) (fun _ _ => True) (va_A [(h0, .inr (16, fs))] sz)) (qX (qx ["java/lang/IndexOutOfBoundsException", "java/lang/IllegalArgumentException", "java/util/NoSuchElementException"] (1)) (va_A [(h0, .inr (16, fs))] sz)) 1 6 (va_A [(h0, .inr (16, fs))] sz) := by
  refine q_startX (by decide) (Nat.le_of_ble_eq_true rfl) ?_
  intro p e s m below meth c hB hno hpre ls hl
  have hW := qH_start hpre
  have hx := hB.1
  have hb := hB.2.1
  have hq := hB.2.2.2.2.2.1
  have hl : lv_has ls 8 [(0, .ref h0), (1, .int p0), (2, .int p1), (3, .int p2)] := hl
  refine lv_aload_n hx hb d_H_saved_0 rfl (lv_at hl 0 rfl) ?_
  refine lv_iload_n hx hb d_H_saved_1 rfl (lv_at hl 1 rfl) ?_
  refine q_readV (As := [.int p0]) (rest := []) hB hW (ct_H_tableAt l D _ h0 fs h3 p0) (ci := 16) (q0 := 0) rfl rfl k458 k460 k1 k133 k461 1 ⟨rfl, rfl⟩ (by decide +kernel) rfl ⟨Nat.le_of_ble_eq_true rfl, Nat.le_of_ble_eq_true rfl⟩ [0] [] rfl rfl rfl rfl hl.1 (Nat.le_of_ble_eq_true rfl) ⟨Nat.le_of_ble_eq_true rfl, Nat.le_of_ble_eq_true rfl⟩ (st := [.int p0, .ref h0]) (by rfl) d_H_saved_2 ?_
  refine lv_astoreN (lv' := [(4, .null), (0, .ref h0), (1, .int p0), (2, .int p1), (3, .int p2)]) hx hb d_H_saved_5 hl (by decide) rfl (fun ls hl => ?_)
  refine lv_aloadN hx hb d_H_saved_7 (lv_at hl 0 rfl) ?_
  refine lv_ifnonnullN hx hb d_H_saved_9 ?_
  exact q_throw hB hW hfl hno (cls := "java/lang/IndexOutOfBoundsException") (text := "no such system") (by decide +kernel) k701 k155 j735 hat_119 hgd_119 hl.1 d_H_saved_12 d_H_saved_15 d_H_saved_16 d_H_saved_18 d_H_saved_21 (Nat.le_of_ble_eq_true rfl) (Nat.le_of_ble_eq_true rfl) (Nat.le_of_ble_eq_true rfl) (Nat.le_of_ble_eq_true rfl) (Nat.le_of_ble_eq_true rfl) (Nat.le_of_ble_eq_true rfl) ⟨0, rfl, rfl⟩
set_option maxHeartbeats 4000000 in
set_option maxRecDepth 100000 in
/-- paysBack -/
theorem cx_paysBack (l : Launch) (hfl : l.stackTraces = false) (D : va_G) (sz : Nat) (h0 : Nat) (fs : List Value) (p0 : Int32) (p1 : Int32) (p2 : Int32) (h3 : fs[3]? = some (.int 0)) : vx_Met l ⟨"Locihall", "paysBack", "(III)Z"⟩ (.code ⟨"Locihall", "paysBack", "(III)Z"⟩ prog_1_method_11_code 8 (some .boolean) :: qw) ({ frames := 6, cells := 1, slots := 6, locals := 82 }) (va_Pc [.ref h0, .int p0, .int p1, .int p2] (qPre D [(h0, .inr (16, fs))] [] sz)) (va_Qi (fun (r : Int32) (_ : Unit) => 1 = 0 ∧ r = 0) (fun _ _ => True) (va_A [(h0, .inr (16, fs))] sz)) (qX (qx ["java/lang/IndexOutOfBoundsException", "java/lang/IllegalArgumentException", "java/util/NoSuchElementException"] (1)) (va_A [(h0, .inr (16, fs))] sz)) 1 6 (va_A [(h0, .inr (16, fs))] sz) := by
  refine q_startX (by decide) (Nat.le_of_ble_eq_true rfl) ?_
  intro p e s m below meth c hB hno hpre ls hl
  have hW := qH_start hpre
  have hx := hB.1
  have hb := hB.2.1
  have hq := hB.2.2.2.2.2.1
  have hl : lv_has ls 8 [(0, .ref h0), (1, .int p0), (2, .int p1), (3, .int p2)] := hl
  refine lv_aload_n hx hb d_H_paysBack_0 rfl (lv_at hl 0 rfl) ?_
  refine lv_iload_n hx hb d_H_paysBack_1 rfl (lv_at hl 1 rfl) ?_
  refine q_readV (As := [.int p0]) (rest := []) hB hW (ct_H_tableAt l D _ h0 fs h3 p0) (ci := 16) (q0 := 0) rfl rfl k458 k460 k1 k133 k461 1 ⟨rfl, rfl⟩ (by decide +kernel) rfl ⟨Nat.le_of_ble_eq_true rfl, Nat.le_of_ble_eq_true rfl⟩ [0] [] rfl rfl rfl rfl hl.1 (Nat.le_of_ble_eq_true rfl) ⟨Nat.le_of_ble_eq_true rfl, Nat.le_of_ble_eq_true rfl⟩ (st := [.int p0, .ref h0]) (by rfl) d_H_paysBack_2 ?_
  refine lv_astoreN (lv' := [(4, .null), (0, .ref h0), (1, .int p0), (2, .int p1), (3, .int p2)]) hx hb d_H_paysBack_5 hl (by decide) rfl (fun ls hl => ?_)
  refine lv_aload_n hx hb d_H_paysBack_7 rfl (lv_at hl 1 rfl) ?_
  refine lv_iload_n hx hb d_H_paysBack_8 rfl (lv_at hl 3 rfl) ?_
  refine q_readV (As := [.int p1]) (rest := []) hB hW (ct_H_tableAt l D _ h0 fs h3 p1) (ci := 16) (q0 := 0) rfl rfl k458 k460 k1 k133 k461 1 ⟨rfl, rfl⟩ (by decide +kernel) rfl ⟨Nat.le_of_ble_eq_true rfl, Nat.le_of_ble_eq_true rfl⟩ [0] [] rfl rfl rfl rfl hl.1 (Nat.le_of_ble_eq_true rfl) ⟨Nat.le_of_ble_eq_true rfl, Nat.le_of_ble_eq_true rfl⟩ (st := [.int p1, .ref h0]) (by rfl) d_H_paysBack_9 ?_
  refine lv_astoreN (lv' := [(5, .null), (4, .null), (0, .ref h0), (1, .int p0), (2, .int p1), (3, .int p2)]) hx hb d_H_paysBack_12 hl (by decide) rfl (fun ls hl => ?_)
  refine lv_aloadN hx hb d_H_paysBack_14 (lv_at hl 1 rfl) ?_
  refine lv_ifnullN (tgt := 24) hx hb d_H_paysBack_16 (by decide) ?_
  exact q_throw hB hW hfl hno (cls := "java/lang/IndexOutOfBoundsException") (text := "no such system") (by decide +kernel) k701 k155 j735 hat_119 hgd_119 hl.1 d_H_paysBack_24 d_H_paysBack_27 d_H_paysBack_28 d_H_paysBack_30 d_H_paysBack_33 (Nat.le_of_ble_eq_true rfl) (Nat.le_of_ble_eq_true rfl) (Nat.le_of_ble_eq_true rfl) (Nat.le_of_ble_eq_true rfl) (Nat.le_of_ble_eq_true rfl) (Nat.le_of_ble_eq_true rfl) ⟨0, rfl, rfl⟩
set_option maxHeartbeats 4000000 in
set_option maxRecDepth 100000 in
/-- locus -/
theorem cx_locus (l : Launch) (hfl : l.stackTraces = false) (D : va_G) (sz : Nat) (h0 : Nat) (fs : List Value) (p0 : Int32) (p1 : Int32) (o4 : Nat) (f4 : List Value) (g2 : f4[2]? = some (.int 0)) (h4 : fs[4]? = some (.ref o4)) : vx_Met l ⟨"Locihall", "locus", "(II)I"⟩ (.code ⟨"Locihall", "locus", "(II)I"⟩ prog_1_method_13_code 4 (some .int) :: qw) ({ frames := 6, cells := 1, slots := 6, locals := 82 }) (va_Pc [.ref h0, .int p0, .int p1] (qPre D [(h0, .inr (16, fs)), (o4, .inr (9, f4))] [] sz)) (va_Qi (fun (r : Int32) (_ : Unit) => 1 = 0 ∧ r = 0) (fun _ _ => True) (va_A [(h0, .inr (16, fs)), (o4, .inr (9, f4))] sz)) (qX (qx ["java/lang/IndexOutOfBoundsException", "java/lang/IllegalArgumentException", "java/lang/IllegalStateException"] (1)) (va_A [(h0, .inr (16, fs)), (o4, .inr (9, f4))] sz)) 1 6 (va_A [(h0, .inr (16, fs)), (o4, .inr (9, f4))] sz) := by
  refine q_startX (by decide) (Nat.le_of_ble_eq_true rfl) ?_
  intro p e s m below meth c hB hno hpre ls hl
  have hW := qH_start hpre
  have hx := hB.1
  have hb := hB.2.1
  have hq := hB.2.2.2.2.2.1
  have hl : lv_has ls 4 [(0, .ref h0), (1, .int p0), (2, .int p1)] := hl
  refine lv_aload_n hx hb d_H_locus_0 rfl (lv_at hl 0 rfl) ?_
  refine q_get hB hW qc_16 0 rfl 4 (by decide) k406 h4 d_H_locus_1 ?_
  refine lv_iload_n hx hb d_H_locus_4 rfl (lv_at hl 1 rfl) ?_
  refine q_readVN (As := [.int p0]) (rest := []) hB hW (ct_Mi_palaceAt l D _ o4 f4 g2 p0) (ci := 9) (q0 := 1) rfl rfl j912 k497 k8 k136 k498 1 ⟨rfl, rfl⟩ (by decide +kernel) rfl ⟨Nat.le_of_ble_eq_true rfl, Nat.le_of_ble_eq_true rfl⟩ [1] [] rfl rfl rfl rfl hl.1 (Nat.le_of_ble_eq_true rfl) ⟨Nat.le_of_ble_eq_true rfl, Nat.le_of_ble_eq_true rfl⟩ (st := [.int p0, .ref o4]) (by rfl) d_H_locus_5 ?_
  refine lv_astore_nN (lv' := [(3, .null), (0, .ref h0), (1, .int p0), (2, .int p1)]) hx hb d_H_locus_8 rfl hl (by decide) rfl (fun ls hl => ?_)
  refine lv_aload_nN hx hb d_H_locus_9 rfl (lv_at hl 0 rfl) ?_
  refine lv_ifnonnullN hx hb d_H_locus_10 ?_
  exact q_throw hB hW hfl hno (cls := "java/lang/IndexOutOfBoundsException") (text := "no such palace") (by decide +kernel) k701 k155 j913 hat_119 hgd_119 hl.1 d_H_locus_13 d_H_locus_16 d_H_locus_17 d_H_locus_19 d_H_locus_22 (Nat.le_of_ble_eq_true rfl) (Nat.le_of_ble_eq_true rfl) (Nat.le_of_ble_eq_true rfl) (Nat.le_of_ble_eq_true rfl) (Nat.le_of_ble_eq_true rfl) (Nat.le_of_ble_eq_true rfl) ⟨0, rfl, rfl⟩
set_option maxHeartbeats 4000000 in
set_option maxRecDepth 100000 in
/-- cue -/
theorem cx_cue (l : Launch) (hfl : l.stackTraces = false) (D : va_G) (sz : Nat) (h0 : Nat) (fs : List Value) (p0 : Int32) (p1 : Int32) (p2 : Int32) (o4 : Nat) (f4 : List Value) (g2 : f4[2]? = some (.int 0)) (h4 : fs[4]? = some (.ref o4)) : vx_Met l ⟨"Locihall", "cue", "(IIZ)Z"⟩ (.code ⟨"Locihall", "cue", "(IIZ)Z"⟩ prog_1_method_14_code 6 (some .boolean) :: qw) ({ frames := 6, cells := 1, slots := 6, locals := 82 }) (va_Pc [.ref h0, .int p0, .int p1, .int p2] (qPre D [(h0, .inr (16, fs)), (o4, .inr (9, f4))] [] sz)) (va_Qi (fun (r : Int32) (_ : Unit) => 1 = 0 ∧ r = 0) (fun _ _ => True) (va_A [(h0, .inr (16, fs)), (o4, .inr (9, f4))] sz)) (qX (qx ["java/lang/IndexOutOfBoundsException"] (1)) (va_A [(h0, .inr (16, fs)), (o4, .inr (9, f4))] sz)) 1 6 (va_A [(h0, .inr (16, fs)), (o4, .inr (9, f4))] sz) := by
  refine q_startX (by decide) (Nat.le_of_ble_eq_true rfl) ?_
  intro p e s m below meth c hB hno hpre ls hl
  have hW := qH_start hpre
  have hx := hB.1
  have hb := hB.2.1
  have hq := hB.2.2.2.2.2.1
  have hl : lv_has ls 6 [(0, .ref h0), (1, .int p0), (2, .int p1), (3, .int p2)] := hl
  refine lv_aload_n hx hb d_H_cue_0 rfl (lv_at hl 0 rfl) ?_
  refine q_get hB hW qc_16 0 rfl 4 (by decide) k406 h4 d_H_cue_1 ?_
  refine lv_iload_n hx hb d_H_cue_4 rfl (lv_at hl 1 rfl) ?_
  refine lv_iload_n hx hb d_H_cue_5 rfl (lv_at hl 2 rfl) ?_
  refine q_readVN (As := [.int p0, .int p1]) (rest := []) hB hW (ct_Mi_locusAt l D _ o4 f4 g2 p0 p1) (ci := 9) (q0 := 1) rfl rfl j950 k952 k32 k136 k953 2 ⟨rfl, rfl⟩ (by decide +kernel) rfl ⟨Nat.le_of_ble_eq_true rfl, Nat.le_of_ble_eq_true rfl⟩ [1] [] rfl rfl rfl rfl hl.1 (Nat.le_of_ble_eq_true rfl) ⟨Nat.le_of_ble_eq_true rfl, Nat.le_of_ble_eq_true rfl⟩ (st := [.int p1, .int p0, .ref o4]) (by rfl) d_H_cue_6 ?_
  refine lv_astoreN (lv' := [(4, .null), (0, .ref h0), (1, .int p0), (2, .int p1), (3, .int p2)]) hx hb d_H_cue_9 hl (by decide) rfl (fun ls hl => ?_)
  refine lv_aloadN hx hb d_H_cue_11 (lv_at hl 0 rfl) ?_
  refine lv_ifnonnullN hx hb d_H_cue_13 ?_
  exact q_throw hB hW hfl hno (cls := "java/lang/IndexOutOfBoundsException") (text := "no such palace or locus") (by decide +kernel) k701 k155 j954 hat_119 hgd_119 hl.1 d_H_cue_16 d_H_cue_19 d_H_cue_20 d_H_cue_22 d_H_cue_25 (Nat.le_of_ble_eq_true rfl) (Nat.le_of_ble_eq_true rfl) (Nat.le_of_ble_eq_true rfl) (Nat.le_of_ble_eq_true rfl) (Nat.le_of_ble_eq_true rfl) (Nat.le_of_ble_eq_true rfl) ⟨0, rfl, rfl⟩
set_option maxHeartbeats 4000000 in
set_option maxRecDepth 100000 in
/-- lay -/
theorem cx_lay (l : Launch) (hfl : l.stackTraces = false) (D : va_G) (sz : Nat) (h0 : Nat) (fs : List Value) (p0 : Int32) (p1 : Int32) (p2 : Int32) (p3 : Int32) (o4 : Nat) (f4 : List Value) (g2 : f4[2]? = some (.int 0)) (h4 : fs[4]? = some (.ref o4)) (h3 : fs[3]? = some (.int 0)) : vx_Met l ⟨"Locihall", "lay", "(IIIZ)I"⟩ (.code ⟨"Locihall", "lay", "(IIIZ)I"⟩ prog_1_method_16_code 8 (some .int) :: qw) ({ frames := 6, cells := 1, slots := 6, locals := 82 }) (va_Pc [.ref h0, .int p0, .int p1, .int p2, .int p3] (qPre D [(h0, .inr (16, fs)), (o4, .inr (9, f4))] [] sz)) (va_Qi (fun (r : Int32) (_ : Unit) => 1 = 0 ∧ r = 0) (fun _ _ => True) (va_A [(h0, .inr (16, fs)), (o4, .inr (9, f4))] sz)) (qX (qx ["java/lang/IndexOutOfBoundsException", "java/lang/UnsupportedOperationException"] (1)) (va_A [(h0, .inr (16, fs)), (o4, .inr (9, f4))] sz)) 1 6 (va_A [(h0, .inr (16, fs)), (o4, .inr (9, f4))] sz) := by
  refine q_startX (by decide) (Nat.le_of_ble_eq_true rfl) ?_
  intro p e s m below meth c hB hno hpre ls hl
  have hW := qH_start hpre
  have hx := hB.1
  have hb := hB.2.1
  have hq := hB.2.2.2.2.2.1
  have hl : lv_has ls 8 [(0, .ref h0), (1, .int p0), (2, .int p1), (3, .int p2), (4, .int p3)] := hl
  refine lv_aload_n hx hb d_H_lay_0 rfl (lv_at hl 0 rfl) ?_
  refine q_get hB hW qc_16 0 rfl 4 (by decide) k406 h4 d_H_lay_1 ?_
  refine lv_iload_n hx hb d_H_lay_4 rfl (lv_at hl 1 rfl) ?_
  refine lv_iload_n hx hb d_H_lay_5 rfl (lv_at hl 2 rfl) ?_
  refine q_readVN (As := [.int p0, .int p1]) (rest := []) hB hW (ct_Mi_locusAt l D _ o4 f4 g2 p0 p1) (ci := 9) (q0 := 1) rfl rfl j950 k952 k32 k136 k953 2 ⟨rfl, rfl⟩ (by decide +kernel) rfl ⟨Nat.le_of_ble_eq_true rfl, Nat.le_of_ble_eq_true rfl⟩ [1] [] rfl rfl rfl rfl hl.1 (Nat.le_of_ble_eq_true rfl) ⟨Nat.le_of_ble_eq_true rfl, Nat.le_of_ble_eq_true rfl⟩ (st := [.int p1, .int p0, .ref o4]) (by rfl) d_H_lay_6 ?_
  refine lv_astoreN (lv' := [(5, .null), (0, .ref h0), (1, .int p0), (2, .int p1), (3, .int p2), (4, .int p3)]) hx hb d_H_lay_9 hl (by decide) rfl (fun ls hl => ?_)
  refine lv_aload_n hx hb d_H_lay_11 rfl (lv_at hl 1 rfl) ?_
  refine lv_iload_n hx hb d_H_lay_12 rfl (lv_at hl 4 rfl) ?_
  refine q_readV (As := [.int p2]) (rest := []) hB hW (ct_H_tableAt l D _ h0 fs h3 p2) (ci := 16) (q0 := 0) rfl rfl k458 k460 k1 k133 k461 1 ⟨rfl, rfl⟩ (by decide +kernel) rfl ⟨Nat.le_of_ble_eq_true rfl, Nat.le_of_ble_eq_true rfl⟩ [0] [] rfl rfl rfl rfl hl.1 (Nat.le_of_ble_eq_true rfl) ⟨Nat.le_of_ble_eq_true rfl, Nat.le_of_ble_eq_true rfl⟩ (st := [.int p2, .ref h0]) (by rfl) d_H_lay_13 ?_
  refine lv_astoreN (lv' := [(6, .null), (5, .null), (0, .ref h0), (1, .int p0), (2, .int p1), (3, .int p2), (4, .int p3)]) hx hb d_H_lay_16 hl (by decide) rfl (fun ls hl => ?_)
  refine lv_aloadN hx hb d_H_lay_18 (lv_at hl 1 rfl) ?_
  refine lv_ifnullN (tgt := 28) hx hb d_H_lay_20 (by decide) ?_
  exact q_throw hB hW hfl hno (cls := "java/lang/IndexOutOfBoundsException") (text := "no such palace, locus or system") (by decide +kernel) k701 k155 j970 hat_119 hgd_119 hl.1 d_H_lay_28 d_H_lay_31 d_H_lay_32 d_H_lay_34 d_H_lay_37 (Nat.le_of_ble_eq_true rfl) (Nat.le_of_ble_eq_true rfl) (Nat.le_of_ble_eq_true rfl) (Nat.le_of_ble_eq_true rfl) (Nat.le_of_ble_eq_true rfl) (Nat.le_of_ble_eq_true rfl) ⟨0, rfl, rfl⟩
set_option maxHeartbeats 4000000 in
set_option maxRecDepth 100000 in
/-- traces -/
theorem cx_traces (l : Launch) (hfl : l.stackTraces = false) (D : va_G) (sz : Nat) (h0 : Nat) (fs : List Value) (p0 : Int32) (p1 : Int32) (o4 : Nat) (f4 : List Value) (g2 : f4[2]? = some (.int 0)) (h4 : fs[4]? = some (.ref o4)) : vx_Met l ⟨"Locihall", "traces", "(II)I"⟩ (.code ⟨"Locihall", "traces", "(II)I"⟩ prog_1_method_17_code 4 (some .int) :: qw) ({ frames := 6, cells := 1, slots := 6, locals := 82 }) (va_Pc [.ref h0, .int p0, .int p1] (qPre D [(h0, .inr (16, fs)), (o4, .inr (9, f4))] [] sz)) (va_Qi (fun (r : Int32) (_ : Unit) => 1 = 0 ∧ r = 0) (fun _ _ => True) (va_A [(h0, .inr (16, fs)), (o4, .inr (9, f4))] sz)) (qX (qx ["java/lang/IndexOutOfBoundsException"] (1)) (va_A [(h0, .inr (16, fs)), (o4, .inr (9, f4))] sz)) 1 6 (va_A [(h0, .inr (16, fs)), (o4, .inr (9, f4))] sz) := by
  refine q_startX (by decide) (Nat.le_of_ble_eq_true rfl) ?_
  intro p e s m below meth c hB hno hpre ls hl
  have hW := qH_start hpre
  have hx := hB.1
  have hb := hB.2.1
  have hq := hB.2.2.2.2.2.1
  have hl : lv_has ls 4 [(0, .ref h0), (1, .int p0), (2, .int p1)] := hl
  refine lv_aload_n hx hb d_H_traces_0 rfl (lv_at hl 0 rfl) ?_
  refine q_get hB hW qc_16 0 rfl 4 (by decide) k406 h4 d_H_traces_1 ?_
  refine lv_iload_n hx hb d_H_traces_4 rfl (lv_at hl 1 rfl) ?_
  refine lv_iload_n hx hb d_H_traces_5 rfl (lv_at hl 2 rfl) ?_
  refine q_readVN (As := [.int p0, .int p1]) (rest := []) hB hW (ct_Mi_locusAt l D _ o4 f4 g2 p0 p1) (ci := 9) (q0 := 1) rfl rfl j950 k952 k32 k136 k953 2 ⟨rfl, rfl⟩ (by decide +kernel) rfl ⟨Nat.le_of_ble_eq_true rfl, Nat.le_of_ble_eq_true rfl⟩ [1] [] rfl rfl rfl rfl hl.1 (Nat.le_of_ble_eq_true rfl) ⟨Nat.le_of_ble_eq_true rfl, Nat.le_of_ble_eq_true rfl⟩ (st := [.int p1, .int p0, .ref o4]) (by rfl) d_H_traces_6 ?_
  refine lv_astore_nN (lv' := [(3, .null), (0, .ref h0), (1, .int p0), (2, .int p1)]) hx hb d_H_traces_9 rfl hl (by decide) rfl (fun ls hl => ?_)
  refine lv_aload_nN hx hb d_H_traces_10 rfl (lv_at hl 0 rfl) ?_
  refine lv_ifnonnullN hx hb d_H_traces_11 ?_
  exact q_throw hB hW hfl hno (cls := "java/lang/IndexOutOfBoundsException") (text := "no such palace or locus") (by decide +kernel) k701 k155 j954 hat_119 hgd_119 hl.1 d_H_traces_14 d_H_traces_17 d_H_traces_18 d_H_traces_20 d_H_traces_23 (Nat.le_of_ble_eq_true rfl) (Nat.le_of_ble_eq_true rfl) (Nat.le_of_ble_eq_true rfl) (Nat.le_of_ble_eq_true rfl) (Nat.le_of_ble_eq_true rfl) (Nat.le_of_ble_eq_true rfl) ⟨0, rfl, rfl⟩
set_option maxHeartbeats 4000000 in
set_option maxRecDepth 100000 in
/-- hold -/
theorem cx_hold (l : Launch) (hfl : l.stackTraces = false) (D : va_G) (sz : Nat) (h0 : Nat) (fs : List Value) (p0 : Int32) (p1 : Int32) (p2 : Int32) (o4 : Nat) (f4 : List Value) (g2 : f4[2]? = some (.int 0)) (h4 : fs[4]? = some (.ref o4)) : vx_Met l ⟨"Locihall", "hold", "(III)F"⟩ (.code ⟨"Locihall", "hold", "(III)F"⟩ prog_1_method_18_code 7 (some .float) :: qw) ({ frames := 6, cells := 1, slots := 6, locals := 82 }) (va_Pc [.ref h0, .int p0, .int p1, .int p2] (qPre D [(h0, .inr (16, fs)), (o4, .inr (9, f4))] [] sz)) (va_Qf (fun (r : UInt32) (_ : Unit) => 1 = 0 ∧ r = 0) (fun _ _ => True) (va_A [(h0, .inr (16, fs)), (o4, .inr (9, f4))] sz)) (qX (qx ["java/lang/IndexOutOfBoundsException", "java/util/NoSuchElementException"] (1)) (va_A [(h0, .inr (16, fs)), (o4, .inr (9, f4))] sz)) 1 6 (va_A [(h0, .inr (16, fs)), (o4, .inr (9, f4))] sz) := by
  refine q_startX (by decide) (Nat.le_of_ble_eq_true rfl) ?_
  intro p e s m below meth c hB hno hpre ls hl
  have hW := qH_start hpre
  have hx := hB.1
  have hb := hB.2.1
  have hq := hB.2.2.2.2.2.1
  have hl : lv_has ls 7 [(0, .ref h0), (1, .int p0), (2, .int p1), (3, .int p2)] := hl
  refine lv_aload_n hx hb d_H_hold_0 rfl (lv_at hl 0 rfl) ?_
  refine q_get hB hW qc_16 0 rfl 4 (by decide) k406 h4 d_H_hold_1 ?_
  refine lv_iload_n hx hb d_H_hold_4 rfl (lv_at hl 1 rfl) ?_
  refine q_readVN (As := [.int p0]) (rest := []) hB hW (ct_Mi_palaceAt l D _ o4 f4 g2 p0) (ci := 9) (q0 := 1) rfl rfl j912 k497 k8 k136 k498 1 ⟨rfl, rfl⟩ (by decide +kernel) rfl ⟨Nat.le_of_ble_eq_true rfl, Nat.le_of_ble_eq_true rfl⟩ [1] [] rfl rfl rfl rfl hl.1 (Nat.le_of_ble_eq_true rfl) ⟨Nat.le_of_ble_eq_true rfl, Nat.le_of_ble_eq_true rfl⟩ (st := [.int p0, .ref o4]) (by rfl) d_H_hold_5 ?_
  refine lv_astoreN (lv' := [(4, .null), (0, .ref h0), (1, .int p0), (2, .int p1), (3, .int p2)]) hx hb d_H_hold_8 hl (by decide) rfl (fun ls hl => ?_)
  refine lv_aload_n hx hb d_H_hold_10 rfl (lv_at hl 1 rfl) ?_
  refine q_get hB hW qc_16 0 rfl 4 (by decide) k406 h4 d_H_hold_11 ?_
  refine lv_iload_n hx hb d_H_hold_14 rfl (lv_at hl 2 rfl) ?_
  refine lv_iload_n hx hb d_H_hold_15 rfl (lv_at hl 3 rfl) ?_
  refine q_readVN (As := [.int p0, .int p1]) (rest := []) hB hW (ct_Mi_locusAt l D _ o4 f4 g2 p0 p1) (ci := 9) (q0 := 1) rfl rfl j950 k952 k32 k136 k953 2 ⟨rfl, rfl⟩ (by decide +kernel) rfl ⟨Nat.le_of_ble_eq_true rfl, Nat.le_of_ble_eq_true rfl⟩ [1] [] rfl rfl rfl rfl hl.1 (Nat.le_of_ble_eq_true rfl) ⟨Nat.le_of_ble_eq_true rfl, Nat.le_of_ble_eq_true rfl⟩ (st := [.int p1, .int p0, .ref o4]) (by rfl) d_H_hold_16 ?_
  refine lv_astoreN (lv' := [(5, .null), (4, .null), (0, .ref h0), (1, .int p0), (2, .int p1), (3, .int p2)]) hx hb d_H_hold_19 hl (by decide) rfl (fun ls hl => ?_)
  refine lv_aloadN hx hb d_H_hold_21 (lv_at hl 1 rfl) ?_
  refine lv_ifnullN (tgt := 31) hx hb d_H_hold_23 (by decide) ?_
  exact q_throw hB hW hfl hno (cls := "java/lang/IndexOutOfBoundsException") (text := "no such palace or locus") (by decide +kernel) k701 k155 j954 hat_119 hgd_119 hl.1 d_H_hold_31 d_H_hold_34 d_H_hold_35 d_H_hold_37 d_H_hold_40 (Nat.le_of_ble_eq_true rfl) (Nat.le_of_ble_eq_true rfl) (Nat.le_of_ble_eq_true rfl) (Nat.le_of_ble_eq_true rfl) (Nat.le_of_ble_eq_true rfl) (Nat.le_of_ble_eq_true rfl) ⟨0, rfl, rfl⟩
set_option maxHeartbeats 4000000 in
set_option maxRecDepth 100000 in
/-- recall -/
theorem cx_recall (l : Launch) (hfl : l.stackTraces = false) (D : va_G) (sz : Nat) (h0 : Nat) (fs : List Value) (p0 : Int32) (p1 : Int32) (o4 : Nat) (f4 : List Value) (g2 : f4[2]? = some (.int 0)) (h4 : fs[4]? = some (.ref o4)) : vx_Met l ⟨"Locihall", "recall", "(II)C"⟩ (.code ⟨"Locihall", "recall", "(II)C"⟩ prog_1_method_19_code 4 (some .char) :: qw) ({ frames := 6, cells := 1, slots := 6, locals := 82 }) (va_Pc [.ref h0, .int p0, .int p1] (qPre D [(h0, .inr (16, fs)), (o4, .inr (9, f4))] [] sz)) (va_Qi (fun (r : Int32) (_ : Unit) => 1 = 0 ∧ r = 0) (fun _ _ => True) (va_A [(h0, .inr (16, fs)), (o4, .inr (9, f4))] sz)) (qX (qx ["java/lang/IndexOutOfBoundsException"] (1)) (va_A [(h0, .inr (16, fs)), (o4, .inr (9, f4))] sz)) 1 6 (va_A [(h0, .inr (16, fs)), (o4, .inr (9, f4))] sz) := by
  refine q_startX (by decide) (Nat.le_of_ble_eq_true rfl) ?_
  intro p e s m below meth c hB hno hpre ls hl
  have hW := qH_start hpre
  have hx := hB.1
  have hb := hB.2.1
  have hq := hB.2.2.2.2.2.1
  have hl : lv_has ls 4 [(0, .ref h0), (1, .int p0), (2, .int p1)] := hl
  refine lv_aload_n hx hb d_H_recall_0 rfl (lv_at hl 0 rfl) ?_
  refine q_get hB hW qc_16 0 rfl 4 (by decide) k406 h4 d_H_recall_1 ?_
  refine lv_iload_n hx hb d_H_recall_4 rfl (lv_at hl 1 rfl) ?_
  refine q_readVN (As := [.int p0]) (rest := []) hB hW (ct_Mi_palaceAt l D _ o4 f4 g2 p0) (ci := 9) (q0 := 1) rfl rfl j912 k497 k8 k136 k498 1 ⟨rfl, rfl⟩ (by decide +kernel) rfl ⟨Nat.le_of_ble_eq_true rfl, Nat.le_of_ble_eq_true rfl⟩ [1] [] rfl rfl rfl rfl hl.1 (Nat.le_of_ble_eq_true rfl) ⟨Nat.le_of_ble_eq_true rfl, Nat.le_of_ble_eq_true rfl⟩ (st := [.int p0, .ref o4]) (by rfl) d_H_recall_5 ?_
  refine lv_astore_nN (lv' := [(3, .null), (0, .ref h0), (1, .int p0), (2, .int p1)]) hx hb d_H_recall_8 rfl hl (by decide) rfl (fun ls hl => ?_)
  refine lv_aload_nN hx hb d_H_recall_9 rfl (lv_at hl 0 rfl) ?_
  refine lv_ifnullN (tgt := 25) hx hb d_H_recall_10 (by decide) ?_
  exact q_throw hB hW hfl hno (cls := "java/lang/IndexOutOfBoundsException") (text := "no such palace or locus") (by decide +kernel) k701 k155 j954 hat_119 hgd_119 hl.1 d_H_recall_25 d_H_recall_28 d_H_recall_29 d_H_recall_31 d_H_recall_34 (Nat.le_of_ble_eq_true rfl) (Nat.le_of_ble_eq_true rfl) (Nat.le_of_ble_eq_true rfl) (Nat.le_of_ble_eq_true rfl) (Nat.le_of_ble_eq_true rfl) (Nat.le_of_ble_eq_true rfl) ⟨0, rfl, rfl⟩
set_option maxHeartbeats 4000000 in
set_option maxRecDepth 100000 in
/-- recalled -/
theorem cx_recalled (l : Launch) (hfl : l.stackTraces = false) (D : va_G) (sz : Nat) (h0 : Nat) (fs : List Value) (p0 : Int32) (p1 : Int32) (p2 : Int32) (o4 : Nat) (f4 : List Value) (g2 : f4[2]? = some (.int 0)) (h4 : fs[4]? = some (.ref o4)) : vx_Met l ⟨"Locihall", "recalled", "(III)I"⟩ (.code ⟨"Locihall", "recalled", "(III)I"⟩ prog_1_method_20_code 6 (some .int) :: qw) ({ frames := 6, cells := 1, slots := 6, locals := 82 }) (va_Pc [.ref h0, .int p0, .int p1, .int p2] (qPre D [(h0, .inr (16, fs)), (o4, .inr (9, f4))] [] sz)) (va_Qi (fun (r : Int32) (_ : Unit) => 1 = 0 ∧ r = 0) (fun _ _ => True) (va_A [(h0, .inr (16, fs)), (o4, .inr (9, f4))] sz)) (qX (qx ["java/lang/IndexOutOfBoundsException", "java/lang/IllegalArgumentException", "java/util/NoSuchElementException"] (1)) (va_A [(h0, .inr (16, fs)), (o4, .inr (9, f4))] sz)) 1 6 (va_A [(h0, .inr (16, fs)), (o4, .inr (9, f4))] sz) := by
  refine q_startX (by decide) (Nat.le_of_ble_eq_true rfl) ?_
  intro p e s m below meth c hB hno hpre ls hl
  have hW := qH_start hpre
  have hx := hB.1
  have hb := hB.2.1
  have hq := hB.2.2.2.2.2.1
  have hl : lv_has ls 6 [(0, .ref h0), (1, .int p0), (2, .int p1), (3, .int p2)] := hl
  refine lv_aload_n hx hb d_H_recalled_0 rfl (lv_at hl 0 rfl) ?_
  refine q_get hB hW qc_16 0 rfl 4 (by decide) k406 h4 d_H_recalled_1 ?_
  refine lv_iload_n hx hb d_H_recalled_4 rfl (lv_at hl 1 rfl) ?_
  refine q_readVN (As := [.int p0]) (rest := []) hB hW (ct_Mi_palaceAt l D _ o4 f4 g2 p0) (ci := 9) (q0 := 1) rfl rfl j912 k497 k8 k136 k498 1 ⟨rfl, rfl⟩ (by decide +kernel) rfl ⟨Nat.le_of_ble_eq_true rfl, Nat.le_of_ble_eq_true rfl⟩ [1] [] rfl rfl rfl rfl hl.1 (Nat.le_of_ble_eq_true rfl) ⟨Nat.le_of_ble_eq_true rfl, Nat.le_of_ble_eq_true rfl⟩ (st := [.int p0, .ref o4]) (by rfl) d_H_recalled_5 ?_
  refine lv_astoreN (lv' := [(4, .null), (0, .ref h0), (1, .int p0), (2, .int p1), (3, .int p2)]) hx hb d_H_recalled_8 hl (by decide) rfl (fun ls hl => ?_)
  refine lv_aloadN hx hb d_H_recalled_10 (lv_at hl 0 rfl) ?_
  refine lv_ifnullN (tgt := 27) hx hb d_H_recalled_12 (by decide) ?_
  exact q_throw hB hW hfl hno (cls := "java/lang/IndexOutOfBoundsException") (text := "no such palace or locus") (by decide +kernel) k701 k155 j954 hat_119 hgd_119 hl.1 d_H_recalled_27 d_H_recalled_30 d_H_recalled_31 d_H_recalled_33 d_H_recalled_36 (Nat.le_of_ble_eq_true rfl) (Nat.le_of_ble_eq_true rfl) (Nat.le_of_ble_eq_true rfl) (Nat.le_of_ble_eq_true rfl) (Nat.le_of_ble_eq_true rfl) (Nat.le_of_ble_eq_true rfl) ⟨0, rfl, rfl⟩
set_option maxHeartbeats 4000000 in
set_option maxRecDepth 100000 in
/-- walk -/
theorem cx_walk (l : Launch) (hfl : l.stackTraces = false) (D : va_G) (sz : Nat) (h0 : Nat) (fs : List Value) (p0 : Int32) (o4 : Nat) (f4 : List Value) (g2 : f4[2]? = some (.int 0)) (h4 : fs[4]? = some (.ref o4)) : vx_Met l ⟨"Locihall", "walk", "(I)I"⟩ (.code ⟨"Locihall", "walk", "(I)I"⟩ prog_1_method_21_code 3 (some .int) :: qw) ({ frames := 6, cells := 1, slots := 6, locals := 82 }) (va_Pc [.ref h0, .int p0] (qPre D [(h0, .inr (16, fs)), (o4, .inr (9, f4))] [] sz)) (va_Qi (fun (r : Int32) (_ : Unit) => 1 = 0 ∧ r = 0) (fun _ _ => True) (va_A [(h0, .inr (16, fs)), (o4, .inr (9, f4))] sz)) (qX (qx ["java/lang/IndexOutOfBoundsException"] (1)) (va_A [(h0, .inr (16, fs)), (o4, .inr (9, f4))] sz)) 1 6 (va_A [(h0, .inr (16, fs)), (o4, .inr (9, f4))] sz) := by
  refine q_startX (by decide) (Nat.le_of_ble_eq_true rfl) ?_
  intro p e s m below meth c hB hno hpre ls hl
  have hW := qH_start hpre
  have hx := hB.1
  have hb := hB.2.1
  have hq := hB.2.2.2.2.2.1
  have hl : lv_has ls 3 [(0, .ref h0), (1, .int p0)] := hl
  refine lv_aload_n hx hb d_H_walk_0 rfl (lv_at hl 0 rfl) ?_
  refine q_get hB hW qc_16 0 rfl 4 (by decide) k406 h4 d_H_walk_1 ?_
  refine lv_iload_n hx hb d_H_walk_4 rfl (lv_at hl 1 rfl) ?_
  refine q_readVN (As := [.int p0]) (rest := []) hB hW (ct_Mi_palaceAt l D _ o4 f4 g2 p0) (ci := 9) (q0 := 1) rfl rfl j912 k497 k8 k136 k498 1 ⟨rfl, rfl⟩ (by decide +kernel) rfl ⟨Nat.le_of_ble_eq_true rfl, Nat.le_of_ble_eq_true rfl⟩ [1] [] rfl rfl rfl rfl hl.1 (Nat.le_of_ble_eq_true rfl) ⟨Nat.le_of_ble_eq_true rfl, Nat.le_of_ble_eq_true rfl⟩ (st := [.int p0, .ref o4]) (by rfl) d_H_walk_5 ?_
  refine lv_astore_nN (lv' := [(2, .null), (0, .ref h0), (1, .int p0)]) hx hb d_H_walk_8 rfl hl (by decide) rfl (fun ls hl => ?_)
  refine lv_aload_nN hx hb d_H_walk_9 rfl (lv_at hl 0 rfl) ?_
  refine lv_ifnonnullN hx hb d_H_walk_10 ?_
  exact q_throw hB hW hfl hno (cls := "java/lang/IndexOutOfBoundsException") (text := "no such palace") (by decide +kernel) k701 k155 j913 hat_119 hgd_119 hl.1 d_H_walk_13 d_H_walk_16 d_H_walk_17 d_H_walk_19 d_H_walk_22 (Nat.le_of_ble_eq_true rfl) (Nat.le_of_ble_eq_true rfl) (Nat.le_of_ble_eq_true rfl) (Nat.le_of_ble_eq_true rfl) (Nat.le_of_ble_eq_true rfl) (Nat.le_of_ble_eq_true rfl) ⟨0, rfl, rfl⟩
set_option maxHeartbeats 4000000 in
set_option maxRecDepth 100000 in
/-- groups -/
theorem cx_groups (l : Launch) (hfl : l.stackTraces = false) (D : va_G) (sz : Nat) (h0 : Nat) (fs : List Value) (p0 : Int32) (p1 : Int32) (o4 : Nat) (f4 : List Value) (g2 : f4[2]? = some (.int 0)) (h4 : fs[4]? = some (.ref o4)) : vx_Met l ⟨"Locihall", "groups", "(II)I"⟩ (.code ⟨"Locihall", "groups", "(II)I"⟩ prog_1_method_22_code 4 (some .int) :: qw) ({ frames := 6, cells := 1, slots := 6, locals := 82 }) (va_Pc [.ref h0, .int p0, .int p1] (qPre D [(h0, .inr (16, fs)), (o4, .inr (9, f4))] [] sz)) (va_Qi (fun (r : Int32) (_ : Unit) => 1 = 0 ∧ r = 0) (fun _ _ => True) (va_A [(h0, .inr (16, fs)), (o4, .inr (9, f4))] sz)) (qX (qx ["java/lang/IndexOutOfBoundsException", "java/lang/IllegalArgumentException"] (1)) (va_A [(h0, .inr (16, fs)), (o4, .inr (9, f4))] sz)) 1 6 (va_A [(h0, .inr (16, fs)), (o4, .inr (9, f4))] sz) := by
  refine q_startX (by decide) (Nat.le_of_ble_eq_true rfl) ?_
  intro p e s m below meth c hB hno hpre ls hl
  have hW := qH_start hpre
  have hx := hB.1
  have hb := hB.2.1
  have hq := hB.2.2.2.2.2.1
  have hl : lv_has ls 4 [(0, .ref h0), (1, .int p0), (2, .int p1)] := hl
  refine lv_aload_n hx hb d_H_groups_0 rfl (lv_at hl 0 rfl) ?_
  refine q_get hB hW qc_16 0 rfl 4 (by decide) k406 h4 d_H_groups_1 ?_
  refine lv_iload_n hx hb d_H_groups_4 rfl (lv_at hl 1 rfl) ?_
  refine q_readVN (As := [.int p0]) (rest := []) hB hW (ct_Mi_palaceAt l D _ o4 f4 g2 p0) (ci := 9) (q0 := 1) rfl rfl j912 k497 k8 k136 k498 1 ⟨rfl, rfl⟩ (by decide +kernel) rfl ⟨Nat.le_of_ble_eq_true rfl, Nat.le_of_ble_eq_true rfl⟩ [1] [] rfl rfl rfl rfl hl.1 (Nat.le_of_ble_eq_true rfl) ⟨Nat.le_of_ble_eq_true rfl, Nat.le_of_ble_eq_true rfl⟩ (st := [.int p0, .ref o4]) (by rfl) d_H_groups_5 ?_
  refine lv_astore_nN (lv' := [(3, .null), (0, .ref h0), (1, .int p0), (2, .int p1)]) hx hb d_H_groups_8 rfl hl (by decide) rfl (fun ls hl => ?_)
  refine lv_aload_nN hx hb d_H_groups_9 rfl (lv_at hl 0 rfl) ?_
  refine lv_ifnonnullN hx hb d_H_groups_10 ?_
  exact q_throw hB hW hfl hno (cls := "java/lang/IndexOutOfBoundsException") (text := "no such palace") (by decide +kernel) k701 k155 j913 hat_119 hgd_119 hl.1 d_H_groups_13 d_H_groups_16 d_H_groups_17 d_H_groups_19 d_H_groups_22 (Nat.le_of_ble_eq_true rfl) (Nat.le_of_ble_eq_true rfl) (Nat.le_of_ble_eq_true rfl) (Nat.le_of_ble_eq_true rfl) (Nat.le_of_ble_eq_true rfl) (Nat.le_of_ble_eq_true rfl) ⟨0, rfl, rfl⟩
set_option maxHeartbeats 4000000 in
set_option maxRecDepth 100000 in
/-- wipe -/
theorem cx_wipe (l : Launch) (hfl : l.stackTraces = false) (D : va_G) (sz : Nat) (h0 : Nat) (fs : List Value) (p0 : Int32) (p1 : Int32) (o4 : Nat) (f4 : List Value) (g2 : f4[2]? = some (.int 0)) (h4 : fs[4]? = some (.ref o4)) : vx_Met l ⟨"Locihall", "wipe", "(II)I"⟩ (.code ⟨"Locihall", "wipe", "(II)I"⟩ prog_1_method_23_code 4 (some .int) :: qw) ({ frames := 6, cells := 1, slots := 6, locals := 82 }) (va_Pc [.ref h0, .int p0, .int p1] (qPre D [(h0, .inr (16, fs)), (o4, .inr (9, f4))] [] sz)) (va_Qi (fun (r : Int32) (_ : Unit) => 1 = 0 ∧ r = 0) (fun _ _ => True) (va_A [(h0, .inr (16, fs)), (o4, .inr (9, f4))] sz)) (qX (qx ["java/lang/IndexOutOfBoundsException"] (1)) (va_A [(h0, .inr (16, fs)), (o4, .inr (9, f4))] sz)) 1 6 (va_A [(h0, .inr (16, fs)), (o4, .inr (9, f4))] sz) := by
  refine q_startX (by decide) (Nat.le_of_ble_eq_true rfl) ?_
  intro p e s m below meth c hB hno hpre ls hl
  have hW := qH_start hpre
  have hx := hB.1
  have hb := hB.2.1
  have hq := hB.2.2.2.2.2.1
  have hl : lv_has ls 4 [(0, .ref h0), (1, .int p0), (2, .int p1)] := hl
  refine lv_aload_n hx hb d_H_wipe_0 rfl (lv_at hl 0 rfl) ?_
  refine q_get hB hW qc_16 0 rfl 4 (by decide) k406 h4 d_H_wipe_1 ?_
  refine lv_iload_n hx hb d_H_wipe_4 rfl (lv_at hl 1 rfl) ?_
  refine lv_iload_n hx hb d_H_wipe_5 rfl (lv_at hl 2 rfl) ?_
  refine q_readVN (As := [.int p0, .int p1]) (rest := []) hB hW (ct_Mi_locusAt l D _ o4 f4 g2 p0 p1) (ci := 9) (q0 := 1) rfl rfl j950 k952 k32 k136 k953 2 ⟨rfl, rfl⟩ (by decide +kernel) rfl ⟨Nat.le_of_ble_eq_true rfl, Nat.le_of_ble_eq_true rfl⟩ [1] [] rfl rfl rfl rfl hl.1 (Nat.le_of_ble_eq_true rfl) ⟨Nat.le_of_ble_eq_true rfl, Nat.le_of_ble_eq_true rfl⟩ (st := [.int p1, .int p0, .ref o4]) (by rfl) d_H_wipe_6 ?_
  refine lv_astore_nN (lv' := [(3, .null), (0, .ref h0), (1, .int p0), (2, .int p1)]) hx hb d_H_wipe_9 rfl hl (by decide) rfl (fun ls hl => ?_)
  refine lv_aload_nN hx hb d_H_wipe_10 rfl (lv_at hl 0 rfl) ?_
  refine lv_ifnonnullN hx hb d_H_wipe_11 ?_
  exact q_throw hB hW hfl hno (cls := "java/lang/IndexOutOfBoundsException") (text := "no such palace or locus") (by decide +kernel) k701 k155 j954 hat_119 hgd_119 hl.1 d_H_wipe_14 d_H_wipe_17 d_H_wipe_18 d_H_wipe_20 d_H_wipe_23 (Nat.le_of_ble_eq_true rfl) (Nat.le_of_ble_eq_true rfl) (Nat.le_of_ble_eq_true rfl) (Nat.le_of_ble_eq_true rfl) (Nat.le_of_ble_eq_true rfl) (Nat.le_of_ble_eq_true rfl) ⟨0, rfl, rfl⟩
set_option maxHeartbeats 4000000 in
set_option maxRecDepth 100000 in
/-- contest -/
theorem cx_contest (l : Launch) (hfl : l.stackTraces = false) (D : va_G) (sz : Nat) (h0 : Nat) (fs : List Value) (p0 : Int32) (p1 : Int32) (p2 : Int32) (p3 : Int32) (p4 : Int32) (o4 : Nat) (f4 : List Value) (g2 : f4[2]? = some (.int 0)) (h4 : fs[4]? = some (.ref o4)) (h3 : fs[3]? = some (.int 0)) : vx_Met l ⟨"Locihall", "contest", "(IIIII)I"⟩ (.code ⟨"Locihall", "contest", "(IIIII)I"⟩ prog_1_method_29_code 9 (some .int) :: qw) ({ frames := 6, cells := 1, slots := 6, locals := 82 }) (va_Pc [.ref h0, .int p0, .int p1, .int p2, .int p3, .int p4] (qPre D [(h0, .inr (16, fs)), (o4, .inr (9, f4))] [] sz)) (va_Qi (fun (r : Int32) (_ : Unit) => 1 = 0 ∧ r = 0) (fun _ _ => True) (va_A [(h0, .inr (16, fs)), (o4, .inr (9, f4))] sz)) (qX (qx ["java/lang/IndexOutOfBoundsException", "java/lang/IllegalArgumentException", "java/lang/UnsupportedOperationException", "java/util/NoSuchElementException"] (1)) (va_A [(h0, .inr (16, fs)), (o4, .inr (9, f4))] sz)) 1 6 (va_A [(h0, .inr (16, fs)), (o4, .inr (9, f4))] sz) := by
  refine q_startX (by decide) (Nat.le_of_ble_eq_true rfl) ?_
  intro p e s m below meth c hB hno hpre ls hl
  have hW := qH_start hpre
  have hx := hB.1
  have hb := hB.2.1
  have hq := hB.2.2.2.2.2.1
  have hl : lv_has ls 9 [(0, .ref h0), (1, .int p0), (2, .int p1), (3, .int p2), (4, .int p3), (5, .int p4)] := hl
  refine lv_aload_n hx hb d_H_contest_0 rfl (lv_at hl 0 rfl) ?_
  refine q_get hB hW qc_16 0 rfl 4 (by decide) k406 h4 d_H_contest_1 ?_
  refine lv_iload_n hx hb d_H_contest_4 rfl (lv_at hl 3 rfl) ?_
  refine q_readVN (As := [.int p2]) (rest := []) hB hW (ct_Mi_palaceAt l D _ o4 f4 g2 p2) (ci := 9) (q0 := 1) rfl rfl j912 k497 k8 k136 k498 1 ⟨rfl, rfl⟩ (by decide +kernel) rfl ⟨Nat.le_of_ble_eq_true rfl, Nat.le_of_ble_eq_true rfl⟩ [1] [] rfl rfl rfl rfl hl.1 (Nat.le_of_ble_eq_true rfl) ⟨Nat.le_of_ble_eq_true rfl, Nat.le_of_ble_eq_true rfl⟩ (st := [.int p2, .ref o4]) (by rfl) d_H_contest_5 ?_
  refine lv_astoreN (lv' := [(6, .null), (0, .ref h0), (1, .int p0), (2, .int p1), (3, .int p2), (4, .int p3), (5, .int p4)]) hx hb d_H_contest_8 hl (by decide) rfl (fun ls hl => ?_)
  refine lv_aload_n hx hb d_H_contest_10 rfl (lv_at hl 1 rfl) ?_
  refine lv_iload hx hb d_H_contest_11 (lv_at hl 5 rfl) ?_
  refine q_readV (As := [.int p3]) (rest := []) hB hW (ct_H_tableAt l D _ h0 fs h3 p3) (ci := 16) (q0 := 0) rfl rfl k458 k460 k1 k133 k461 1 ⟨rfl, rfl⟩ (by decide +kernel) rfl ⟨Nat.le_of_ble_eq_true rfl, Nat.le_of_ble_eq_true rfl⟩ [0] [] rfl rfl rfl rfl hl.1 (Nat.le_of_ble_eq_true rfl) ⟨Nat.le_of_ble_eq_true rfl, Nat.le_of_ble_eq_true rfl⟩ (st := [.int p3, .ref h0]) (by rfl) d_H_contest_13 ?_
  refine lv_astoreN (lv' := [(7, .null), (6, .null), (0, .ref h0), (1, .int p0), (2, .int p1), (3, .int p2), (4, .int p3), (5, .int p4)]) hx hb d_H_contest_16 hl (by decide) rfl (fun ls hl => ?_)
  refine lv_aloadN hx hb d_H_contest_18 (lv_at hl 1 rfl) ?_
  refine lv_ifnullN (tgt := 28) hx hb d_H_contest_20 (by decide) ?_
  exact q_throwW hB hW hfl hno (cls := "java/lang/IndexOutOfBoundsException") (text := "no such palace or system") (by decide +kernel) k701 k155 j1278 hat_119 hgd_119 hl.1 d_H_contest_28 d_H_contest_31 d_H_contest_32 d_H_contest_35 d_H_contest_38 (Nat.le_of_ble_eq_true rfl) (Nat.le_of_ble_eq_true rfl) (Nat.le_of_ble_eq_true rfl) (Nat.le_of_ble_eq_true rfl) (Nat.le_of_ble_eq_true rfl) (Nat.le_of_ble_eq_true rfl) ⟨0, rfl, rfl⟩
set_option maxHeartbeats 4000000 in
set_option maxRecDepth 100000 in
/-- speech -/
theorem cx_speech (l : Launch) (hfl : l.stackTraces = false) (D : va_G) (sz : Nat) (h0 : Nat) (fs : List Value) (p0 : Int32) (p1 : Int32) (o4 : Nat) (f4 : List Value) (g2 : f4[2]? = some (.int 0)) (h4 : fs[4]? = some (.ref o4)) : vx_Met l ⟨"Locihall", "speech", "(II)I"⟩ (.code ⟨"Locihall", "speech", "(II)I"⟩ prog_1_method_38_code 4 (some .int) :: qw) ({ frames := 6, cells := 1, slots := 6, locals := 82 }) (va_Pc [.ref h0, .int p0, .int p1] (qPre D [(h0, .inr (16, fs)), (o4, .inr (9, f4))] [] sz)) (va_Qi (fun (r : Int32) (_ : Unit) => 1 = 0 ∧ r = 0) (fun _ _ => True) (va_A [(h0, .inr (16, fs)), (o4, .inr (9, f4))] sz)) (qX (qx ["java/lang/IndexOutOfBoundsException", "java/lang/IllegalArgumentException", "java/lang/IllegalStateException"] (1)) (va_A [(h0, .inr (16, fs)), (o4, .inr (9, f4))] sz)) 1 6 (va_A [(h0, .inr (16, fs)), (o4, .inr (9, f4))] sz) := by
  refine q_startX (by decide) (Nat.le_of_ble_eq_true rfl) ?_
  intro p e s m below meth c hB hno hpre ls hl
  have hW := qH_start hpre
  have hx := hB.1
  have hb := hB.2.1
  have hq := hB.2.2.2.2.2.1
  have hl : lv_has ls 4 [(0, .ref h0), (1, .int p0), (2, .int p1)] := hl
  refine lv_aload_n hx hb d_H_speech_0 rfl (lv_at hl 0 rfl) ?_
  refine q_get hB hW qc_16 0 rfl 4 (by decide) k406 h4 d_H_speech_1 ?_
  refine lv_iload_n hx hb d_H_speech_4 rfl (lv_at hl 1 rfl) ?_
  refine q_readVN (As := [.int p0]) (rest := []) hB hW (ct_Mi_palaceAt l D _ o4 f4 g2 p0) (ci := 9) (q0 := 1) rfl rfl j912 k497 k8 k136 k498 1 ⟨rfl, rfl⟩ (by decide +kernel) rfl ⟨Nat.le_of_ble_eq_true rfl, Nat.le_of_ble_eq_true rfl⟩ [1] [] rfl rfl rfl rfl hl.1 (Nat.le_of_ble_eq_true rfl) ⟨Nat.le_of_ble_eq_true rfl, Nat.le_of_ble_eq_true rfl⟩ (st := [.int p0, .ref o4]) (by rfl) d_H_speech_5 ?_
  refine lv_astore_nN (lv' := [(3, .null), (0, .ref h0), (1, .int p0), (2, .int p1)]) hx hb d_H_speech_8 rfl hl (by decide) rfl (fun ls hl => ?_)
  refine lv_aload_nN hx hb d_H_speech_9 rfl (lv_at hl 0 rfl) ?_
  refine lv_ifnonnullN hx hb d_H_speech_10 ?_
  exact q_throw hB hW hfl hno (cls := "java/lang/IndexOutOfBoundsException") (text := "no such palace") (by decide +kernel) k701 k155 j913 hat_119 hgd_119 hl.1 d_H_speech_13 d_H_speech_16 d_H_speech_17 d_H_speech_19 d_H_speech_22 (Nat.le_of_ble_eq_true rfl) (Nat.le_of_ble_eq_true rfl) (Nat.le_of_ble_eq_true rfl) (Nat.le_of_ble_eq_true rfl) (Nat.le_of_ble_eq_true rfl) (Nat.le_of_ble_eq_true rfl) ⟨0, rfl, rfl⟩
end
section
set_option maxHeartbeats 4000000 in
set_option maxRecDepth 100000 in
/-- drawn -/
theorem cx_drawn (l : Launch) (hfl : l.stackTraces = false) (D : va_G) (sz : Nat) (h0 : Nat) (fs : List Value) (p0 : Int32) (o9 : Nat) (f9 : List Value) (g9_4 : f9[4]? = some (.int 0)) (h9 : fs[9]? = some (.ref o9)) : vx_Met l ⟨"Locihall", "drawn", "(I)I"⟩ (.code ⟨"Locihall", "drawn", "(I)I"⟩ prog_1_method_30_code 2 (some .int) :: qw) ({ frames := 6, cells := 1, slots := 6, locals := 82 }) (va_Pc [.ref h0, .int p0] (qPre D [(h0, .inr (16, fs)), (o9, .inr (5, f9))] [] sz)) (va_Qi (fun (r : Int32) (_ : Unit) => 1 = 0 ∧ r = 0) (fun _ _ => True) (va_A [(h0, .inr (16, fs)), (o9, .inr (5, f9))] sz)) (qX (qx ["java/util/NoSuchElementException"] (1)) (va_A [(h0, .inr (16, fs)), (o9, .inr (5, f9))] sz)) 1 6 (va_A [(h0, .inr (16, fs)), (o9, .inr (5, f9))] sz) := by
  refine q_startX (by decide) (Nat.le_of_ble_eq_true rfl) ?_
  intro p e s m below meth c hB hno hpre ls hl
  have hW := qH_start hpre
  have hx := hB.1
  have hb := hB.2.1
  have hq := hB.2.2.2.2.2.1
  have hl : lv_has ls 2 [(0, .ref h0), (1, .int p0)] := hl
  refine lv_iload_n hx hb d_H_drawn_0 rfl (lv_at hl 1 rfl) ?_
  refine lv_if_lt (tgt := 27) hx hb d_H_drawn_1 (by decide) (fun c_1 => ?_) (fun c_1 => ?_)
  · exact q_throwWX cx0 cx1 cx2 cx5 hB hW hfl hno (cls := "java/util/NoSuchElementException") (text := "no such key was drawn") (by decide +kernel) k744 k158 j1310 hat_142 hgd_142 hl.1 d_H_drawn_27 d_H_drawn_30 d_H_drawn_31 d_H_drawn_34 d_H_drawn_37 (Nat.le_of_ble_eq_true rfl) (Nat.le_of_ble_eq_true rfl) (Nat.le_of_ble_eq_true rfl) (Nat.le_of_ble_eq_true rfl) (Nat.le_of_ble_eq_true rfl) (Nat.le_of_ble_eq_true rfl) ⟨0, rfl, rfl⟩
  · refine lv_iload_n hx hb d_H_drawn_4 rfl (lv_at hl 1 rfl) ?_
    refine lv_aload_n hx hb d_H_drawn_5 rfl (lv_at hl 0 rfl) ?_
    refine q_get hB hW qc_16 0 rfl 9 (by decide) k411 h9 d_H_drawn_6 ?_
    refine q_getN hB hW qc_5 1 rfl 4 (by decide) j278 g9_4 d_H_drawn_9 ?_
    refine lv_icmp_ge (tgt := 27) hx hb d_H_drawn_12 (by decide) (fun c_2 => ?_) (fun c_2 => ?_)
    · have c_2 := Int32.not_lt.mpr c_2
      exact q_throwWX cx0 cx1 cx2 cx5 hB hW hfl hno (cls := "java/util/NoSuchElementException") (text := "no such key was drawn") (by decide +kernel) k744 k158 j1310 hat_142 hgd_142 hl.1 d_H_drawn_27 d_H_drawn_30 d_H_drawn_31 d_H_drawn_34 d_H_drawn_37 (Nat.le_of_ble_eq_true rfl) (Nat.le_of_ble_eq_true rfl) (Nat.le_of_ble_eq_true rfl) (Nat.le_of_ble_eq_true rfl) (Nat.le_of_ble_eq_true rfl) (Nat.le_of_ble_eq_true rfl) ⟨0, rfl, rfl⟩
    · have c_2 := Int32.not_le.mp c_2
      exact absurd c_2 c_1
set_option maxHeartbeats 4000000 in
set_option maxRecDepth 100000 in
/-- answer -/
theorem cx_answer (l : Launch) (hfl : l.stackTraces = false) (D : va_G) (sz : Nat) (h0 : Nat) (fs : List Value) (p0 : Int32) (p1 : Int32) (o9 : Nat) (f9 : List Value) (g9_0 : f9[0]? = some (.int 0)) (h9 : fs[9]? = some (.ref o9)) : vx_Met l ⟨"Locihall", "answer", "(II)I"⟩ (.code ⟨"Locihall", "answer", "(II)I"⟩ prog_1_method_31_code 3 (some .int) :: qw) ({ frames := 6, cells := 1, slots := 6, locals := 82 }) (va_Pc [.ref h0, .int p0, .int p1] (qPre D [(h0, .inr (16, fs)), (o9, .inr (5, f9))] [] sz)) (va_Qi (fun (r : Int32) (_ : Unit) => 1 = 0 ∧ r = 0) (fun _ _ => True) (va_A [(h0, .inr (16, fs)), (o9, .inr (5, f9))] sz)) (qX (qx ["java/util/NoSuchElementException", "java/lang/IllegalArgumentException", "java/lang/IllegalStateException"] (1)) (va_A [(h0, .inr (16, fs)), (o9, .inr (5, f9))] sz)) 1 6 (va_A [(h0, .inr (16, fs)), (o9, .inr (5, f9))] sz) := by
  refine q_startX (by decide) (Nat.le_of_ble_eq_true rfl) ?_
  intro p e s m below meth c hB hno hpre ls hl
  have hW := qH_start hpre
  have hx := hB.1
  have hb := hB.2.1
  have hq := hB.2.2.2.2.2.1
  have hl : lv_has ls 3 [(0, .ref h0), (1, .int p0), (2, .int p1)] := hl
  refine lv_aload_n hx hb d_H_answer_0 rfl (lv_at hl 0 rfl) ?_
  refine q_get hB hW qc_16 0 rfl 9 (by decide) k411 h9 d_H_answer_1 ?_
  refine q_getN hB hW qc_5 1 rfl 0 (by decide) j271 g9_0 d_H_answer_4 ?_
  refine lv_if_ne (tgt := 21) hx hb d_H_answer_7 (by decide) (fun c_1 => ?_) (fun c_1 => ?_)
  · exact absurd c_1 (by decide)
  · exact q_throwWX cx0 cx1 cx2 cx5 hB hW hfl hno (cls := "java/util/NoSuchElementException") (text := "no contest is open") (by decide +kernel) k744 k158 j1318 hat_142 hgd_142 hl.1 d_H_answer_10 d_H_answer_13 d_H_answer_14 d_H_answer_17 d_H_answer_20 (Nat.le_of_ble_eq_true rfl) (Nat.le_of_ble_eq_true rfl) (Nat.le_of_ble_eq_true rfl) (Nat.le_of_ble_eq_true rfl) (Nat.le_of_ble_eq_true rfl) (Nat.le_of_ble_eq_true rfl) ⟨0, rfl, rfl⟩
set_option maxHeartbeats 4000000 in
set_option maxRecDepth 100000 in
/-- answerAll -/
theorem cx_answerAll (l : Launch) (hfl : l.stackTraces = false) (D : va_G) (sz : Nat) (h0 : Nat) (fs : List Value) (p0 : Int32) (o9 : Nat) (f9 : List Value) (g9_0 : f9[0]? = some (.int 0)) (h9 : fs[9]? = some (.ref o9)) : vx_Met l ⟨"Locihall", "answerAll", "(I)I"⟩ (.code ⟨"Locihall", "answerAll", "(I)I"⟩ prog_1_method_32_code 6 (some .int) :: qw) ({ frames := 6, cells := 1, slots := 6, locals := 82 }) (va_Pc [.ref h0, .int p0] (qPre D [(h0, .inr (16, fs)), (o9, .inr (5, f9))] [] sz)) (va_Qi (fun (r : Int32) (_ : Unit) => 1 = 0 ∧ r = 0) (fun _ _ => True) (va_A [(h0, .inr (16, fs)), (o9, .inr (5, f9))] sz)) (qX (qx ["java/util/NoSuchElementException", "java/lang/IllegalArgumentException"] (1)) (va_A [(h0, .inr (16, fs)), (o9, .inr (5, f9))] sz)) 1 6 (va_A [(h0, .inr (16, fs)), (o9, .inr (5, f9))] sz) := by
  refine q_startX (by decide) (Nat.le_of_ble_eq_true rfl) ?_
  intro p e s m below meth c hB hno hpre ls hl
  have hW := qH_start hpre
  have hx := hB.1
  have hb := hB.2.1
  have hq := hB.2.2.2.2.2.1
  have hl : lv_has ls 6 [(0, .ref h0), (1, .int p0)] := hl
  refine lv_aload_n hx hb d_H_answerAll_0 rfl (lv_at hl 0 rfl) ?_
  refine q_get hB hW qc_16 0 rfl 9 (by decide) k411 h9 d_H_answerAll_1 ?_
  refine q_getN hB hW qc_5 1 rfl 0 (by decide) j271 g9_0 d_H_answerAll_4 ?_
  refine lv_if_ne (tgt := 21) hx hb d_H_answerAll_7 (by decide) (fun c_1 => ?_) (fun c_1 => ?_)
  · exact absurd c_1 (by decide)
  · exact q_throwWX cx0 cx1 cx2 cx5 hB hW hfl hno (cls := "java/util/NoSuchElementException") (text := "no contest is open") (by decide +kernel) k744 k158 j1318 hat_142 hgd_142 hl.1 d_H_answerAll_10 d_H_answerAll_13 d_H_answerAll_14 d_H_answerAll_17 d_H_answerAll_20 (Nat.le_of_ble_eq_true rfl) (Nat.le_of_ble_eq_true rfl) (Nat.le_of_ble_eq_true rfl) (Nat.le_of_ble_eq_true rfl) (Nat.le_of_ble_eq_true rfl) (Nat.le_of_ble_eq_true rfl) ⟨0, rfl, rfl⟩
set_option maxHeartbeats 4000000 in
set_option maxRecDepth 100000 in
/-- appeal -/
theorem cx_appeal (l : Launch) (hfl : l.stackTraces = false) (D : va_G) (sz : Nat) (h0 : Nat) (fs : List Value) (p0 : Int32) (o9 : Nat) (f9 : List Value) (g9_0 : f9[0]? = some (.int 0)) (h9 : fs[9]? = some (.ref o9)) : vx_Met l ⟨"Locihall", "appeal", "(I)Z"⟩ (.code ⟨"Locihall", "appeal", "(I)Z"⟩ prog_1_method_33_code 2 (some .boolean) :: qw) ({ frames := 6, cells := 1, slots := 6, locals := 82 }) (va_Pc [.ref h0, .int p0] (qPre D [(h0, .inr (16, fs)), (o9, .inr (5, f9))] [] sz)) (va_Qi (fun (r : Int32) (_ : Unit) => 1 = 0 ∧ r = 0) (fun _ _ => True) (va_A [(h0, .inr (16, fs)), (o9, .inr (5, f9))] sz)) (qX (qx ["java/util/NoSuchElementException", "java/lang/UnsupportedOperationException"] (1)) (va_A [(h0, .inr (16, fs)), (o9, .inr (5, f9))] sz)) 1 6 (va_A [(h0, .inr (16, fs)), (o9, .inr (5, f9))] sz) := by
  refine q_startX (by decide) (Nat.le_of_ble_eq_true rfl) ?_
  intro p e s m below meth c hB hno hpre ls hl
  have hW := qH_start hpre
  have hx := hB.1
  have hb := hB.2.1
  have hq := hB.2.2.2.2.2.1
  have hl : lv_has ls 2 [(0, .ref h0), (1, .int p0)] := hl
  refine lv_aload_n hx hb d_H_appeal_0 rfl (lv_at hl 0 rfl) ?_
  refine q_get hB hW qc_16 0 rfl 9 (by decide) k411 h9 d_H_appeal_1 ?_
  refine q_getN hB hW qc_5 1 rfl 0 (by decide) j271 g9_0 d_H_appeal_4 ?_
  refine lv_if_eq (tgt := 25) hx hb d_H_appeal_7 (by decide) (fun c_1 => ?_) (fun c_1 => ?_)
  · exact q_throwWX cx0 cx1 cx2 cx5 hB hW hfl hno (cls := "java/util/NoSuchElementException") (text := "no contest is open, or no such answer") (by decide +kernel) k744 k158 j1345 hat_142 hgd_142 hl.1 d_H_appeal_25 d_H_appeal_28 d_H_appeal_29 d_H_appeal_32 d_H_appeal_35 (Nat.le_of_ble_eq_true rfl) (Nat.le_of_ble_eq_true rfl) (Nat.le_of_ble_eq_true rfl) (Nat.le_of_ble_eq_true rfl) (Nat.le_of_ble_eq_true rfl) (Nat.le_of_ble_eq_true rfl) ⟨0, rfl, rfl⟩
  · exact absurd c_1 (by decide)
set_option maxHeartbeats 4000000 in
set_option maxRecDepth 100000 in
/-- close -/
theorem cx_close (l : Launch) (hfl : l.stackTraces = false) (D : va_G) (sz : Nat) (h0 : Nat) (fs : List Value) (o9 : Nat) (f9 : List Value) (g9_0 : f9[0]? = some (.int 0)) (h9 : fs[9]? = some (.ref o9)) : vx_Met l ⟨"Locihall", "close", "()I"⟩ (.code ⟨"Locihall", "close", "()I"⟩ prog_1_method_34_code 4 (some .int) :: qw) ({ frames := 6, cells := 1, slots := 6, locals := 82 }) (va_Pc [.ref h0] (qPre D [(h0, .inr (16, fs)), (o9, .inr (5, f9))] [] sz)) (va_Qi (fun (r : Int32) (_ : Unit) => 1 = 0 ∧ r = 0) (fun _ _ => True) (va_A [(h0, .inr (16, fs)), (o9, .inr (5, f9))] sz)) (qX (qx ["java/util/NoSuchElementException", "java/lang/IllegalStateException"] (1)) (va_A [(h0, .inr (16, fs)), (o9, .inr (5, f9))] sz)) 1 6 (va_A [(h0, .inr (16, fs)), (o9, .inr (5, f9))] sz) := by
  refine q_startX (by decide) (Nat.le_of_ble_eq_true rfl) ?_
  intro p e s m below meth c hB hno hpre ls hl
  have hW := qH_start hpre
  have hx := hB.1
  have hb := hB.2.1
  have hq := hB.2.2.2.2.2.1
  have hl : lv_has ls 4 [(0, .ref h0)] := hl
  refine lv_aload_n hx hb d_H_close_0 rfl (lv_at hl 0 rfl) ?_
  refine q_get hB hW qc_16 0 rfl 9 (by decide) k411 h9 d_H_close_1 ?_
  refine q_getN hB hW qc_5 1 rfl 0 (by decide) j271 g9_0 d_H_close_4 ?_
  refine lv_if_ne (tgt := 21) hx hb d_H_close_7 (by decide) (fun c_1 => ?_) (fun c_1 => ?_)
  · exact absurd c_1 (by decide)
  · exact q_throwWX cx0 cx1 cx2 cx5 hB hW hfl hno (cls := "java/util/NoSuchElementException") (text := "no contest is open") (by decide +kernel) k744 k158 j1318 hat_142 hgd_142 hl.1 d_H_close_10 d_H_close_13 d_H_close_14 d_H_close_17 d_H_close_20 (Nat.le_of_ble_eq_true rfl) (Nat.le_of_ble_eq_true rfl) (Nat.le_of_ble_eq_true rfl) (Nat.le_of_ble_eq_true rfl) (Nat.le_of_ble_eq_true rfl) (Nat.le_of_ble_eq_true rfl) ⟨0, rfl, rfl⟩
set_option maxHeartbeats 4000000 in
set_option maxRecDepth 100000 in
/-- points -/
theorem cx_points (l : Launch) (hfl : l.stackTraces = false) (D : va_G) (sz : Nat) (h0 : Nat) (fs : List Value) (o9 : Nat) (f9 : List Value) (g9_12 : f9[12]? = some (.int 0)) (h9 : fs[9]? = some (.ref o9)) : vx_Met l ⟨"Locihall", "points", "()I"⟩ (.code ⟨"Locihall", "points", "()I"⟩ prog_1_method_35_code 2 (some .int) :: qw) ({ frames := 6, cells := 1, slots := 6, locals := 82 }) (va_Pc [.ref h0] (qPre D [(h0, .inr (16, fs)), (o9, .inr (5, f9))] [] sz)) (va_Qi (fun (r : Int32) (_ : Unit) => 1 = 0 ∧ r = 0) (fun _ _ => True) (va_A [(h0, .inr (16, fs)), (o9, .inr (5, f9))] sz)) (qX (qx ["java/util/NoSuchElementException"] (1)) (va_A [(h0, .inr (16, fs)), (o9, .inr (5, f9))] sz)) 1 6 (va_A [(h0, .inr (16, fs)), (o9, .inr (5, f9))] sz) := by
  refine q_startX (by decide) (Nat.le_of_ble_eq_true rfl) ?_
  intro p e s m below meth c hB hno hpre ls hl
  have hW := qH_start hpre
  have hx := hB.1
  have hb := hB.2.1
  have hq := hB.2.2.2.2.2.1
  have hl : lv_has ls 2 [(0, .ref h0)] := hl
  refine lv_aload_n hx hb d_H_points_0 rfl (lv_at hl 0 rfl) ?_
  refine q_get hB hW qc_16 0 rfl 9 (by decide) k411 h9 d_H_points_1 ?_
  refine q_getN hB hW qc_5 1 rfl 12 (by decide) j290 g9_12 d_H_points_4 ?_
  refine lv_if_ne (tgt := 21) hx hb d_H_points_7 (by decide) (fun c_1 => ?_) (fun c_1 => ?_)
  · exact absurd c_1 (by decide)
  · exact q_throwWX cx0 cx1 cx2 cx5 hB hW hfl hno (cls := "java/util/NoSuchElementException") (text := "no contest was closed") (by decide +kernel) k744 k158 j1408 hat_142 hgd_142 hl.1 d_H_points_10 d_H_points_13 d_H_points_14 d_H_points_17 d_H_points_20 (Nat.le_of_ble_eq_true rfl) (Nat.le_of_ble_eq_true rfl) (Nat.le_of_ble_eq_true rfl) (Nat.le_of_ble_eq_true rfl) (Nat.le_of_ble_eq_true rfl) (Nat.le_of_ble_eq_true rfl) ⟨0, rfl, rfl⟩
set_option maxHeartbeats 4000000 in
set_option maxRecDepth 100000 in
/-- bestUpTo, without a closed contest -/
theorem ct_Co_bestUpTo (l : Launch) (D : va_G) (sz : Nat) (h0 : Nat) (fs : List Value) (h12 : fs[12]? = some (.int 0)) (v : Int32) : Met l ⟨"Locihall$Contest", "bestUpTo", "(I)I"⟩ (.code ⟨"Locihall$Contest", "bestUpTo", "(I)I"⟩ prog_2_method_14_code 4 (some .int) :: qw) ({ frames := 0, cells := 0, slots := 0, locals := 0 }) (va_Pc [.ref h0, .int v] (qPre D [(h0, .inr (5, fs))] [] sz)) (k2_QcV (.int (-1))) 0 0 (fun _ => False) := by
  refine q_start (by decide) (Nat.le_of_ble_eq_true rfl) ?_
  intro p e s m below meth c hB hin hpre ls hl
  have hW := qH_start hpre
  have hx := hB.1
  have hb := hB.2.1
  have hq := hB.2.2.2.2.2.1
  have hl : lv_has ls 4 [(0, .ref h0), (1, .int v)] := hl
  refine lv_iconst (v := (-1)) hx hb d_HContest_bestUpTo_0 (by decide) ?_
  refine lv_istore_n (lv' := [(2, .int (-1)), (0, .ref h0), (1, .int v)]) hx hb d_HContest_bestUpTo_1 rfl hl (by decide) rfl (fun ls hl => ?_)
  refine lv_iconst (v := 0) hx hb d_HContest_bestUpTo_2 (by decide) ?_
  refine lv_istore_n (lv' := [(3, .int 0), (2, .int (-1)), (0, .ref h0), (1, .int v)]) hx hb d_HContest_bestUpTo_3 rfl hl (by decide) rfl (fun ls hl => ?_)
  refine lv_iload_n hx hb d_HContest_bestUpTo_4 rfl (lv_at hl 0 rfl) ?_
  refine lv_aload_n hx hb d_HContest_bestUpTo_5 rfl (lv_at hl 2 rfl) ?_
  refine q_get hB hW qc_5 0 rfl 12 (by decide) k289 h12 d_HContest_bestUpTo_6 ?_
  refine lv_icmp_ge (tgt := 48) hx hb d_HContest_bestUpTo_9 (by decide) (fun c_1 => ?_) (fun c_1 => ?_)
  · refine lv_iload_n hx hb d_HContest_bestUpTo_48 rfl (lv_at hl 1 rfl) ?_
    exact W.iret hx hb hB.2.2.1 (fun t ht _ => ⟨rfl, ht⟩) (fun _ h => by cases h) d_HContest_bestUpTo_49 hB.2.2.2.2.2.2.1
  · exact absurd c_1 (by decide)
def kf_record (p0 : Int32) : Int32 := if f_isIn p0 0 9999 = 0 then 1 else 2
set_option maxHeartbeats 4000000 in
set_option maxRecDepth 100000 in
/-- record -/
theorem cx_record (l : Launch) (hfl : l.stackTraces = false) (D : va_G) (sz : Nat) (h0 : Nat) (fs : List Value) (p0 : Int32) (o9 : Nat) (f9 : List Value) (g9_12 : f9[12]? = some (.int 0)) (h9 : fs[9]? = some (.ref o9)) : vx_Met l ⟨"Locihall", "record", "(I)I"⟩ (.code ⟨"Locihall", "record", "(I)I"⟩ prog_1_method_36_code 3 (some .int) :: qw) ({ frames := 6, cells := 1, slots := 6, locals := 82 }) (va_Pc [.ref h0, .int p0] (qPre D [(h0, .inr (16, fs)), (o9, .inr (5, f9))] [] sz)) (va_Qi (fun (r : Int32) (_ : Unit) => kf_record p0 = 0 ∧ r = 0) (fun _ _ => True) (va_A [(h0, .inr (16, fs)), (o9, .inr (5, f9))] sz)) (qX (qx ["java/lang/IllegalArgumentException", "java/util/NoSuchElementException"] (kf_record p0)) (va_A [(h0, .inr (16, fs)), (o9, .inr (5, f9))] sz)) 1 6 (va_A [(h0, .inr (16, fs)), (o9, .inr (5, f9))] sz) := by
  refine q_startX (by decide) (Nat.le_of_ble_eq_true rfl) ?_
  intro p e s m below meth c hB hno hpre ls hl
  have hW := qH_start hpre
  have hx := hB.1
  have hb := hB.2.1
  have hq := hB.2.2.2.2.2.1
  have hl : lv_has ls 3 [(0, .ref h0), (1, .int p0)] := hl
  refine lv_iload_n hx hb d_H_record_0 rfl (lv_at hl 1 rfl) ?_
  refine q_readS (As := [.int p0]) (rest := []) hB hW (ct_H_isYear l D _ p0) k1244 k1245 k133 k1246 1 ⟨rfl, rfl⟩ (by decide +kernel) rfl ⟨Nat.le_of_ble_eq_true rfl, Nat.le_of_ble_eq_true rfl⟩ [] [] rfl rfl rfl rfl hl.1 (Nat.le_of_ble_eq_true rfl) ⟨Nat.le_of_ble_eq_true rfl, Nat.le_of_ble_eq_true rfl⟩ (st := [.int p0]) (by rfl) d_H_record_1 ?_
  refine lv_if_ne (tgt := 18) hx hb d_H_record_4 (by decide) (fun c_1 => ?_) (fun c_1 => ?_)
  · refine lv_aload_n hx hb d_H_record_18 rfl (lv_at hl 0 rfl) ?_
    refine q_get hB hW qc_16 0 rfl 9 (by decide) k411 h9 d_H_record_19 ?_
    refine lv_iload_n hx hb d_H_record_22 rfl (lv_at hl 1 rfl) ?_
    refine q_readVN (As := [.int p0]) (rest := []) hB hW (ct_Co_bestUpTo l D _ o9 f9 g9_12 p0) (ci := 5) (q0 := 1) rfl rfl j1417 k1419 k83 k138 k1420 1 ⟨rfl, rfl⟩ (by decide +kernel) rfl ⟨Nat.le_of_ble_eq_true rfl, Nat.le_of_ble_eq_true rfl⟩ [1] [] rfl rfl rfl rfl hl.1 (Nat.le_of_ble_eq_true rfl) ⟨Nat.le_of_ble_eq_true rfl, Nat.le_of_ble_eq_true rfl⟩ (st := [.int p0, .ref o9]) (by rfl) d_H_record_23 ?_
    refine lv_istore_n (lv' := [(2, .int (-1)), (0, .ref h0), (1, .int p0)]) hx hb d_H_record_26 rfl hl (by decide) rfl (fun ls hl => ?_)
    refine lv_iload_n hx hb d_H_record_27 rfl (lv_at hl 0 rfl) ?_
    refine lv_iconst (v := (-1)) hx hb d_H_record_28 (by decide) ?_
    refine lv_icmp_ne (tgt := 43) hx hb d_H_record_29 (by decide) (fun c_2 => ?_) (fun c_2 => ?_)
    · exact absurd c_2 (by decide)
    · exact q_throwWX cx0 cx1 cx2 cx5 hB hW hfl hno (cls := "java/util/NoSuchElementException") (text := "there is no record") (by decide +kernel) k744 k158 j1421 hat_142 hgd_142 hl.1 d_H_record_32 d_H_record_35 d_H_record_36 d_H_record_39 d_H_record_42 (Nat.le_of_ble_eq_true rfl) (Nat.le_of_ble_eq_true rfl) (Nat.le_of_ble_eq_true rfl) (Nat.le_of_ble_eq_true rfl) (Nat.le_of_ble_eq_true rfl) (Nat.le_of_ble_eq_true rfl) ⟨1, rfl, (by first | (simp only [kf_record, c_1, if_true, if_false, ite_true, ite_false, reduceIte]; rfl) | simp only [kf_record, c_1, if_true, if_false, ite_true, ite_false, reduceIte])⟩
  · exact q_throwW hB hW hfl hno (cls := "java/lang/IllegalArgumentException") (text := "no such year") (by decide +kernel) k544 k148 j1416 hat_81 hgd_81 hl.1 d_H_record_7 d_H_record_10 d_H_record_11 d_H_record_14 d_H_record_17 (Nat.le_of_ble_eq_true rfl) (Nat.le_of_ble_eq_true rfl) (Nat.le_of_ble_eq_true rfl) (Nat.le_of_ble_eq_true rfl) (Nat.le_of_ble_eq_true rfl) (Nat.le_of_ble_eq_true rfl) ⟨0, rfl, (by first | (simp only [kf_record, c_1, if_true, if_false, ite_true, ite_false, reduceIte]; rfl) | simp only [kf_record, c_1, if_true, if_false, ite_true, ite_false, reduceIte])⟩
set_option maxHeartbeats 4000000 in
set_option maxRecDepth 100000 in
/-- isSuspect -/
theorem cx_isSuspect (l : Launch) (hfl : l.stackTraces = false) (D : va_G) (sz : Nat) (h0 : Nat) (fs : List Value) (o9 : Nat) (f9 : List Value) (g9_4 : f9[4]? = some (.int 0)) (h9 : fs[9]? = some (.ref o9)) : vx_Met l ⟨"Locihall", "isSuspect", "()Z"⟩ (.code ⟨"Locihall", "isSuspect", "()Z"⟩ prog_1_method_37_code 1 (some .boolean) :: qw) ({ frames := 6, cells := 1, slots := 6, locals := 82 }) (va_Pc [.ref h0] (qPre D [(h0, .inr (16, fs)), (o9, .inr (5, f9))] [] sz)) (va_Qi (fun (r : Int32) (_ : Unit) => 1 = 0 ∧ r = 0) (fun _ _ => True) (va_A [(h0, .inr (16, fs)), (o9, .inr (5, f9))] sz)) (qX (qx ["java/util/NoSuchElementException"] (1)) (va_A [(h0, .inr (16, fs)), (o9, .inr (5, f9))] sz)) 1 6 (va_A [(h0, .inr (16, fs)), (o9, .inr (5, f9))] sz) := by
  refine q_startX (by decide) (Nat.le_of_ble_eq_true rfl) ?_
  intro p e s m below meth c hB hno hpre ls hl
  have hW := qH_start hpre
  have hx := hB.1
  have hb := hB.2.1
  have hq := hB.2.2.2.2.2.1
  have hl : lv_has ls 1 [(0, .ref h0)] := hl
  refine lv_aload_n hx hb d_H_isSuspect_0 rfl (lv_at hl 0 rfl) ?_
  refine q_get hB hW qc_16 0 rfl 9 (by decide) k411 h9 d_H_isSuspect_1 ?_
  refine q_getN hB hW qc_5 1 rfl 4 (by decide) j278 g9_4 d_H_isSuspect_4 ?_
  refine lv_if_ne (tgt := 21) hx hb d_H_isSuspect_7 (by decide) (fun c_1 => ?_) (fun c_1 => ?_)
  · exact absurd c_1 (by decide)
  · exact q_throwWX cx0 cx1 cx2 cx5 hB hW hfl hno (cls := "java/util/NoSuchElementException") (text := "there was no contest") (by decide +kernel) k744 k158 j1429 hat_142 hgd_142 hl.1 d_H_isSuspect_10 d_H_isSuspect_13 d_H_isSuspect_14 d_H_isSuspect_17 d_H_isSuspect_20 (Nat.le_of_ble_eq_true rfl) (Nat.le_of_ble_eq_true rfl) (Nat.le_of_ble_eq_true rfl) (Nat.le_of_ble_eq_true rfl) (Nat.le_of_ble_eq_true rfl) (Nat.le_of_ble_eq_true rfl) ⟨0, rfl, rfl⟩
set_option maxHeartbeats 4000000 in
set_option maxRecDepth 100000 in
/-- speak -/
theorem cx_speak (l : Launch) (hfl : l.stackTraces = false) (D : va_G) (sz : Nat) (h0 : Nat) (fs : List Value) (p0 : Int32) (o10 : Nat) (f10 : List Value) (g10_2 : f10[2]? = some (.int 0)) (h10 : fs[10]? = some (.ref o10)) : vx_Met l ⟨"Locihall", "speak", "(I)I"⟩ (.code ⟨"Locihall", "speak", "(I)I"⟩ prog_1_method_39_code 2 (some .int) :: qw) ({ frames := 6, cells := 1, slots := 6, locals := 82 }) (va_Pc [.ref h0, .int p0] (qPre D [(h0, .inr (16, fs)), (o10, .inr (11, f10))] [] sz)) (va_Qi (fun (r : Int32) (_ : Unit) => 1 = 0 ∧ r = 0) (fun _ _ => True) (va_A [(h0, .inr (16, fs)), (o10, .inr (11, f10))] sz)) (qX (qx ["java/lang/IndexOutOfBoundsException", "java/lang/UnsupportedOperationException"] (1)) (va_A [(h0, .inr (16, fs)), (o10, .inr (11, f10))] sz)) 1 6 (va_A [(h0, .inr (16, fs)), (o10, .inr (11, f10))] sz) := by
  refine q_startX (by decide) (Nat.le_of_ble_eq_true rfl) ?_
  intro p e s m below meth c hB hno hpre ls hl
  have hW := qH_start hpre
  have hx := hB.1
  have hb := hB.2.1
  have hq := hB.2.2.2.2.2.1
  have hl : lv_has ls 2 [(0, .ref h0), (1, .int p0)] := hl
  refine lv_iload_n hx hb d_H_speak_0 rfl (lv_at hl 1 rfl) ?_
  refine lv_if_lt (tgt := 15) hx hb d_H_speak_1 (by decide) (fun c_1 => ?_) (fun c_1 => ?_)
  · exact q_throwW hB hW hfl hno (cls := "java/lang/IndexOutOfBoundsException") (text := "no such speech") (by decide +kernel) k701 k155 j1455 hat_119 hgd_119 hl.1 d_H_speak_15 d_H_speak_18 d_H_speak_19 d_H_speak_22 d_H_speak_25 (Nat.le_of_ble_eq_true rfl) (Nat.le_of_ble_eq_true rfl) (Nat.le_of_ble_eq_true rfl) (Nat.le_of_ble_eq_true rfl) (Nat.le_of_ble_eq_true rfl) (Nat.le_of_ble_eq_true rfl) ⟨0, rfl, rfl⟩
  · refine lv_iload_n hx hb d_H_speak_4 rfl (lv_at hl 1 rfl) ?_
    refine lv_aload_n hx hb d_H_speak_5 rfl (lv_at hl 0 rfl) ?_
    refine q_get hB hW qc_16 0 rfl 10 (by decide) k412 h10 d_H_speak_6 ?_
    refine q_getN hB hW qc_11 1 rfl 2 (by decide) j342 g10_2 d_H_speak_9 ?_
    refine lv_icmp_lt (tgt := 26) hx hb d_H_speak_12 (by decide) (fun c_2 => ?_) (fun c_2 => ?_)
    · exact absurd c_2 c_1
    · exact q_throwW hB hW hfl hno (cls := "java/lang/IndexOutOfBoundsException") (text := "no such speech") (by decide +kernel) k701 k155 j1455 hat_119 hgd_119 hl.1 d_H_speak_15 d_H_speak_18 d_H_speak_19 d_H_speak_22 d_H_speak_25 (Nat.le_of_ble_eq_true rfl) (Nat.le_of_ble_eq_true rfl) (Nat.le_of_ble_eq_true rfl) (Nat.le_of_ble_eq_true rfl) (Nat.le_of_ble_eq_true rfl) (Nat.le_of_ble_eq_true rfl) ⟨0, rfl, rfl⟩
set_option maxHeartbeats 4000000 in
set_option maxRecDepth 100000 in
/-- point -/
theorem cx_point (l : Launch) (hfl : l.stackTraces = false) (D : va_G) (sz : Nat) (h0 : Nat) (fs : List Value) (o10 : Nat) (f10 : List Value) (g10_4 : f10[4]? = some (.int 0)) (h10 : fs[10]? = some (.ref o10)) : vx_Met l ⟨"Locihall", "point", "()I"⟩ (.code ⟨"Locihall", "point", "()I"⟩ prog_1_method_40_code 1 (some .int) :: qw) ({ frames := 6, cells := 1, slots := 6, locals := 82 }) (va_Pc [.ref h0] (qPre D [(h0, .inr (16, fs)), (o10, .inr (11, f10))] [] sz)) (va_Qi (fun (r : Int32) (_ : Unit) => 1 = 0 ∧ r = 0) (fun _ _ => True) (va_A [(h0, .inr (16, fs)), (o10, .inr (11, f10))] sz)) (qX (qx ["java/util/NoSuchElementException"] (1)) (va_A [(h0, .inr (16, fs)), (o10, .inr (11, f10))] sz)) 1 6 (va_A [(h0, .inr (16, fs)), (o10, .inr (11, f10))] sz) := by
  refine q_startX (by decide) (Nat.le_of_ble_eq_true rfl) ?_
  intro p e s m below meth c hB hno hpre ls hl
  have hW := qH_start hpre
  have hx := hB.1
  have hb := hB.2.1
  have hq := hB.2.2.2.2.2.1
  have hl : lv_has ls 1 [(0, .ref h0)] := hl
  refine lv_aload_n hx hb d_H_point_0 rfl (lv_at hl 0 rfl) ?_
  refine q_get hB hW qc_16 0 rfl 10 (by decide) k412 h10 d_H_point_1 ?_
  refine q_getN hB hW qc_11 1 rfl 4 (by decide) j345 g10_4 d_H_point_4 ?_
  refine lv_if_eq (tgt := 20) hx hb d_H_point_7 (by decide) (fun c_1 => ?_) (fun c_1 => ?_)
  · exact q_throwWX cx0 cx1 cx2 cx5 hB hW hfl hno (cls := "java/util/NoSuchElementException") (text := "no speech goes on, or it was interrupted") (by decide +kernel) k744 k158 j1472 hat_142 hgd_142 hl.1 d_H_point_20 d_H_point_23 d_H_point_24 d_H_point_27 d_H_point_30 (Nat.le_of_ble_eq_true rfl) (Nat.le_of_ble_eq_true rfl) (Nat.le_of_ble_eq_true rfl) (Nat.le_of_ble_eq_true rfl) (Nat.le_of_ble_eq_true rfl) (Nat.le_of_ble_eq_true rfl) ⟨0, rfl, rfl⟩
  · exact absurd c_1 (by decide)
set_option maxHeartbeats 4000000 in
set_option maxRecDepth 100000 in
/-- interrupt -/
theorem cx_interrupt (l : Launch) (hfl : l.stackTraces = false) (D : va_G) (sz : Nat) (h0 : Nat) (fs : List Value) (o10 : Nat) (f10 : List Value) (g10_4 : f10[4]? = some (.int 0)) (h10 : fs[10]? = some (.ref o10)) : vx_Met l ⟨"Locihall", "interrupt", "()I"⟩ (.code ⟨"Locihall", "interrupt", "()I"⟩ prog_1_method_41_code 1 (some .int) :: qw) ({ frames := 6, cells := 1, slots := 6, locals := 82 }) (va_Pc [.ref h0] (qPre D [(h0, .inr (16, fs)), (o10, .inr (11, f10))] [] sz)) (va_Qi (fun (r : Int32) (_ : Unit) => 1 = 0 ∧ r = 0) (fun _ _ => True) (va_A [(h0, .inr (16, fs)), (o10, .inr (11, f10))] sz)) (qX (qx ["java/util/NoSuchElementException"] (1)) (va_A [(h0, .inr (16, fs)), (o10, .inr (11, f10))] sz)) 1 6 (va_A [(h0, .inr (16, fs)), (o10, .inr (11, f10))] sz) := by
  refine q_startX (by decide) (Nat.le_of_ble_eq_true rfl) ?_
  intro p e s m below meth c hB hno hpre ls hl
  have hW := qH_start hpre
  have hx := hB.1
  have hb := hB.2.1
  have hq := hB.2.2.2.2.2.1
  have hl : lv_has ls 1 [(0, .ref h0)] := hl
  refine lv_aload_n hx hb d_H_interrupt_0 rfl (lv_at hl 0 rfl) ?_
  refine q_get hB hW qc_16 0 rfl 10 (by decide) k412 h10 d_H_interrupt_1 ?_
  refine q_getN hB hW qc_11 1 rfl 4 (by decide) j345 g10_4 d_H_interrupt_4 ?_
  refine lv_if_eq (tgt := 20) hx hb d_H_interrupt_7 (by decide) (fun c_1 => ?_) (fun c_1 => ?_)
  · exact q_throwWX cx0 cx1 cx2 cx5 hB hW hfl hno (cls := "java/util/NoSuchElementException") (text := "no speech goes on, or it was interrupted") (by decide +kernel) k744 k158 j1472 hat_142 hgd_142 hl.1 d_H_interrupt_20 d_H_interrupt_23 d_H_interrupt_24 d_H_interrupt_27 d_H_interrupt_30 (Nat.le_of_ble_eq_true rfl) (Nat.le_of_ble_eq_true rfl) (Nat.le_of_ble_eq_true rfl) (Nat.le_of_ble_eq_true rfl) (Nat.le_of_ble_eq_true rfl) (Nat.le_of_ble_eq_true rfl) ⟨0, rfl, rfl⟩
  · exact absurd c_1 (by decide)
set_option maxHeartbeats 4000000 in
set_option maxRecDepth 100000 in
/-- resume -/
theorem cx_resume (l : Launch) (hfl : l.stackTraces = false) (D : va_G) (sz : Nat) (h0 : Nat) (fs : List Value) (o10 : Nat) (f10 : List Value) (g10_5 : f10[5]? = some (.int 0)) (h10 : fs[10]? = some (.ref o10)) : vx_Met l ⟨"Locihall", "resume", "()I"⟩ (.code ⟨"Locihall", "resume", "()I"⟩ prog_1_method_42_code 1 (some .int) :: qw) ({ frames := 6, cells := 1, slots := 6, locals := 82 }) (va_Pc [.ref h0] (qPre D [(h0, .inr (16, fs)), (o10, .inr (11, f10))] [] sz)) (va_Qi (fun (r : Int32) (_ : Unit) => 1 = 0 ∧ r = 0) (fun _ _ => True) (va_A [(h0, .inr (16, fs)), (o10, .inr (11, f10))] sz)) (qX (qx ["java/util/NoSuchElementException"] (1)) (va_A [(h0, .inr (16, fs)), (o10, .inr (11, f10))] sz)) 1 6 (va_A [(h0, .inr (16, fs)), (o10, .inr (11, f10))] sz) := by
  refine q_startX (by decide) (Nat.le_of_ble_eq_true rfl) ?_
  intro p e s m below meth c hB hno hpre ls hl
  have hW := qH_start hpre
  have hx := hB.1
  have hb := hB.2.1
  have hq := hB.2.2.2.2.2.1
  have hl : lv_has ls 1 [(0, .ref h0)] := hl
  refine lv_aload_n hx hb d_H_resume_0 rfl (lv_at hl 0 rfl) ?_
  refine q_get hB hW qc_16 0 rfl 10 (by decide) k412 h10 d_H_resume_1 ?_
  refine q_getN hB hW qc_11 1 rfl 5 (by decide) j347 g10_5 d_H_resume_4 ?_
  refine lv_if_ne (tgt := 21) hx hb d_H_resume_7 (by decide) (fun c_1 => ?_) (fun c_1 => ?_)
  · exact absurd c_1 (by decide)
  · exact q_throwWX cx0 cx1 cx2 cx5 hB hW hfl hno (cls := "java/util/NoSuchElementException") (text := "no speech was interrupted") (by decide +kernel) k744 k158 j1499 hat_142 hgd_142 hl.1 d_H_resume_10 d_H_resume_13 d_H_resume_14 d_H_resume_17 d_H_resume_20 (Nat.le_of_ble_eq_true rfl) (Nat.le_of_ble_eq_true rfl) (Nat.le_of_ble_eq_true rfl) (Nat.le_of_ble_eq_true rfl) (Nat.le_of_ble_eq_true rfl) (Nat.le_of_ble_eq_true rfl) ⟨0, rfl, rfl⟩
set_option maxHeartbeats 4000000 in
set_option maxRecDepth 100000 in
/-- review -/
theorem cx_review (l : Launch) (hfl : l.stackTraces = false) (D : va_G) (sz : Nat) (h0 : Nat) (fs : List Value) (p0 : Int32) (o11 : Nat) (f11 : List Value) (g11_4 : f11[4]? = some (.int 0)) (h11 : fs[11]? = some (.ref o11)) : vx_Met l ⟨"Locihall", "review", "(I)Z"⟩ (.code ⟨"Locihall", "review", "(I)Z"⟩ prog_1_method_44_code 2 (some .boolean) :: qw) ({ frames := 6, cells := 1, slots := 6, locals := 82 }) (va_Pc [.ref h0, .int p0] (qPre D [(h0, .inr (16, fs)), (o11, .inr (6, f11))] [] sz)) (va_Qi (fun (r : Int32) (_ : Unit) => 1 = 0 ∧ r = 0) (fun _ _ => True) (va_A [(h0, .inr (16, fs)), (o11, .inr (6, f11))] sz)) (qX (qx ["java/lang/IndexOutOfBoundsException"] (1)) (va_A [(h0, .inr (16, fs)), (o11, .inr (6, f11))] sz)) 1 6 (va_A [(h0, .inr (16, fs)), (o11, .inr (6, f11))] sz) := by
  refine q_startX (by decide) (Nat.le_of_ble_eq_true rfl) ?_
  intro p e s m below meth c hB hno hpre ls hl
  have hW := qH_start hpre
  have hx := hB.1
  have hb := hB.2.1
  have hq := hB.2.2.2.2.2.1
  have hl : lv_has ls 2 [(0, .ref h0), (1, .int p0)] := hl
  refine lv_aload_n hx hb d_H_review_0 rfl (lv_at hl 0 rfl) ?_
  refine q_get hB hW qc_16 0 rfl 11 (by decide) k413 h11 d_H_review_1 ?_
  refine lv_iload_n hx hb d_H_review_4 rfl (lv_at hl 1 rfl) ?_
  refine q_readVN (As := [.int p0]) (rest := []) hB hW (ct_Fa_has l D _ o11 f11 g11_4 p0) (ci := 6) (q0 := 1) rfl rfl j1525 k1527 k93 k140 k1528 1 ⟨rfl, rfl⟩ (by decide +kernel) rfl ⟨Nat.le_of_ble_eq_true rfl, Nat.le_of_ble_eq_true rfl⟩ [1] [] rfl rfl rfl rfl hl.1 (Nat.le_of_ble_eq_true rfl) ⟨Nat.le_of_ble_eq_true rfl, Nat.le_of_ble_eq_true rfl⟩ (st := [.int p0, .ref o11]) (by rfl) d_H_review_5 ?_
  refine lv_if_ne (tgt := 22) hx hb d_H_review_8 (by decide) (fun c_1 => ?_) (fun c_1 => ?_)
  · exact absurd c_1 (by decide)
  · exact q_throwW hB hW hfl hno (cls := "java/lang/IndexOutOfBoundsException") (text := "no such fact") (by decide +kernel) k701 k155 j1529 hat_119 hgd_119 hl.1 d_H_review_11 d_H_review_14 d_H_review_15 d_H_review_18 d_H_review_21 (Nat.le_of_ble_eq_true rfl) (Nat.le_of_ble_eq_true rfl) (Nat.le_of_ble_eq_true rfl) (Nat.le_of_ble_eq_true rfl) (Nat.le_of_ble_eq_true rfl) (Nat.le_of_ble_eq_true rfl) ⟨0, rfl, rfl⟩
set_option maxHeartbeats 4000000 in
set_option maxRecDepth 100000 in
/-- strength -/
theorem cx_strength (l : Launch) (hfl : l.stackTraces = false) (D : va_G) (sz : Nat) (h0 : Nat) (fs : List Value) (p0 : Int32) (o11 : Nat) (f11 : List Value) (g11_4 : f11[4]? = some (.int 0)) (h11 : fs[11]? = some (.ref o11)) : vx_Met l ⟨"Locihall", "strength", "(I)I"⟩ (.code ⟨"Locihall", "strength", "(I)I"⟩ prog_1_method_45_code 2 (some .int) :: qw) ({ frames := 6, cells := 1, slots := 6, locals := 82 }) (va_Pc [.ref h0, .int p0] (qPre D [(h0, .inr (16, fs)), (o11, .inr (6, f11))] [] sz)) (va_Qi (fun (r : Int32) (_ : Unit) => 1 = 0 ∧ r = 0) (fun _ _ => True) (va_A [(h0, .inr (16, fs)), (o11, .inr (6, f11))] sz)) (qX (qx ["java/lang/IndexOutOfBoundsException"] (1)) (va_A [(h0, .inr (16, fs)), (o11, .inr (6, f11))] sz)) 1 6 (va_A [(h0, .inr (16, fs)), (o11, .inr (6, f11))] sz) := by
  refine q_startX (by decide) (Nat.le_of_ble_eq_true rfl) ?_
  intro p e s m below meth c hB hno hpre ls hl
  have hW := qH_start hpre
  have hx := hB.1
  have hb := hB.2.1
  have hq := hB.2.2.2.2.2.1
  have hl : lv_has ls 2 [(0, .ref h0), (1, .int p0)] := hl
  refine lv_aload_n hx hb d_H_strength_0 rfl (lv_at hl 0 rfl) ?_
  refine q_get hB hW qc_16 0 rfl 11 (by decide) k413 h11 d_H_strength_1 ?_
  refine lv_iload_n hx hb d_H_strength_4 rfl (lv_at hl 1 rfl) ?_
  refine q_readVN (As := [.int p0]) (rest := []) hB hW (ct_Fa_has l D _ o11 f11 g11_4 p0) (ci := 6) (q0 := 1) rfl rfl j1525 k1527 k93 k140 k1528 1 ⟨rfl, rfl⟩ (by decide +kernel) rfl ⟨Nat.le_of_ble_eq_true rfl, Nat.le_of_ble_eq_true rfl⟩ [1] [] rfl rfl rfl rfl hl.1 (Nat.le_of_ble_eq_true rfl) ⟨Nat.le_of_ble_eq_true rfl, Nat.le_of_ble_eq_true rfl⟩ (st := [.int p0, .ref o11]) (by rfl) d_H_strength_5 ?_
  refine lv_if_ne (tgt := 22) hx hb d_H_strength_8 (by decide) (fun c_1 => ?_) (fun c_1 => ?_)
  · exact absurd c_1 (by decide)
  · exact q_throwW hB hW hfl hno (cls := "java/lang/IndexOutOfBoundsException") (text := "no such fact") (by decide +kernel) k701 k155 j1529 hat_119 hgd_119 hl.1 d_H_strength_11 d_H_strength_14 d_H_strength_15 d_H_strength_18 d_H_strength_21 (Nat.le_of_ble_eq_true rfl) (Nat.le_of_ble_eq_true rfl) (Nat.le_of_ble_eq_true rfl) (Nat.le_of_ble_eq_true rfl) (Nat.le_of_ble_eq_true rfl) (Nat.le_of_ble_eq_true rfl) ⟨0, rfl, rfl⟩
set_option maxHeartbeats 4000000 in
set_option maxRecDepth 100000 in
/-- isDue -/
theorem cx_isDue (l : Launch) (hfl : l.stackTraces = false) (D : va_G) (sz : Nat) (h0 : Nat) (fs : List Value) (p0 : Int32) (o11 : Nat) (f11 : List Value) (g11_4 : f11[4]? = some (.int 0)) (h11 : fs[11]? = some (.ref o11)) : vx_Met l ⟨"Locihall", "isDue", "(I)Z"⟩ (.code ⟨"Locihall", "isDue", "(I)Z"⟩ prog_1_method_46_code 2 (some .boolean) :: qw) ({ frames := 6, cells := 1, slots := 6, locals := 82 }) (va_Pc [.ref h0, .int p0] (qPre D [(h0, .inr (16, fs)), (o11, .inr (6, f11))] [] sz)) (va_Qi (fun (r : Int32) (_ : Unit) => 1 = 0 ∧ r = 0) (fun _ _ => True) (va_A [(h0, .inr (16, fs)), (o11, .inr (6, f11))] sz)) (qX (qx ["java/lang/IndexOutOfBoundsException"] (1)) (va_A [(h0, .inr (16, fs)), (o11, .inr (6, f11))] sz)) 1 6 (va_A [(h0, .inr (16, fs)), (o11, .inr (6, f11))] sz) := by
  refine q_startX (by decide) (Nat.le_of_ble_eq_true rfl) ?_
  intro p e s m below meth c hB hno hpre ls hl
  have hW := qH_start hpre
  have hx := hB.1
  have hb := hB.2.1
  have hq := hB.2.2.2.2.2.1
  have hl : lv_has ls 2 [(0, .ref h0), (1, .int p0)] := hl
  refine lv_aload_n hx hb d_H_isDue_0 rfl (lv_at hl 0 rfl) ?_
  refine q_get hB hW qc_16 0 rfl 11 (by decide) k413 h11 d_H_isDue_1 ?_
  refine lv_iload_n hx hb d_H_isDue_4 rfl (lv_at hl 1 rfl) ?_
  refine q_readVN (As := [.int p0]) (rest := []) hB hW (ct_Fa_has l D _ o11 f11 g11_4 p0) (ci := 6) (q0 := 1) rfl rfl j1525 k1527 k93 k140 k1528 1 ⟨rfl, rfl⟩ (by decide +kernel) rfl ⟨Nat.le_of_ble_eq_true rfl, Nat.le_of_ble_eq_true rfl⟩ [1] [] rfl rfl rfl rfl hl.1 (Nat.le_of_ble_eq_true rfl) ⟨Nat.le_of_ble_eq_true rfl, Nat.le_of_ble_eq_true rfl⟩ (st := [.int p0, .ref o11]) (by rfl) d_H_isDue_5 ?_
  refine lv_if_ne (tgt := 22) hx hb d_H_isDue_8 (by decide) (fun c_1 => ?_) (fun c_1 => ?_)
  · exact absurd c_1 (by decide)
  · exact q_throwW hB hW hfl hno (cls := "java/lang/IndexOutOfBoundsException") (text := "no such fact") (by decide +kernel) k701 k155 j1529 hat_119 hgd_119 hl.1 d_H_isDue_11 d_H_isDue_14 d_H_isDue_15 d_H_isDue_18 d_H_isDue_21 (Nat.le_of_ble_eq_true rfl) (Nat.le_of_ble_eq_true rfl) (Nat.le_of_ble_eq_true rfl) (Nat.le_of_ble_eq_true rfl) (Nat.le_of_ble_eq_true rfl) (Nat.le_of_ble_eq_true rfl) ⟨0, rfl, rfl⟩
def kf_bestSum (p0 : Int32) : Int32 := if f_isIn p0 1 5 = 0 then 1 else 3
def kf_bestAt (p0 p1 : Int32) : Int32 := if f_isIn p0 1 5 = 0 then 1 else if p1 < 0 then 1 else if p1 < p0 then 3 else 1
set_option maxHeartbeats 4000000 in
set_option maxRecDepth 100000 in
/-- bestSum -/
theorem cx_bestSum (l : Launch) (hfl : l.stackTraces = false) (D : va_G) (sz : Nat) (h0 : Nat) (fs : List Value) (p0 : Int32) (o11 : Nat) (f11 : List Value) (g11_4 : f11[4]? = some (.int 0)) (h11 : fs[11]? = some (.ref o11)) : vx_Met l ⟨"Locihall", "bestSum", "(I)I"⟩ (.code ⟨"Locihall", "bestSum", "(I)I"⟩ prog_1_method_48_code 2 (some .int) :: qw) ({ frames := 6, cells := 1, slots := 6, locals := 82 }) (va_Pc [.ref h0, .int p0] (qPre D [(h0, .inr (16, fs)), (o11, .inr (6, f11))] [] sz)) (va_Qi (fun (r : Int32) (_ : Unit) => kf_bestSum p0 = 0 ∧ r = 0) (fun _ _ => True) (va_A [(h0, .inr (16, fs)), (o11, .inr (6, f11))] sz)) (qX (qx ["java/lang/IllegalArgumentException", "java/lang/IllegalStateException", "java/util/NoSuchElementException"] (kf_bestSum p0)) (va_A [(h0, .inr (16, fs)), (o11, .inr (6, f11))] sz)) 1 6 (va_A [(h0, .inr (16, fs)), (o11, .inr (6, f11))] sz) := by
  refine q_startX (by decide) (Nat.le_of_ble_eq_true rfl) ?_
  intro p e s m below meth c hB hno hpre ls hl
  have hW := qH_start hpre
  have hx := hB.1
  have hb := hB.2.1
  have hq := hB.2.2.2.2.2.1
  have hl : lv_has ls 2 [(0, .ref h0), (1, .int p0)] := hl
  refine lv_iload_n hx hb d_H_bestSum_0 rfl (lv_at hl 1 rfl) ?_
  refine lv_iconst (v := 1) hx hb d_H_bestSum_1 (by decide) ?_
  refine lv_iconst (v := 5) hx hb d_H_bestSum_2 (by decide) ?_
  refine q_readS (As := [.int p0, .int 1, .int 5]) (rest := []) hB hW (ct_H_isIn l D _ p0 1 5) k474 k472 k133 k473 3 ⟨rfl, rfl⟩ (by decide +kernel) rfl ⟨Nat.le_of_ble_eq_true rfl, Nat.le_of_ble_eq_true rfl⟩ [] [] rfl rfl rfl rfl hl.1 (Nat.le_of_ble_eq_true rfl) ⟨Nat.le_of_ble_eq_true rfl, Nat.le_of_ble_eq_true rfl⟩ (st := [.int 5, .int 1, .int p0]) (by rfl) d_H_bestSum_3 ?_
  refine lv_if_ne (tgt := 20) hx hb d_H_bestSum_6 (by decide) (fun c_1 => ?_) (fun c_1 => ?_)
  · refine lv_aload_n hx hb d_H_bestSum_20 rfl (lv_at hl 0 rfl) ?_
    refine q_get hB hW qc_16 0 rfl 11 (by decide) k413 h11 d_H_bestSum_21 ?_
    refine q_getN hB hW qc_6 1 rfl 4 (by decide) j376 g11_4 d_H_bestSum_24 ?_
    refine lv_iconst (v := 4) hx hb d_H_bestSum_27 (by decide) ?_
    refine lv_icmp_le (tgt := 42) hx hb d_H_bestSum_28 (by decide) (fun c_2 => ?_) (fun c_2 => ?_)
    · refine lv_aload_n hx hb d_H_bestSum_42 rfl (lv_at hl 0 rfl) ?_
      refine q_get hB hW qc_16 0 rfl 11 (by decide) k413 h11 d_H_bestSum_43 ?_
      refine q_getN hB hW qc_6 1 rfl 4 (by decide) j376 g11_4 d_H_bestSum_46 ?_
      refine lv_if_ne (tgt := 63) hx hb d_H_bestSum_49 (by decide) (fun c_3 => ?_) (fun c_3 => ?_)
      · exact absurd c_3 (by decide)
      · exact q_throwWX cx0 cx1 cx2 cx5 hB hW hfl hno (cls := "java/util/NoSuchElementException") (text := "there are no facts") (by decide +kernel) k744 k158 j1569 hat_142 hgd_142 hl.1 d_H_bestSum_52 d_H_bestSum_55 d_H_bestSum_56 d_H_bestSum_59 d_H_bestSum_62 (Nat.le_of_ble_eq_true rfl) (Nat.le_of_ble_eq_true rfl) (Nat.le_of_ble_eq_true rfl) (Nat.le_of_ble_eq_true rfl) (Nat.le_of_ble_eq_true rfl) (Nat.le_of_ble_eq_true rfl) ⟨2, rfl, (by first | (simp only [kf_bestSum, c_1, if_true, if_false, ite_true, ite_false, reduceIte]; rfl) | simp only [kf_bestSum, c_1, if_true, if_false, ite_true, ite_false, reduceIte])⟩
    · exact absurd c_2 (by decide)
  · exact q_throwW hB hW hfl hno (cls := "java/lang/IllegalArgumentException") (text := "1 to 5 hours") (by decide +kernel) k544 k148 j1567 hat_81 hgd_81 hl.1 d_H_bestSum_9 d_H_bestSum_12 d_H_bestSum_13 d_H_bestSum_16 d_H_bestSum_19 (Nat.le_of_ble_eq_true rfl) (Nat.le_of_ble_eq_true rfl) (Nat.le_of_ble_eq_true rfl) (Nat.le_of_ble_eq_true rfl) (Nat.le_of_ble_eq_true rfl) (Nat.le_of_ble_eq_true rfl) ⟨0, rfl, (by first | (simp only [kf_bestSum, c_1, if_true, if_false, ite_true, ite_false, reduceIte]; rfl) | simp only [kf_bestSum, c_1, if_true, if_false, ite_true, ite_false, reduceIte])⟩
set_option maxHeartbeats 4000000 in
set_option maxRecDepth 100000 in
/-- bestAt -/
theorem cx_bestAt (l : Launch) (hfl : l.stackTraces = false) (D : va_G) (sz : Nat) (h0 : Nat) (fs : List Value) (p0 : Int32) (p1 : Int32) (o11 : Nat) (f11 : List Value) (g11_4 : f11[4]? = some (.int 0)) (h11 : fs[11]? = some (.ref o11)) : vx_Met l ⟨"Locihall", "bestAt", "(II)I"⟩ (.code ⟨"Locihall", "bestAt", "(II)I"⟩ prog_1_method_49_code 3 (some .int) :: qw) ({ frames := 6, cells := 1, slots := 6, locals := 82 }) (va_Pc [.ref h0, .int p0, .int p1] (qPre D [(h0, .inr (16, fs)), (o11, .inr (6, f11))] [] sz)) (va_Qi (fun (r : Int32) (_ : Unit) => kf_bestAt p0 p1 = 0 ∧ r = 0) (fun _ _ => True) (va_A [(h0, .inr (16, fs)), (o11, .inr (6, f11))] sz)) (qX (qx ["java/lang/IllegalArgumentException", "java/lang/IllegalStateException", "java/util/NoSuchElementException"] (kf_bestAt p0 p1)) (va_A [(h0, .inr (16, fs)), (o11, .inr (6, f11))] sz)) 1 6 (va_A [(h0, .inr (16, fs)), (o11, .inr (6, f11))] sz) := by
  refine q_startX (by decide) (Nat.le_of_ble_eq_true rfl) ?_
  intro p e s m below meth c hB hno hpre ls hl
  have hW := qH_start hpre
  have hx := hB.1
  have hb := hB.2.1
  have hq := hB.2.2.2.2.2.1
  have hl : lv_has ls 3 [(0, .ref h0), (1, .int p0), (2, .int p1)] := hl
  refine lv_iload_n hx hb d_H_bestAt_0 rfl (lv_at hl 1 rfl) ?_
  refine lv_iconst (v := 1) hx hb d_H_bestAt_1 (by decide) ?_
  refine lv_iconst (v := 5) hx hb d_H_bestAt_2 (by decide) ?_
  refine q_readS (As := [.int p0, .int 1, .int 5]) (rest := []) hB hW (ct_H_isIn l D _ p0 1 5) k474 k472 k133 k473 3 ⟨rfl, rfl⟩ (by decide +kernel) rfl ⟨Nat.le_of_ble_eq_true rfl, Nat.le_of_ble_eq_true rfl⟩ [] [] rfl rfl rfl rfl hl.1 (Nat.le_of_ble_eq_true rfl) ⟨Nat.le_of_ble_eq_true rfl, Nat.le_of_ble_eq_true rfl⟩ (st := [.int 5, .int 1, .int p0]) (by rfl) d_H_bestAt_3 ?_
  refine lv_if_eq (tgt := 18) hx hb d_H_bestAt_6 (by decide) (fun c_1 => ?_) (fun c_1 => ?_)
  · exact q_throwW hB hW hfl hno (cls := "java/lang/IllegalArgumentException") (text := "1 to 5 hours, and one of them") (by decide +kernel) k544 k148 j1590 hat_81 hgd_81 hl.1 d_H_bestAt_18 d_H_bestAt_21 d_H_bestAt_22 d_H_bestAt_25 d_H_bestAt_28 (Nat.le_of_ble_eq_true rfl) (Nat.le_of_ble_eq_true rfl) (Nat.le_of_ble_eq_true rfl) (Nat.le_of_ble_eq_true rfl) (Nat.le_of_ble_eq_true rfl) (Nat.le_of_ble_eq_true rfl) ⟨0, rfl, (by first | (simp only [kf_bestAt, c_1, if_true, if_false, ite_true, ite_false, reduceIte]; rfl) | simp only [kf_bestAt, c_1, if_true, if_false, ite_true, ite_false, reduceIte])⟩
  · refine lv_iload_n hx hb d_H_bestAt_9 rfl (lv_at hl 2 rfl) ?_
    refine lv_if_lt (tgt := 18) hx hb d_H_bestAt_10 (by decide) (fun c_2 => ?_) (fun c_2 => ?_)
    · exact q_throwW hB hW hfl hno (cls := "java/lang/IllegalArgumentException") (text := "1 to 5 hours, and one of them") (by decide +kernel) k544 k148 j1590 hat_81 hgd_81 hl.1 d_H_bestAt_18 d_H_bestAt_21 d_H_bestAt_22 d_H_bestAt_25 d_H_bestAt_28 (Nat.le_of_ble_eq_true rfl) (Nat.le_of_ble_eq_true rfl) (Nat.le_of_ble_eq_true rfl) (Nat.le_of_ble_eq_true rfl) (Nat.le_of_ble_eq_true rfl) (Nat.le_of_ble_eq_true rfl) ⟨0, rfl, (by first | (simp only [kf_bestAt, c_1, c_2, if_true, if_false, ite_true, ite_false, reduceIte]; rfl) | simp only [kf_bestAt, c_1, c_2, if_true, if_false, ite_true, ite_false, reduceIte])⟩
    · refine lv_iload_n hx hb d_H_bestAt_13 rfl (lv_at hl 2 rfl) ?_
      refine lv_iload_n hx hb d_H_bestAt_14 rfl (lv_at hl 1 rfl) ?_
      refine lv_icmp_lt (tgt := 29) hx hb d_H_bestAt_15 (by decide) (fun c_3 => ?_) (fun c_3 => ?_)
      · refine lv_aload_n hx hb d_H_bestAt_29 rfl (lv_at hl 0 rfl) ?_
        refine q_get hB hW qc_16 0 rfl 11 (by decide) k413 h11 d_H_bestAt_30 ?_
        refine q_getN hB hW qc_6 1 rfl 4 (by decide) j376 g11_4 d_H_bestAt_33 ?_
        refine lv_iconst (v := 4) hx hb d_H_bestAt_36 (by decide) ?_
        refine lv_icmp_le (tgt := 51) hx hb d_H_bestAt_37 (by decide) (fun c_4 => ?_) (fun c_4 => ?_)
        · refine lv_aload_n hx hb d_H_bestAt_51 rfl (lv_at hl 0 rfl) ?_
          refine q_get hB hW qc_16 0 rfl 11 (by decide) k413 h11 d_H_bestAt_52 ?_
          refine q_getN hB hW qc_6 1 rfl 4 (by decide) j376 g11_4 d_H_bestAt_55 ?_
          refine lv_if_ne (tgt := 72) hx hb d_H_bestAt_58 (by decide) (fun c_5 => ?_) (fun c_5 => ?_)
          · exact absurd c_5 (by decide)
          · exact q_throwWX cx0 cx1 cx2 cx5 hB hW hfl hno (cls := "java/util/NoSuchElementException") (text := "there are no facts") (by decide +kernel) k744 k158 j1569 hat_142 hgd_142 hl.1 d_H_bestAt_61 d_H_bestAt_64 d_H_bestAt_65 d_H_bestAt_68 d_H_bestAt_71 (Nat.le_of_ble_eq_true rfl) (Nat.le_of_ble_eq_true rfl) (Nat.le_of_ble_eq_true rfl) (Nat.le_of_ble_eq_true rfl) (Nat.le_of_ble_eq_true rfl) (Nat.le_of_ble_eq_true rfl) ⟨2, rfl, (by first | (simp only [kf_bestAt, c_1, c_2, c_3, if_true, if_false, ite_true, ite_false, reduceIte]; rfl) | simp only [kf_bestAt, c_1, c_2, c_3, if_true, if_false, ite_true, ite_false, reduceIte])⟩
        · exact absurd c_4 (by decide)
      · exact q_throwW hB hW hfl hno (cls := "java/lang/IllegalArgumentException") (text := "1 to 5 hours, and one of them") (by decide +kernel) k544 k148 j1590 hat_81 hgd_81 hl.1 d_H_bestAt_18 d_H_bestAt_21 d_H_bestAt_22 d_H_bestAt_25 d_H_bestAt_28 (Nat.le_of_ble_eq_true rfl) (Nat.le_of_ble_eq_true rfl) (Nat.le_of_ble_eq_true rfl) (Nat.le_of_ble_eq_true rfl) (Nat.le_of_ble_eq_true rfl) (Nat.le_of_ble_eq_true rfl) ⟨0, rfl, (by first | (simp only [kf_bestAt, c_1, c_2, c_3, if_true, if_false, ite_true, ite_false, reduceIte]; rfl) | simp only [kf_bestAt, c_1, c_2, c_3, if_true, if_false, ite_true, ite_false, reduceIte])⟩
set_option maxHeartbeats 4000000 in
set_option maxRecDepth 100000 in
/-- countLaid, without a palace -/
theorem ct_Mi_countLaid (l : Launch) (D : va_G) (sz : Nat) (h0 : Nat) (fs : List Value) (h2 : fs[2]? = some (.int 0)) : Met l ⟨"Locihall$Mind", "countLaid", "()I"⟩ (.code ⟨"Locihall$Mind", "countLaid", "()I"⟩ prog_6_method_20_code 5 (some .int) :: qw) ({ frames := 0, cells := 0, slots := 0, locals := 0 }) (va_Pc [.ref h0] (qPre D [(h0, .inr (9, fs))] [] sz)) (k2_QcV (.int 0)) 0 0 (fun _ => False) := by
  refine q_start (by decide) (Nat.le_of_ble_eq_true rfl) ?_
  intro p e s m below meth c hB hin hpre ls hl
  have hW := qH_start hpre
  have hx := hB.1
  have hb := hB.2.1
  have hq := hB.2.2.2.2.2.1
  have hl : lv_has ls 5 [(0, .ref h0)] := hl
  refine lv_iconst (v := 0) hx hb d_HMind_countLaid_0 (by decide) ?_
  refine lv_istore_n (lv' := [(1, .int 0), (0, .ref h0)]) hx hb d_HMind_countLaid_1 rfl hl (by decide) rfl (fun ls hl => ?_)
  refine lv_iconst (v := 0) hx hb d_HMind_countLaid_2 (by decide) ?_
  refine lv_istore_n (lv' := [(2, .int 0), (1, .int 0), (0, .ref h0)]) hx hb d_HMind_countLaid_3 rfl hl (by decide) rfl (fun ls hl => ?_)
  refine lv_iload_n hx hb d_HMind_countLaid_4 rfl (lv_at hl 0 rfl) ?_
  refine lv_aload_n hx hb d_HMind_countLaid_5 rfl (lv_at hl 2 rfl) ?_
  refine q_get hB hW qc_9 0 rfl 2 (by decide) k225 h2 d_HMind_countLaid_6 ?_
  refine lv_icmp_ge (tgt := 58) hx hb d_HMind_countLaid_9 (by decide) (fun c_1 => ?_) (fun c_1 => ?_)
  · refine lv_iload_n hx hb d_HMind_countLaid_58 rfl (lv_at hl 1 rfl) ?_
    exact W.iret hx hb hB.2.2.1 (fun t ht _ => ⟨rfl, ht⟩) (fun _ h => by cases h) d_HMind_countLaid_59 hB.2.2.2.2.2.2.1
  · exact absurd c_1 (by decide)
set_option maxHeartbeats 4000000 in
set_option maxRecDepth 100000 in
/-- heldShare -/
theorem cx_heldShare (l : Launch) (hfl : l.stackTraces = false) (D : va_G) (sz : Nat) (h0 : Nat) (fs : List Value) (o4 : Nat) (f4 : List Value) (g4_2 : f4[2]? = some (.int 0)) (h4 : fs[4]? = some (.ref o4)) : vx_Met l ⟨"Locihall", "heldShare", "()F"⟩ (.code ⟨"Locihall", "heldShare", "()F"⟩ prog_1_method_51_code 2 (some .float) :: qw) ({ frames := 6, cells := 1, slots := 6, locals := 82 }) (va_Pc [.ref h0] (qPre D [(h0, .inr (16, fs)), (o4, .inr (9, f4))] [] sz)) (va_Qf (fun (r : UInt32) (_ : Unit) => 1 = 0 ∧ r = 0) (fun _ _ => True) (va_A [(h0, .inr (16, fs)), (o4, .inr (9, f4))] sz)) (qX (qx ["java/lang/ArithmeticException"] (1)) (va_A [(h0, .inr (16, fs)), (o4, .inr (9, f4))] sz)) 1 6 (va_A [(h0, .inr (16, fs)), (o4, .inr (9, f4))] sz) := by
  refine q_startX (by decide) (Nat.le_of_ble_eq_true rfl) ?_
  intro p e s m below meth c hB hno hpre ls hl
  have hW := qH_start hpre
  have hx := hB.1
  have hb := hB.2.1
  have hq := hB.2.2.2.2.2.1
  have hl : lv_has ls 2 [(0, .ref h0)] := hl
  refine lv_aload_n hx hb d_H_heldShare_0 rfl (lv_at hl 0 rfl) ?_
  refine q_get hB hW qc_16 0 rfl 4 (by decide) k406 h4 d_H_heldShare_1 ?_
  refine q_readVN (As := []) (rest := []) hB hW (ct_Mi_countLaid l D _ o4 f4 g4_2) (ci := 9) (q0 := 1) rfl rfl j1612 k1614 k100 k136 k1615 0 ⟨rfl, rfl⟩ (by decide +kernel) rfl ⟨Nat.le_of_ble_eq_true rfl, Nat.le_of_ble_eq_true rfl⟩ [1] [] rfl rfl rfl rfl hl.1 (Nat.le_of_ble_eq_true rfl) ⟨Nat.le_of_ble_eq_true rfl, Nat.le_of_ble_eq_true rfl⟩ (st := [.ref o4]) (by rfl) d_H_heldShare_4 ?_
  refine lv_istore_n (lv' := [(1, .int 0), (0, .ref h0)]) hx hb d_H_heldShare_7 rfl hl (by decide) rfl (fun ls hl => ?_)
  refine lv_iload_n hx hb d_H_heldShare_8 rfl (lv_at hl 0 rfl) ?_
  refine lv_if_ne (tgt := 23) hx hb d_H_heldShare_9 (by decide) (fun c_1 => ?_) (fun c_1 => ?_)
  · exact absurd c_1 (by decide)
  · exact q_throwW hB hW hfl hno (cls := "java/lang/ArithmeticException") (text := "no locus has traces") (by decide +kernel) k1616 k174 j1617 hat_502 hgd_502 hl.1 d_H_heldShare_12 d_H_heldShare_15 d_H_heldShare_16 d_H_heldShare_19 d_H_heldShare_22 (Nat.le_of_ble_eq_true rfl) (Nat.le_of_ble_eq_true rfl) (Nat.le_of_ble_eq_true rfl) (Nat.le_of_ble_eq_true rfl) (Nat.le_of_ble_eq_true rfl) (Nat.le_of_ble_eq_true rfl) ⟨0, rfl, rfl⟩
set_option maxHeartbeats 4000000 in
set_option maxRecDepth 100000 in
/-- meanHold -/
theorem cx_meanHold (l : Launch) (hfl : l.stackTraces = false) (D : va_G) (sz : Nat) (h0 : Nat) (fs : List Value) (o4 : Nat) (f4 : List Value) (g4_2 : f4[2]? = some (.int 0)) (h4 : fs[4]? = some (.ref o4)) : vx_Met l ⟨"Locihall", "meanHold", "()D"⟩ (.code ⟨"Locihall", "meanHold", "()D"⟩ prog_1_method_52_code 2 (some .double) :: qw) ({ frames := 6, cells := 1, slots := 6, locals := 82 }) (va_Pc [.ref h0] (qPre D [(h0, .inr (16, fs)), (o4, .inr (9, f4))] [] sz)) (va_Qd (fun (r : UInt64) (_ : Unit) => 1 = 0 ∧ r = 0) (fun _ _ => True) (va_A [(h0, .inr (16, fs)), (o4, .inr (9, f4))] sz)) (qX (qx ["java/lang/ArithmeticException"] (1)) (va_A [(h0, .inr (16, fs)), (o4, .inr (9, f4))] sz)) 1 6 (va_A [(h0, .inr (16, fs)), (o4, .inr (9, f4))] sz) := by
  refine q_startX (by decide) (Nat.le_of_ble_eq_true rfl) ?_
  intro p e s m below meth c hB hno hpre ls hl
  have hW := qH_start hpre
  have hx := hB.1
  have hb := hB.2.1
  have hq := hB.2.2.2.2.2.1
  have hl : lv_has ls 2 [(0, .ref h0)] := hl
  refine lv_aload_n hx hb d_H_meanHold_0 rfl (lv_at hl 0 rfl) ?_
  refine q_get hB hW qc_16 0 rfl 4 (by decide) k406 h4 d_H_meanHold_1 ?_
  refine q_readVN (As := []) (rest := []) hB hW (ct_Mi_countLaid l D _ o4 f4 g4_2) (ci := 9) (q0 := 1) rfl rfl j1612 k1614 k100 k136 k1615 0 ⟨rfl, rfl⟩ (by decide +kernel) rfl ⟨Nat.le_of_ble_eq_true rfl, Nat.le_of_ble_eq_true rfl⟩ [1] [] rfl rfl rfl rfl hl.1 (Nat.le_of_ble_eq_true rfl) ⟨Nat.le_of_ble_eq_true rfl, Nat.le_of_ble_eq_true rfl⟩ (st := [.ref o4]) (by rfl) d_H_meanHold_4 ?_
  refine lv_istore_n (lv' := [(1, .int 0), (0, .ref h0)]) hx hb d_H_meanHold_7 rfl hl (by decide) rfl (fun ls hl => ?_)
  refine lv_iload_n hx hb d_H_meanHold_8 rfl (lv_at hl 0 rfl) ?_
  refine lv_if_ne (tgt := 23) hx hb d_H_meanHold_9 (by decide) (fun c_1 => ?_) (fun c_1 => ?_)
  · exact absurd c_1 (by decide)
  · exact q_throwW hB hW hfl hno (cls := "java/lang/ArithmeticException") (text := "no locus has traces") (by decide +kernel) k1616 k174 j1617 hat_502 hgd_502 hl.1 d_H_meanHold_12 d_H_meanHold_15 d_H_meanHold_16 d_H_meanHold_19 d_H_meanHold_22 (Nat.le_of_ble_eq_true rfl) (Nat.le_of_ble_eq_true rfl) (Nat.le_of_ble_eq_true rfl) (Nat.le_of_ble_eq_true rfl) (Nat.le_of_ble_eq_true rfl) (Nat.le_of_ble_eq_true rfl) ⟨0, rfl, rfl⟩
end
section
set_option maxHeartbeats 4000000 in
set_option maxRecDepth 100000 in
/-- add, of the first image -/
theorem cw_Im_add (l : Launch) (D : va_G) (sz : Nat) (h0 a1 a2 : Nat) (cA : ClassId) (v w : Int32) : Met l ⟨"Locihall$Images", "add", "(II)I"⟩ (.code ⟨"Locihall$Images", "add", "(II)I"⟩ prog_4_method_2_code 3 (some .int) :: qw) ({ frames := 0, cells := 0, slots := 0, locals := 0 }) (va_Pc [.ref h0, .int v, .int w] (qPre D [(h0, .inr (7, [.ref a1, .ref a2, .int 0])), (a1, .inl (cA, 30, .inl (fun _ => 0))), (a2, .inl (cA, 30, .inl (fun _ => 0)))] [(cA, .int)] sz)) (va_Qi (fun (r0 : Int32) (_ : Unit) => r0 = 0) (fun _ => qPost D [] [] (va_A [(h0, .inr (7, [.ref a1, .ref a2, .int 0])), (a1, .inl (cA, 30, .inl (fun _ => 0))), (a2, .inl (cA, 30, .inl (fun _ => 0)))] sz)) (va_A [(h0, .inr (7, [.ref a1, .ref a2, .int 0])), (a1, .inl (cA, 30, .inl (fun _ => 0))), (a2, .inl (cA, 30, .inl (fun _ => 0)))] sz)) 0 0 (va_A [(h0, .inr (7, [.ref a1, .ref a2, .int 0])), (a1, .inl (cA, 30, .inl (fun _ => 0))), (a2, .inl (cA, 30, .inl (fun _ => 0)))] sz) := by
  refine q_start (by decide) (Nat.le_of_ble_eq_true rfl) ?_
  intro p e s m below meth c hB hin hpre ls hl
  have hW := qH_start hpre
  have hx := hB.1
  have hb := hB.2.1
  have hq := hB.2.2.2.2.2.1
  have hl : lv_has ls 3 [(0, .ref h0), (1, .int v), (2, .int w)] := hl
  refine lv_aload_n hx hb d_HImages_add_0 rfl (lv_at hl 0 rfl) ?_
  refine q_get hB hW qc_7 0 rfl 2 (by decide) k191 rfl d_HImages_add_1 ?_
  refine lv_aload_n hx hb d_HImages_add_4 rfl (lv_at hl 0 rfl) ?_
  refine q_get hB hW qc_7 0 rfl 0 (by decide) k189 rfl d_HImages_add_5 ?_
  refine va_alen (v := 30) hx hb hW.2.1 hW.1 1 0 rfl rfl (by decide) d_HImages_add_8 ?_
  refine lv_icmp_ge (tgt := 54) hx hb d_HImages_add_9 (by decide) (fun c_1 => ?_) (fun c_1 => ?_)
  · exact absurd c_1 (by decide)
  · refine lv_aload_n hx hb d_HImages_add_12 rfl (lv_at hl 0 rfl) ?_
    refine q_get hB hW qc_7 0 rfl 2 (by decide) k191 rfl d_HImages_add_13 ?_
    refine lv_aload_n hx hb d_HImages_add_16 rfl (lv_at hl 0 rfl) ?_
    refine q_get hB hW qc_7 0 rfl 1 (by decide) k190 rfl d_HImages_add_17 ?_
    refine va_alen (v := 30) hx hb hW.2.1 hW.1 2 0 rfl rfl (by decide) d_HImages_add_20 ?_
    refine lv_icmp_ge (tgt := 54) hx hb d_HImages_add_21 (by decide) (fun c_2 => ?_) (fun c_2 => ?_)
    · exact absurd c_2 (by decide)
    · refine lv_aload_n hx hb d_HImages_add_24 rfl (lv_at hl 0 rfl) ?_
      refine q_get hB hW qc_7 0 rfl 0 (by decide) k189 rfl d_HImages_add_25 ?_
      refine lv_aload_n hx hb d_HImages_add_28 rfl (lv_at hl 0 rfl) ?_
      refine q_get hB hW qc_7 0 rfl 2 (by decide) k191 rfl d_HImages_add_29 ?_
      refine lv_iload_n hx hb d_HImages_add_32 rfl (lv_at hl 1 rfl) ?_
      refine q_iast hB hW 1 0 rfl rfl (qin 0 rfl (by decide) (by decide)) (ws' := [(h0, .inr (7, [.ref a1, .ref a2, .int 0])), (a1, .inl (cA, 30, .inl (upd (fun _ => 0) (0 : Int32).toNatClampNeg v))), (a2, .inl (cA, 30, .inl (fun _ => 0)))]) rfl d_HImages_add_33 (fun H locs hW => ?_)
      refine lv_aload_n hx hb d_HImages_add_34 rfl (lv_at hl 0 rfl) ?_
      refine q_get hB hW qc_7 0 rfl 1 (by decide) k190 rfl d_HImages_add_35 ?_
      refine lv_aload_n hx hb d_HImages_add_38 rfl (lv_at hl 0 rfl) ?_
      refine q_get hB hW qc_7 0 rfl 2 (by decide) k191 rfl d_HImages_add_39 ?_
      refine lv_iload_n hx hb d_HImages_add_42 rfl (lv_at hl 2 rfl) ?_
      refine q_iast hB hW 2 0 rfl rfl (qin 0 rfl (by decide) (by decide)) (ws' := [(h0, .inr (7, [.ref a1, .ref a2, .int 0])), (a1, .inl (cA, 30, .inl (upd (fun _ => 0) (0 : Int32).toNatClampNeg v))), (a2, .inl (cA, 30, .inl (upd (fun _ => 0) (0 : Int32).toNatClampNeg w)))]) rfl d_HImages_add_43 (fun H locs hW => ?_)
      refine lv_aload_n hx hb d_HImages_add_44 rfl (lv_at hl 0 rfl) ?_
      refine lv_dup hx hb d_HImages_add_45 rfl ?_
      refine q_get hB hW qc_7 0 rfl 2 (by decide) k191 rfl d_HImages_add_46 ?_
      refine lv_iconst (v := 1) hx hb d_HImages_add_49 (by decide) ?_
      refine lv_iadd hx hb d_HImages_add_50 ?_
      refine q_topi (v := 1) (by decide) ?_
      refine q_put hB hW qc_7 0 rfl 2 (by decide) k191 rfl  rfl rfl (Nat.le_of_ble_eq_true rfl) (ws' := [(h0, .inr (7, [.ref a1, .ref a2, .int 1])), (a1, .inl (cA, 30, .inl (upd (fun _ => 0) (0 : Int32).toNatClampNeg v))), (a2, .inl (cA, 30, .inl (upd (fun _ => 0) (0 : Int32).toNatClampNeg w)))]) rfl d_HImages_add_51 (fun H locs hW => ?_)
      refine lv_aload_n hx hb d_HImages_add_54 rfl (lv_at hl 0 rfl) ?_
      refine q_get hB hW qc_7 0 rfl 2 (by decide) k191 rfl d_HImages_add_55 ?_
      refine lv_iconst (v := 1) hx hb d_HImages_add_58 (by decide) ?_
      refine lv_isub hx hb d_HImages_add_59 ?_
      refine q_topi (v := 0) (by decide) ?_
      exact W.iret hx hb hB.2.2.1 (fun t ht hWm => ⟨⟨0, (), rfl, rfl, qH_end hW [] [] rfl rfl rfl rfl ht hWm⟩, hW.2.2.2.1.F ht⟩) hW.2.2.2.1.2.2 d_HImages_add_60 hB.2.2.2.2.2.2.1
set_option maxHeartbeats 4000000 in
set_option maxRecDepth 100000 in
/-- rowOf, without rows -/
theorem ct_YR_rowOf (l : Launch) (D : va_G) (sz : Nat) (h0 : Nat) (fs : List Value) (h3 : fs[3]? = some (.int 0)) (v : Int32) : Met l ⟨"Locihall$YearRows", "rowOf", "(I)I"⟩ (.code ⟨"Locihall$YearRows", "rowOf", "(I)I"⟩ prog_12_method_2_code 3 (some .int) :: qw) ({ frames := 0, cells := 0, slots := 0, locals := 0 }) (va_Pc [.ref h0, .int v] (qPre D [(h0, .inr (15, fs))] [] sz)) (k2_QcV (.int (-1))) 0 0 (fun _ => False) := by
  refine q_start (by decide) (Nat.le_of_ble_eq_true rfl) ?_
  intro p e s m below meth c hB hin hpre ls hl
  have hW := qH_start hpre
  have hx := hB.1
  have hb := hB.2.1
  have hq := hB.2.2.2.2.2.1
  have hl : lv_has ls 3 [(0, .ref h0), (1, .int v)] := hl
  refine lv_iconst (v := 0) hx hb d_HYearRows_rowOf_0 (by decide) ?_
  refine lv_istore_n (lv' := [(2, .int 0), (0, .ref h0), (1, .int v)]) hx hb d_HYearRows_rowOf_1 rfl hl (by decide) rfl (fun ls hl => ?_)
  refine lv_iload_n hx hb d_HYearRows_rowOf_2 rfl (lv_at hl 0 rfl) ?_
  refine lv_aload_n hx hb d_HYearRows_rowOf_3 rfl (lv_at hl 1 rfl) ?_
  refine q_get hB hW qc_15 0 rfl 3 (by decide) k254 h3 d_HYearRows_rowOf_4 ?_
  refine lv_icmp_ge (tgt := 37) hx hb d_HYearRows_rowOf_7 (by decide) (fun c_1 => ?_) (fun c_1 => ?_)
  · refine lv_iconst (v := (-1)) hx hb d_HYearRows_rowOf_37 (by decide) ?_
    exact W.iret hx hb hB.2.2.1 (fun t ht _ => ⟨rfl, ht⟩) (fun _ h => by cases h) d_HYearRows_rowOf_38 hB.2.2.2.2.2.2.1
  · exact absurd c_1 (by decide)
set_option maxHeartbeats 4000000 in
set_option maxRecDepth 100000 in
/-- isFullFor, without rows -/
theorem ct_YR_full (l : Launch) (D : va_G) (sz : Nat) (h0 a1 a2 a3 : Nat) (cA : ClassId) (v : Int32) : Met l ⟨"Locihall$YearRows", "isFullFor", "(I)Z"⟩ (.code ⟨"Locihall$YearRows", "isFullFor", "(I)Z"⟩ prog_12_method_3_code 2 (some .boolean) :: qw) ({ frames := 0, cells := 0, slots := 0, locals := 0 }) (va_Pc [.ref h0, .int v] (qPre D [(h0, .inr (15, [.ref a1, .ref a2, .ref a3, .int 0])), (a1, .inl (cA, 8, .inl (fun _ => 0)))] [(cA, .int)] sz)) (k2_QcV (.int 0)) 0 0 (fun _ => False) := by
  refine q_start (by decide) (Nat.le_of_ble_eq_true rfl) ?_
  intro p e s m below meth c hB hin hpre ls hl
  have hW := qH_start hpre
  have hx := hB.1
  have hb := hB.2.1
  have hq := hB.2.2.2.2.2.1
  have hl : lv_has ls 2 [(0, .ref h0), (1, .int v)] := hl
  refine lv_aload_n hx hb d_HYearRows_isFullFor_0 rfl (lv_at hl 0 rfl) ?_
  refine q_get hB hW qc_15 0 rfl 3 (by decide) k254 rfl d_HYearRows_isFullFor_1 ?_
  refine lv_aload_n hx hb d_HYearRows_isFullFor_4 rfl (lv_at hl 0 rfl) ?_
  refine q_get hB hW qc_15 0 rfl 0 (by decide) k251 rfl d_HYearRows_isFullFor_5 ?_
  refine va_alen (v := 8) hx hb hW.2.1 hW.1 1 0 rfl rfl (by decide) d_HYearRows_isFullFor_8 ?_
  refine lv_icmp_lt (tgt := 25) hx hb d_HYearRows_isFullFor_9 (by decide) (fun c_1 => ?_) (fun c_1 => ?_)
  · refine lv_iconst (v := 0) hx hb d_HYearRows_isFullFor_25 (by decide) ?_
    exact W.zret hx hb hB.2.2.1 (by first | rfl | decide | exact nb_isIn _ _ _) (fun t ht _ => ⟨rfl, ht⟩) (fun _ h => by cases h) d_HYearRows_isFullFor_26 hB.2.2.2.2.2.2.1
  · exact absurd c_1 (by decide)
set_option maxHeartbeats 4000000 in
set_option maxRecDepth 100000 in
/-- put, of the first row -/
theorem cw_YR_put (l : Launch) (D : va_G) (sz : Nat) (h0 a1 a2 a3 : Nat) (cA : ClassId) (v w x : Int32) : Met l ⟨"Locihall$YearRows", "put", "(III)I"⟩ (.code ⟨"Locihall$YearRows", "put", "(III)I"⟩ prog_12_method_4_code 6 (some .int) :: qw) ({ frames := 1, cells := 0, slots := 0, locals := 22 }) (va_Pc [.ref h0, .int v, .int w, .int x] (qPre D [(h0, .inr (15, [.ref a1, .ref a2, .ref a3, .int 0])), (a1, .inl (cA, 8, .inl (fun _ => 0))), (a2, .inl (cA, 8, .inl (fun _ => 0))), (a3, .inl (cA, 8, .inl (fun _ => 0)))] [(cA, .int)] sz)) (va_Qi (fun (r0 : Int32) (_ : Unit) => r0 = 1) (fun _ => qPost D [] [] (va_A [(h0, .inr (15, [.ref a1, .ref a2, .ref a3, .int 0])), (a1, .inl (cA, 8, .inl (fun _ => 0))), (a2, .inl (cA, 8, .inl (fun _ => 0))), (a3, .inl (cA, 8, .inl (fun _ => 0)))] sz)) (va_A [(h0, .inr (15, [.ref a1, .ref a2, .ref a3, .int 0])), (a1, .inl (cA, 8, .inl (fun _ => 0))), (a2, .inl (cA, 8, .inl (fun _ => 0))), (a3, .inl (cA, 8, .inl (fun _ => 0)))] sz)) 0 0 (va_A [(h0, .inr (15, [.ref a1, .ref a2, .ref a3, .int 0])), (a1, .inl (cA, 8, .inl (fun _ => 0))), (a2, .inl (cA, 8, .inl (fun _ => 0))), (a3, .inl (cA, 8, .inl (fun _ => 0)))] sz) := by
  refine q_start (by decide) (Nat.le_of_ble_eq_true rfl) ?_
  intro p e s m below meth c hB hin hpre ls hl
  have hW := qH_start hpre
  have hx := hB.1
  have hb := hB.2.1
  have hq := hB.2.2.2.2.2.1
  have hl : lv_has ls 6 [(0, .ref h0), (1, .int v), (2, .int w), (3, .int x)] := hl
  refine lv_aload_n hx hb d_HYearRows_put_0 rfl (lv_at hl 0 rfl) ?_
  refine lv_iload_n hx hb d_HYearRows_put_1 rfl (lv_at hl 1 rfl) ?_
  refine q_readV (As := [.int v]) (rest := []) hB hW (ct_YR_rowOf l D _ h0 ([.ref a1, .ref a2, .ref a3, .int 0]) rfl v) (ci := 15) (q0 := 0) rfl rfl k1252 k1254 k65 k137 k1255 1 ⟨rfl, rfl⟩ (by decide +kernel) rfl ⟨Nat.le_of_ble_eq_true rfl, Nat.le_of_ble_eq_true rfl⟩ [0] [] rfl rfl rfl rfl hl.1 (Nat.le_of_ble_eq_true rfl) ⟨Nat.le_of_ble_eq_true rfl, Nat.le_of_ble_eq_true rfl⟩ (st := [.int v, .ref h0]) (by rfl) d_HYearRows_put_2 ?_
  refine lv_istore (lv' := [(4, .int (-1)), (0, .ref h0), (1, .int v), (2, .int w), (3, .int x)]) hx hb d_HYearRows_put_5 hl (by decide) rfl (fun ls hl => ?_)
  refine lv_iload hx hb d_HYearRows_put_7 (lv_at hl 0 rfl) ?_
  refine lv_iconst (v := (-1)) hx hb d_HYearRows_put_9 (by decide) ?_
  refine lv_icmp_ne (tgt := 20) hx hb d_HYearRows_put_10 (by decide) (fun c_1 => ?_) (fun c_1 => ?_)
  · exact absurd c_1 (by decide)
  · refine lv_aload_n hx hb d_HYearRows_put_13 rfl (lv_at hl 1 rfl) ?_
    refine q_get hB hW qc_15 0 rfl 3 (by decide) k254 rfl d_HYearRows_put_14 ?_
    refine lv_goto (tgt := 22) hx hb d_HYearRows_put_17 (by decide) ?_
    refine lv_istore (lv' := [(5, .int 0), (4, .int (-1)), (0, .ref h0), (1, .int v), (2, .int w), (3, .int x)]) hx hb d_HYearRows_put_22 hl (by decide) rfl (fun ls hl => ?_)
    refine lv_iload hx hb d_HYearRows_put_24 (lv_at hl 0 rfl) ?_
    refine lv_if_lt (tgt := 98) hx hb d_HYearRows_put_26 (by decide) (fun c_2 => ?_) (fun c_2 => ?_)
    · exact absurd c_2 (by decide)
    · refine lv_iload hx hb d_HYearRows_put_29 (lv_at hl 0 rfl) ?_
      refine lv_aload_n hx hb d_HYearRows_put_31 rfl (lv_at hl 2 rfl) ?_
      refine q_get hB hW qc_15 0 rfl 0 (by decide) k251 rfl d_HYearRows_put_32 ?_
      refine va_alen (v := 8) hx hb hW.2.1 hW.1 1 0 rfl rfl (by decide) d_HYearRows_put_35 ?_
      refine lv_icmp_ge (tgt := 98) hx hb d_HYearRows_put_36 (by decide) (fun c_3 => ?_) (fun c_3 => ?_)
      · exact absurd c_3 (by decide)
      · refine lv_iload hx hb d_HYearRows_put_39 (lv_at hl 0 rfl) ?_
        refine lv_aload_n hx hb d_HYearRows_put_41 rfl (lv_at hl 2 rfl) ?_
        refine q_get hB hW qc_15 0 rfl 1 (by decide) k252 rfl d_HYearRows_put_42 ?_
        refine va_alen (v := 8) hx hb hW.2.1 hW.1 2 0 rfl rfl (by decide) d_HYearRows_put_45 ?_
        refine lv_icmp_ge (tgt := 98) hx hb d_HYearRows_put_46 (by decide) (fun c_4 => ?_) (fun c_4 => ?_)
        · exact absurd c_4 (by decide)
        · refine lv_iload hx hb d_HYearRows_put_49 (lv_at hl 0 rfl) ?_
          refine lv_aload_n hx hb d_HYearRows_put_51 rfl (lv_at hl 2 rfl) ?_
          refine q_get hB hW qc_15 0 rfl 2 (by decide) k253 rfl d_HYearRows_put_52 ?_
          refine va_alen (v := 8) hx hb hW.2.1 hW.1 3 0 rfl rfl (by decide) d_HYearRows_put_55 ?_
          refine lv_icmp_ge (tgt := 98) hx hb d_HYearRows_put_56 (by decide) (fun c_5 => ?_) (fun c_5 => ?_)
          · exact absurd c_5 (by decide)
          · refine lv_aload_n hx hb d_HYearRows_put_59 rfl (lv_at hl 2 rfl) ?_
            refine q_get hB hW qc_15 0 rfl 0 (by decide) k251 rfl d_HYearRows_put_60 ?_
            refine lv_iload hx hb d_HYearRows_put_63 (lv_at hl 0 rfl) ?_
            refine lv_iload_n hx hb d_HYearRows_put_65 rfl (lv_at hl 3 rfl) ?_
            refine q_iast hB hW 1 0 rfl rfl (qin 0 rfl (by decide) (by decide)) (ws' := [(h0, .inr (15, [.ref a1, .ref a2, .ref a3, .int 0])), (a1, .inl (cA, 8, .inl (upd (fun _ => 0) (0 : Int32).toNatClampNeg v))), (a2, .inl (cA, 8, .inl (fun _ => 0))), (a3, .inl (cA, 8, .inl (fun _ => 0)))]) rfl d_HYearRows_put_66 (fun H locs hW => ?_)
            refine lv_aload_n hx hb d_HYearRows_put_67 rfl (lv_at hl 2 rfl) ?_
            refine q_get hB hW qc_15 0 rfl 1 (by decide) k252 rfl d_HYearRows_put_68 ?_
            refine lv_iload hx hb d_HYearRows_put_71 (lv_at hl 0 rfl) ?_
            refine lv_iload_n hx hb d_HYearRows_put_73 rfl (lv_at hl 4 rfl) ?_
            refine q_iast hB hW 2 0 rfl rfl (qin 0 rfl (by decide) (by decide)) (ws' := [(h0, .inr (15, [.ref a1, .ref a2, .ref a3, .int 0])), (a1, .inl (cA, 8, .inl (upd (fun _ => 0) (0 : Int32).toNatClampNeg v))), (a2, .inl (cA, 8, .inl (upd (fun _ => 0) (0 : Int32).toNatClampNeg w))), (a3, .inl (cA, 8, .inl (fun _ => 0)))]) rfl d_HYearRows_put_74 (fun H locs hW => ?_)
            refine lv_aload_n hx hb d_HYearRows_put_75 rfl (lv_at hl 2 rfl) ?_
            refine q_get hB hW qc_15 0 rfl 2 (by decide) k253 rfl d_HYearRows_put_76 ?_
            refine lv_iload hx hb d_HYearRows_put_79 (lv_at hl 0 rfl) ?_
            refine lv_iload_n hx hb d_HYearRows_put_81 rfl (lv_at hl 5 rfl) ?_
            refine q_iast hB hW 3 0 rfl rfl (qin 0 rfl (by decide) (by decide)) (ws' := [(h0, .inr (15, [.ref a1, .ref a2, .ref a3, .int 0])), (a1, .inl (cA, 8, .inl (upd (fun _ => 0) (0 : Int32).toNatClampNeg v))), (a2, .inl (cA, 8, .inl (upd (fun _ => 0) (0 : Int32).toNatClampNeg w))), (a3, .inl (cA, 8, .inl (upd (fun _ => 0) (0 : Int32).toNatClampNeg x)))]) rfl d_HYearRows_put_82 (fun H locs hW => ?_)
            refine lv_aload_n hx hb d_HYearRows_put_83 rfl (lv_at hl 2 rfl) ?_
            refine lv_aload_n hx hb d_HYearRows_put_84 rfl (lv_at hl 2 rfl) ?_
            refine q_get hB hW qc_15 0 rfl 3 (by decide) k254 rfl d_HYearRows_put_85 ?_
            refine lv_iload hx hb d_HYearRows_put_88 (lv_at hl 0 rfl) ?_
            refine lv_iconst (v := 1) hx hb d_HYearRows_put_90 (by decide) ?_
            refine lv_iadd hx hb d_HYearRows_put_91 ?_
            refine q_topi (v := 1) (by decide) ?_
            refine va_mmax hx hb (hB.2.2.2.1.trans hl.1.symm) hB.2.2.2.2.1 (hq _ k1261) (hq _ k1079) (hq _ k151) (hq _ k1080) (Nat.le_of_ble_eq_true rfl) (Nat.le_of_ble_eq_true rfl) (Nat.le_of_ble_eq_true rfl) (Nat.le_of_ble_eq_true rfl) d_HYearRows_put_92 ?_
            refine q_topi (v := 1) (by decide) ?_
            refine q_put hB hW qc_15 0 rfl 3 (by decide) k254 rfl  rfl rfl (Nat.le_of_ble_eq_true rfl) (ws' := [(h0, .inr (15, [.ref a1, .ref a2, .ref a3, .int 1])), (a1, .inl (cA, 8, .inl (upd (fun _ => 0) (0 : Int32).toNatClampNeg v))), (a2, .inl (cA, 8, .inl (upd (fun _ => 0) (0 : Int32).toNatClampNeg w))), (a3, .inl (cA, 8, .inl (upd (fun _ => 0) (0 : Int32).toNatClampNeg x)))]) rfl d_HYearRows_put_95 (fun H locs hW => ?_)
            refine lv_aload_n hx hb d_HYearRows_put_98 rfl (lv_at hl 2 rfl) ?_
            refine q_get hB hW qc_15 0 rfl 3 (by decide) k254 rfl d_HYearRows_put_99 ?_
            exact W.iret hx hb hB.2.2.1 (fun t ht hWm => ⟨⟨1, (), rfl, rfl, qH_end hW [] [] rfl rfl rfl rfl ht hWm⟩, hW.2.2.2.1.F ht⟩) hW.2.2.2.1.2.2 d_HYearRows_put_102 hB.2.2.2.2.2.2.1
set_option maxHeartbeats 4000000 in
set_option maxRecDepth 100000 in
/-- add, of the first fact -/
theorem cw_Fa_add (l : Launch) (D : va_G) (sz : Nat) (h0 a1 a2 a3 a4 a5 a6 : Nat) (cA : ClassId) (v w : Int32) : Met l ⟨"Locihall$Facts", "add", "(II)I"⟩ (.code ⟨"Locihall$Facts", "add", "(II)I"⟩ prog_3_method_2_code 3 (some .int) :: qw) ({ frames := 0, cells := 0, slots := 0, locals := 0 }) (va_Pc [.ref h0, .int v, .int w] (qPre D [(h0, .inr (6, [.ref a1, .ref a2, .ref a3, .ref a4, .int 0, .ref a5, .ref a6, .int 0, .int 0])), (a1, .inl (cA, 12, .inl (fun _ => 0))), (a2, .inl (cA, 12, .inl (fun _ => 0))), (a3, .inl (cA, 12, .inl (fun _ => 0)))] [(cA, .int)] sz)) (va_Qi (fun (r0 : Int32) (_ : Unit) => r0 = 0) (fun _ => qPost D [] [] (va_A [(h0, .inr (6, [.ref a1, .ref a2, .ref a3, .ref a4, .int 0, .ref a5, .ref a6, .int 0, .int 0])), (a1, .inl (cA, 12, .inl (fun _ => 0))), (a2, .inl (cA, 12, .inl (fun _ => 0))), (a3, .inl (cA, 12, .inl (fun _ => 0)))] sz)) (va_A [(h0, .inr (6, [.ref a1, .ref a2, .ref a3, .ref a4, .int 0, .ref a5, .ref a6, .int 0, .int 0])), (a1, .inl (cA, 12, .inl (fun _ => 0))), (a2, .inl (cA, 12, .inl (fun _ => 0))), (a3, .inl (cA, 12, .inl (fun _ => 0)))] sz)) 0 0 (va_A [(h0, .inr (6, [.ref a1, .ref a2, .ref a3, .ref a4, .int 0, .ref a5, .ref a6, .int 0, .int 0])), (a1, .inl (cA, 12, .inl (fun _ => 0))), (a2, .inl (cA, 12, .inl (fun _ => 0))), (a3, .inl (cA, 12, .inl (fun _ => 0)))] sz) := by
  refine q_start (by decide) (Nat.le_of_ble_eq_true rfl) ?_
  intro p e s m below meth c hB hin hpre ls hl
  have hW := qH_start hpre
  have hx := hB.1
  have hb := hB.2.1
  have hq := hB.2.2.2.2.2.1
  have hl : lv_has ls 3 [(0, .ref h0), (1, .int v), (2, .int w)] := hl
  refine lv_aload_n hx hb d_HFacts_add_0 rfl (lv_at hl 0 rfl) ?_
  refine q_get hB hW qc_6 0 rfl 4 (by decide) k375 rfl d_HFacts_add_1 ?_
  refine lv_bipush (v := 12) hx hb d_HFacts_add_4 (by decide) ?_
  refine lv_icmp_ge (tgt := 49) hx hb d_HFacts_add_6 (by decide) (fun c_1 => ?_) (fun c_1 => ?_)
  · exact absurd c_1 (by decide)
  · refine lv_aload_n hx hb d_HFacts_add_9 rfl (lv_at hl 0 rfl) ?_
    refine q_get hB hW qc_6 0 rfl 0 (by decide) k370 rfl d_HFacts_add_10 ?_
    refine lv_aload_n hx hb d_HFacts_add_13 rfl (lv_at hl 0 rfl) ?_
    refine q_get hB hW qc_6 0 rfl 4 (by decide) k375 rfl d_HFacts_add_14 ?_
    refine lv_iload_n hx hb d_HFacts_add_17 rfl (lv_at hl 1 rfl) ?_
    refine q_iast hB hW 1 0 rfl rfl (qin 0 rfl (by decide) (by decide)) (ws' := [(h0, .inr (6, [.ref a1, .ref a2, .ref a3, .ref a4, .int 0, .ref a5, .ref a6, .int 0, .int 0])), (a1, .inl (cA, 12, .inl (upd (fun _ => 0) (0 : Int32).toNatClampNeg v))), (a2, .inl (cA, 12, .inl (fun _ => 0))), (a3, .inl (cA, 12, .inl (fun _ => 0)))]) rfl d_HFacts_add_18 (fun H locs hW => ?_)
    refine lv_aload_n hx hb d_HFacts_add_19 rfl (lv_at hl 0 rfl) ?_
    refine q_get hB hW qc_6 0 rfl 1 (by decide) k371 rfl d_HFacts_add_20 ?_
    refine lv_aload_n hx hb d_HFacts_add_23 rfl (lv_at hl 0 rfl) ?_
    refine q_get hB hW qc_6 0 rfl 4 (by decide) k375 rfl d_HFacts_add_24 ?_
    refine lv_iconst (v := 1) hx hb d_HFacts_add_27 (by decide) ?_
    refine q_iast hB hW 2 0 rfl rfl (qin 0 rfl (by decide) (by decide)) (ws' := [(h0, .inr (6, [.ref a1, .ref a2, .ref a3, .ref a4, .int 0, .ref a5, .ref a6, .int 0, .int 0])), (a1, .inl (cA, 12, .inl (upd (fun _ => 0) (0 : Int32).toNatClampNeg v))), (a2, .inl (cA, 12, .inl (upd (fun _ => 0) (0 : Int32).toNatClampNeg 1))), (a3, .inl (cA, 12, .inl (fun _ => 0)))]) rfl d_HFacts_add_28 (fun H locs hW => ?_)
    refine lv_aload_n hx hb d_HFacts_add_29 rfl (lv_at hl 0 rfl) ?_
    refine q_get hB hW qc_6 0 rfl 2 (by decide) k373 rfl d_HFacts_add_30 ?_
    refine lv_aload_n hx hb d_HFacts_add_33 rfl (lv_at hl 0 rfl) ?_
    refine q_get hB hW qc_6 0 rfl 4 (by decide) k375 rfl d_HFacts_add_34 ?_
    refine lv_iload_n hx hb d_HFacts_add_37 rfl (lv_at hl 2 rfl) ?_
    refine q_iast hB hW 3 0 rfl rfl (qin 0 rfl (by decide) (by decide)) (ws' := [(h0, .inr (6, [.ref a1, .ref a2, .ref a3, .ref a4, .int 0, .ref a5, .ref a6, .int 0, .int 0])), (a1, .inl (cA, 12, .inl (upd (fun _ => 0) (0 : Int32).toNatClampNeg v))), (a2, .inl (cA, 12, .inl (upd (fun _ => 0) (0 : Int32).toNatClampNeg 1))), (a3, .inl (cA, 12, .inl (upd (fun _ => 0) (0 : Int32).toNatClampNeg w)))]) rfl d_HFacts_add_38 (fun H locs hW => ?_)
    refine lv_aload_n hx hb d_HFacts_add_39 rfl (lv_at hl 0 rfl) ?_
    refine lv_dup hx hb d_HFacts_add_40 rfl ?_
    refine q_get hB hW qc_6 0 rfl 4 (by decide) k375 rfl d_HFacts_add_41 ?_
    refine lv_iconst (v := 1) hx hb d_HFacts_add_44 (by decide) ?_
    refine lv_iadd hx hb d_HFacts_add_45 ?_
    refine q_topi (v := 1) (by decide) ?_
    refine q_put hB hW qc_6 0 rfl 4 (by decide) k375 rfl  rfl rfl (Nat.le_of_ble_eq_true rfl) (ws' := [(h0, .inr (6, [.ref a1, .ref a2, .ref a3, .ref a4, .int 1, .ref a5, .ref a6, .int 0, .int 0])), (a1, .inl (cA, 12, .inl (upd (fun _ => 0) (0 : Int32).toNatClampNeg v))), (a2, .inl (cA, 12, .inl (upd (fun _ => 0) (0 : Int32).toNatClampNeg 1))), (a3, .inl (cA, 12, .inl (upd (fun _ => 0) (0 : Int32).toNatClampNeg w)))]) rfl d_HFacts_add_46 (fun H locs hW => ?_)
    refine lv_aload_n hx hb d_HFacts_add_49 rfl (lv_at hl 0 rfl) ?_
    refine q_get hB hW qc_6 0 rfl 4 (by decide) k375 rfl d_HFacts_add_50 ?_
    refine lv_iconst (v := 1) hx hb d_HFacts_add_53 (by decide) ?_
    refine lv_isub hx hb d_HFacts_add_54 ?_
    refine q_topi (v := 0) (by decide) ?_
    exact W.iret hx hb hB.2.2.1 (fun t ht hWm => ⟨⟨0, (), rfl, rfl, qH_end hW [] [] rfl rfl rfl rfl ht hWm⟩, hW.2.2.2.1.F ht⟩) hW.2.2.2.1.2.2 d_HFacts_add_55 hB.2.2.2.2.2.2.1
set_option maxHeartbeats 4000000 in
set_option maxRecDepth 100000 in
/-- strengthenBySleep, without a palace -/
theorem cw_Mi_sleep (l : Launch) (D : va_G) (sz : Nat) (h0 a1 a2 : Nat) (hr : Int32) : Met l ⟨"Locihall$Mind", "strengthenBySleep", "()I"⟩ (.code ⟨"Locihall$Mind", "strengthenBySleep", "()I"⟩ prog_6_method_18_code 5 (some .int) :: qw) ({ frames := 0, cells := 0, slots := 0, locals := 0 }) (va_Pc [.ref h0] (qPre D [(h0, .inr (9, [.ref a1, .ref a2, .int 0, .int hr, .int 20, .int 0]))] [] sz)) (va_Qi (fun (r0 : Int32) (_ : Unit) => r0 = 0) (fun _ => qPost D [] [] (va_A [(h0, .inr (9, [.ref a1, .ref a2, .int 0, .int hr, .int 20, .int 0]))] sz)) (va_A [(h0, .inr (9, [.ref a1, .ref a2, .int 0, .int hr, .int 20, .int 0]))] sz)) 0 0 (va_A [(h0, .inr (9, [.ref a1, .ref a2, .int 0, .int hr, .int 20, .int 0]))] sz) := by
  refine q_start (by decide) (Nat.le_of_ble_eq_true rfl) ?_
  intro p e s m below meth c hB hin hpre ls hl
  have hW := qH_start hpre
  have hx := hB.1
  have hb := hB.2.1
  have hq := hB.2.2.2.2.2.1
  have hl : lv_has ls 5 [(0, .ref h0)] := hl
  refine lv_iconst (v := 0) hx hb d_HMind_strengthenBySleep_0 (by decide) ?_
  refine lv_istore_n (lv' := [(1, .int 0), (0, .ref h0)]) hx hb d_HMind_strengthenBySleep_1 rfl hl (by decide) rfl (fun ls hl => ?_)
  refine lv_iconst (v := 0) hx hb d_HMind_strengthenBySleep_2 (by decide) ?_
  refine lv_istore_n (lv' := [(2, .int 0), (1, .int 0), (0, .ref h0)]) hx hb d_HMind_strengthenBySleep_3 rfl hl (by decide) rfl (fun ls hl => ?_)
  refine lv_iload_n hx hb d_HMind_strengthenBySleep_4 rfl (lv_at hl 0 rfl) ?_
  refine lv_aload_n hx hb d_HMind_strengthenBySleep_5 rfl (lv_at hl 2 rfl) ?_
  refine q_get hB hW qc_9 0 rfl 2 (by decide) k225 rfl d_HMind_strengthenBySleep_6 ?_
  refine lv_icmp_ge (tgt := 59) hx hb d_HMind_strengthenBySleep_9 (by decide) (fun c_1 => ?_) (fun c_1 => ?_)
  · refine lv_aload_n hx hb d_HMind_strengthenBySleep_59 rfl (lv_at hl 2 rfl) ?_
    refine lv_aload_n hx hb d_HMind_strengthenBySleep_60 rfl (lv_at hl 2 rfl) ?_
    refine q_get hB hW qc_9 0 rfl 3 (by decide) k227 rfl d_HMind_strengthenBySleep_61 ?_
    refine q_put hB hW qc_9 0 rfl 5 (by decide) k231 rfl  rfl rfl (Nat.le_of_ble_eq_true rfl) (ws' := [(h0, .inr (9, [.ref a1, .ref a2, .int 0, .int hr, .int 20, .int hr]))]) rfl d_HMind_strengthenBySleep_64 (fun H locs hW => ?_)
    refine lv_iload_n hx hb d_HMind_strengthenBySleep_67 rfl (lv_at hl 1 rfl) ?_
    exact W.iret hx hb hB.2.2.1 (fun t ht hWm => ⟨⟨0, (), rfl, rfl, qH_end hW [] [] rfl rfl rfl rfl ht hWm⟩, hW.2.2.2.1.F ht⟩) hW.2.2.2.1.2.2 d_HMind_strengthenBySleep_68 hB.2.2.2.2.2.2.1
  · exact absurd c_1 (by decide)
end
