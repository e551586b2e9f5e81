/-! ===== the layer AW: an abstract heap (address to cell), a rule an instruction, exact cost ===== -/
abbrev AH : Type := Nat → Option va_E
abbrev GX : Type := Launch × va_G × (Nat → ClassId)
def tysOf (g : GX) : List (ClassId × FieldType) := [(g.2.2 0, .int), (g.2.2 1, .long), (g.2.2 2, .boolean), (g.2.2 3, .object "LatticeBench$Table"), (g.2.2 4, .object "LatticeBench$Row"), (g.2.2 5, .object "LatticeBench$Whole")]
def HV (g : GX) (V : AH) (sz : Nat) (H : Heap) : Prop := H.size = sz ∧ ∀ (a : Nat) (e : va_E), V a = some e → va_at g.2.1 vwCl (a, e) H
def AHu (V : AH) (a : Nat) (e : va_E) : AH := fun b => if b = a then some e else V b
def NK (U : State) : Prop := (∀ w ∈ NWs, va_Nw w U) ∧ va_AO "LatticeBench$Table" U ∧ va_AO "LatticeBench$Row" U ∧ va_AO "LatticeBench$Whole" U
def KK (g : GX) (U : State) : Prop := va_K g.2.1 vwCl (tysOf g) U ∧ NK U
theorem nk_warm {s U : State} (hW : s.WarmedH U.vm) (h : NK s) : NK U := by
  obtain ⟨h1, h2, h3, h4⟩ := h
  refine ⟨fun w hw => ?_, h2.moved hW.alike, h3.moved hW.alike, h4.moved hW.alike⟩
  have hn : isNest w = true := (List.mem_filter.mp hw).2
  have hz := h1 w hw
  cases w <;> first | exact hz.warmF hW | exact hz.warmM hW | exact absurd hn (by simp [isNest])
theorem kk_warm {g : GX} {s U : State} (hW : s.WarmedH U.vm) (h : KK g s) : KK g U := ⟨h.1.moved hW.alike, nk_warm hW h.2⟩
theorem nest_onT {w : Cond} (h : isNest w = true) : w.onTables = true := by
  cases w <;> first | rfl | exact absurd h (by simp [isNest])
theorem kk_vm {g : GX} {s U : State} (hv : s.vm = U.vm) (h : KK g s) : KK g U := by
  have ha : s.vm.Alike U.vm := by rw [hv]; exact Vm.Alike.refl U.vm
  obtain ⟨h1, h2, h3, h4, h5⟩ := h
  exact ⟨h1.moved ha, fun w hw => (h2 w hw).same (nest_onT (List.mem_filter.mp hw).2) hv, h3.moved ha, h4.moved ha, h5.moved ha⟩
/-- a method: name, bytes, locals, answer's type; and what else its frame knows -/
abbrev MI : Type := MethodName × ByteArray × Nat × Option FieldType × ((Nat → Prop) → State → Prop)
def noX : (Nat → Prop) → State → Prop := fun _ _ => True
abbrev AQ : Type := Option Value → AH → Nat → Nat → Nat → Prop
def RetAt (cc : ByteArray) (ret : Option FieldType) (pc : Nat) (st : List Value) (r : Option Value) : Prop :=
  (ret = none ∧ r = none ∧ st = [] ∧ decode cc pc = .ok (.return_, 1)) ∨
  (∃ (v : Int32) (ty : FieldType), ret = some ty ∧ narrow ty (.int v) = .int v ∧ r = some (.int v) ∧ st = [.int v] ∧ decode cc pc = .ok (.ireturn, 1)) ∨
  (∃ v : Int64, ret = some .long ∧ r = some (.long v) ∧ st = [.long v] ∧ decode cc pc = .ok (.lreturn, 1)) ∨
  (∃ (v : Value) (rt : FieldType), ret = some rt ∧ ((∃ n, rt = .object n) ∨ ∃ t, rt = .array t) ∧ (v = .null ∨ ∃ a, v = .ref a) ∧ r = some v ∧ st = [v] ∧ decode cc pc = .ok (.areturn, 1))
def Cx (g : GX) (M : MI) (d : Nat) (A : Nat → Prop) (p : Program) (R : Room) (s : State) (m : MethodId) (args : Array Value) (meth : Method) (c : Code) : Prop :=
  p.tables.exec = Jvm.exec ∧ c.code = M.2.1 ∧ c.maxLocals = M.2.2.1 ∧ meth.sig.returnType = M.2.2.2.1 ∧ meth.locks = false ∧ s.vm.findClass M.1.cls = some m.cls ∧ meth.name = M.1.name ∧ (∀ w ∈ GW, w.before args s = true) ∧ KK g s ∧ d ≤ R.frames ∧ 40 * d ≤ R.locals ∧ (∀ q, s.heap.size ≤ q → A q) ∧ M.2.2.2.2 A s
/-- the cells behind are those before, and new ones -/
def Dm (V : AH) (sz : Nat) (V' : AH) (sz' : Nat) : Prop := sz ≤ sz' ∧ ∀ a, V' a ≠ none → V a ≠ none ∨ sz ≤ a
theorem Dm.rf {V : AH} {sz : Nat} : Dm V sz V sz := ⟨Nat.le_refl _, fun _ h => Or.inl h⟩
theorem Dm.tr {V V1 V2 : AH} {sz sz1 sz2 : Nat} (h : Dm V sz V1 sz1) (k : Dm V1 sz1 V2 sz2) : Dm V sz V2 sz2 := ⟨Nat.le_trans h.1 k.1, fun a ha => (k.2 a ha).elim (fun q => h.2 a q) (fun q => Or.inr (Nat.le_trans h.1 q))⟩
/-- from this place the machine comes to a return: its answer, heap and exact cost are as Q says -/
def AW (g : GX) (M : MI) (d pc : Nat) (lv : List (Nat × Value)) (st : List Value) (V : AH) (sz : Nat) (Q : AQ) : Prop :=
  ∃ (r : Option Value) (V' : AH) (sz' dc ds : Nat), Q r V' sz' dc ds ∧ Dm V sz V' sz' ∧
    ∀ (A : Nat → Prop) (p : Program) (e : Env) (R : Room) (s : State) (m : MethodId) (args : Array Value) (below : List Frame) (meth : Method) (c : Code) (H : Heap) (locs : List Loc) (cells slots : Nat) (ls : Array Slot) (ZQ : State → Prop),
      Cx g M d A p R s m args meth c → lv_has ls M.2.2.1 lv → HV g V sz H → (∀ a, V a ≠ none → A a) → va_S A s.heap H locs → cells + dc ≤ R.cells → slots + ds ≤ R.slots →
      (∀ (H' : Heap) (locs' : List Loc) (ls' : Array Slot) (pc' : Nat) (st' : List Value), RetAt M.2.1 M.2.2.2.1 pc' st' r → HV g V' sz' H' → (∀ a, V' a ≠ none → A a) → va_S A s.heap H' locs' → W p g.1 e R s m args below meth c H' locs' (cells + dc) (slots + ds) ZQ (F0 m pc' ls' st')) →
      W p g.1 e R s m args below meth c H locs cells slots ZQ (F0 m pc ls st)
section AWR
variable {g : GX} {M : MI} {d pc : Nat} {lv : List (Nat × Value)} {st : List Value} {V : AH} {sz : Nat} {Q : AQ}
theorem AW.mono {Q' : AQ} (h : ∀ r V' sz' dc ds, Q r V' sz' dc ds → Q' r V' sz' dc ds) (k : AW g M d pc lv st V sz Q) : AW g M d pc lv st V sz Q' := by
  obtain ⟨r, V', sz', dc, ds, hQ, hD, hk⟩ := k
  exact ⟨r, V', sz', dc, ds, h _ _ _ _ _ hQ, hD, hk⟩
/-- a step that leaves the heap -/
theorem AW.step {pc' : Nat} {lv' : List (Nat × Value)} {st' : List Value}
    (h : ∀ (A : Nat → Prop) (p : Program) (e : Env) (R : Room) (s : State) (m : MethodId) (args : Array Value) (below : List Frame) (meth : Method) (c : Code) (H : Heap) (locs : List Loc) (cells slots : Nat) (ls : Array Slot) (ZQ : State → Prop), Cx g M d A p R s m args meth c → lv_has ls M.2.2.1 lv → HV g V sz H → (∀ a, V a ≠ none → A a) → va_S A s.heap H locs →
      (∀ ls' : Array Slot, lv_has ls' M.2.2.1 lv' → W p g.1 e R s m args below meth c H locs cells slots ZQ (F0 m pc' ls' st')) → W p g.1 e R s m args below meth c H locs cells slots ZQ (F0 m pc ls st))
    (k : AW g M d pc' lv' st' V sz Q) : AW g M d pc lv st V sz Q := by
  obtain ⟨r, V', sz', dc, ds, hQ, hD, hk⟩ := k
  refine ⟨r, V', sz', dc, ds, hQ, hD, fun A p e R s m args below meth c H locs cells slots ls ZQ hC hl hV hA hS h1 h2 hf => ?_⟩
  exact h A p e R s m args below meth c H locs cells slots ls ZQ hC hl hV hA hS (fun ls' hl' => hk A p e R s m args below meth c H locs cells slots ls' ZQ hC hl' hV hA hS h1 h2 hf)
/-- a step that changes the heap: V1 behind it, cells and slots paid -/
theorem AW.hstep {pc' : Nat} {st' : List Value} {V1 : AH} {sz1 pc1 ps1 : Nat} (hD1 : Dm V sz V1 sz1)
    (h : ∀ (A : Nat → Prop) (p : Program) (e : Env) (R : Room) (s : State) (m : MethodId) (args : Array Value) (below : List Frame) (meth : Method) (c : Code) (H : Heap) (locs : List Loc) (cells slots : Nat) (ls : Array Slot) (ZQ : State → Prop), Cx g M d A p R s m args meth c → lv_has ls M.2.2.1 lv → HV g V sz H → (∀ a, V a ≠ none → A a) → va_S A s.heap H locs → cells + pc1 ≤ R.cells → slots + ps1 ≤ R.slots →
      (∀ (H' : Heap) (locs' : List Loc), HV g V1 sz1 H' → (∀ a, V1 a ≠ none → A a) → va_S A s.heap H' locs' → W p g.1 e R s m args below meth c H' locs' (cells + pc1) (slots + ps1) ZQ (F0 m pc' ls st')) → W p g.1 e R s m args below meth c H locs cells slots ZQ (F0 m pc ls st))
    (k : AW g M d pc' lv st' V1 sz1 (fun r V' sz' dc ds => Q r V' sz' (pc1 + dc) (ps1 + ds))) : AW g M d pc lv st V sz Q := by
  obtain ⟨r, V', sz', dc, ds, hQ, hD, hk⟩ := k
  refine ⟨r, V', sz', pc1 + dc, ps1 + ds, hQ, hD1.tr hD, fun A p e R s m args below meth c H locs cells slots ls ZQ hC hl hV hA hS h1 h2 hf => ?_⟩
  refine h A p e R s m args below meth c H locs cells slots ls ZQ hC hl hV hA hS (by omega) (by omega) (fun H' locs' hV' hA' hS' => ?_)
  refine hk A p e R s m args below meth c H' locs' _ _ ls ZQ hC hl hV' hA' hS' (by omega) (by omega) (fun H2 locs2 ls2 pc2 st2 q1 q2 q3 q4 => ?_)
  have := hf H2 locs2 ls2 pc2 st2 q1 q2 q3 q4
  rw [show cells + pc1 + dc = cells + (pc1 + dc) by omega, show slots + ps1 + ds = slots + (ps1 + ds) by omega]
  exact this
theorem lk_has {ls : Array Slot} {n i : Nat} {l : List (Nat × Value)} {v : Value} (h : lv_has ls n l) (hk : l.lookup i = some v) : ls[i]? = some (.val v) := by
  refine h.2.2 (i, v) ?_
  clear h
  induction l with
  | nil => simp at hk
  | cons a l ih =>
    obtain ⟨j, w⟩ := a
    rw [List.lookup_cons] at hk
    by_cases hj : i == j
    · simp only [hj] at hk
      cases hk
      have : i = j := by simpa using hj
      subst this
      exact List.mem_cons_self
    · simp only [hj] at hk
      exact List.mem_cons_of_mem _ (ih hk)
def st1 (lv : List (Nat × Value)) (i : Nat) (v : Value) : List (Nat × Value) := (i, v) :: lv.filter (fun q => !(q.1 == i) && !(q.1 + 1 == i && q.2.category == 2))
def st2 (lv : List (Nat × Value)) (i : Nat) (v : Value) : List (Nat × Value) := (i, v) :: lv.filter (fun q => !(q.1 == i) && (!(q.1 == i + 1) && !(q.1 + 1 == i && q.2.category == 2)))
-- constants
theorem aw_iconst {n : Int} {v : Int32} (hd : decode M.2.1 pc = .ok (.iconst n, 1)) (hv : Int32.ofInt n = v) (k : AW g M d (pc + 1) lv (.int v :: st) V sz Q) : AW g M d pc lv st V sz Q :=
  AW.step (fun _ _ _ _ _ _ _ _ _ _ _ _ _ _ ls _ hC hl _ _ _ kk => lv_iconst hC.1 hC.2.1 hd hv (kk ls hl)) k
theorem aw_bipush {n : Int} {v : Int32} (hd : decode M.2.1 pc = .ok (.bipush n, 2)) (hv : (Int8.ofInt n).toInt32 = v) (k : AW g M d (pc + 2) lv (.int v :: st) V sz Q) : AW g M d pc lv st V sz Q :=
  AW.step (fun _ _ _ _ _ _ _ _ _ _ _ _ _ _ ls _ hC hl _ _ _ kk => lv_bipush hC.1 hC.2.1 hd hv (kk ls hl)) k
theorem aw_sipush {n : Int} {v : Int32} (hd : decode M.2.1 pc = .ok (.sipush n, 3)) (hv : (Int16.ofInt n).toInt32 = v) (k : AW g M d (pc + 3) lv (.int v :: st) V sz Q) : AW g M d pc lv st V sz Q :=
  AW.step (fun _ _ _ _ _ _ _ _ _ _ _ _ _ _ ls _ hC hl _ _ _ kk => lv_sipush hC.1 hC.2.1 hd hv (kk ls hl)) k
theorem aw_lconst {n : Fin 2} {v : Int64} (hd : decode M.2.1 pc = .ok (.lconst n, 1)) (hv : Int64.ofNat (n : Nat) = v) (k : AW g M d (pc + 1) lv (.long v :: st) V sz Q) : AW g M d pc lv st V sz Q :=
  AW.step (fun _ _ _ _ _ _ _ _ _ _ _ _ _ _ ls _ hC hl _ _ _ kk => lv_lconst hC.1 hC.2.1 hd hv (kk ls hl)) k
theorem aw_ldc {idx : Nat} {v : Int32} (hc : Cond.constant M.1.cls idx v ∈ GW) (hd : decode M.2.1 pc = .ok (.ldc idx, 2)) (k : AW g M d (pc + 2) lv (.int v :: st) V sz Q) : AW g M d pc lv st V sz Q :=
  AW.step (fun _ _ _ _ _ _ _ _ _ _ _ _ _ _ ls _ hC hl _ _ _ kk => by
    obtain ⟨hx, hb, -, -, -, ho, -, hts, -⟩ := hC
    exact lv_ldc hx hb ho (hts _ hc) hd (kk ls hl)) k
theorem aw_ldcw {idx : Nat} {v : Int32} (hc : Cond.constant M.1.cls idx v ∈ GW) (hd : decode M.2.1 pc = .ok (.ldc_w idx, 3)) (k : AW g M d (pc + 3) lv (.int v :: st) V sz Q) : AW g M d pc lv st V sz Q :=
  AW.step (fun _ _ _ _ _ _ _ _ _ _ _ _ _ _ ls _ hC hl _ _ _ kk => by
    obtain ⟨hx, hb, -, -, -, ho, -, hts, -⟩ := hC
    exact lv_ldcw hx hb ho (hts _ hc) hd (kk ls hl)) k
theorem aw_ldc2 {idx : Nat} {v : Int64} (hc : Cond.constantLong M.1.cls idx v ∈ GW) (hd : decode M.2.1 pc = .ok (.ldc2_w idx, 3)) (k : AW g M d (pc + 3) lv (.long v :: st) V sz Q) : AW g M d pc lv st V sz Q :=
  AW.step (fun _ _ _ _ _ _ _ _ _ _ _ _ _ _ ls _ hC hl _ _ _ kk => by
    obtain ⟨hx, hb, -, -, -, ho, -, hts, -⟩ := hC
    exact lv_ldc2 hx hb ho (hts _ hc) hd (kk ls hl)) k
theorem aw_null (hd : decode M.2.1 pc = .ok (.aconst_null, 1)) (k : AW g M d (pc + 1) lv (.null :: st) V sz Q) : AW g M d pc lv st V sz Q :=
  AW.step (fun _ _ _ _ _ _ _ _ _ _ _ _ _ _ ls _ hC hl _ _ _ kk => lv_null hC.1 hC.2.1 hd (kk ls hl)) k
-- locals
theorem aw_iload_n {n : Fin 4} {x : Int32} (hd : decode M.2.1 pc = .ok (.iload_n n, 1)) (hl : lv.lookup (n : Nat) = some (.int x)) (k : AW g M d (pc + 1) lv (.int x :: st) V sz Q) : AW g M d pc lv st V sz Q :=
  AW.step (fun _ _ _ _ _ _ _ _ _ _ _ _ _ _ ls _ hC h _ _ _ kk => lv_iload_n hC.1 hC.2.1 hd rfl (lk_has h hl) (kk ls h)) k
theorem aw_iload {i : Nat} {x : Int32} (hd : decode M.2.1 pc = .ok (.iload i, 2)) (hl : lv.lookup i = some (.int x)) (k : AW g M d (pc + 2) lv (.int x :: st) V sz Q) : AW g M d pc lv st V sz Q :=
  AW.step (fun _ _ _ _ _ _ _ _ _ _ _ _ _ _ ls _ hC h _ _ _ kk => lv_iload hC.1 hC.2.1 hd (lk_has h hl) (kk ls h)) k
theorem aw_lload_n {n : Fin 4} {x : Int64} (hd : decode M.2.1 pc = .ok (.lload_n n, 1)) (hl : lv.lookup (n : Nat) = some (.long x)) (k : AW g M d (pc + 1) lv (.long x :: st) V sz Q) : AW g M d pc lv st V sz Q :=
  AW.step (fun _ _ _ _ _ _ _ _ _ _ _ _ _ _ ls _ hC h _ _ _ kk => lv_lload_n hC.1 hC.2.1 hd rfl (lk_has h hl) (kk ls h)) k
theorem aw_lload {i : Nat} {x : Int64} (hd : decode M.2.1 pc = .ok (.lload i, 2)) (hl : lv.lookup i = some (.long x)) (k : AW g M d (pc + 2) lv (.long x :: st) V sz Q) : AW g M d pc lv st V sz Q :=
  AW.step (fun _ _ _ _ _ _ _ _ _ _ _ _ _ _ ls _ hC h _ _ _ kk => lv_lload hC.1 hC.2.1 hd (lk_has h hl) (kk ls h)) k
theorem aw_aload_n {n : Fin 4} {v : Value} (hd : decode M.2.1 pc = .ok (.aload_n n, 1)) (hl : lv.lookup (n : Nat) = some v) (hr : v = .null ∨ ∃ x : Nat, v = .ref x) (k : AW g M d (pc + 1) lv (v :: st) V sz Q) : AW g M d pc lv st V sz Q :=
  AW.step (fun _ _ _ _ _ _ _ _ _ _ _ _ _ _ ls _ hC h _ _ _ kk => by
    rcases hr with rfl | ⟨x, rfl⟩
    · exact lv_aload_nN hC.1 hC.2.1 hd rfl (lk_has h hl) (kk ls h)
    · exact lv_aload_n hC.1 hC.2.1 hd rfl (lk_has h hl) (kk ls h)) k
theorem aw_aload {i : Nat} {v : Value} (hd : decode M.2.1 pc = .ok (.aload i, 2)) (hl : lv.lookup i = some v) (hr : v = .null ∨ ∃ x : Nat, v = .ref x) (k : AW g M d (pc + 2) lv (v :: st) V sz Q) : AW g M d pc lv st V sz Q :=
  AW.step (fun _ _ _ _ _ _ _ _ _ _ _ _ _ _ ls _ hC h _ _ _ kk => by
    rcases hr with rfl | ⟨x, rfl⟩
    · exact lv_aloadN hC.1 hC.2.1 hd (lk_has h hl) (kk ls h)
    · exact lv_aload hC.1 hC.2.1 hd (lk_has h hl) (kk ls h)) k
theorem aw_istore_n {n : Fin 4} {x : Int32} (hd : decode M.2.1 pc = .ok (.istore_n n, 1)) (hn : (n : Nat) < M.2.2.1) (k : AW g M d (pc + 1) (st1 lv (n : Nat) (.int x)) st V sz Q) : AW g M d pc lv (.int x :: st) V sz Q :=
  AW.step (fun _ _ _ _ _ _ _ _ _ _ _ _ _ _ _ _ hC h _ _ _ kk => lv_istore_n hC.1 hC.2.1 hd rfl h hn rfl kk) k
theorem aw_istore {i : Nat} {x : Int32} (hd : decode M.2.1 pc = .ok (.istore i, 2)) (hn : i < M.2.2.1) (k : AW g M d (pc + 2) (st1 lv i (.int x)) st V sz Q) : AW g M d pc lv (.int x :: st) V sz Q :=
  AW.step (fun _ _ _ _ _ _ _ _ _ _ _ _ _ _ _ _ hC h _ _ _ kk => lv_istore hC.1 hC.2.1 hd h hn rfl kk) k
theorem aw_lstore_n {n : Fin 4} {x : Int64} (hd : decode M.2.1 pc = .ok (.lstore_n n, 1)) (hn : (n : Nat) + 1 < M.2.2.1) (k : AW g M d (pc + 1) (st2 lv (n : Nat) (.long x)) st V sz Q) : AW g M d pc lv (.long x :: st) V sz Q :=
  AW.step (fun _ _ _ _ _ _ _ _ _ _ _ _ _ _ _ _ hC h _ _ _ kk => lv_lstore_n hC.1 hC.2.1 hd rfl h hn rfl kk) k
theorem aw_lstore {i : Nat} {x : Int64} (hd : decode M.2.1 pc = .ok (.lstore i, 2)) (hn : i + 1 < M.2.2.1) (k : AW g M d (pc + 2) (st2 lv i (.long x)) st V sz Q) : AW g M d pc lv (.long x :: st) V sz Q :=
  AW.step (fun _ _ _ _ _ _ _ _ _ _ _ _ _ _ _ _ hC h _ _ _ kk => lv_lstore hC.1 hC.2.1 hd h hn rfl kk) k
theorem aw_astore_n {n : Fin 4} {v : Value} (hd : decode M.2.1 pc = .ok (.astore_n n, 1)) (hn : (n : Nat) < M.2.2.1) (hr : v = .null ∨ ∃ x : Nat, v = .ref x) (k : AW g M d (pc + 1) (st1 lv (n : Nat) v) st V sz Q) : AW g M d pc lv (v :: st) V sz Q :=
  AW.step (fun _ _ _ _ _ _ _ _ _ _ _ _ _ _ _ _ hC h _ _ _ kk => by
    rcases hr with rfl | ⟨x, rfl⟩
    · exact lv_astore_nN hC.1 hC.2.1 hd rfl h hn rfl kk
    · exact lv_astore_n hC.1 hC.2.1 hd rfl h hn rfl kk) k
theorem aw_astore {i : Nat} {v : Value} (hd : decode M.2.1 pc = .ok (.astore i, 2)) (hn : i < M.2.2.1) (hr : v = .null ∨ ∃ x : Nat, v = .ref x) (k : AW g M d (pc + 2) (st1 lv i v) st V sz Q) : AW g M d pc lv (v :: st) V sz Q :=
  AW.step (fun _ _ _ _ _ _ _ _ _ _ _ _ _ _ _ _ hC h _ _ _ kk => by
    rcases hr with rfl | ⟨x, rfl⟩
    · exact lv_astoreN hC.1 hC.2.1 hd h hn rfl kk
    · exact lv_astore hC.1 hC.2.1 hd h hn rfl kk) k
theorem lk_pos {i : Nat} : ∀ {l : List (Nat × Value)} {v : Value}, l.lookup i = some v → ∃ j : Nat, l[j]? = some (i, v)
  | [], v, h => by simp at h
  | (j, w) :: l, v, h => by
    rw [List.lookup_cons] at h
    by_cases hj : i == j
    · simp only [hj] at h
      cases h
      have : i = j := by simpa using hj
      subst this
      exact ⟨0, rfl⟩
    · simp only [hj] at h
      obtain ⟨q, hq⟩ := lk_pos h
      exact ⟨q + 1, hq⟩
theorem aw_iinc {i : Nat} {n : Int} {x : Int32} (hd : decode M.2.1 pc = .ok (.iinc i n, 3)) (hl : lv.lookup i = some (.int x)) (hn : i < M.2.2.1) (k : AW g M d (pc + 3) (st1 lv i (.int (x + Int32.ofInt n))) st V sz Q) : AW g M d pc lv st V sz Q :=
  AW.step (fun _ _ _ _ _ _ _ _ _ _ _ _ _ _ _ _ hC h _ _ _ kk => by
    obtain ⟨j, hj⟩ := lk_pos hl
    exact lv_iinc hC.1 hC.2.1 hd h hj rfl hn rfl kk) k
end AWR
