/-! ===== AW: makings, calls, ends; AMet, a method's contract with exact cost ===== -/
def NLf (own : String) (idx ci N : Nat) (fs : List Value) : Prop := ∃ (C : String) (T : u_T) (ty : Nat → FieldType), ClK ci C T N ty ∧ Cond.classLink own idx C ∈ GW ∧ Cond.instantiable C N ∈ GW ∧ Cond.initialized C ∈ GW ∧ ∀ j, j < N → defaultValue (ty j) = vp_V fs j
theorem gi_sub {ws : List Cond} (h : ∀ w ∈ ws, w ∈ GW) : GoodIn GW ws := fun w hw => ⟨h w hw, good_of_word (List.mem_filter.mp (h w hw)).2⟩
/-- the cells that a call may change: those that are known, and new ones -/
def AF (V : AH) (sz : Nat) : Nat → Prop := fun q => V q ≠ none ∨ sz ≤ q
def mws (M : MI) : List Cond := .code M.1 M.2.1 M.2.2.1 M.2.2.2.1 :: GW
def AMet (g : GX) (M : MI) (d : Nat) (As : List Value) (V : AH) (sz : Nat) (Q : AQ) : Prop :=
  ∃ (r : Option Value) (V' : AH) (sz' mc ms : Nat), Q r V' sz' mc ms ∧ Dm V sz V' sz' ∧ Met g.1 M.1 (mws M) { frames := d, cells := mc, slots := ms, locals := 40 * d } (va_Pc As (fun U => HV g V sz U.heap ∧ KK g U)) (fun _ st oc t => oc = .returned r ∧ HV g V' sz' t.heap ∧ va_F (AF V sz) st t) mc ms (AF V sz)
theorem AMet.mono {g : GX} {M : MI} {d : Nat} {As : List Value} {V : AH} {sz : Nat} {Q Q' : AQ} (h : ∀ r V' sz' mc ms, Q r V' sz' mc ms → Q' r V' sz' mc ms) (k : AMet g M d As V sz Q) : AMet g M d As V sz Q' := by
  obtain ⟨r, V', sz', mc, ms, hQ, hk⟩ := k
  exact ⟨r, V', sz', mc, ms, h _ _ _ _ _ hQ, hk⟩
theorem AMet.of {g : GX} {M : MI} {d : Nat} {As : List Value} {V : AH} {sz : Nat} {Q : AQ} (hy : plainName M.1.cls = true) (hX : M.2.2.2.2 = noX) (hn : (lg_sl As).length ≤ M.2.2.1) (k : AW g M d 0 (lv_args 0 As) [] V sz Q) : AMet g M d As V sz Q := by
  obtain ⟨r, V', sz', dc, ds, hQ, hD, hk⟩ := k
  refine ⟨r, V', sz', dc, ds, hQ, hD, ?_⟩
  refine Met.ofW (cc := M.2.1) (maxL := M.2.2.1) (ret := M.2.2.2.1) hy rfl ?_
  intro p e s m args below meth c s₁ B hml hv
  obtain ⟨rfl, hH, hKK⟩ := hv
  have hts := atoms_spec (ws := mws M) B.pre
  have hl := lv_entry As (n := M.2.2.1) hn
  rw [lg_entry_eq]
  generalize (lg_sl As ++ List.replicate (M.2.2.1 - (lg_sl As).length) Slot.unset).toArray = ls at hl ⊢
  have hlocks := B.notSynchronized
  have hC : Cx g M d (AF V sz) p (headSpec (mws M) { frames := d, cells := dc, slots := ds, locals := 40 * d }).room s m As.toArray meth c :=
    ⟨B.exec, B.bytes, hml, B.returns, B.notSynchronized, findClass_of_methodNamed B.named, (name_of_methodNamed B.named B.method).1, fun w hw => hts w (List.mem_cons_of_mem _ hw), hKK, Nat.le_refl _, Nat.le_refl _, fun q hq => Or.inr (by rw [← hH.1]; exact hq), by rw [hX]; trivial⟩
  refine hk (AF V sz) p e _ s m As.toArray below meth c s.heap [] 0 0 ls _ hC hl hH (fun a ha => Or.inl ha) va_S.rf (by rw [Nat.zero_add]; exact Nat.le_refl _) (by rw [Nat.zero_add]; exact Nat.le_refl _) (fun H' locs' ls' pc' st' hR hH' hA' hS' => ?_)
  rw [Nat.zero_add, Nat.zero_add]
  have hpost : ∀ t : State, t.heap = H' → s.WarmedH t.vm → (fun (_ : Array Value) (st : State) (oc : Outcome) (t : State) => oc = .returned r ∧ HV g V' sz' t.heap ∧ va_F (AF V sz) st t) As.toArray s (.returned r) t := fun t ht _ => ⟨rfl, by rw [ht]; exact hH', hS'.F ht⟩
  rcases hR with ⟨h1, h2, h3, h4⟩ | ⟨v, ty, h1, h2, h3, h4, h5⟩ | ⟨v, h1, h2, h3, h4⟩ | ⟨v, rt, h1, h2, h3, h4, h5, h6⟩
  · subst h2; subst h3
    exact W.vret B.exec B.bytes (B.returns.trans h1) hpost (fun q hq => hS'.2.2 q hq) h4 hlocks
  · subst h3; subst h4
    exact W.zret B.exec B.bytes (B.returns.trans h1) h2 hpost (fun q hq => hS'.2.2 q hq) h5 hlocks
  · subst h2; subst h3
    exact W.lret B.exec B.bytes (B.returns.trans h1) hpost (fun q hq => hS'.2.2 q hq) h4 hlocks
  · subst h4; subst h5
    exact W.aret B.exec B.bytes (B.returns.trans h1) h2 h3 hpost (fun q hq => hS'.2.2 q hq) h6 hlocks
section AWC
variable {g : GX} {M : MI} {d pc : Nat} {lv : List (Nat × Value)} {st : List Value} {V : AH} {sz : Nat} {Q : AQ}
-- ends
theorem aw_ret (hd : decode M.2.1 pc = .ok (.return_, 1)) (hr : M.2.2.2.1 = none) (hQ : Q none V sz 0 0) : AW g M d pc lv [] V sz Q :=
  ⟨none, V, sz, 0, 0, hQ, Dm.rf, fun A p e R s m args below meth c H locs cells slots ls ZQ _ _ hH hA hS _ _ kk => kk H locs ls pc [] (Or.inl ⟨hr, rfl, rfl, hd⟩) hH hA hS⟩
theorem aw_iret {v : Int32} {ty : FieldType} (hd : decode M.2.1 pc = .ok (.ireturn, 1)) (hr : M.2.2.2.1 = some ty) (hn : narrow ty (.int v) = .int v) (hQ : Q (some (.int v)) V sz 0 0) : AW g M d pc lv [.int v] V sz Q :=
  ⟨some (.int v), V, sz, 0, 0, hQ, Dm.rf, fun A p e R s m args below meth c H locs cells slots ls ZQ _ _ hH hA hS _ _ kk => kk H locs ls pc [.int v] (Or.inr (Or.inl ⟨v, ty, hr, hn, rfl, rfl, hd⟩)) hH hA hS⟩
theorem aw_lret {v : Int64} (hd : decode M.2.1 pc = .ok (.lreturn, 1)) (hr : M.2.2.2.1 = some .long) (hQ : Q (some (.long v)) V sz 0 0) : AW g M d pc lv [.long v] V sz Q :=
  ⟨some (.long v), V, sz, 0, 0, hQ, Dm.rf, fun A p e R s m args below meth c H locs cells slots ls ZQ _ _ hH hA hS _ _ kk => kk H locs ls pc [.long v] (Or.inr (Or.inr (Or.inl ⟨v, hr, rfl, rfl, hd⟩))) hH hA hS⟩
theorem aw_aret {v : Value} {rt : FieldType} (hd : decode M.2.1 pc = .ok (.areturn, 1)) (hr : M.2.2.2.1 = some rt) (hrt : (∃ n, rt = .object n) ∨ ∃ t, rt = .array t) (hv : v = .null ∨ ∃ a : Nat, v = .ref a) (hQ : Q (some v) V sz 0 0) : AW g M d pc lv [v] V sz Q :=
  ⟨some v, V, sz, 0, 0, hQ, Dm.rf, fun A p e R s m args below meth c H locs cells slots ls ZQ _ _ hH hA hS _ _ kk => kk H locs ls pc [v] (Or.inr (Or.inr (Or.inr ⟨v, rt, hr, hrt, hv, rfl, rfl, hd⟩))) hH hA hS⟩
-- makings
theorem s_new {A : Nat → Prop} {H0 H H' : Heap} {locs : List Loc} {sz : Nat} (hS : va_S A H0 H locs) (hz : H.size = sz) (z1 : H'.size = sz + 1) (o1 : ∀ q, q < sz → H'[q]? = H[q]?) : va_S A H0 H' locs := ⟨by have := hS.1; omega, fun x h1 h2 => (o1 x (by have := hS.1; omega)).trans (hS.2.1 x h1 h2), hS.2.2⟩
theorem aw_new {idx ci N : Nat} {fs : List Value} (hn : NLf M.1.cls idx ci N fs) (hd : decode M.2.1 pc = .ok (.new idx, 3)) (kk : AW g M d (pc + 3) lv (.ref sz :: st) (AHu V sz (.inr (ci, fs))) (sz + 1) (fun r V' sz' dc ds => Q r V' sz' (1 + dc) (N + ds))) : AW g M d pc lv st V sz Q :=
  AW.hstep (pc1 := 1) (ps1 := N) AHu_dmN (fun A p e R s m args below meth c H locs cells slots ls ZQ hC h hH hA hS h1 h2 kk => by
    obtain ⟨hx, hb, -, -, -, ho, -, hts, ⟨hK, hN⟩, -, -, hA2, -⟩ := hC
    obtain ⟨C, T, ty, ⟨hc, hin, hty, hnm⟩, l1, l2, l3, hfs⟩ := hn
    have hKn := hK.1 ci _ hc
    refine W.newcK hx hb ho (hts _ l1) (hts _ l2) (hts _ l3) rfl hd h1 h2 hKn.2.1 hH.1 fun H1 kC hkC e1 z1 o1 => ?_
    exact kk H1 _ (hv_new hH ⟨_, hc, (u_born ty hts hin hKn hkC e1 hty).to hfs⟩ z1 o1) (fun b hb => au_in hA (hA2 sz (by rw [← hH.1]; exact hS.1)) hb) (s_new hS hH.1 z1 o1)) kk
theorem aw_newa {at0 : ArrayType} {t0 N : Nat} {n : Int32} {x : vp_A} {ty : FieldType} (hgw : Cond.arrayClass ty ∈ GW) (hty : newarray.typeOf at0 = ty) (ht : (tysOf g)[t0]? = some (g.2.2 t0, ty)) (hRA : ∀ U cA, va_RA U cA ty → U.vm.findClass ("[" ++ ty.toString) = some cA) (hx0 : ∀ cA : ClassId, vp_cell cA x = arrV cA N (fun _ => defaultValue ty)) (hd : decode M.2.1 pc = .ok (.newarray at0, 2)) (hn : ¬ n < 0) (hN : n.toNatClampNeg = N) (hb : N * componentBytes ty ≤ 536870912) (kk : AW g M d (pc + 2) lv (.ref sz :: st) (AHu V sz (.inl (g.2.2 t0, x))) (sz + 1) (fun r V' sz' dc ds => Q r V' sz' (1 + dc) (N + ds))) : AW g M d pc lv (.int n :: st) V sz Q :=
  AW.hstep (pc1 := 1) (ps1 := N) AHu_dmN (fun A p e R s m args below meth c H locs cells slots ls ZQ hC h hH hA hS h1 h2 kk => by
    subst hty
    obtain ⟨hx, hbb, -, -, -, ho, -, hts, ⟨hK, hNN⟩, -, -, hA2, -⟩ := hC
    refine va_newaK hx hbb (hts _ hgw) rfl hd rfl hn hN hb h1 h2 hH.1 fun H1 cA e1 z1 o1 _ hNm => ?_
    have hcA : cA = g.2.2 t0 := Option.some.inj (hNm.symm.trans (hRA _ _ (hK.2 t0 _ ht).2))
    subst hcA
    refine kk H1 _ (hv_new hH ?_ z1 o1) (fun b hb => au_in hA (hA2 sz (by rw [← hH.1]; exact hS.1)) hb) (s_new hS hH.1 z1 o1)
    show H1[sz]? = some (vp_cell _ _)
    rw [hx0]
    exact e1) kk
theorem gw_int : Cond.arrayClass .int ∈ GW := by decide +kernel
theorem gw_long : Cond.arrayClass .long ∈ GW := by decide +kernel
theorem gw_bool : Cond.arrayClass .boolean ∈ GW := by decide +kernel
theorem aw_newI {N : Nat} {n : Int32} (hd : decode M.2.1 pc = .ok (.newarray .int, 2)) (hn : ¬ n < 0) (hN : n.toNatClampNeg = N) (hb : N ≤ 134217728) (kk : AW g M d (pc + 2) lv (.ref sz :: st) (AHu V sz (aI g N (fun _ => 0))) (sz + 1) (fun r V' sz' dc ds => Q r V' sz' (1 + dc) (N + ds))) : AW g M d pc lv (.int n :: st) V sz Q :=
  aw_newa (t0 := 0) gw_int rfl rfl (fun _ _ h => h) (fun cA => by rw [vp_cell_i]; rfl) hd hn hN (by show N * 4 ≤ _; omega) kk
theorem aw_newJ {N : Nat} {n : Int32} (hd : decode M.2.1 pc = .ok (.newarray .long, 2)) (hn : ¬ n < 0) (hN : n.toNatClampNeg = N) (hb : N ≤ 67108864) (kk : AW g M d (pc + 2) lv (.ref sz :: st) (AHu V sz (aJ g N (fun _ => 0))) (sz + 1) (fun r V' sz' dc ds => Q r V' sz' (1 + dc) (N + ds))) : AW g M d pc lv (.int n :: st) V sz Q :=
  aw_newa (t0 := 1) gw_long rfl rfl (fun _ _ h => h) (fun cA => by rw [vp_cell_l]; rfl) hd hn hN (by show N * 8 ≤ _; omega) kk
theorem aw_newZ {N : Nat} {n : Int32} (hd : decode M.2.1 pc = .ok (.newarray .boolean, 2)) (hn : ¬ n < 0) (hN : n.toNatClampNeg = N) (hb : N ≤ 67108864) (kk : AW g M d (pc + 2) lv (.ref sz :: st) (AHu V sz (aZ g N (fun _ => 0))) (sz + 1) (fun r V' sz' dc ds => Q r V' sz' (1 + dc) (N + ds))) : AW g M d pc lv (.int n :: st) V sz Q :=
  aw_newa (t0 := 2) gw_bool rfl rfl (fun _ _ h => h) (fun cA => by rw [vp_cell_i]; rfl) hd hn hN (by show N * 1 ≤ _; omega) kk
theorem aw_newQ {idx t0 N : Nat} {n : Int32} {C : String} (hcl : Cond.classLink M.1.cls idx C ∈ GW) (hao : ∀ U, NK U → va_AO C U) (ht : (tysOf g)[t0]? = some (g.2.2 t0, .object C)) (hd : decode M.2.1 pc = .ok (.anewarray idx, 3)) (hn : ¬ n < 0) (hN : n.toNatClampNeg = N) (hb : N ≤ 134217728) (kk : AW g M d (pc + 3) lv (.ref sz :: st) (AHu V sz (aQ g t0 N (fun _ => none))) (sz + 1) (fun r V' sz' dc ds => Q r V' sz' (1 + dc) (N + ds))) : AW g M d pc lv (.int n :: st) V sz Q :=
  AW.hstep (pc1 := 1) (ps1 := N) AHu_dmN (fun A p e R s m args below meth c H locs cells slots ls ZQ hC h hH hA hS h1 h2 kk => by
    subst hN
    obtain ⟨hx, hbb, -, -, -, ho, -, hts, ⟨hK, hNN⟩, -, -, hA2, -⟩ := hC
    refine W.anew hx hbb ho (hts _ hcl) (hao _ hNN).use rfl hd rfl hn (by omega) h1 h2 fun cA kA comp f1 f2 f3 f4 => ?_
    have hcA : cA = g.2.2 t0 := by
      obtain ⟨_, _, -, -, -, k4⟩ := (hK.2 t0 _ ht).2
      exact Option.some.inj (f1.symm.trans k4)
    subst hcA
    have hz := hH.1
    generalize hH1 : H.push ({ cls := g.2.2 t0, slots := Array.replicate n.toNatClampNeg .null, vm := .none } : Cell) = H1
    have z1 : H1.size = sz + 1 := by rw [← hH1, Array.size_push, hz]
    have e1 : H1[sz]? = some (arrV (g.2.2 t0) n.toNatClampNeg (fun _ => .null)) := by rw [← hH1, ← hz, Array.getElem?_push_size, ← arrV_new]
    have o1 : ∀ q, q < sz → H1[q]? = H[q]? := fun q hq => by rw [← hH1, Array.getElem?_push, if_neg (by omega)]
    rw [hz]
    refine kk H1 _ (hv_new hH ?_ z1 o1) (fun b hb => au_in hA (hA2 sz (by rw [← hH.1]; exact hS.1)) hb) (s_new hS hH.1 z1 o1)
    show H1[sz]? = some (vp_cell _ _)
    rw [vp_cell_q]
    exact e1) kk
-- calls
theorem aw_objinit {idx a : Nat} (ho : MLo M.1.cls idx) (hd : decode M.2.1 pc = .ok (.invokespecial idx, 3)) (h1 : 1 ≤ d) (hst : (st.map Value.category).sum ≤ 8) (k : AW g M d (pc + 3) lv st V sz Q) : AW g M d pc lv (.ref a :: st) V sz Q :=
  AW.step (fun A p e R s m args below meth c H locs cells slots ls ZQ hC h _ _ _ kk => by
    obtain ⟨hx, hb, hml, -, -, hown, -, hts, -, hfr, hlo, -⟩ := hC
    obtain ⟨o1, o2, o3⟩ := ho
    refine W.objInit hx hb hown (hts _ o1) (hts _ o2) (hts _ o3) rfl (h.1.trans hml.symm) rfl hd (by omega) ?_ (kk ls h)
    have h8 : 2 * (F0 m pc ls (.ref a :: st)).monitorRoom + (st.map fun v => v.category).sum ≤ 8 := lv_room hst
    omega) k
/-- behind a call: what every kind of call shares -/
theorem aw_after {As : List Value} {M' : MI} {d' : Nat} {stk rest : List Value} {Q1 : AQ}
    (hc : AMet g M' d' As V sz Q1)
    (run : ∀ (r : Option Value) (V' : AH) (sz' mc ms : Nat) (A : Nat → Prop) (p : Program) (e : Env) (R : Room) (s : State) (m : MethodId) (args : Array Value) (below : List Frame) (meth : Method) (c : Code) (H : Heap) (locs : List Loc) (cells slots : Nat) (ls : Array Slot), Met g.1 M'.1 (mws M') { frames := d', cells := mc, slots := ms, locals := 40 * d' } (va_Pc As (fun U => HV g V sz U.heap ∧ KK g U)) (fun _ st oc t => oc = .returned r ∧ HV g V' sz' t.heap ∧ va_F (AF V sz) st t) mc ms (AF V sz) → Cx g M d A p R s m args meth c → lv_has ls M.2.2.1 lv → HV g V sz H → cells + mc ≤ R.cells ∧ slots + ms ≤ R.slots → va_Run p g.1 e R s m args below meth c H locs cells slots mc ms (F0 m pc ls stk) rest ((fun (_ : Array Value) (st : State) (oc : Outcome) (t : State) => oc = .returned r ∧ HV g V' sz' t.heap ∧ va_F (AF V sz) st t) As.toArray) (AF V sz))
    (kk : ∀ (r : Option Value) (V' : AH) (sz' mc ms : Nat), Q1 r V' sz' mc ms → Dm V sz V' sz' → AW g M d (pc + 3) lv (r.toList ++ rest) V' sz' (fun r2 V2 sz2 dc ds => Q r2 V2 sz2 (mc + dc) (ms + ds))) : AW g M d pc lv stk V sz Q := by
  obtain ⟨r, V1, sz1, mc, ms, hQ1, hD1, hM⟩ := hc
  obtain ⟨r2, V2, sz2, dc, ds, hQ, hD2, hk⟩ := kk r V1 sz1 mc ms hQ1 hD1
  refine ⟨r2, V2, sz2, mc + dc, ms + ds, hQ, hD1.tr hD2, fun A p e R s m args below meth c H locs cells slots ls ZQ hC hl hH hA hS h1 h2 hf => ?_⟩
  intro T hT X
  obtain ⟨v, st₀, t, T', L, h0, X', hL, e1, e2, ⟨hv, hHV, hz, hF⟩, stp⟩ := run r V1 sz1 mc ms A p e R s m args below meth c H locs cells slots ls hM hC hl hH ⟨by omega, by omega⟩ T hT X
  cases hv
  rw [h0] at hz hF
  have hA1 : ∀ q, AF V sz q → A q := fun q hq => hq.elim (fun z => hA q z) (fun z => hC.2.2.2.2.2.2.2.2.2.2.2.1 q (by have := hS.1; have := hH.1; omega))
  have hAV1 : ∀ a, V1 a ≠ none → A a := fun a ha => hA1 a (hD1.2 a ha)
  have hS1 : va_S A s.heap T'.heap (locs ++ L) := by
    refine ⟨Nat.le_trans hS.1 (by rw [e1]; exact hz), fun q q1 q2 => ?_, fun q hq => ?_⟩
    · rw [e1, hF q (Nat.lt_of_lt_of_le q1 hS.1) (fun z => q2 (hA1 q z))]
      exact hS.2.1 q q1 q2
    · rcases List.mem_append.mp hq with z | z
      · exact hS.2.2 q z
      · exact hA1 _ (hL q z)
  obtain ⟨t2, a1, b1⟩ := hk A p e R s m args below meth c T'.heap (locs ++ L) (cells + mc) (slots + ms) ls ZQ hC hl (by rw [e1]; exact hHV) hAV1 hS1 (by omega) (by omega) (fun H' locs' ls' pc' st' q1 q2 q3 q4 => by
    have := hf H' locs' ls' pc' st' q1 q2 q3 q4
    rw [show cells + mc + dc = cells + (mc + dc) by omega, show slots + ms + ds = slots + (ms + ds) by omega]
    exact this) T' rfl X'
  exact ⟨t2, stp t2 a1, b1⟩
theorem pc_blind {As : List Value} : FrameBlind (va_Pc As (fun U => HV g V sz U.heap ∧ KK g U)) := fun a U gg mk q => by
  obtain ⟨q1, q2, q3⟩ := q
  exact ⟨q1, q2, kk_vm (s := U) rfl q3⟩
theorem room_ok {d d' nL fr lo : Nat} (h : d' + 1 ≤ d) (hn : nL ≤ 21) (h1 : d ≤ fr) (h2 : 40 * d ≤ lo) : d' + 1 ≤ fr ∧ 8 + (nL + 11) + 40 * d' ≤ lo := ⟨by omega, by omega⟩
theorem aw_callv {idx ci b nL n d' : Nat} {y : MethodName} {cc : ByteArray} {ret : Option FieldType} {fs As rest stk : List Value} {Q1 : AQ} (hm : MLv M.1.cls idx ci y cc nL ret n) (hd : decode M.2.1 pc = .ok (.invokevirtual idx, 3)) (hV : V b = some (.inr (ci, fs))) (hc : AMet g (y, cc, nL, ret, noX) d' (.ref b :: As) V sz Q1) (hstk : stk = As.reverse ++ .ref b :: rest) (hlen : As.length = n) (hlev : d' + 1 ≤ d) (hst : (rest.map Value.category).sum ≤ 8)
    (kk : ∀ (r : Option Value) (V' : AH) (sz' mc ms : Nat), Q1 r V' sz' mc ms → Dm V sz V' sz' → AW g M d (pc + 3) lv (r.toList ++ rest) V' sz' (fun r2 V2 sz2 dc ds => Q r2 V2 sz2 (mc + dc) (ms + ds))) : AW g M d pc lv stk V sz Q := by
  refine aw_after hc ?_ kk
  intro r V' sz' mc ms A p e R s m args below meth c H locs cells slots ls hM hC hl hH hf
  obtain ⟨hx, hb, hml, hrt, -, ho, -, hts, hKK, hfr, hlo, -⟩ := hC
  obtain ⟨⟨g1, g2, g3, g4, g5, g6⟩, ⟨T, N, hcl⟩, i1, i2, hlk⟩ := hm
  have hgood : GoodIn GW (mws (y, cc, nL, ret, noX)) := gi_sub (fun w hw => (List.mem_cons.mp hw).elim (fun z => by rw [z]; exact g1) (fun z => z))
  have hP := va_one (hH.2 _ _ hV)
  have hpre : PreV s H y.cls b (va_Pc (.ref b :: As) (fun U => HV g V sz U.heap ∧ KK g U)) As := ⟨pc_blind, va_recv hKK.1 hP (ci := ci) (q0 := 0) hcl rfl, fun U hU hW => ⟨rfl, by rw [hU]; exact hH, kk_warm hW hKK⟩⟩
  subst hstk
  rcases hlk with hlk | ⟨host, hlk⟩
  · exact va_runV ⟨hx, hb, hml, ho, hts⟩ hM ⟨callB_of n hts hgood rfl rfl rfl (hts _ g2) (hts _ hlk) ⟨g3, g4, g5⟩ (room_ok hlev g6 hfr hlo), hts _ i1, hts _ i2⟩ hpre rfl hlen hl.1 rfl (lv_room hst) hd hf
  · exact va_runVN ⟨hx, hb, hml, ho, hts⟩ hM ⟨va_cnB n hts hgood rfl rfl rfl (hKK.2.1 _ hlk) (hts _ g2) ⟨g3, g4, g5⟩ (room_ok hlev g6 hfr hlo), hts _ i1, hts _ i2⟩ hpre rfl hlen hl.1 rfl (lv_room hst) hd hf
theorem aw_calls {idx nL n d' : Nat} {y : MethodName} {cc : ByteArray} {ret : Option FieldType} {As rest stk : List Value} {Q1 : AQ} (hm : MLs M.1.cls idx y cc nL ret n) (hd : decode M.2.1 pc = .ok (.invokestatic idx, 3)) (hc : AMet g (y, cc, nL, ret, noX) d' As V sz Q1) (hstk : stk = As.reverse ++ rest) (hlen : As.length = n) (hlev : d' + 1 ≤ d) (hst : (rest.map Value.category).sum ≤ 8)
    (kk : ∀ (r : Option Value) (V' : AH) (sz' mc ms : Nat), Q1 r V' sz' mc ms → Dm V sz V' sz' → AW g M d (pc + 3) lv (r.toList ++ rest) V' sz' (fun r2 V2 sz2 dc ds => Q r2 V2 sz2 (mc + dc) (ms + ds))) : AW g M d pc lv stk V sz Q := by
  refine aw_after hc ?_ kk
  intro r V' sz' mc ms A p e R s m args below meth c H locs cells slots ls hM hC hl hH hf
  obtain ⟨hx, hb, hml, hrt, -, ho, -, hts, hKK, hfr, hlo, -⟩ := hC
  obtain ⟨⟨g1, g2, g3, g4, g5, g6⟩, i1, hlk⟩ := hm
  have hgood : GoodIn GW (mws (y, cc, nL, ret, noX)) := gi_sub (fun w hw => (List.mem_cons.mp hw).elim (fun z => by rw [z]; exact g1) (fun z => z))
  subst hstk
  exact va_runS ⟨hx, hb, hml, ho, hts⟩ hM ⟨callB_of n hts hgood rfl rfl rfl (hts _ g2) (hts _ hlk) ⟨g3, g4, g5⟩ (room_ok hlev g6 hfr hlo), hts _ i1⟩ ⟨pc_blind, fun U hU hW => ⟨rfl, by rw [hU]; exact hH, kk_warm hW hKK⟩⟩ rfl hlen hl.1 rfl (lv_room hst) hd hf
theorem aw_calli {idx b nL n d' : Nat} {y : MethodName} {cc : ByteArray} {As rest stk : List Value} {Q1 : AQ} (hm : MLi M.1.cls idx y cc nL n) (hd : decode M.2.1 pc = .ok (.invokespecial idx, 3)) (hc : AMet g (y, cc, nL, none, noX) d' (.ref b :: As) V sz Q1) (hstk : stk = As.reverse ++ .ref b :: rest) (hlen : As.length = n) (hlev : d' + 1 ≤ d) (hst : (rest.map Value.category).sum ≤ 8)
    (kk : ∀ (r : Option Value) (V' : AH) (sz' mc ms : Nat), Q1 r V' sz' mc ms → Dm V sz V' sz' → AW g M d (pc + 3) lv (r.toList ++ rest) V' sz' (fun r2 V2 sz2 dc ds => Q r2 V2 sz2 (mc + dc) (ms + ds))) : AW g M d pc lv stk V sz Q := by
  refine aw_after hc ?_ kk
  intro r V' sz' mc ms A p e R s m args below meth c H locs cells slots ls hM hC hl hH hf
  obtain ⟨hx, hb, hml, hrt, -, ho, -, hts, hKK, hfr, hlo, -⟩ := hC
  obtain ⟨⟨g1, g2, g3, g4, g5, g6⟩, hnm, i1, hlk⟩ := hm
  have hgood : GoodIn GW (mws (y, cc, nL, none, noX)) := gi_sub (fun w hw => (List.mem_cons.mp hw).elim (fun z => by rw [z]; exact g1) (fun z => z))
  have hpre : PreS s H (va_Pc (.ref b :: As) (fun U => HV g V sz U.heap ∧ KK g U)) (.ref b :: As) := ⟨pc_blind, fun U hU hW => ⟨rfl, by rw [hU]; exact hH, kk_warm hW hKK⟩⟩
  subst hstk
  rcases hlk with hlk | ⟨host, hlk⟩
  · exact va_runI ⟨hx, hb, hml, ho, hts⟩ hM ⟨callB_of n hts hgood rfl rfl rfl (hts _ g2) (hts _ hlk) ⟨g3, g4, g5⟩ (room_ok hlev g6 hfr hlo), hnm, hts _ i1⟩ hpre rfl hlen hl.1 rfl (lv_room hst) hd hf
  · exact va_runIN ⟨hx, hb, hml, ho, hts⟩ hM ⟨va_cnB n hts hgood rfl rfl rfl (hKK.2.1 _ hlk) (hts _ g2) ⟨g3, g4, g5⟩ (room_ok hlev g6 hfr hlo), hnm, hts _ i1⟩ hpre rfl hlen hl.1 rfl (lv_room hst) hd hf
end AWC
