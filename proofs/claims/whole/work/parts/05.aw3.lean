/-! ===== AW: fields, arrays, makings, calls, ends ===== -/
abbrev aI (g : GX) (n : Nat) (f : Nat → Int32) : va_E := .inl (g.2.2 0, n, .inl f)
abbrev aJ (g : GX) (n : Nat) (f : Nat → Int64) : va_E := .inl (g.2.2 1, n, .inr (.inl f))
abbrev aZ (g : GX) (n : Nat) (f : Nat → Int32) : va_E := .inl (g.2.2 2, n, .inl f)
abbrev aQ (g : GX) (t0 n : Nat) (f : Nat → Option Nat) : va_E := .inl (g.2.2 t0, n, .inr (.inr (.inr (.inr f))))
def ix (i : Int32) (n k : Nat) : Prop := vp_in i n ∧ i.toNatClampNeg = k
theorem ix.lt {i : Int32} {n k : Nat} (h : ix i n k) : k < n := by
  obtain ⟨h1, rfl⟩ := h
  exact Nat.not_le.mp fun q => h1 (Or.inr q)
theorem ix_nI {n k : Nat} (h : k < n) (hn : n < 2 ^ 31) : ix (nI k) n k := ⟨nI_in h hn, nI_clamp (Nat.lt_trans h hn)⟩
theorem va_one {D : va_G} {q : Nat × va_E} {H : Heap} (h : va_at D vwCl q H) : va_P D vwCl [q] H := fun j x hx => by
  match j, hx with
  | 0, hx => cases hx; exact h
  | j + 1, hx => simp at hx
theorem AHu_dm {V : AH} {sz a : Nat} {e : va_E} (h : V a ≠ none ∨ sz ≤ a) : Dm V sz (AHu V a e) sz := ⟨Nat.le_refl _, fun b hb => by
  by_cases hq : b = a
  · subst hq; exact h
  · simp only [AHu, hq, if_false] at hb; exact Or.inl hb⟩
theorem AHu_dmN {V : AH} {sz : Nat} {e : va_E} : Dm V sz (AHu V sz e) (sz + 1) := ⟨Nat.le_succ _, fun b hb => by
  by_cases hq : b = sz
  · subst hq; exact Or.inr (Nat.le_refl _)
  · simp only [AHu, hq, if_false] at hb; exact Or.inl hb⟩
theorem hv_upd {g : GX} {V : AH} {sz a : Nat} {e : va_E} {H H' : Heap} (h : HV g V sz H) (he : va_at g.2.1 vwCl (a, e) H') (hz : H'.size = H.size) (ho : ∀ q, q ≠ a → H'[q]? = H[q]?) : HV g (AHu V a e) sz H' := by
  refine ⟨hz.trans h.1, fun b x hb => ?_⟩
  by_cases hq : b = a
  · subst hq
    simp only [AHu, if_true] at hb
    cases hb
    exact he
  · simp only [AHu, hq, if_false] at hb
    exact (h.2 b x hb).kept (ho b hq)
theorem hv_new {g : GX} {V : AH} {sz : Nat} {e : va_E} {H H' : Heap} (h : HV g V sz H) (he : va_at g.2.1 vwCl (sz, e) H') (hz : H'.size = sz + 1) (ho : ∀ q, q < sz → H'[q]? = H[q]?) : HV g (AHu V sz e) (sz + 1) H' := by
  refine ⟨hz, fun b x hb => ?_⟩
  by_cases hq : b = sz
  · subst hq
    simp only [AHu, if_true] at hb
    cases hb
    exact he
  · simp only [AHu, hq, if_false] at hb
    have hl : b < H.size := (h.2 b x hb).lt
    exact (h.2 b x hb).kept (ho b (by rw [← h.1]; exact hl))
theorem au_in {V : AH} {a b : Nat} {e : va_E} {A : Nat → Prop} (hA : ∀ a, V a ≠ none → A a) (ha : A a) (hb : AHu V a e b ≠ none) : A b := by
  by_cases hq : b = a
  · subst hq; exact ha
  · simp only [AHu, hq, if_false] at hb; exact hA b hb
theorem ne_of_some {V : AH} {a : Nat} {e : va_E} (h : V a = some e) : V a ≠ none := by rw [h]; exact fun q => by cases q
section AWH
variable {g : GX} {M : MI} {d pc : Nat} {lv : List (Nat × Value)} {st : List Value} {V : AH} {sz : Nat} {Q : AQ}
theorem aw_get {idx ci k a : Nat} {fin : Bool} {tk : FieldType} {fs : List Value} {v : Value} (hf : FLk M.1.cls idx ci k fin tk) (hd : decode M.2.1 pc = .ok (.getfield idx, 3)) (hV : V a = some (.inr (ci, fs))) (hv : fs[k]? = some v) (kk : AW g M d (pc + 3) lv (v :: st) V sz Q) : AW g M d pc lv (.ref a :: st) V sz Q :=
  AW.step (fun _ _ _ _ _ _ _ _ _ _ _ _ _ _ ls _ hC h hH _ _ kk => by
    obtain ⟨hx, hb, -, -, -, ho, -, hts, ⟨hK, hN⟩, -⟩ := hC
    obtain ⟨C, T, N, ty, ⟨hc, hin, hty, hnm⟩, hk, hT, -, -, hl⟩ := hf
    have hP := va_one (hH.2 _ _ hV)
    subst hT
    rcases hl with hl | ⟨host, hl⟩
    · exact va_get hx hb hts hin ho hK hP 0 rfl hc k hk (hts _ hl) (fun _ z => z) hv hd (kk ls h)
    · exact va_getN hx hb hts hin ho hK hP 0 rfl hc k hk ((hN.1 _ hl).use (nest_onT (List.mem_filter.mp hl).2)) (fun _ z => z) hv hd (kk ls h)) kk
theorem q0 {Q : AQ} {g : GX} {M : MI} {d pc : Nat} {lv : List (Nat × Value)} {st : List Value} {V : AH} {sz : Nat} (k : AW g M d pc lv st V sz Q) : AW g M d pc lv st V sz (fun r V' sz' dc ds => Q r V' sz' (0 + dc) (0 + ds)) := k.mono (fun r V' sz' dc ds h => by rw [Nat.zero_add, Nat.zero_add]; exact h)
theorem aw_put {idx ci k a : Nat} {tk : FieldType} {fs : List Value} {v : Value} (hf : FLk M.1.cls idx ci k false tk) (hd : decode M.2.1 pc = .ok (.putfield idx, 3)) (hV : V a = some (.inr (ci, fs))) (hn : narrow tk v = v) (hfit : fits tk v = true) (hl : k < fs.length) (kk : AW g M d (pc + 3) lv st (AHu V a (.inr (ci, fs.set k v))) sz Q) : AW g M d pc lv (v :: .ref a :: st) V sz Q :=
  AW.hstep (pc1 := 0) (ps1 := 0) (AHu_dm (Or.inl (ne_of_some hV))) (fun A p e R s m args below meth c H locs cells slots ls ZQ hC h hH hA hS _ _ kk => by
    obtain ⟨hx, hb, -, -, -, ho, -, hts, ⟨hK, hN⟩, -⟩ := hC
    obtain ⟨C, T, N, ty, ⟨hc, hin, hty, hnm⟩, hk, hT, hfin, hty2, hl2⟩ := hf
    subst hT
    subst hty2
    have hap := va_apart (own := M.1.cls) hts hin ty hty hnm hK hc
    obtain ⟨r, h1, cell, q1, q2, q3, q4⟩ := hH.2 _ _ hV
    have hr : r = ((T k).1, T, N) := Option.some.inj (h1.symm.trans hc)
    subst hr
    obtain ⟨hSl, hfc, kC, hkC, hkind⟩ := hK.1 ci _ hc
    obtain ⟨cf, kf, fi, f, hi, hsl⟩ := hSl k hk
    have hlay := hts _ (hin _ (u_in_lay hk))
    unfold u_lay at hlay
    rw [if_neg (by rw [hfin]; decide)] at hlay
    have hst := (u_facts hfc hkC (u_lays hts hin hk) hi).1
    have h6 := u_store hfc hkC hkind hlay hi (hty k hk) hn hfit
    have fin : ∀ H' : Heap, H'[a]? = some (cell.setSlot f.slot v) → H'.size = H.size → (∀ q, q ≠ a → H'[q]? = H[q]?) → W p g.1 e R s m args below meth c H' (locs ++ [⟨a, f.slot⟩]) cells slots ZQ (F0 m (pc + 3) ls st) := by
      intro H' e1 e2 e3
      rw [hsl] at e1 ⊢
      exact kk H' _ (hv_upd hH ⟨_, hc, t_OB.to (V := updV (vp_V fs) k v) ⟨_, e1, q2, q3, t_set q4 hap hk v⟩ (fun j _ => vp_updV_set hl v j)⟩ e2 e3) (fun b hb => au_in hA (hA a (ne_of_some hV)) hb) (hS.put e2 e3 (hA a (ne_of_some hV)))
    rcases hl2 with hl2 | ⟨host, hl2⟩
    · exact W.putK hx hb (f := f) ⟨ho, hts _ hl2, ⟨_, _, _, hi⟩, hst⟩ (by rw [q2]; exact h6) q1 q3 (by rw [hsl]; exact k2_hasslot (q4 k hk)) rfl rfl hd fin
    · exact va_WputK hx hb (f := f) ho ((hN.1 _ hl2).use (nest_onT (List.mem_filter.mp hl2).2)) hi hst (by rw [q2]; exact h6) q1 q3 (by rw [hsl]; exact k2_hasslot (q4 k hk)) rfl rfl hd fin) (q0 kk)
/-- a final field, in its own constructor -/
theorem aw_putF {idx ci k a : Nat} {tk : FieldType} {fs : List Value} {v : Value} (hf : FLk M.1.cls idx ci k true tk) (hcl : vwCl[ci]?.map (·.1) = some M.1.cls) (hnm0 : M.1.name = "<init>") (hd : decode M.2.1 pc = .ok (.putfield idx, 3)) (hV : V a = some (.inr (ci, fs))) (hn : narrow tk v = v) (hfit : fits tk v = true) (hl : k < fs.length) (kk : AW g M d (pc + 3) lv st (AHu V a (.inr (ci, fs.set k v))) sz Q) : AW g M d pc lv (v :: .ref a :: st) V sz Q :=
  AW.hstep (pc1 := 0) (ps1 := 0) (AHu_dm (Or.inl (ne_of_some hV))) (fun A p e R s m args below meth c H locs cells slots ls ZQ hC h hH hA hS _ _ kk => by
    obtain ⟨hx, hb, -, -, -, ho, hmn, hts, ⟨hK, hN⟩, -⟩ := hC
    obtain ⟨C, T, N, ty, ⟨hc, hin, hty, hnm⟩, hk, hT, hfin, hty2, hl2⟩ := hf
    have hCo : C = M.1.cls := by rw [hc] at hcl; exact Option.some.inj hcl
    subst hCo
    subst hty2
    have hap := va_apart (own := M.1.cls) hts hin ty hty hnm hK hc
    obtain ⟨r, h1, cell, q1, q2, q3, q4⟩ := hH.2 _ _ hV
    have hr : r = (M.1.cls, T, N) := Option.some.inj (h1.symm.trans hc)
    subst hr
    obtain ⟨hSl, hfc, kC, hkC, hkind⟩ := hK.1 ci _ hc
    obtain ⟨cf, kf, fi, f, hi, hsl⟩ := hSl k hk
    have hlay := hts _ (hin _ (u_in_lay hk))
    unfold u_lay at hlay
    rw [if_pos hfin] at hlay
    have hst := (u_facts hfc hkC (u_lays hts hin hk) hi).1
    have hcf : m.cls = cf := by
      obtain ⟨_, _, c', _, _, _, -, -, hf', -, -, -, hown2, -⟩ := Cond.laysFinal_spec hlay
      have e1 : c' = cf := by have := hi.symm.trans hf'; simp at this; exact this.1.symm
      rw [hT] at hown2
      rw [← e1]; exact Option.some.inj (ho.symm.trans hown2)
    have h6 := u_fits hfc hkC hkind (Or.inr hlay) hi (hty k hk) hn hfit
    have hi' : s.fieldFound? M.1.cls (T k).2.1 (T k).2.2.1 = some (cf, kf, fi, f) := by rw [← hT]; exact hi
    rcases hl2 with hl2 | ⟨host, hl2⟩
    · refine W.putFinK hx hb ho (hts _ hl2) hi' hst hcf (hmn.trans hnm0) (by rw [q2]; exact h6) q1 q3 (by rw [hsl]; exact k2_hasslot (q4 k hk)) rfl rfl hd fun H' e1 e2 e3 => ?_
      rw [hsl] at e1 ⊢
      exact kk H' _ (hv_upd hH ⟨_, hc, t_OB.to (V := updV (vp_V fs) k v) ⟨_, e1, q2, q3, t_set q4 hap hk v⟩ (fun j _ => vp_updV_set hl v j)⟩ e2 e3) (fun b hb => au_in hA (hA a (ne_of_some hV)) hb) (hS.put e2 e3 (hA a (ne_of_some hV)))
    · refine va_Wputf hx hb ho ((hN.1 _ hl2).use (nest_onT (List.mem_filter.mp hl2).2)) hi' hst (Or.inr ⟨hcf, hmn.trans hnm0⟩) q1 (by rw [q3]; exact fun h => by cases h) (by rw [hsl]; exact k2_hasslot (q4 k hk)) h6.1 (by rw [q2, q3]; exact h6.2) rfl rfl hd ?_
      have ha : a < H.size := (Array.getElem?_eq_some_iff.mp q1).1
      have e1 : (H.setIfInBounds a (cell.setSlot f.slot v))[a]? = some (cell.setSlot f.slot v) := by simp [Array.getElem?_setIfInBounds, ha]
      have e2 : (H.setIfInBounds a (cell.setSlot f.slot v)).size = H.size := by simp
      have e3 : ∀ q, q ≠ a → (H.setIfInBounds a (cell.setSlot f.slot v))[q]? = H[q]? := fun q hq => by simp [Array.getElem?_setIfInBounds, Ne.symm hq]
      generalize H.setIfInBounds a (cell.setSlot f.slot v) = H' at e1 e2 e3 ⊢
      rw [hsl] at e1 ⊢
      exact kk H' _ (hv_upd hH ⟨_, hc, t_OB.to (V := updV (vp_V fs) k v) ⟨_, e1, q2, q3, t_set q4 hap hk v⟩ (fun j _ => vp_updV_set hl v j)⟩ e2 e3) (fun b hb => au_in hA (hA a (ne_of_some hV)) hb) (hS.put e2 e3 (hA a (ne_of_some hV)))) (q0 kk)
-- arrays
theorem aw_iald {a n k : Nat} {f : Nat → Int32} {i : Int32} (hd : decode M.2.1 pc = .ok (.iaload, 1)) (hV : V a = some (aI g n f)) (hi : ix i n k) (kk : AW g M d (pc + 1) lv (.int (f k) :: st) V sz Q) : AW g M d pc lv (.int i :: .ref a :: st) V sz Q :=
  AW.step (fun _ _ _ _ _ _ _ _ _ _ _ _ _ _ ls _ hC h hH _ _ kk => by
    obtain ⟨hx, hb, -, -, -, ho, -, hts, ⟨hK, hN⟩, -⟩ := hC
    obtain ⟨hi, rfl⟩ := hi
    exact va_iald hx hb hK (va_one (hH.2 _ _ hV)) 0 0 rfl rfl hi hd (kk ls h)) kk
theorem aw_lald {a n k : Nat} {f : Nat → Int64} {i : Int32} (hd : decode M.2.1 pc = .ok (.laload, 1)) (hV : V a = some (aJ g n f)) (hi : ix i n k) (kk : AW g M d (pc + 1) lv (.long (f k) :: st) V sz Q) : AW g M d pc lv (.int i :: .ref a :: st) V sz Q :=
  AW.step (fun _ _ _ _ _ _ _ _ _ _ _ _ _ _ ls _ hC h hH _ _ kk => by
    obtain ⟨hx, hb, -, -, -, ho, -, hts, ⟨hK, hN⟩, -⟩ := hC
    obtain ⟨hi, rfl⟩ := hi
    exact va_lald hx hb hK (va_one (hH.2 _ _ hV)) 0 1 rfl rfl hi hd (kk ls h)) kk
theorem aw_zald {a n k : Nat} {f : Nat → Int32} {i : Int32} (hd : decode M.2.1 pc = .ok (.baload, 1)) (hV : V a = some (aZ g n f)) (hi : ix i n k) (kk : AW g M d (pc + 1) lv (.int (f k) :: st) V sz Q) : AW g M d pc lv (.int i :: .ref a :: st) V sz Q :=
  AW.step (fun _ _ _ _ _ _ _ _ _ _ _ _ _ _ ls _ hC h hH _ _ kk => by
    obtain ⟨hx, hb, -, -, -, ho, -, hts, ⟨hK, hN⟩, -⟩ := hC
    obtain ⟨hi, rfl⟩ := hi
    exact va_zald hx hb hK (va_one (hH.2 _ _ hV)) 0 2 rfl rfl hi hd (kk ls h)) kk
theorem aw_aald {a n k t0 : Nat} {C : String} {f : Nat → Option Nat} {i : Int32} (ht : (tysOf g)[t0]? = some (g.2.2 t0, .object C)) (hd : decode M.2.1 pc = .ok (.aaload, 1)) (hV : V a = some (aQ g t0 n f)) (hi : ix i n k) (kk : AW g M d (pc + 1) lv (va_rf (f k) :: st) V sz Q) : AW g M d pc lv (.int i :: .ref a :: st) V sz Q :=
  AW.step (fun _ _ _ _ _ _ _ _ _ _ _ _ _ _ ls _ hC h hH _ _ kk => by
    obtain ⟨hx, hb, -, -, -, ho, -, hts, ⟨hK, hN⟩, -⟩ := hC
    obtain ⟨hi, rfl⟩ := hi
    exact va_aldq hx hb hK (va_one (hH.2 _ _ hV)) 0 t0 rfl ht hi hd (kk ls h)) kk
theorem tys_lt {g : GX} {t0 : Nat} {q : ClassId × FieldType} (ht : (tysOf g)[t0]? = some q) : t0 < 6 := (List.getElem?_eq_some_iff.mp ht).1
theorem aw_alen {a t0 : Nat} {x : vp_A} {q : FieldType} (ht : (tysOf g)[t0]? = some (g.2.2 t0, q)) (hd : decode M.2.1 pc = .ok (.arraylength, 1)) (hV : V a = some (.inl (g.2.2 t0, x))) (kk : AW g M d (pc + 1) lv (.int (nI x.1) :: st) V sz Q) : AW g M d pc lv (.ref a :: st) V sz Q :=
  AW.step (fun _ _ _ _ _ _ _ _ _ _ _ _ _ _ ls _ hC h hH _ _ kk => by
    obtain ⟨hx, hb, -, -, -, ho, -, hts, ⟨hK, hN⟩, -⟩ := hC
    exact va_alen hx hb hK (va_one (hH.2 _ _ hV)) 0 t0 rfl ht rfl hd (kk ls h)) kk
theorem aw_iast {a n k : Nat} {f : Nat → Int32} {i x : Int32} (hd : decode M.2.1 pc = .ok (.iastore, 1)) (hV : V a = some (aI g n f)) (hi : ix i n k) (kk : AW g M d (pc + 1) lv st (AHu V a (aI g n (upd f k x))) sz Q) : AW g M d pc lv (.int x :: .int i :: .ref a :: st) V sz Q :=
  AW.hstep (pc1 := 0) (ps1 := 0) (AHu_dm (Or.inl (ne_of_some hV))) (fun A p e R s m args below meth c H locs cells slots ls ZQ hC h hH hA hS _ _ kk => by
    obtain ⟨hx, hb, -, -, -, ho, -, hts, ⟨hK, hN⟩, -⟩ := hC
    obtain ⟨hi, rfl⟩ := hi
    refine W.iast hx hb (hH.2 _ _ hV) ((hK.2 0 _ rfl).1 n (fun j => .int (f j))) (fun q => by cases q) (by show ¬ (i < 0 ∨ (arrV _ _ _).slots.size ≤ _); rw [arrV_size]; exact hi) rfl rfl hd fun H1 e1 e2 e3 => ?_
    refine kk H1 _ (hv_upd hH ?_ e2 e3) (fun b hb => au_in hA (hA a (ne_of_some hV)) hb) (hS.put e2 e3 (hA a (ne_of_some hV)))
    show H1[a]? = some (vp_cell _ _)
    rw [e1, vp_cell_i, vp_cell_i, arrV_store]
    congr 2
    funext q
    by_cases hq : q = i.toNatClampNeg
    · subst hq; simp [updV, upd]
    · simp [updV, upd, hq]) (q0 kk)
theorem aw_last {a n k : Nat} {f : Nat → Int64} {i : Int32} {x : Int64} (hd : decode M.2.1 pc = .ok (.lastore, 1)) (hV : V a = some (aJ g n f)) (hi : ix i n k) (kk : AW g M d (pc + 1) lv st (AHu V a (aJ g n (vp_updL f k x))) sz Q) : AW g M d pc lv (.long x :: .int i :: .ref a :: st) V sz Q :=
  AW.hstep (pc1 := 0) (ps1 := 0) (AHu_dm (Or.inl (ne_of_some hV))) (fun A p e R s m args below meth c H locs cells slots ls ZQ hC h hH hA hS _ _ kk => by
    obtain ⟨hx, hb, -, -, -, ho, -, hts, ⟨hK, hN⟩, -⟩ := hC
    obtain ⟨hi, rfl⟩ := hi
    refine W.last hx hb (hH.2 _ _ hV) ((hK.2 1 _ rfl).1 n (fun j => .long (f j))) (fun q => by cases q) (by show ¬ (i < 0 ∨ (arrV _ _ _).slots.size ≤ _); rw [arrV_size]; exact hi) rfl rfl hd fun H1 e1 e2 e3 => ?_
    refine kk H1 _ (hv_upd hH ?_ e2 e3) (fun b hb => au_in hA (hA a (ne_of_some hV)) hb) (hS.put e2 e3 (hA a (ne_of_some hV)))
    show H1[a]? = some (vp_cell _ _)
    rw [e1, vp_cell_l, vp_cell_l, arrV_store]
    congr 2
    funext q
    by_cases hq : q = i.toNatClampNeg
    · subst hq; simp [updV, vp_updL]
    · simp [updV, vp_updL, hq]) (q0 kk)
theorem aw_zast {a n k : Nat} {f : Nat → Int32} {i x : Int32} (hd : decode M.2.1 pc = .ok (.bastore, 1)) (hV : V a = some (aZ g n f)) (hi : ix i n k) (hx01 : narrow .boolean (.int x) = .int x) (kk : AW g M d (pc + 1) lv st (AHu V a (aZ g n (upd f k x))) sz Q) : AW g M d pc lv (.int x :: .int i :: .ref a :: st) V sz Q :=
  AW.hstep (pc1 := 0) (ps1 := 0) (AHu_dm (Or.inl (ne_of_some hV))) (fun A p e R s m args below meth c H locs cells slots ls ZQ hC h hH hA hS _ _ kk => by
    obtain ⟨hx, hb, -, -, -, ho, -, hts, ⟨hK, hN⟩, -⟩ := hC
    obtain ⟨hi, rfl⟩ := hi
    refine W.zast hx hb (hH.2 _ _ hV) ((hK.2 2 _ rfl).1 n (fun j => .int (f j))) (fun q => by cases q) (by show ¬ (i < 0 ∨ (arrV _ _ _).slots.size ≤ _); rw [arrV_size]; exact hi) rfl rfl hd fun H1 e1 e2 e3 => ?_
    refine kk H1 _ (hv_upd hH ?_ e2 e3) (fun b hb => au_in hA (hA a (ne_of_some hV)) hb) (hS.put e2 e3 (hA a (ne_of_some hV)))
    show H1[a]? = some (vp_cell _ _)
    rw [e1, hx01, vp_cell_i, vp_cell_i, arrV_store]
    congr 2
    funext q
    by_cases hq : q = i.toNatClampNeg
    · subst hq; simp [updV, upd]
    · simp [updV, upd, hq]) (q0 kk)
theorem aw_aast {a n k v t0 ci : Nat} {r : vw_C} {f : Nat → Option Nat} {i : Int32} {vs : List Value} (ht : (tysOf g)[t0]? = some (g.2.2 t0, .object r.1)) (hc : vwCl[ci]? = some r) (hd : decode M.2.1 pc = .ok (.aastore, 1)) (hV : V a = some (aQ g t0 n f)) (hv : V v = some (.inr (ci, vs))) (hi : ix i n k) (kk : AW g M d (pc + 1) lv st (AHu V a (aQ g t0 n (va_up f k (some v)))) sz Q) : AW g M d pc lv (.ref v :: .int i :: .ref a :: st) V sz Q :=
  AW.hstep (pc1 := 0) (ps1 := 0) (AHu_dm (Or.inl (ne_of_some hV))) (fun A p e R s m args below meth c H locs cells slots ls ZQ hC h hH hA hS _ _ kk => by
    obtain ⟨hx, hb, -, -, -, ho, -, hts, ⟨hK, hN⟩, -⟩ := hC
    obtain ⟨hi, rfl⟩ := hi
    have hlt : i.toNatClampNeg < n := Nat.not_le.mp fun q => hi (Or.inr q)
    have h0 : ¬ i < 0 := fun q => hi (Or.inl q)
    obtain ⟨r', hr', cellV, g1, g2, g3, -⟩ := hH.2 _ _ hv
    have hcls := (hK.1 ci r hc).2
    obtain ⟨kA, comp, k1, k2, k3, -⟩ := (hK.2 t0 _ ht).2
    have hcomp : comp = g.2.1.1 ci := Option.some.inj (k3.symm.trans hcls.1)
    subst hcomp
    obtain ⟨kC, hkC, -⟩ := hcls.2
    refine W.aast hx hb (hH.2 _ _ hV) (fun q h => by cases h) (fun h => by cases h) k1 k2 rfl hkC ⟨h0, by show _ < (arrV _ _ _).slots.size; rw [arrV_size]; exact hlt⟩ g1 (fun q h => by rw [g3] at h; cases h) (by rw [g2]; exact hkC) (by rw [g2]; exact va_assign hcls) rfl rfl hd fun H1 e1 e2 e3 => ?_
    refine kk H1 _ (hv_upd hH ?_ e2 e3) (fun b hb => au_in hA (hA a (ne_of_some hV)) hb) (hS.put e2 e3 (hA a (ne_of_some hV)))
    show H1[a]? = some (vp_cell _ _)
    rw [e1, vp_cell_q, vp_cell_q, arrV_store]
    congr 2
    funext q
    by_cases hq : q = i.toNatClampNeg
    · subst hq; simp [updV, va_up, va_rf]
    · simp [updV, va_up, hq]) (q0 kk)
end AWH
