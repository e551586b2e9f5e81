/-! ===== Table ===== -/
/-- a method's end that only changes cells of E -/
def VX (V : AH) (sz : Nat) (E : Nat → Prop) (R : Option Value → AH → Prop) : AQ := fun r V' sz' mc ms => sz = sz' ∧ 0 = mc ∧ 0 = ms ∧ (∀ a, ¬ E a → V' a = V a) ∧ R r V'
theorem VX.stp {g : GX} {M : MI} {d pc : Nat} {lv : List (Nat × Value)} {st : List Value} {V V1 : AH} {sz : Nat} {E : Nat → Prop} {R : Option Value → AH → Prop} (h : ∀ a, ¬ E a → V1 a = V a) (k : AW g M d pc lv st V1 sz (VX V1 sz E R)) : AW g M d pc lv st V1 sz (VX V sz E R) :=
  k.mono (fun _ _ _ _ _ q => ⟨q.1, q.2.1, q.2.2.1, fun a ha => (q.2.2.2.1 a ha).trans (h a ha), q.2.2.2.2⟩)
theorem VX.call {g : GX} {M : MI} {d pc : Nat} {lv : List (Nat × Value)} {st : List Value} {V V1 : AH} {sz : Nat} {E : Nat → Prop} {R : Option Value → AH → Prop} (h : ∀ a, ¬ E a → V1 a = V a) (k : AW g M d pc lv st V1 sz (VX V1 sz E R)) : AW g M d pc lv st V1 sz (fun r V' sz' dc ds => VX V sz E R r V' sz' (0 + dc) (0 + ds)) := q0 (VX.stp h k)
theorem VX.ret {V : AH} {sz : Nat} {E : Nat → Prop} {R : Option Value → AH → Prop} {r : Option Value} (h : R r V) : VX V sz E R r V sz 0 0 := ⟨rfl, rfl, rfl, fun _ _ => rfl, h⟩
theorem WG.vx {g : GX} {ws : List Nat} {SA E : Nat → Prop} {V V' : AH} {sz : Nat} {Z : Nat → Int} {P L : Nat → Nat} (h : WG g ws SA V sz Z P L) (hE : ∀ a, E a → SA a) (hV : ∀ a, ¬ E a → V' a = V a) : WSE g ws SA E V sz L V' sz Z P L 0 0 := by
  obtain ⟨a1, a2, a3, a4, a5⟩ := h
  refine ⟨⟨fun b hb => ?_, fun w hw => (a2 w hw).kept (hV w (fun q => (a5 w (hE w q)).2.1 hw)) (hV _ (fun q => (a5 _ (hE _ q)).2.2 w hw rfl)), a3, a4, a5⟩, Nat.le_refl _, fun a _ ha => hV a ha, fun _ _ => Nat.le_refl _, Nat.le_refl _, Nat.le_refl _⟩
  refine Classical.byCases (p := E b) (fun q => (a5 b (hE b q)).1) (fun q => ?_)
  rw [hV b q] at hb
  exact a1 b hb
def ET (tb na ta : Nat) : Nat → Prop := fun a => a = tb ∨ a = na ∨ a = ta
/-- a Table as it stands -/
def TbV (g : GX) (V : AH) (tb na ta : Nat) (r c : Int) (N H : Nat → Int) : Prop := V tb = some (tbO r c na ta) ∧ V na = some (aIz g 25 N) ∧ V ta = some (aZz g 5 H) ∧ tb ≠ na ∧ tb ≠ ta ∧ na ≠ ta
theorem TbV.kept {g : GX} {V V' : AH} {tb na ta : Nat} {r c : Int} {N H : Nat → Int} (h : TbV g V tb na ta r c N H) (h1 : V' tb = V tb) (h2 : V' na = V na) (h3 : V' ta = V ta) : TbV g V' tb na ta r c N H := ⟨h1.trans h.1, h2.trans h.2.1, h3.trans h.2.2.1, h.2.2.2⟩
theorem TbV.num {g : GX} {V : AH} {tb na ta : Nat} {r c : Int} {N H N' : Nat → Int} (h : TbV g V tb na ta r c N H) : TbV g (AHu V na (aIz g 25 N')) tb na ta r c N' H := by
  obtain ⟨h1, h2, h3, h4, h5, h6⟩ := h
  exact ⟨by rw [AHu_ne h4]; exact h1, AHu_self _ _ _, by rw [AHu_ne h6.symm]; exact h3, h4, h5, h6⟩
theorem TbV.the {g : GX} {V : AH} {tb na ta : Nat} {r c : Int} {N H H' : Nat → Int} (h : TbV g V tb na ta r c N H) : TbV g (AHu V ta (aZz g 5 H')) tb na ta r c N H' := by
  obtain ⟨h1, h2, h3, h4, h5, h6⟩ := h
  exact ⟨by rw [AHu_ne h5]; exact h1, by rw [AHu_ne h6]; exact h2, AHu_self _ _ _, h4, h5, h6⟩
theorem TbV.obj {g : GX} {V : AH} {tb na ta : Nat} {r c r' c' : Int} {N H : Nat → Int} (h : TbV g V tb na ta r c N H) : TbV g (AHu V tb (tbO r' c' na ta)) tb na ta r' c' N H := by
  obtain ⟨h1, h2, h3, h4, h5, h6⟩ := h
  exact ⟨AHu_self _ _ _, by rw [AHu_ne h4.symm]; exact h2, by rw [AHu_ne h5.symm]; exact h3, h4, h5, h6⟩
/-- numbers and leaf i of a table without what stood there -/
def drN (N : Nat → Int) (i m : Nat) : Nat → Int := fun k => if 5 * i ≤ k ∧ k < 5 * i + m then 0 else N k
theorem drN_up (N : Nat → Int) (i m : Nat) : upF (drN N i m) (5 * i + m) 0 = drN N i (m + 1) := by
  funext k
  unfold upF drN
  by_cases h : k = 5 * i + m
  · rw [if_pos h, if_pos (by omega)]
  · rw [if_neg h]
    by_cases h2 : 5 * i ≤ k ∧ k < 5 * i + m
    · rw [if_pos h2, if_pos (by omega)]
    · rw [if_neg h2, if_neg (by omega)]
theorem drN_0 (N : Nat → Int) (i : Nat) : drN N i 0 = N := by funext k; unfold drN; rw [if_neg (by omega)]
abbrev mX3_drop : MI := (yX3_drop, cX3_drop, 3, none, noX)
theorem dX3_drop_0 : decode cX3_drop 0 = .ok (.aload_n 0, 1) := by decide +kernel
theorem dX3_drop_1 : decode cX3_drop 1 = .ok (.getfield 22, 3) := by decide +kernel
theorem dX3_drop_4 : decode cX3_drop 4 = .ok (.iload_n 1, 1) := by decide +kernel
theorem dX3_drop_5 : decode cX3_drop 5 = .ok (.iconst 0, 1) := by decide +kernel
theorem dX3_drop_6 : decode cX3_drop 6 = .ok (.bastore, 1) := by decide +kernel
theorem dX3_drop_7 : decode cX3_drop 7 = .ok (.iconst 0, 1) := by decide +kernel
theorem dX3_drop_8 : decode cX3_drop 8 = .ok (.istore_n 2, 1) := by decide +kernel
theorem dX3_drop_9 : decode cX3_drop 9 = .ok (.iload_n 2, 1) := by decide +kernel
theorem dX3_drop_10 : decode cX3_drop 10 = .ok (.iconst 5, 1) := by decide +kernel
theorem dX3_drop_11 : decode cX3_drop 11 = .ok (.if_icmp .ge 20, 3) := by decide +kernel
theorem dX3_drop_14 : decode cX3_drop 14 = .ok (.aload_n 0, 1) := by decide +kernel
theorem dX3_drop_15 : decode cX3_drop 15 = .ok (.getfield 18, 3) := by decide +kernel
theorem dX3_drop_18 : decode cX3_drop 18 = .ok (.iload_n 1, 1) := by decide +kernel
theorem dX3_drop_19 : decode cX3_drop 19 = .ok (.iconst 5, 1) := by decide +kernel
theorem dX3_drop_20 : decode cX3_drop 20 = .ok (.imul, 1) := by decide +kernel
theorem dX3_drop_21 : decode cX3_drop 21 = .ok (.iload_n 2, 1) := by decide +kernel
theorem dX3_drop_22 : decode cX3_drop 22 = .ok (.iadd, 1) := by decide +kernel
theorem dX3_drop_23 : decode cX3_drop 23 = .ok (.iconst 0, 1) := by decide +kernel
theorem dX3_drop_24 : decode cX3_drop 24 = .ok (.iastore, 1) := by decide +kernel
theorem dX3_drop_25 : decode cX3_drop 25 = .ok (.iinc 2 1, 3) := by decide +kernel
theorem dX3_drop_28 : decode cX3_drop 28 = .ok (.goto (-19), 3) := by decide +kernel
theorem dX3_drop_31 : decode cX3_drop 31 = .ok (.return_, 1) := by decide +kernel
theorem dr_loop (g : GX) (d : Nat) {sz tb na ta i : Nat} {rr cc : Int} {N H : Nat → Int} (hi : i < 5) : ∀ (x m : Nat), m + x = 5 → ∀ {V : AH}, TbV g V tb na ta rr cc (drN N i m) H → AW g mX3_drop d 9 [(2, .int (iZ m)), (0, .ref tb), (1, .int (iZ i))] [] V sz (VX V sz (ET tb na ta) (fun r V' => none = r ∧ TbV g V' tb na ta rr cc (drN N i 5) H))
  | 0, m, hx, V, hT => by
    obtain ⟨h1, h2, h3, h4, h5, h6⟩ := id hT
    refine aw_iload_n dX3_drop_9 (by rfl) ?_
    refine aw_iconstZ dX3_drop_10 ?_
    refine aw_icmp_geZ (tgt := 31) dX3_drop_11 (by decide) (by omega) (by omega) (fun hc_11 => ?_) (fun hc_11 => ?_)
    · refine aw_ret dX3_drop_31 rfl ?_
      obtain rfl : m = 5 := by omega
      exact VX.ret ⟨rfl, hT⟩
    · exact absurd hc_11 (by omega)
  | x + 1, m, hx, V, hT => by
    obtain ⟨h1, h2, h3, h4, h5, h6⟩ := id hT
    have IH := fun m hm => @dr_loop g d sz tb na ta i rr cc N H hi x m hm
    refine aw_iload_n dX3_drop_9 (by rfl) ?_
    refine aw_iconstZ dX3_drop_10 ?_
    refine aw_icmp_geZ (tgt := 31) dX3_drop_11 (by decide) (by omega) (by omega) (fun hc_11 => ?_) (fun hc_11 => ?_)
    · exact absurd hc_11 (by omega)
    · refine aw_aload_n dX3_drop_14 (by rfl) (Or.inr ⟨_, rfl⟩) ?_
      refine aw_get fX3_18 dX3_drop_15 (by assumption) (by rfl) ?_
      refine aw_iload_n dX3_drop_18 (by rfl) ?_
      refine aw_iconstZ dX3_drop_19 ?_
      refine aw_imulZ dX3_drop_20 ?_
      refine aw_iload_n dX3_drop_21 (by rfl) ?_
      refine aw_iaddZ dX3_drop_22 ?_
      refine aw_iconstZ dX3_drop_23 ?_
      refine aw_iastZ (5 * i + m) dX3_drop_24 (by assumption) (by omega) (by omega) (by omega) ?_
      rw [drN_up]
      refine VX.stp (V1 := AHu V na _) (fun a ha => AHu_ne (fun q => ha (Or.inr (Or.inl q)))) ?_
      refine aw_iincZ dX3_drop_25 (by rfl) (by decide) ?_
      refine aw_goto (tgt := 9) dX3_drop_28 (by decide) ?_
      rw [show ((m : Int) + 1) = ((m + 1 : Nat) : Int) by omega]
      refine aw_pk [2, 0, 1] (by rfl) ?_
      exact IH (m + 1) (by omega) hT.num
theorem t_drop (g : GX) (d : Nat) {V : AH} {sz tb na ta i : Nat} {rr cc : Int} {N H : Nat → Int} (hi : i < 5) (hT : TbV g V tb na ta rr cc N H) : AMet g mX3_drop d [.ref tb, .int (iZ i)] V sz (VX V sz (ET tb na ta) (fun r V' => none = r ∧ TbV g V' tb na ta rr cc (drN N i 5) (upF H i 0))) := by
  obtain ⟨h1, h2, h3, h4, h5, h6⟩ := id hT
  refine AMet.of rfl rfl (Nat.le_of_ble_eq_true rfl) ?_
  show AW g mX3_drop d 0 [(0, .ref tb), (1, .int (iZ i))] [] V sz _
  refine aw_aload_n dX3_drop_0 (by rfl) (Or.inr ⟨_, rfl⟩) ?_
  refine aw_get fX3_22 dX3_drop_1 (by assumption) (by rfl) ?_
  refine aw_iload_n dX3_drop_4 (by rfl) ?_
  refine aw_iconstZ dX3_drop_5 ?_
  refine aw_zastZ (i) dX3_drop_6 (by assumption) (by omega) (by omega) (by omega) (Or.inl rfl) ?_
  refine VX.stp (V1 := AHu V ta _) (fun a ha => AHu_ne (fun q => ha (Or.inr (Or.inr q)))) ?_
  refine aw_iconstZ dX3_drop_7 ?_
  refine aw_istore_n dX3_drop_8 (by decide) ?_
  refine aw_pk [2, 0, 1] (by rfl) ?_
  exact dr_loop g d hi 5 0 (by omega) (by rw [drN_0]; exact hT.the)
abbrev mX3_begin : MI := (yX3_begin, cX3_begin, 4, none, noX)
theorem dX3_begin_0 : decode cX3_begin 0 = .ok (.aload_n 0, 1) := by decide +kernel
theorem dX3_begin_1 : decode cX3_begin 1 = .ok (.iload_n 1, 1) := by decide +kernel
theorem dX3_begin_2 : decode cX3_begin 2 = .ok (.putfield 9, 3) := by decide +kernel
theorem dX3_begin_5 : decode cX3_begin 5 = .ok (.aload_n 0, 1) := by decide +kernel
theorem dX3_begin_6 : decode cX3_begin 6 = .ok (.iload_n 2, 1) := by decide +kernel
theorem dX3_begin_7 : decode cX3_begin 7 = .ok (.putfield 15, 3) := by decide +kernel
theorem dX3_begin_10 : decode cX3_begin 10 = .ok (.iconst 0, 1) := by decide +kernel
theorem dX3_begin_11 : decode cX3_begin 11 = .ok (.istore_n 3, 1) := by decide +kernel
theorem dX3_begin_12 : decode cX3_begin 12 = .ok (.iload_n 3, 1) := by decide +kernel
theorem dX3_begin_13 : decode cX3_begin 13 = .ok (.iconst 5, 1) := by decide +kernel
theorem dX3_begin_14 : decode cX3_begin 14 = .ok (.if_icmp .ge 14, 3) := by decide +kernel
theorem dX3_begin_17 : decode cX3_begin 17 = .ok (.aload_n 0, 1) := by decide +kernel
theorem dX3_begin_18 : decode cX3_begin 18 = .ok (.iload_n 3, 1) := by decide +kernel
theorem dX3_begin_19 : decode cX3_begin 19 = .ok (.invokevirtual 26, 3) := by decide +kernel
theorem dX3_begin_22 : decode cX3_begin 22 = .ok (.iinc 3 1, 3) := by decide +kernel
theorem dX3_begin_25 : decode cX3_begin 25 = .ok (.goto (-13), 3) := by decide +kernel
theorem dX3_begin_28 : decode cX3_begin 28 = .ok (.return_, 1) := by decide +kernel
theorem bgN_up (N : Nat → Int) (m : Nat) : drN (fun k => if k < 5 * m then 0 else N k) m 5 = fun k => if k < 5 * (m + 1) then 0 else N k := by
  funext k
  unfold drN
  by_cases h : 5 * m ≤ k ∧ k < 5 * m + 5
  · rw [if_pos h, if_pos (by omega)]
  · rw [if_neg h]
    show (if k < 5 * m then 0 else N k) = _
    by_cases h2 : k < 5 * m
    · rw [if_pos h2, if_pos (by omega)]
    · rw [if_neg h2, if_neg (by omega)]
theorem bgH_up (H : Nat → Int) (m : Nat) : upF (fun k => if k < m then 0 else H k) m 0 = fun k => if k < m + 1 then 0 else H k := by
  funext k
  unfold upF
  by_cases h : k = m
  · rw [if_pos h, if_pos (by omega)]
  · rw [if_neg h]
    show (if k < m then 0 else H k) = _
    by_cases h2 : k < m
    · rw [if_pos h2, if_pos (by omega)]
    · rw [if_neg h2, if_neg (by omega)]
theorem bg_loop (g : GX) (d : Nat) {sz tb na ta : Nat} {rr cc : Int} {N H : Nat → Int} : ∀ (x m : Nat), m + x = 5 → ∀ {V : AH}, TbV g V tb na ta rr cc (fun k => if k < 5 * m then 0 else N k) (fun k => if k < m then 0 else H k) → AW g mX3_begin (d + 1) 12 [(3, .int (iZ m)), (0, .ref tb), (1, .int (iZ rr)), (2, .int (iZ cc))] [] V sz (VX V sz (ET tb na ta) (fun r V' => none = r ∧ TbV g V' tb na ta rr cc (fun k => if k < 25 then 0 else N k) (fun k => if k < 5 then 0 else H k)))
  | 0, m, hx, V, hT => by
    obtain ⟨h1, h2, h3, h4, h5, h6⟩ := id hT
    refine aw_iload_n dX3_begin_12 (by rfl) ?_
    refine aw_iconstZ dX3_begin_13 ?_
    refine aw_icmp_geZ (tgt := 28) dX3_begin_14 (by decide) (by omega) (by omega) (fun hc_14 => ?_) (fun hc_14 => ?_)
    · refine aw_ret dX3_begin_28 rfl ?_
      obtain rfl : m = 5 := by omega
      exact VX.ret ⟨rfl, hT⟩
    · exact absurd hc_14 (by omega)
  | x + 1, m, hx, V, hT => by
    obtain ⟨h1, h2, h3, h4, h5, h6⟩ := id hT
    have IH := fun m hm => @bg_loop g d sz tb na ta rr cc N H x m hm
    refine aw_iload_n dX3_begin_12 (by rfl) ?_
    refine aw_iconstZ dX3_begin_13 ?_
    refine aw_icmp_geZ (tgt := 28) dX3_begin_14 (by decide) (by omega) (by omega) (fun hc_14 => ?_) (fun hc_14 => ?_)
    · exact absurd hc_14 (by omega)
    · refine aw_aload_n dX3_begin_17 (by rfl) (Or.inr ⟨_, rfl⟩) ?_
      refine aw_iload_n dX3_begin_18 (by rfl) ?_
      refine aw_callv vX3_26 dX3_begin_19 h1 (t_drop g d (i := m) (by omega) hT) (by rfl) (by rfl) (by omega) (Nat.le_of_ble_eq_true rfl) ?_
      rintro _ V1 _ _ _ ⟨rfl, rfl, rfl, hE, rfl, hT1⟩ -
      refine VX.call hE ?_
      refine aw_iincZ dX3_begin_22 (by rfl) (by decide) ?_
      refine aw_goto (tgt := 12) dX3_begin_25 (by decide) ?_
      rw [show ((m : Int) + 1) = ((m + 1 : Nat) : Int) by omega]
      refine aw_pk [3, 0, 1, 2] (by rfl) ?_
      exact IH (m + 1) (by omega) (by rw [bgN_up, bgH_up] at hT1; exact hT1)
theorem t_tbegin (g : GX) (d : Nat) {V : AH} {sz tb na ta : Nat} {r0 c0 rr cc : Int} {N H : Nat → Int} (hT : TbV g V tb na ta r0 c0 N H) : AMet g mX3_begin (d + 1) [.ref tb, .int (iZ rr), .int (iZ cc)] V sz (VX V sz (ET tb na ta) (fun r V' => none = r ∧ TbV g V' tb na ta rr cc (fun k => if k < 25 then 0 else N k) (fun k => if k < 5 then 0 else H k))) := by
  obtain ⟨h1, h2, h3, h4, h5, h6⟩ := id hT
  refine AMet.of rfl rfl (Nat.le_of_ble_eq_true rfl) ?_
  show AW g mX3_begin (d + 1) 0 [(0, .ref tb), (1, .int (iZ rr)), (2, .int (iZ cc))] [] V sz _
  refine aw_aload_n dX3_begin_0 (by rfl) (Or.inr ⟨_, rfl⟩) ?_
  refine aw_iload_n dX3_begin_1 (by rfl) ?_
  refine aw_put fX3_9 dX3_begin_2 (by assumption) (by rfl) (by rfl) (Nat.le_of_ble_eq_true rfl) ?_
  show AW g mX3_begin (d + 1) _ _ _ (AHu V tb (tbO rr c0 na ta)) _ _
  refine VX.stp (V1 := AHu V tb _) (fun a ha => AHu_ne (fun q => ha (Or.inl q))) ?_
  have hT1 : TbV g (AHu V tb (tbO rr c0 na ta)) tb na ta rr c0 N H := hT.obj
  have h11 := hT1.1
  refine aw_aload_n dX3_begin_5 (by rfl) (Or.inr ⟨_, rfl⟩) ?_
  refine aw_iload_n dX3_begin_6 (by rfl) ?_
  refine aw_put fX3_15 dX3_begin_7 (by assumption) (by rfl) (by rfl) (Nat.le_of_ble_eq_true rfl) ?_
  show AW g mX3_begin (d + 1) _ _ _ (AHu (AHu V tb (tbO rr c0 na ta)) tb (tbO rr cc na ta)) _ _
  refine VX.stp (V1 := AHu (AHu V tb (tbO rr c0 na ta)) tb (tbO rr cc na ta)) (fun a ha => AHu_ne (fun q => ha (Or.inl q))) ?_
  refine aw_iconstZ dX3_begin_10 ?_
  refine aw_istore_n dX3_begin_11 (by decide) ?_
  refine aw_pk [3, 0, 1, 2] (by rfl) ?_
  exact bg_loop g d 5 0 (by omega) (hT1.obj)
abbrev mX3_hasRow : MI := (yX3_hasRow, cX3_hasRow, 2, (some FieldType.boolean), noX)
theorem dX3_hasRow_0 : decode cX3_hasRow 0 = .ok (.iload_n 1, 1) := by decide +kernel
theorem dX3_hasRow_1 : decode cX3_hasRow 1 = .ok (.ifCond .lt 15, 3) := by decide +kernel
theorem dX3_hasRow_4 : decode cX3_hasRow 4 = .ok (.iload_n 1, 1) := by decide +kernel
theorem dX3_hasRow_5 : decode cX3_hasRow 5 = .ok (.aload_n 0, 1) := by decide +kernel
theorem dX3_hasRow_6 : decode cX3_hasRow 6 = .ok (.getfield 9, 3) := by decide +kernel
theorem dX3_hasRow_9 : decode cX3_hasRow 9 = .ok (.if_icmp .ge 7, 3) := by decide +kernel
theorem dX3_hasRow_12 : decode cX3_hasRow 12 = .ok (.iconst 1, 1) := by decide +kernel
theorem dX3_hasRow_13 : decode cX3_hasRow 13 = .ok (.goto 4, 3) := by decide +kernel
theorem dX3_hasRow_16 : decode cX3_hasRow 16 = .ok (.iconst 0, 1) := by decide +kernel
theorem dX3_hasRow_17 : decode cX3_hasRow 17 = .ok (.ireturn, 1) := by decide +kernel
theorem t_hasRow (g : GX) (d : Nat) {V : AH} {sz tb na ta : Nat} {rr cc i : Int} {N H : Nat → Int} (hT : TbV g V tb na ta rr cc N H) (hr : R32 rr) (hi : R32 i) : AMet g mX3_hasRow d [.ref tb, .int (iZ i)] V sz (Ex (some (.int (iZ (if 0 ≤ i ∧ i < rr then 1 else 0)))) V sz 0 0) := by
  obtain ⟨h1, h2, h3, h4, h5, h6⟩ := id hT
  refine AMet.of rfl rfl (Nat.le_of_ble_eq_true rfl) ?_
  show AW g mX3_hasRow d 0 [(0, .ref tb), (1, .int (iZ i))] [] V sz _
  refine aw_iload_n dX3_hasRow_0 (by rfl) ?_
  refine aw_if_ltZ (tgt := 16) dX3_hasRow_1 (by decide) (by omega) (fun hc_1 => ?_) (fun hc_1 => ?_)
  · refine aw_iconstZ dX3_hasRow_16 ?_
    refine aw_iret dX3_hasRow_17 rfl (by rfl) ?_
    first | (rw [if_pos (by omega)]; exact ⟨rfl, rfl, rfl, rfl, rfl⟩) | (rw [if_neg (by omega)]; exact ⟨rfl, rfl, rfl, rfl, rfl⟩)
  · refine aw_iload_n dX3_hasRow_4 (by rfl) ?_
    refine aw_aload_n dX3_hasRow_5 (by rfl) (Or.inr ⟨_, rfl⟩) ?_
    refine aw_get fX3_9 dX3_hasRow_6 (by assumption) (by rfl) ?_
    refine aw_icmp_geZ (tgt := 16) dX3_hasRow_9 (by decide) (by omega) (by omega) (fun hc_9 => ?_) (fun hc_9 => ?_)
    · refine aw_iconstZ dX3_hasRow_16 ?_
      refine aw_iret dX3_hasRow_17 rfl (by rfl) ?_
      first | (rw [if_pos (by omega)]; exact ⟨rfl, rfl, rfl, rfl, rfl⟩) | (rw [if_neg (by omega)]; exact ⟨rfl, rfl, rfl, rfl, rfl⟩)
    · refine aw_iconstZ dX3_hasRow_12 ?_
      refine aw_goto (tgt := 17) dX3_hasRow_13 (by decide) ?_
      refine aw_iret dX3_hasRow_17 rfl (by rfl) ?_
      first | (rw [if_pos (by omega)]; exact ⟨rfl, rfl, rfl, rfl, rfl⟩) | (rw [if_neg (by omega)]; exact ⟨rfl, rfl, rfl, rfl, rfl⟩)
abbrev mX3_leavesThere : MI := (yX3_leavesThere, cX3_leavesThere, 3, (some FieldType.int), noX)
theorem dX3_leavesThere_0 : decode cX3_leavesThere 0 = .ok (.iconst 0, 1) := by decide +kernel
theorem dX3_leavesThere_1 : decode cX3_leavesThere 1 = .ok (.istore_n 1, 1) := by decide +kernel
theorem dX3_leavesThere_2 : decode cX3_leavesThere 2 = .ok (.iconst 0, 1) := by decide +kernel
theorem dX3_leavesThere_3 : decode cX3_leavesThere 3 = .ok (.istore_n 2, 1) := by decide +kernel
theorem dX3_leavesThere_4 : decode cX3_leavesThere 4 = .ok (.iload_n 2, 1) := by decide +kernel
theorem dX3_leavesThere_5 : decode cX3_leavesThere 5 = .ok (.aload_n 0, 1) := by decide +kernel
theorem dX3_leavesThere_6 : decode cX3_leavesThere 6 = .ok (.getfield 9, 3) := by decide +kernel
theorem dX3_leavesThere_9 : decode cX3_leavesThere 9 = .ok (.if_icmp .ge 21, 3) := by decide +kernel
theorem dX3_leavesThere_12 : decode cX3_leavesThere 12 = .ok (.aload_n 0, 1) := by decide +kernel
theorem dX3_leavesThere_13 : decode cX3_leavesThere 13 = .ok (.getfield 22, 3) := by decide +kernel
theorem dX3_leavesThere_16 : decode cX3_leavesThere 16 = .ok (.iload_n 2, 1) := by decide +kernel
theorem dX3_leavesThere_17 : decode cX3_leavesThere 17 = .ok (.baload, 1) := by decide +kernel
theorem dX3_leavesThere_18 : decode cX3_leavesThere 18 = .ok (.ifCond .eq 6, 3) := by decide +kernel
theorem dX3_leavesThere_21 : decode cX3_leavesThere 21 = .ok (.iinc 1 1, 3) := by decide +kernel
theorem dX3_leavesThere_24 : decode cX3_leavesThere 24 = .ok (.iinc 2 1, 3) := by decide +kernel
theorem dX3_leavesThere_27 : decode cX3_leavesThere 27 = .ok (.goto (-23), 3) := by decide +kernel
theorem dX3_leavesThere_30 : decode cX3_leavesThere 30 = .ok (.iload_n 1, 1) := by decide +kernel
theorem dX3_leavesThere_31 : decode cX3_leavesThere 31 = .ok (.ireturn, 1) := by decide +kernel
theorem lt_loop (g : GX) (d : Nat) {V : AH} {sz tb na ta rr : Nat} {cc : Int} {N H : Nat → Int} (hT : TbV g V tb na ta rr cc N H) (hr : rr ≤ 5) (hH : ∀ i, H i = 0 ∨ H i = 1) : ∀ (x i : Nat), i + x = rr → AW g mX3_leavesThere d 4 [(2, .int (iZ i)), (1, .int (iZ (Sg H i))), (0, .ref tb)] [] V sz (Ex (some (.int (iZ (Sg H rr)))) V sz 0 0)
  | 0, i, hx => by
    obtain ⟨h1, h2, h3, h4, h5, h6⟩ := id hT
    refine aw_iload_n dX3_leavesThere_4 (by rfl) ?_
    refine aw_aload_n dX3_leavesThere_5 (by rfl) (Or.inr ⟨_, rfl⟩) ?_
    refine aw_get fX3_9 dX3_leavesThere_6 (by assumption) (by rfl) ?_
    refine aw_icmp_geZ (tgt := 30) dX3_leavesThere_9 (by decide) (by omega) (by omega) (fun hc_9 => ?_) (fun hc_9 => ?_)
    · refine aw_iload_n dX3_leavesThere_30 (by rfl) ?_
      refine aw_iret dX3_leavesThere_31 rfl (by rfl) ?_
      obtain rfl : i = rr := by omega
      exact ⟨rfl, rfl, rfl, rfl, rfl⟩
    · exact absurd hc_9 (by omega)
  | x + 1, i, hx => by
    obtain ⟨h1, h2, h3, h4, h5, h6⟩ := id hT
    have IH := fun i hi => @lt_loop g d V sz tb na ta rr cc N H hT hr hH x i hi
    refine aw_iload_n dX3_leavesThere_4 (by rfl) ?_
    refine aw_aload_n dX3_leavesThere_5 (by rfl) (Or.inr ⟨_, rfl⟩) ?_
    refine aw_get fX3_9 dX3_leavesThere_6 (by assumption) (by rfl) ?_
    refine aw_icmp_geZ (tgt := 30) dX3_leavesThere_9 (by decide) (by omega) (by omega) (fun hc_9 => ?_) (fun hc_9 => ?_)
    · exact absurd hc_9 (by omega)
    · refine aw_aload_n dX3_leavesThere_12 (by rfl) (Or.inr ⟨_, rfl⟩) ?_
      refine aw_get fX3_22 dX3_leavesThere_13 (by assumption) (by rfl) ?_
      refine aw_iload_n dX3_leavesThere_16 (by rfl) ?_
      refine aw_zaldZ (i) dX3_leavesThere_17 (by assumption) (by omega) (by omega) (by omega) ?_
      refine aw_if_eqZ (tgt := 24) dX3_leavesThere_18 (by decide) (by have := hH i; omega) (fun hc_18 => ?_) (fun hc_18 => ?_)
      · refine aw_iincZ dX3_leavesThere_24 (by rfl) (by decide) ?_
        refine aw_goto (tgt := 4) dX3_leavesThere_27 (by decide) ?_
        rw [show ((i : Int) + 1) = ((i + 1 : Nat) : Int) by omega]
        refine aw_pk [2, 1, 0] (by rfl) ?_
        first | exact (show Sg H i + 1 = Sg H (i + 1) by simp only [Sg]; have := hH i; omega) ▸ IH (i + 1) (by omega) | exact (show Sg H i = Sg H (i + 1) by simp only [Sg]; have := hH i; omega) ▸ IH (i + 1) (by omega)
      · refine aw_iincZ dX3_leavesThere_21 (by rfl) (by decide) ?_
        refine aw_iincZ dX3_leavesThere_24 (by rfl) (by decide) ?_
        refine aw_goto (tgt := 4) dX3_leavesThere_27 (by decide) ?_
        rw [show ((i : Int) + 1) = ((i + 1 : Nat) : Int) by omega]
        refine aw_pk [2, 1, 0] (by rfl) ?_
        first | exact (show Sg H i + 1 = Sg H (i + 1) by simp only [Sg]; have := hH i; omega) ▸ IH (i + 1) (by omega) | exact (show Sg H i = Sg H (i + 1) by simp only [Sg]; have := hH i; omega) ▸ IH (i + 1) (by omega)
theorem t_leavesThere (g : GX) (d : Nat) {V : AH} {sz tb na ta rr : Nat} {cc : Int} {N H : Nat → Int} (hT : TbV g V tb na ta rr cc N H) (hr : rr ≤ 5) (hH : ∀ i, H i = 0 ∨ H i = 1) : AMet g mX3_leavesThere d [.ref tb] V sz (Ex (some (.int (iZ (Sg H rr)))) V sz 0 0) := by
  refine AMet.of rfl rfl (Nat.le_of_ble_eq_true rfl) ?_
  show AW g mX3_leavesThere d 0 [(0, .ref tb)] [] V sz _
  refine aw_iconstZ dX3_leavesThere_0 ?_
  refine aw_istore_n dX3_leavesThere_1 (by decide) ?_
  refine aw_iconstZ dX3_leavesThere_2 ?_
  refine aw_istore_n dX3_leavesThere_3 (by decide) ?_
  refine aw_pk [2, 1, 0] (by rfl) ?_
  exact lt_loop g d hT hr hH rr 0 (by omega)
abbrev mX3_hasChain : MI := (yX3_hasChain, cX3_hasChain, 4, (some FieldType.boolean), noX)
theorem dX3_hasChain_0 : decode cX3_hasChain 0 = .ok (.iconst 0, 1) := by decide +kernel
theorem dX3_hasChain_1 : decode cX3_hasChain 1 = .ok (.istore_n 2, 1) := by decide +kernel
theorem dX3_hasChain_2 : decode cX3_hasChain 2 = .ok (.iload_n 2, 1) := by decide +kernel
theorem dX3_hasChain_3 : decode cX3_hasChain 3 = .ok (.iconst 1, 1) := by decide +kernel
theorem dX3_hasChain_4 : decode cX3_hasChain 4 = .ok (.iadd, 1) := by decide +kernel
theorem dX3_hasChain_5 : decode cX3_hasChain 5 = .ok (.iload_n 1, 1) := by decide +kernel
theorem dX3_hasChain_6 : decode cX3_hasChain 6 = .ok (.if_icmp .ge 45, 3) := by decide +kernel
theorem dX3_hasChain_9 : decode cX3_hasChain 9 = .ok (.aload_n 0, 1) := by decide +kernel
theorem dX3_hasChain_10 : decode cX3_hasChain 10 = .ok (.getfield 18, 3) := by decide +kernel
theorem dX3_hasChain_13 : decode cX3_hasChain 13 = .ok (.iload_n 2, 1) := by decide +kernel
theorem dX3_hasChain_14 : decode cX3_hasChain 14 = .ok (.iconst 5, 1) := by decide +kernel
theorem dX3_hasChain_15 : decode cX3_hasChain 15 = .ok (.imul, 1) := by decide +kernel
theorem dX3_hasChain_16 : decode cX3_hasChain 16 = .ok (.iload_n 2, 1) := by decide +kernel
theorem dX3_hasChain_17 : decode cX3_hasChain 17 = .ok (.iadd, 1) := by decide +kernel
theorem dX3_hasChain_18 : decode cX3_hasChain 18 = .ok (.iaload, 1) := by decide +kernel
theorem dX3_hasChain_19 : decode cX3_hasChain 19 = .ok (.istore_n 3, 1) := by decide +kernel
theorem dX3_hasChain_20 : decode cX3_hasChain 20 = .ok (.iload_n 3, 1) := by decide +kernel
theorem dX3_hasChain_21 : decode cX3_hasChain 21 = .ok (.ifCond .eq 22, 3) := by decide +kernel
theorem dX3_hasChain_24 : decode cX3_hasChain 24 = .ok (.aload_n 0, 1) := by decide +kernel
theorem dX3_hasChain_25 : decode cX3_hasChain 25 = .ok (.getfield 18, 3) := by decide +kernel
theorem dX3_hasChain_28 : decode cX3_hasChain 28 = .ok (.iload_n 2, 1) := by decide +kernel
theorem dX3_hasChain_29 : decode cX3_hasChain 29 = .ok (.iconst 1, 1) := by decide +kernel
theorem dX3_hasChain_30 : decode cX3_hasChain 30 = .ok (.iadd, 1) := by decide +kernel
theorem dX3_hasChain_31 : decode cX3_hasChain 31 = .ok (.iconst 5, 1) := by decide +kernel
theorem dX3_hasChain_32 : decode cX3_hasChain 32 = .ok (.imul, 1) := by decide +kernel
theorem dX3_hasChain_33 : decode cX3_hasChain 33 = .ok (.iload_n 2, 1) := by decide +kernel
theorem dX3_hasChain_34 : decode cX3_hasChain 34 = .ok (.iadd, 1) := by decide +kernel
theorem dX3_hasChain_35 : decode cX3_hasChain 35 = .ok (.iconst 1, 1) := by decide +kernel
theorem dX3_hasChain_36 : decode cX3_hasChain 36 = .ok (.iadd, 1) := by decide +kernel
theorem dX3_hasChain_37 : decode cX3_hasChain 37 = .ok (.iaload, 1) := by decide +kernel
theorem dX3_hasChain_38 : decode cX3_hasChain 38 = .ok (.iload_n 3, 1) := by decide +kernel
theorem dX3_hasChain_39 : decode cX3_hasChain 39 = .ok (.irem, 1) := by decide +kernel
theorem dX3_hasChain_40 : decode cX3_hasChain 40 = .ok (.ifCond .eq 5, 3) := by decide +kernel
theorem dX3_hasChain_43 : decode cX3_hasChain 43 = .ok (.iconst 0, 1) := by decide +kernel
theorem dX3_hasChain_44 : decode cX3_hasChain 44 = .ok (.ireturn, 1) := by decide +kernel
theorem dX3_hasChain_45 : decode cX3_hasChain 45 = .ok (.iinc 2 1, 3) := by decide +kernel
theorem dX3_hasChain_48 : decode cX3_hasChain 48 = .ok (.goto (-46), 3) := by decide +kernel
theorem dX3_hasChain_51 : decode cX3_hasChain 51 = .ok (.iconst 1, 1) := by decide +kernel
theorem dX3_hasChain_52 : decode cX3_hasChain 52 = .ok (.ireturn, 1) := by decide +kernel
theorem aw_irem2 {g : GX} {M : MI} {d pc : Nat} {lv : List (Nat × Value)} {st : List Value} {V : AH} {sz : Nat} {Q : AQ} {x y : Int} (hd : decode M.2.1 pc = .ok (.irem, 1)) (hx : R32 x) (hy : R32 y) (h0 : ¬ y = 0) (h1 : x ≠ -2147483648) (k : AW g M d (pc + 1) lv (.int (iZ (x.tmod y)) :: st) V sz Q) : AW g M d pc lv (.int (iZ y) :: .int (iZ x) :: st) V sz Q := aw_irem hd (fun h => h0 ((iZ_eq hy (b := 0) (by omega)).mp h)) (by rw [iZ_rem hx hy h0 (Or.inr h1)]; exact k)
theorem hc_loop (g : GX) (d : Nat) {V : AH} {sz tb na ta n : Nat} {rr cc b : Int} {N H : Nat → Int} (hT : TbV g V tb na ta rr cc N H) (hn : n ≤ 5) (hNr : ∀ k, k < 25 → -1000 ≤ N k ∧ N k ≤ 1000) (hrm : ∀ k, k + 1 < n → True ∧ R32 ((N (6 * (k + 1))).tmod (N (6 * k)))) (hb : (b = 1 ∧ (∀ k, k + 1 < n → N (6 * k) ≠ 0 ∧ (N (6 * (k + 1))).tmod (N (6 * k)) = 0)) ∨ (b = 0 ∧ ¬ (∀ k, k + 1 < n → N (6 * k) ≠ 0 ∧ (N (6 * (k + 1))).tmod (N (6 * k)) = 0))) : ∀ (x k : Nat), k + x = n → (∀ i, i < k → N (6 * i) ≠ 0 ∧ (N (6 * (i + 1))).tmod (N (6 * i)) = 0) ∨ k = 0 → AW g mX3_hasChain d 2 [(2, .int (iZ k)), (0, .ref tb), (1, .int (iZ n))] [] V sz (Ex (some (.int (iZ b))) V sz 0 0)
  | x, k, hx, hpre => by
    obtain ⟨h1, h2, h3, h4, h5, h6⟩ := id hT
    have hpre : ∀ i, i < k → N (6 * i) ≠ 0 ∧ (N (6 * (i + 1))).tmod (N (6 * i)) = 0 := hpre.elim id (fun q i hi => absurd hi (by omega))
    by_cases hkn : k + 1 < n
    · have IH := fun k hk hp => @hc_loop g d V sz tb na ta n rr cc b N H hT hn hNr hrm hb (x - 1) k hk (Or.inl hp)
      refine aw_iload_n dX3_hasChain_2 (by rfl) ?_
      refine aw_iconstZ dX3_hasChain_3 ?_
      refine aw_iaddZ dX3_hasChain_4 ?_
      refine aw_iload_n dX3_hasChain_5 (by rfl) ?_
      refine aw_icmp_geZ (tgt := 51) dX3_hasChain_6 (by decide) (by omega) (by omega) (fun hc_6 => ?_) (fun hc_6 => ?_)
      · exact absurd hc_6 (by omega)
      · refine aw_aload_n dX3_hasChain_9 (by rfl) (Or.inr ⟨_, rfl⟩) ?_
        refine aw_get fX3_18 dX3_hasChain_10 (by assumption) (by rfl) ?_
        refine aw_iload_n dX3_hasChain_13 (by rfl) ?_
        refine aw_iconstZ dX3_hasChain_14 ?_
        refine aw_imulZ dX3_hasChain_15 ?_
        refine aw_iload_n dX3_hasChain_16 (by rfl) ?_
        refine aw_iaddZ dX3_hasChain_17 ?_
        refine aw_ialdZ (6 * k) dX3_hasChain_18 (by assumption) (by omega) (by omega) (by omega) ?_
        refine aw_istore_n dX3_hasChain_19 (by decide) ?_
        refine aw_iload_n dX3_hasChain_20 (by rfl) ?_
        refine aw_if_eqZ (tgt := 43) dX3_hasChain_21 (by decide) (by have := hNr (6 * k) (by omega); omega) (fun hc_21 => ?_) (fun hc_21 => ?_)
        · have hN0 : ¬ (N (6 * k) ≠ 0 ∧ (N (6 * (k + 1))).tmod (N (6 * k)) = 0) := fun q => by
            first
            | exact q.1 (by assumption)
            | exact hc_40 q.2
          obtain rfl : b = 0 := by
            rcases hb with ⟨_, q⟩ | ⟨q, _⟩
            · exact absurd (q k (by omega)) hN0
            · exact q
          refine aw_iconstZ dX3_hasChain_43 ?_
          refine aw_iret dX3_hasChain_44 rfl (by rfl) ?_
          exact ⟨rfl, rfl, rfl, rfl, rfl⟩
        · refine aw_aload_n dX3_hasChain_24 (by rfl) (Or.inr ⟨_, rfl⟩) ?_
          refine aw_get fX3_18 dX3_hasChain_25 (by assumption) (by rfl) ?_
          refine aw_iload_n dX3_hasChain_28 (by rfl) ?_
          refine aw_iconstZ dX3_hasChain_29 ?_
          refine aw_iaddZ dX3_hasChain_30 ?_
          refine aw_iconstZ dX3_hasChain_31 ?_
          refine aw_imulZ dX3_hasChain_32 ?_
          refine aw_iload_n dX3_hasChain_33 (by rfl) ?_
          refine aw_iaddZ dX3_hasChain_34 ?_
          refine aw_iconstZ dX3_hasChain_35 ?_
          refine aw_iaddZ dX3_hasChain_36 ?_
          refine aw_ialdZ (6 * (k + 1)) dX3_hasChain_37 (by assumption) (by omega) (by omega) (by omega) ?_
          refine aw_iload_n dX3_hasChain_38 (by rfl) ?_
          refine aw_irem2 dX3_hasChain_39 (by have := hNr (6 * (k + 1)) (by omega); omega) (by have := hNr (6 * k) (by omega); omega) (by assumption) (by have := hNr (6 * (k + 1)) (by omega); omega) ?_
          refine aw_if_eqZ (tgt := 45) dX3_hasChain_40 (by decide) (hrm k (by omega)).2 (fun hc_40 => ?_) (fun hc_40 => ?_)
          · refine aw_iincZ dX3_hasChain_45 (by rfl) (by decide) ?_
            refine aw_goto (tgt := 2) dX3_hasChain_48 (by decide) ?_
            rw [show ((k : Int) + 1) = ((k + 1 : Nat) : Int) by omega]
            refine aw_pk [2, 0, 1] (by rfl) ?_
            exact IH (k + 1) (by omega) (fun i hi => (Nat.lt_or_eq_of_le (Nat.le_of_lt_succ hi)).elim (hpre i) (fun q => q ▸ ⟨hc_21, hc_40⟩))
          · have hN0 : ¬ (N (6 * k) ≠ 0 ∧ (N (6 * (k + 1))).tmod (N (6 * k)) = 0) := fun q => by
              first
              | exact q.1 (by assumption)
              | exact hc_40 q.2
            obtain rfl : b = 0 := by
              rcases hb with ⟨_, q⟩ | ⟨q, _⟩
              · exact absurd (q k (by omega)) hN0
              · exact q
            refine aw_iconstZ dX3_hasChain_43 ?_
            refine aw_iret dX3_hasChain_44 rfl (by rfl) ?_
            exact ⟨rfl, rfl, rfl, rfl, rfl⟩
    · skip
      refine aw_iload_n dX3_hasChain_2 (by rfl) ?_
      refine aw_iconstZ dX3_hasChain_3 ?_
      refine aw_iaddZ dX3_hasChain_4 ?_
      refine aw_iload_n dX3_hasChain_5 (by rfl) ?_
      refine aw_icmp_geZ (tgt := 51) dX3_hasChain_6 (by decide) (by omega) (by omega) (fun hc_6 => ?_) (fun hc_6 => ?_)
      · obtain rfl : b = 1 := by
          rcases hb with ⟨q, _⟩ | ⟨_, q⟩
          · exact q
          · exact absurd (fun i hi => hpre i (by omega)) q
        refine aw_iconstZ dX3_hasChain_51 ?_
        refine aw_iret dX3_hasChain_52 rfl (by rfl) ?_
        exact ⟨rfl, rfl, rfl, rfl, rfl⟩
      · exact absurd hc_6 (by omega)
  termination_by x => x
theorem tmod_R {a b : Int} (ha : -1000 ≤ a ∧ a ≤ 1000) : R32 (a.tmod b) := by
  have h1 : (a.tmod b).natAbs ≤ a.natAbs := by
    rw [Int.natAbs_tmod]
    exact Nat.mod_le _ _
  omega
theorem t_hasChain (g : GX) (d : Nat) {V : AH} {sz tb na ta n : Nat} {rr cc b : Int} {N H : Nat → Int} (hT : TbV g V tb na ta rr cc N H) (hn : n ≤ 5) (hNr : ∀ k, k < 25 → -1000 ≤ N k ∧ N k ≤ 1000) (hb : (b = 1 ∧ (∀ k, k + 1 < n → N (6 * k) ≠ 0 ∧ (N (6 * (k + 1))).tmod (N (6 * k)) = 0)) ∨ (b = 0 ∧ ¬ (∀ k, k + 1 < n → N (6 * k) ≠ 0 ∧ (N (6 * (k + 1))).tmod (N (6 * k)) = 0))) : AMet g mX3_hasChain d [.ref tb, .int (iZ n)] V sz (Ex (some (.int (iZ b))) V sz 0 0) := by
  refine AMet.of rfl rfl (Nat.le_of_ble_eq_true rfl) ?_
  show AW g mX3_hasChain d 0 [(0, .ref tb), (1, .int (iZ n))] [] V sz _
  refine aw_iconstZ dX3_hasChain_0 ?_
  refine aw_istore_n dX3_hasChain_1 (by decide) ?_
  refine aw_pk [2, 0, 1] (by rfl) ?_
  exact hc_loop g d hT hn hNr (fun k hk => ⟨trivial, tmod_R (hNr _ (by omega))⟩) hb n 0 (by omega) (Or.inr rfl)
