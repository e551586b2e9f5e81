/-! ===== the class: over ===== -/
/-- a new ANSWER: its numbers stand in told, and it has been closed -/
theorem CX.ans {g : GX} {b : Nat} {X : Nat → Prop} {V0 V : AH} {Z0 Z : Nat → Int} {S : TSt} {A : ASt} {hT wT r w : Nat} {ldT : Nat → Int} {ρT : Nat → Nat} {M : Mat} (h0 : CX g b X V0 Z0 S A) (hT0 : GD g V0 (b + 17 + 1) (GT b) hT wT ldT ρT) (hAo : AOK (A.t, hT, wT, fun _ _ => 0)) (hV : ∀ a, SAB b X a → V a = V0 a) (hZ : ∀ x, (x < b + 17 ∨ b + 159 ≤ x) → Z x = Z0 x) (hr : r ≤ 10 ∧ w ≤ 5) (hM : ∀ i j, i < r → j < w → Z ((GT b).ga (ρT i) j) = M i j) : CX g b X (clV V b r (if 0 < r then w else 0)) Z S (1, r, (if 0 < r then w else 0), M) ∧ AIs (1, r, (if 0 < r then w else 0), M) r w M := by
  have hb := (hV b (Or.inl rfl)).trans h0.1.1
  have hGT : GD g V (b + 17 + 1) (GT b) hT wT ldT ρT := hT0.kept2 (fun a ha => hV a (sab_gT ha).1)
  have hcx : CX g b X V Z S (A.t, hT, wT, fun i j => Z ((GT b).ga (ρT i) j)) := h0.told (A2 := (A.t, hT, wT, fun i j => Z ((GT b).ga (ρT i) j))) rfl rfl ⟨fun a ha _ => hV a ha, fun x hx => hZ x (by omega)⟩ hb hAo ⟨ldT, ρT, hGT, fun _ _ _ _ => rfl⟩
  refine ⟨hcx.close hGT (M := M) (by split <;> omega) (fun i j hi hj => hM i j hi (by split at hj <;> omega)), rfl, rfl, ?_, fun _ _ _ _ => rfl⟩
  show (if 0 < r then w else 0) = if r = 0 then 0 else w
  by_cases e : r = 0
  · rw [if_pos e, if_neg (by omega)]
  · rw [if_neg e, if_pos (by omega)]
theorem TCp.row {b : Nat} {ρT : Nat → Nat} {Z0 Z Z' : Nat → Int} {M : Mat} {h w i : Nat} {G : Nat → Int} (k : TCp b ρT Z0 M h w i 0 Z) (hRS : ∀ i, i < (GT b).mr → (GT b).RS (ρT i)) (hinj : ∀ i j, i < (GT b).mr → j < (GT b).mr → i ≠ j → ρT i ≠ ρT j) (hi : i < h ∧ h ≤ 10) (hw : w ≤ 5) (hU : RU Z Z' ((GT b).ga (ρT i)) 0 w G E0) (hG : ∀ j, j < w → G j = M i j) : TCp b ρT Z0 M h w (i + 1) 0 Z' := by
  refine ⟨fun a e ha he hae => ?_, fun x hx => ?_⟩
  · by_cases q : a = i
    · rw [q, hU.1 e (by omega) he]; exact hG e he
    · rw [hU.2 _ (fun z => z) (fun j _ hj q2 => ?_)]
      · exact k.1 a e ha he (by omega)
      · have := (gst_T b (fun _ => False)).2.2.2.2.2.1 _ _ _ _ (hRS a (show a < 10 by omega)) (hRS i (show i < 10 by omega)) (show e < 5 by omega) (show j < 5 by omega) q2
        exact absurd this.1 (hinj a i (show a < 10 by omega) (show i < 10 by omega) q)
  · rw [hU.2 _ (fun z => z) (fun j _ hj q2 => ?_)]
    · exact k.2 x hx
    · have hci := gl_cell (t0 := b + 17) (mr := 10) (mc := 5) (hRS i (show i < 10 by omega)) (show j < 5 by omega)
      have hci : b + 17 + 24 ≤ (GT b).ga (ρT i) j ∧ (GT b).ga (ρT i) j < b + 17 + 22 + (2 + 2 * 5) * 10 := hci
      omega
abbrev mX5_over : MI := (yX5_over, cX5_over, 6, (some FieldType.boolean), noX)
theorem dX5_over_0 : decode cX5_over 0 = .ok (.aload_n 0, 1) := by decide +kernel
theorem dX5_over_1 : decode cX5_over 1 = .ok (.iload_n 1, 1) := by decide +kernel
theorem dX5_over_2 : decode cX5_over 2 = .ok (.invokevirtual 72, 3) := by decide +kernel
theorem dX5_over_5 : decode cX5_over 5 = .ok (.astore_n 3, 1) := by decide +kernel
theorem dX5_over_6 : decode cX5_over 6 = .ok (.aload_n 0, 1) := by decide +kernel
theorem dX5_over_7 : decode cX5_over 7 = .ok (.iload_n 2, 1) := by decide +kernel
theorem dX5_over_8 : decode cX5_over 8 = .ok (.invokevirtual 72, 3) := by decide +kernel
theorem dX5_over_11 : decode cX5_over 11 = .ok (.astore 4, 2) := by decide +kernel
theorem dX5_over_13 : decode cX5_over 13 = .ok (.aload_n 3, 1) := by decide +kernel
theorem dX5_over_14 : decode cX5_over 14 = .ok (.aload 4, 2) := by decide +kernel
theorem dX5_over_16 : decode cX5_over 16 = .ok (.invokestatic 137, 3) := by decide +kernel
theorem dX5_over_19 : decode cX5_over 19 = .ok (.ifCond .ne 5, 3) := by decide +kernel
theorem dX5_over_22 : decode cX5_over 22 = .ok (.iconst 0, 1) := by decide +kernel
theorem dX5_over_23 : decode cX5_over 23 = .ok (.ireturn, 1) := by decide +kernel
theorem dX5_over_24 : decode cX5_over 24 = .ok (.iconst 0, 1) := by decide +kernel
theorem dX5_over_25 : decode cX5_over 25 = .ok (.istore 5, 2) := by decide +kernel
theorem dX5_over_27 : decode cX5_over 27 = .ok (.iload 5, 2) := by decide +kernel
theorem dX5_over_29 : decode cX5_over 29 = .ok (.aload_n 3, 1) := by decide +kernel
theorem dX5_over_30 : decode cX5_over 30 = .ok (.getfield 96, 3) := by decide +kernel
theorem dX5_over_33 : decode cX5_over 33 = .ok (.if_icmp .ge 26, 3) := by decide +kernel
theorem dX5_over_36 : decode cX5_over 36 = .ok (.aload_n 0, 1) := by decide +kernel
theorem dX5_over_37 : decode cX5_over 37 = .ok (.getfield 27, 3) := by decide +kernel
theorem dX5_over_40 : decode cX5_over 40 = .ok (.getfield 141, 3) := by decide +kernel
theorem dX5_over_43 : decode cX5_over 43 = .ok (.iload 5, 2) := by decide +kernel
theorem dX5_over_45 : decode cX5_over 45 = .ok (.aaload, 1) := by decide +kernel
theorem dX5_over_46 : decode cX5_over 46 = .ok (.aload_n 3, 1) := by decide +kernel
theorem dX5_over_47 : decode cX5_over 47 = .ok (.iload 5, 2) := by decide +kernel
theorem dX5_over_49 : decode cX5_over 49 = .ok (.iconst 1, 1) := by decide +kernel
theorem dX5_over_50 : decode cX5_over 50 = .ok (.invokevirtual 144, 3) := by decide +kernel
theorem dX5_over_53 : decode cX5_over 53 = .ok (.iinc 5 1, 3) := by decide +kernel
theorem dX5_over_56 : decode cX5_over 56 = .ok (.goto (-29), 3) := by decide +kernel
theorem dX5_over_59 : decode cX5_over 59 = .ok (.iconst 0, 1) := by decide +kernel
theorem dX5_over_60 : decode cX5_over 60 = .ok (.istore 5, 2) := by decide +kernel
theorem dX5_over_62 : decode cX5_over 62 = .ok (.iload 5, 2) := by decide +kernel
theorem dX5_over_64 : decode cX5_over 64 = .ok (.aload 4, 2) := by decide +kernel
theorem dX5_over_66 : decode cX5_over 66 = .ok (.getfield 96, 3) := by decide +kernel
theorem dX5_over_69 : decode cX5_over 69 = .ok (.if_icmp .ge 32, 3) := by decide +kernel
theorem dX5_over_72 : decode cX5_over 72 = .ok (.aload_n 0, 1) := by decide +kernel
theorem dX5_over_73 : decode cX5_over 73 = .ok (.getfield 27, 3) := by decide +kernel
theorem dX5_over_76 : decode cX5_over 76 = .ok (.getfield 141, 3) := by decide +kernel
theorem dX5_over_79 : decode cX5_over 79 = .ok (.aload_n 3, 1) := by decide +kernel
theorem dX5_over_80 : decode cX5_over 80 = .ok (.getfield 96, 3) := by decide +kernel
theorem dX5_over_83 : decode cX5_over 83 = .ok (.iload 5, 2) := by decide +kernel
theorem dX5_over_85 : decode cX5_over 85 = .ok (.iadd, 1) := by decide +kernel
theorem dX5_over_86 : decode cX5_over 86 = .ok (.aaload, 1) := by decide +kernel
theorem dX5_over_87 : decode cX5_over 87 = .ok (.aload 4, 2) := by decide +kernel
theorem dX5_over_89 : decode cX5_over 89 = .ok (.iload 5, 2) := by decide +kernel
theorem dX5_over_91 : decode cX5_over 91 = .ok (.iconst 1, 1) := by decide +kernel
theorem dX5_over_92 : decode cX5_over 92 = .ok (.invokevirtual 144, 3) := by decide +kernel
theorem dX5_over_95 : decode cX5_over 95 = .ok (.iinc 5 1, 3) := by decide +kernel
theorem dX5_over_98 : decode cX5_over 98 = .ok (.goto (-36), 3) := by decide +kernel
theorem dX5_over_101 : decode cX5_over 101 = .ok (.aload_n 0, 1) := by decide +kernel
theorem dX5_over_102 : decode cX5_over 102 = .ok (.aload_n 3, 1) := by decide +kernel
theorem dX5_over_103 : decode cX5_over 103 = .ok (.getfield 96, 3) := by decide +kernel
theorem dX5_over_106 : decode cX5_over 106 = .ok (.aload 4, 2) := by decide +kernel
theorem dX5_over_108 : decode cX5_over 108 = .ok (.getfield 96, 3) := by decide +kernel
theorem dX5_over_111 : decode cX5_over 111 = .ok (.iadd, 1) := by decide +kernel
theorem dX5_over_112 : decode cX5_over 112 = .ok (.aload_n 3, 1) := by decide +kernel
theorem dX5_over_113 : decode cX5_over 113 = .ok (.getfield 79, 3) := by decide +kernel
theorem dX5_over_116 : decode cX5_over 116 = .ok (.invokevirtual 148, 3) := by decide +kernel
theorem dX5_over_119 : decode cX5_over 119 = .ok (.iconst 1, 1) := by decide +kernel
theorem dX5_over_120 : decode cX5_over 120 = .ok (.ireturn, 1) := by decide +kernel
set_option maxRecDepth 20000 in
theorem ov1 (d : Nat) {g : GX} {b : Nat} {X : Nat → Prop} {Z0 : Nat → Int} {S : TSt} {A : ASt} {V0 : AH} {x y hT wT : Nat} {ldT : Nat → Int} {ρT : Nat → Nat} {QR : Option Value → TSt → ASt → Prop} (h0 : CX g b X V0 Z0 S A) (hT0 : GD g V0 (b + 17 + 1) (GT b) hT wT ldT ρT) (hx : x < 12) (hy : y < 12) (hcc : S.c x = S.c y) (hKK : ∀ {V : AH} {sz : Nat} {Z : Nat → Int} {P L : Nat → Nat}, WG g (wsB b) (SAB b X) V sz Z P L → (∀ a, SAB b X a → V a = V0 a) → TCp b ρT Z0 (JM (S.N x) (S.N y) (S.r x)) (S.r x + S.r y) (S.c x) (S.r x) 0 Z → AW g mX5_over (d + 3) 59 [(5, .int (iZ (S.r x))), (3, .ref (b + 647 + 3 * x)), (4, .ref (b + 647 + 3 * y)), (0, .ref b)] [] V sz (CE g b X V sz L QR)) : ∀ (f i : Nat), i + f = S.r x → ∀ {V : AH} {sz : Nat} {Z : Nat → Int} {P L : Nat → Nat}, WG g (wsB b) (SAB b X) V sz Z P L → (∀ a, SAB b X a → V a = V0 a) → TCp b ρT Z0 (JM (S.N x) (S.N y) (S.r x)) (S.r x + S.r y) (S.c x) (i) 0 Z → AW g mX5_over (d + 3) 27 [(5, .int (iZ i)), (3, .ref (b + 647 + 3 * x)), (4, .ref (b + 647 + 3 * y)), (0, .ref b)] [] V sz (CE g b X V sz L QR)
  | 0, i, hf, V, sz, Z, P, L, hw0, hV, hTC => by
    obtain rfl : i = S.r x := by omega
    obtain ⟨-, hTb, hOk, -⟩ := id h0
    obtain ⟨q1, q3, -, qx, -⟩ := hOk x hx
    obtain ⟨q2, -, -, qy, -⟩ := hOk y hy
    have hb := (hV b (Or.inl rfl)).trans h0.1.1
    have hGT : GD g V (b + 17 + 1) (GT b) hT wT ldT ρT := hT0.kept2 (fun a ha => hV a (sab_gT ha).1)
    obtain ⟨tgd, tra, -, trow, tRS, tinj⟩ := id hGT
    have tgd : V (b + 17) = some (grO (b + 17 + 21) (b + 17 + 20) (b + 17 + 1) (b + 17 + 16) (b + 17 + 18) hT wT) := tgd
    have tra : V (b + 17 + 21) = some (aQ g 4 10 (fun i => some (ρT i))) := tra
    obtain ⟨x1, x2, x3⟩ := (hTb x hx).kept (hV _ (tb_sab hx).1) (hV _ (tb_sab hx).2.1) (hV _ (tb_sab hx).2.2)
    obtain ⟨y1, y2, y3⟩ := (hTb y hy).kept (hV _ (tb_sab hy).1) (hV _ (tb_sab hy).2.1) (hV _ (tb_sab hy).2.2)
    refine aw_iload dX5_over_27 (by rfl) ?_
    refine aw_aload_n dX5_over_29 (by rfl) (Or.inr ⟨_, rfl⟩) ?_
    refine aw_get fX5_96 dX5_over_30 x1 (by rfl) ?_
    refine aw_icmp_geZ (tgt := 59) dX5_over_33 (by decide) (by omega) (by omega) (fun hc_33 => ?_) (fun hc_33 => ?_)
    · exact hKK hw0 hV hTC
    · exact absurd hc_33 (by omega)
  | f + 1, i, hf, V, sz, Z, P, L, hw0, hV, hTC => by
    have IH := fun i hi => @ov1 d g b X Z0 S A V0 x y hT wT ldT ρT QR h0 hT0 hx hy hcc hKK f i hi
    obtain ⟨-, hTb, hOk, -⟩ := id h0
    obtain ⟨q1, q3, -, qx, -⟩ := hOk x hx
    obtain ⟨q2, -, -, qy, -⟩ := hOk y hy
    have hb := (hV b (Or.inl rfl)).trans h0.1.1
    have hGT : GD g V (b + 17 + 1) (GT b) hT wT ldT ρT := hT0.kept2 (fun a ha => hV a (sab_gT ha).1)
    obtain ⟨tgd, tra, -, trow, tRS, tinj⟩ := id hGT
    have tgd : V (b + 17) = some (grO (b + 17 + 21) (b + 17 + 20) (b + 17 + 1) (b + 17 + 16) (b + 17 + 18) hT wT) := tgd
    have tra : V (b + 17 + 21) = some (aQ g 4 10 (fun i => some (ρT i))) := tra
    obtain ⟨x1, x2, x3⟩ := (hTb x hx).kept (hV _ (tb_sab hx).1) (hV _ (tb_sab hx).2.1) (hV _ (tb_sab hx).2.2)
    obtain ⟨y1, y2, y3⟩ := (hTb y hy).kept (hV _ (tb_sab hy).1) (hV _ (tb_sab hy).2.1) (hV _ (tb_sab hy).2.2)
    have hRh := tRS (i) (show i < 10 by omega)
    have hrh := trow _ hRh
    refine aw_iload dX5_over_27 (by rfl) ?_
    refine aw_aload_n dX5_over_29 (by rfl) (Or.inr ⟨_, rfl⟩) ?_
    refine aw_get fX5_96 dX5_over_30 x1 (by rfl) ?_
    refine aw_icmp_geZ (tgt := 59) dX5_over_33 (by decide) (by omega) (by omega) (fun hc_33 => ?_) (fun hc_33 => ?_)
    · exact absurd hc_33 (by omega)
    · refine aw_aload_n dX5_over_36 (by rfl) (Or.inr ⟨_, rfl⟩) ?_
      refine aw_get fX5_27 dX5_over_37 hb (by rfl) ?_
      refine aw_get fX5_141 dX5_over_40 tgd (by rfl) ?_
      refine aw_iload dX5_over_43 (by rfl) ?_
      refine aw_aaldZ (t0 := 4) (i) (by rfl) dX5_over_45 tra (by omega) (by omega) (by omega) ?_
      refine aw_aload_n dX5_over_46 (by rfl) (Or.inr ⟨_, rfl⟩) ?_
      refine aw_iload dX5_over_47 (by rfl) ?_
      refine aw_iconstZ dX5_over_49 ?_
      refine aw_callv vX5_144 dX5_over_50 hrh.1 (w_read (i := i) (f := 1) d hw0 hrh x1 x2 qx (Or.inl rfl) (by omega) (fun j hj => ((gst_T b X).2.2.2.2.1 _ hRh j hj).1.1) (fun a e ha he hne q => hne ((gst_T b X).2.2.2.2.2.1 _ _ _ _ hRh hRh ha he q).2) ((gst_T b X).2.2.2.1 _ hRh).1 ((gst_T b X).2.2.2.1 _ hRh).2.1 (tb_sab hx).1 (tb_sab hx).2.1 ⟨show _ ≤ 5 by omega, by omega⟩) (by rfl) (by rfl) (by omega) (Nat.le_of_ble_eq_true rfl) ?_
      rintro _ V1 sz1 mc1 ms1 ⟨Z1, P1, L1, ⟨rfl, hU1⟩, hs1⟩ -
      refine WE.stp (hs1.weak (fun a ha => ha.elim)) ?_
      refine aw_iincZ dX5_over_53 (by rfl) (by decide) ?_
      refine aw_goto (tgt := 27) dX5_over_56 (by decide) ?_
      rw [show ((i : Int) + 1) = ((i + 1 : Nat) : Int) by omega]
      refine aw_pk [5, 3, 4, 0] (by rfl) ?_
      refine IH (i + 1) (by omega) hs1.1 (fun a ha => (hs1.2.2.1 a ha (fun z => z)).trans (hV a ha)) (TCp.row (i := i) (G := fun j => 1 * S.N x (5 * i + j)) hTC tRS tinj (by omega) q3 hU1 (fun j hj => ?_))
      show 1 * S.N x (5 * i + j) = if i < S.r x then S.N x (5 * i + j) else _
      rw [if_pos (by omega), Int.one_mul]
set_option maxRecDepth 20000 in
theorem ov2 (d : Nat) {g : GX} {b : Nat} {X : Nat → Prop} {Z0 : Nat → Int} {S : TSt} {A : ASt} {V0 : AH} {x y hT wT : Nat} {ldT : Nat → Int} {ρT : Nat → Nat} {QR : Option Value → TSt → ASt → Prop} (h0 : CX g b X V0 Z0 S A) (hT0 : GD g V0 (b + 17 + 1) (GT b) hT wT ldT ρT) (hx : x < 12) (hy : y < 12) (hcc : S.c x = S.c y) (hKK : ∀ {V : AH} {sz : Nat} {Z : Nat → Int} {P L : Nat → Nat}, WG g (wsB b) (SAB b X) V sz Z P L → (∀ a, SAB b X a → V a = V0 a) → TCp b ρT Z0 (JM (S.N x) (S.N y) (S.r x)) (S.r x + S.r y) (S.c x) (S.r x + S.r y) 0 Z → AW g mX5_over (d + 3) 101 [(5, .int (iZ (S.r y))), (3, .ref (b + 647 + 3 * x)), (4, .ref (b + 647 + 3 * y)), (0, .ref b)] [] V sz (CE g b X V sz L QR)) : ∀ (f i : Nat), i + f = S.r y → ∀ {V : AH} {sz : Nat} {Z : Nat → Int} {P L : Nat → Nat}, WG g (wsB b) (SAB b X) V sz Z P L → (∀ a, SAB b X a → V a = V0 a) → TCp b ρT Z0 (JM (S.N x) (S.N y) (S.r x)) (S.r x + S.r y) (S.c x) (S.r x + i) 0 Z → AW g mX5_over (d + 3) 62 [(5, .int (iZ i)), (3, .ref (b + 647 + 3 * x)), (4, .ref (b + 647 + 3 * y)), (0, .ref b)] [] V sz (CE g b X V sz L QR)
  | 0, i, hf, V, sz, Z, P, L, hw0, hV, hTC => by
    obtain rfl : i = S.r y := by omega
    obtain ⟨-, hTb, hOk, -⟩ := id h0
    obtain ⟨q1, q3, -, qx, -⟩ := hOk x hx
    obtain ⟨q2, -, -, qy, -⟩ := hOk y hy
    have hb := (hV b (Or.inl rfl)).trans h0.1.1
    have hGT : GD g V (b + 17 + 1) (GT b) hT wT ldT ρT := hT0.kept2 (fun a ha => hV a (sab_gT ha).1)
    obtain ⟨tgd, tra, -, trow, tRS, tinj⟩ := id hGT
    have tgd : V (b + 17) = some (grO (b + 17 + 21) (b + 17 + 20) (b + 17 + 1) (b + 17 + 16) (b + 17 + 18) hT wT) := tgd
    have tra : V (b + 17 + 21) = some (aQ g 4 10 (fun i => some (ρT i))) := tra
    obtain ⟨x1, x2, x3⟩ := (hTb x hx).kept (hV _ (tb_sab hx).1) (hV _ (tb_sab hx).2.1) (hV _ (tb_sab hx).2.2)
    obtain ⟨y1, y2, y3⟩ := (hTb y hy).kept (hV _ (tb_sab hy).1) (hV _ (tb_sab hy).2.1) (hV _ (tb_sab hy).2.2)
    refine aw_iload dX5_over_62 (by rfl) ?_
    refine aw_aload dX5_over_64 (by rfl) (Or.inr ⟨_, rfl⟩) ?_
    refine aw_get fX5_96 dX5_over_66 y1 (by rfl) ?_
    refine aw_icmp_geZ (tgt := 101) dX5_over_69 (by decide) (by omega) (by omega) (fun hc_69 => ?_) (fun hc_69 => ?_)
    · exact hKK hw0 hV hTC
    · exact absurd hc_69 (by omega)
  | f + 1, i, hf, V, sz, Z, P, L, hw0, hV, hTC => by
    have IH := fun i hi => @ov2 d g b X Z0 S A V0 x y hT wT ldT ρT QR h0 hT0 hx hy hcc hKK f i hi
    obtain ⟨-, hTb, hOk, -⟩ := id h0
    obtain ⟨q1, q3, -, qx, -⟩ := hOk x hx
    obtain ⟨q2, -, -, qy, -⟩ := hOk y hy
    have hb := (hV b (Or.inl rfl)).trans h0.1.1
    have hGT : GD g V (b + 17 + 1) (GT b) hT wT ldT ρT := hT0.kept2 (fun a ha => hV a (sab_gT ha).1)
    obtain ⟨tgd, tra, -, trow, tRS, tinj⟩ := id hGT
    have tgd : V (b + 17) = some (grO (b + 17 + 21) (b + 17 + 20) (b + 17 + 1) (b + 17 + 16) (b + 17 + 18) hT wT) := tgd
    have tra : V (b + 17 + 21) = some (aQ g 4 10 (fun i => some (ρT i))) := tra
    obtain ⟨x1, x2, x3⟩ := (hTb x hx).kept (hV _ (tb_sab hx).1) (hV _ (tb_sab hx).2.1) (hV _ (tb_sab hx).2.2)
    obtain ⟨y1, y2, y3⟩ := (hTb y hy).kept (hV _ (tb_sab hy).1) (hV _ (tb_sab hy).2.1) (hV _ (tb_sab hy).2.2)
    have hRh := tRS (S.r x + i) (show S.r x + i < 10 by omega)
    have hrh := trow _ hRh
    refine aw_iload dX5_over_62 (by rfl) ?_
    refine aw_aload dX5_over_64 (by rfl) (Or.inr ⟨_, rfl⟩) ?_
    refine aw_get fX5_96 dX5_over_66 y1 (by rfl) ?_
    refine aw_icmp_geZ (tgt := 101) dX5_over_69 (by decide) (by omega) (by omega) (fun hc_69 => ?_) (fun hc_69 => ?_)
    · exact absurd hc_69 (by omega)
    · refine aw_aload_n dX5_over_72 (by rfl) (Or.inr ⟨_, rfl⟩) ?_
      refine aw_get fX5_27 dX5_over_73 hb (by rfl) ?_
      refine aw_get fX5_141 dX5_over_76 tgd (by rfl) ?_
      refine aw_aload_n dX5_over_79 (by rfl) (Or.inr ⟨_, rfl⟩) ?_
      refine aw_get fX5_96 dX5_over_80 x1 (by rfl) ?_
      refine aw_iload dX5_over_83 (by rfl) ?_
      refine aw_iaddZ dX5_over_85 ?_
      refine aw_aaldZ (t0 := 4) (S.r x + i) (by rfl) dX5_over_86 tra (by omega) (by omega) (by omega) ?_
      refine aw_aload dX5_over_87 (by rfl) (Or.inr ⟨_, rfl⟩) ?_
      refine aw_iload dX5_over_89 (by rfl) ?_
      refine aw_iconstZ dX5_over_91 ?_
      refine aw_callv vX5_144 dX5_over_92 hrh.1 (w_read (i := i) (f := 1) d hw0 hrh y1 y2 qy (Or.inl rfl) (by omega) (fun j hj => ((gst_T b X).2.2.2.2.1 _ hRh j hj).1.1) (fun a e ha he hne q => hne ((gst_T b X).2.2.2.2.2.1 _ _ _ _ hRh hRh ha he q).2) ((gst_T b X).2.2.2.1 _ hRh).1 ((gst_T b X).2.2.2.1 _ hRh).2.1 (tb_sab hy).1 (tb_sab hy).2.1 ⟨show _ ≤ 5 by omega, by omega⟩) (by rfl) (by rfl) (by omega) (Nat.le_of_ble_eq_true rfl) ?_
      rintro _ V1 sz1 mc1 ms1 ⟨Z1, P1, L1, ⟨rfl, hU1⟩, hs1⟩ -
      refine WE.stp (hs1.weak (fun a ha => ha.elim)) ?_
      refine aw_iincZ dX5_over_95 (by rfl) (by decide) ?_
      refine aw_goto (tgt := 62) dX5_over_98 (by decide) ?_
      rw [show ((i : Int) + 1) = ((i + 1 : Nat) : Int) by omega]
      refine aw_pk [5, 3, 4, 0] (by rfl) ?_
      refine IH (i + 1) (by omega) hs1.1 (fun a ha => (hs1.2.2.1 a ha (fun z => z)).trans (hV a ha)) (TCp.row (i := S.r x + i) (G := fun j => 1 * S.N y (5 * i + j)) hTC tRS tinj (by omega) q3 (by rw [hcc]; exact hU1) (fun j hj => ?_))
      show 1 * S.N y (5 * i + j) = if S.r x + i < S.r x then _ else S.N y (5 * (S.r x + i - S.r x) + j)
      rw [if_neg (by omega), Int.one_mul, show S.r x + i - S.r x = i by omega]
set_option maxRecDepth 20000 in
theorem c_over {g : GX} {b : Nat} {X : Nat → Prop} {V : AH} {sz : Nat} {Z : Nat → Int} {S : TSt} {A : ASt} (d : Nat) {t u : Int} {P L : Nat → Nat} (hw0 : WG g (wsB b) (SAB b X) V sz Z P L) (h : CX g b X V Z S A) (ht : R32 t) (hu : R32 u) : AMet g mX5_over (d + 4) [.ref b, .int (iZ t), .int (iZ u)] V sz (CE g b X V sz L (AlkR S A t u 0 (OvR S))) := by
  obtain ⟨⟨hb, hb1⟩, hTb, hOk, -⟩ := id h
  obtain ⟨v, hv⟩ := FindV.ex S b t
  obtain ⟨v2, hv2⟩ := FindV.ex S b u
  rcases id hv with ⟨x, hx, rfl, hrx, rfl⟩ | ⟨hno, rfl⟩
  · rcases id hv2 with ⟨y, hy, rfl, hry, rfl⟩ | ⟨hno2, rfl⟩
    · by_cases hcc : S.c x = S.c y
      · skip
        obtain ⟨q1, q3, -⟩ := hOk x hx
        obtain ⟨q2, -⟩ := hOk y hy
        obtain ⟨ld, ρ, hGD, -⟩ := h.2.2.2.2.1
        have hA := h.2.2.2.2.2.1
        refine AMet.of rfl rfl (Nat.le_of_ble_eq_true rfl) ?_
        show AW g mX5_over (d + 4) 0 [(0, .ref b), (1, .int (iZ x)), (2, .int (iZ y))] [] V sz _
        refine aw_aload_n dX5_over_0 (by rfl) (Or.inr ⟨_, rfl⟩) ?_
        refine aw_iload_n dX5_over_1 (by rfl) ?_
        refine aw_callv vX5_72 dX5_over_2 hb (t_find (d + 2) h ht hv) (by rfl) (by rfl) (by omega) (Nat.le_of_ble_eq_true rfl) ?_
        rintro _ _ _ _ _ ⟨rfl, rfl, rfl, rfl, rfl⟩ -
        refine q0 ?_
        refine aw_astore_n dX5_over_5 (by decide) (Or.inr ⟨_, rfl⟩) ?_
        refine aw_aload_n dX5_over_6 (by rfl) (Or.inr ⟨_, rfl⟩) ?_
        refine aw_iload_n dX5_over_7 (by rfl) ?_
        refine aw_callv vX5_72 dX5_over_8 hb (t_find (d + 2) h hu hv2) (by rfl) (by rfl) (by omega) (Nat.le_of_ble_eq_true rfl) ?_
        rintro _ _ _ _ _ ⟨rfl, rfl, rfl, rfl, rfl⟩ -
        refine q0 ?_
        refine aw_astore dX5_over_11 (by decide) (Or.inr ⟨_, rfl⟩) ?_
        refine aw_aload_n dX5_over_13 (by rfl) (Or.inr ⟨_, rfl⟩) ?_
        refine aw_aload dX5_over_14 (by rfl) (Or.inr ⟨_, rfl⟩) ?_
        refine aw_calls sX5_137 dX5_over_16 (t_areAlike (d + 2 + 1) (q := 1) h hv hv2 (Or.inl ⟨rfl, x, y, hx, hy, rfl, rfl, hrx, hry, hcc⟩)) (by rfl) (by rfl) (by omega) (Nat.le_of_ble_eq_true rfl) ?_
        rintro _ _ _ _ _ ⟨rfl, rfl, rfl, rfl, rfl⟩ -
        refine q0 ?_
        refine aw_if_neZ (tgt := 24) dX5_over_19 (by decide) (by decide) (fun hc_19 => ?_) (fun hc_19 => ?_)
        · refine aw_iconstZ dX5_over_24 ?_
          refine aw_istore dX5_over_25 (by decide) ?_
          refine aw_pk [5, 3, 4, 0] (by rfl) ?_
          refine ov1 (d + 1) (V0 := V) (Z0 := Z) h hGD hx hy hcc (fun {V1 sz1 Z1 P1 L1} hw1 hV1 hTC1 => ?_) (S.r x) 0 (by omega) hw0 (fun _ _ => rfl) ⟨fun a e _ _ q => absurd q (by omega), fun _ _ => rfl⟩
          refine aw_iconstZ dX5_over_59 ?_
          refine aw_istore dX5_over_60 (by decide) ?_
          refine aw_pk [5, 3, 4, 0] (by rfl) ?_
          refine ov2 (d + 1) (V0 := V) (Z0 := Z) h hGD hx hy hcc (fun {V2 sz2 Z2 P2 L2} hw2 hV2 hTC2 => ?_) (S.r y) 0 (by omega) hw1 hV1 hTC1
          have hb2 := (hV2 b (Or.inl rfl)).trans hb
          have hGT2 : GD g V2 (b + 17 + 1) (GT b) A.h A.w ld ρ := hGD.kept2 (fun a ha => hV2 a (sab_gT ha).1)
          obtain ⟨x1, x2, x3⟩ := (hTb x hx).kept (hV2 _ (tb_sab hx).1) (hV2 _ (tb_sab hx).2.1) (hV2 _ (tb_sab hx).2.2)
          obtain ⟨y1, y2, y3⟩ := (hTb y hy).kept (hV2 _ (tb_sab hy).1) (hV2 _ (tb_sab hy).2.1) (hV2 _ (tb_sab hy).2.2)
          obtain ⟨hcx, hAI⟩ := h.ans (V := V2) (Z := Z2) (r := S.r x + S.r y) (w := S.c x) (M := JM (S.N x) (S.N y) (S.r x)) hGD hA hV2 hTC2.2 (by omega) (fun i j hi hj => hTC2.1 i j hi hj (Or.inl hi))
          refine aw_aload_n dX5_over_101 (by rfl) (Or.inr ⟨_, rfl⟩) ?_
          refine aw_aload_n dX5_over_102 (by rfl) (Or.inr ⟨_, rfl⟩) ?_
          refine aw_get fX5_96 dX5_over_103 x1 (by rfl) ?_
          refine aw_aload dX5_over_106 (by rfl) (Or.inr ⟨_, rfl⟩) ?_
          refine aw_get fX5_96 dX5_over_108 y1 (by rfl) ?_
          refine aw_iaddZ dX5_over_111 ?_
          refine aw_aload_n dX5_over_112 (by rfl) (Or.inr ⟨_, rfl⟩) ?_
          refine aw_get fX5_79 dX5_over_113 x1 (by rfl) ?_
          rw [show (S.r x : Int) + (S.r y : Int) = ((S.r x + S.r y : Nat) : Int) by omega]
          refine aw_callv vX5_148 dX5_over_116 hb2 (t_closeAnswer g (d + 3) (r := S.r x + S.r y) (w := S.c x) hb2 hGT2 (by omega)) (by rfl) (by rfl) (by omega) (Nat.le_of_ble_eq_true rfl) ?_
          rintro _ _ _ _ _ ⟨rfl, rfl, rfl, rfl, rfl⟩ -
          refine WE.stp (cl_wse hw2) ?_
          refine aw_iconstZ dX5_over_119 ?_
          refine aw_iret dX5_over_120 rfl (by rfl) ?_
          exact WE.ret (cl_wse hw2).1 ⟨S, _, hcx, rfl, Or.inl ⟨x, y, hx, hy, rfl, rfl, hrx, hry, hcc, rfl, hAI⟩⟩
        · exact absurd hc_19 (by decide)
      · have hal : ¬ (∃ n m : Nat, n < 12 ∧ m < 12 ∧ ((x : Nat) : Int) = (n : Int) ∧ ((y : Nat) : Int) = (m : Int) ∧ 0 < S.r n ∧ 0 < S.r m ∧ S.c n = S.c m) := fun ⟨n, k, _, _, e1, e2, _, _, e3⟩ => by
          obtain rfl : x = n := by omega
          obtain rfl : y = k := by omega
          exact hcc e3
        refine AMet.of rfl rfl (Nat.le_of_ble_eq_true rfl) ?_
        show AW g mX5_over (d + 4) 0 [(0, .ref b), (1, .int (iZ x)), (2, .int (iZ y))] [] V sz _
        refine aw_aload_n dX5_over_0 (by rfl) (Or.inr ⟨_, rfl⟩) ?_
        refine aw_iload_n dX5_over_1 (by rfl) ?_
        refine aw_callv vX5_72 dX5_over_2 hb (t_find (d + 2) h ht hv) (by rfl) (by rfl) (by omega) (Nat.le_of_ble_eq_true rfl) ?_
        rintro _ _ _ _ _ ⟨rfl, rfl, rfl, rfl, rfl⟩ -
        refine q0 ?_
        refine aw_astore_n dX5_over_5 (by decide) (Or.inr ⟨_, rfl⟩) ?_
        refine aw_aload_n dX5_over_6 (by rfl) (Or.inr ⟨_, rfl⟩) ?_
        refine aw_iload_n dX5_over_7 (by rfl) ?_
        refine aw_callv vX5_72 dX5_over_8 hb (t_find (d + 2) h hu hv2) (by rfl) (by rfl) (by omega) (Nat.le_of_ble_eq_true rfl) ?_
        rintro _ _ _ _ _ ⟨rfl, rfl, rfl, rfl, rfl⟩ -
        refine q0 ?_
        refine aw_astore dX5_over_11 (by decide) (Or.inr ⟨_, rfl⟩) ?_
        refine aw_aload_n dX5_over_13 (by rfl) (Or.inr ⟨_, rfl⟩) ?_
        refine aw_aload dX5_over_14 (by rfl) (Or.inr ⟨_, rfl⟩) ?_
        refine aw_calls sX5_137 dX5_over_16 (t_areAlike (d + 2 + 1) (q := 0) h hv hv2 (Or.inr ⟨rfl, hal⟩)) (by rfl) (by rfl) (by omega) (Nat.le_of_ble_eq_true rfl) ?_
        rintro _ _ _ _ _ ⟨rfl, rfl, rfl, rfl, rfl⟩ -
        refine q0 ?_
        refine aw_if_neZ (tgt := 24) dX5_over_19 (by decide) (by decide) (fun hc_19 => ?_) (fun hc_19 => ?_)
        · exact absurd rfl hc_19
        · refine aw_iconstZ dX5_over_22 ?_
          refine aw_iret dX5_over_23 rfl (by rfl) ?_
          exact WE.ret hw0 ⟨S, A, h, rfl, Or.inr ⟨hal, rfl, rfl⟩⟩
    · have hal : ¬ (∃ n m : Nat, n < 12 ∧ m < 12 ∧ ((x : Nat) : Int) = (n : Int) ∧ u = (m : Int) ∧ 0 < S.r n ∧ 0 < S.r m ∧ S.c n = S.c m) := fun ⟨n, k, _, hk, e1, e2, _, hk2, e3⟩ => by
        have := hno2 k hk e2
        omega
      refine AMet.of rfl rfl (Nat.le_of_ble_eq_true rfl) ?_
      show AW g mX5_over (d + 4) 0 [(0, .ref b), (1, .int (iZ x)), (2, .int (iZ u))] [] V sz _
      refine aw_aload_n dX5_over_0 (by rfl) (Or.inr ⟨_, rfl⟩) ?_
      refine aw_iload_n dX5_over_1 (by rfl) ?_
      refine aw_callv vX5_72 dX5_over_2 hb (t_find (d + 2) h ht hv) (by rfl) (by rfl) (by omega) (Nat.le_of_ble_eq_true rfl) ?_
      rintro _ _ _ _ _ ⟨rfl, rfl, rfl, rfl, rfl⟩ -
      refine q0 ?_
      refine aw_astore_n dX5_over_5 (by decide) (Or.inr ⟨_, rfl⟩) ?_
      refine aw_aload_n dX5_over_6 (by rfl) (Or.inr ⟨_, rfl⟩) ?_
      refine aw_iload_n dX5_over_7 (by rfl) ?_
      refine aw_callv vX5_72 dX5_over_8 hb (t_find (d + 2) h hu hv2) (by rfl) (by rfl) (by omega) (Nat.le_of_ble_eq_true rfl) ?_
      rintro _ _ _ _ _ ⟨rfl, rfl, rfl, rfl, rfl⟩ -
      refine q0 ?_
      refine aw_astore dX5_over_11 (by decide) (Or.inl rfl) ?_
      refine aw_aload_n dX5_over_13 (by rfl) (Or.inr ⟨_, rfl⟩) ?_
      refine aw_aload dX5_over_14 (by rfl) (Or.inl rfl) ?_
      refine aw_calls sX5_137 dX5_over_16 (t_areAlike (d + 2 + 1) (q := 0) h hv hv2 (Or.inr ⟨rfl, hal⟩)) (by rfl) (by rfl) (by omega) (Nat.le_of_ble_eq_true rfl) ?_
      rintro _ _ _ _ _ ⟨rfl, rfl, rfl, rfl, rfl⟩ -
      refine q0 ?_
      refine aw_if_neZ (tgt := 24) dX5_over_19 (by decide) (by decide) (fun hc_19 => ?_) (fun hc_19 => ?_)
      · exact absurd rfl hc_19
      · refine aw_iconstZ dX5_over_22 ?_
        refine aw_iret dX5_over_23 rfl (by rfl) ?_
        exact WE.ret hw0 ⟨S, A, h, rfl, Or.inr ⟨hal, rfl, rfl⟩⟩
  · have hal : ¬ (∃ n m : Nat, n < 12 ∧ m < 12 ∧ t = (n : Int) ∧ u = (m : Int) ∧ 0 < S.r n ∧ 0 < S.r m ∧ S.c n = S.c m) := fun ⟨n, k, hk, _, e1, e2, hk2, _, e3⟩ => by
      have := hno n hk e1
      omega
    rcases id hv2 with ⟨y, hy, rfl, hry, rfl⟩ | ⟨hno2, rfl⟩
    · skip
      refine AMet.of rfl rfl (Nat.le_of_ble_eq_true rfl) ?_
      show AW g mX5_over (d + 4) 0 [(0, .ref b), (1, .int (iZ t)), (2, .int (iZ y))] [] V sz _
      refine aw_aload_n dX5_over_0 (by rfl) (Or.inr ⟨_, rfl⟩) ?_
      refine aw_iload_n dX5_over_1 (by rfl) ?_
      refine aw_callv vX5_72 dX5_over_2 hb (t_find (d + 2) h ht hv) (by rfl) (by rfl) (by omega) (Nat.le_of_ble_eq_true rfl) ?_
      rintro _ _ _ _ _ ⟨rfl, rfl, rfl, rfl, rfl⟩ -
      refine q0 ?_
      refine aw_astore_n dX5_over_5 (by decide) (Or.inl rfl) ?_
      refine aw_aload_n dX5_over_6 (by rfl) (Or.inr ⟨_, rfl⟩) ?_
      refine aw_iload_n dX5_over_7 (by rfl) ?_
      refine aw_callv vX5_72 dX5_over_8 hb (t_find (d + 2) h hu hv2) (by rfl) (by rfl) (by omega) (Nat.le_of_ble_eq_true rfl) ?_
      rintro _ _ _ _ _ ⟨rfl, rfl, rfl, rfl, rfl⟩ -
      refine q0 ?_
      refine aw_astore dX5_over_11 (by decide) (Or.inr ⟨_, rfl⟩) ?_
      refine aw_aload_n dX5_over_13 (by rfl) (Or.inl rfl) ?_
      refine aw_aload dX5_over_14 (by rfl) (Or.inr ⟨_, rfl⟩) ?_
      refine aw_calls sX5_137 dX5_over_16 (t_areAlike (d + 2 + 1) (q := 0) h hv hv2 (Or.inr ⟨rfl, hal⟩)) (by rfl) (by rfl) (by omega) (Nat.le_of_ble_eq_true rfl) ?_
      rintro _ _ _ _ _ ⟨rfl, rfl, rfl, rfl, rfl⟩ -
      refine q0 ?_
      refine aw_if_neZ (tgt := 24) dX5_over_19 (by decide) (by decide) (fun hc_19 => ?_) (fun hc_19 => ?_)
      · exact absurd rfl hc_19
      · refine aw_iconstZ dX5_over_22 ?_
        refine aw_iret dX5_over_23 rfl (by rfl) ?_
        exact WE.ret hw0 ⟨S, A, h, rfl, Or.inr ⟨hal, rfl, rfl⟩⟩
    · skip
      refine AMet.of rfl rfl (Nat.le_of_ble_eq_true rfl) ?_
      show AW g mX5_over (d + 4) 0 [(0, .ref b), (1, .int (iZ t)), (2, .int (iZ u))] [] V sz _
      refine aw_aload_n dX5_over_0 (by rfl) (Or.inr ⟨_, rfl⟩) ?_
      refine aw_iload_n dX5_over_1 (by rfl) ?_
      refine aw_callv vX5_72 dX5_over_2 hb (t_find (d + 2) h ht hv) (by rfl) (by rfl) (by omega) (Nat.le_of_ble_eq_true rfl) ?_
      rintro _ _ _ _ _ ⟨rfl, rfl, rfl, rfl, rfl⟩ -
      refine q0 ?_
      refine aw_astore_n dX5_over_5 (by decide) (Or.inl rfl) ?_
      refine aw_aload_n dX5_over_6 (by rfl) (Or.inr ⟨_, rfl⟩) ?_
      refine aw_iload_n dX5_over_7 (by rfl) ?_
      refine aw_callv vX5_72 dX5_over_8 hb (t_find (d + 2) h hu hv2) (by rfl) (by rfl) (by omega) (Nat.le_of_ble_eq_true rfl) ?_
      rintro _ _ _ _ _ ⟨rfl, rfl, rfl, rfl, rfl⟩ -
      refine q0 ?_
      refine aw_astore dX5_over_11 (by decide) (Or.inl rfl) ?_
      refine aw_aload_n dX5_over_13 (by rfl) (Or.inl rfl) ?_
      refine aw_aload dX5_over_14 (by rfl) (Or.inl rfl) ?_
      refine aw_calls sX5_137 dX5_over_16 (t_areAlike (d + 2 + 1) (q := 0) h hv hv2 (Or.inr ⟨rfl, hal⟩)) (by rfl) (by rfl) (by omega) (Nat.le_of_ble_eq_true rfl) ?_
      rintro _ _ _ _ _ ⟨rfl, rfl, rfl, rfl, rfl⟩ -
      refine q0 ?_
      refine aw_if_neZ (tgt := 24) dX5_over_19 (by decide) (by decide) (fun hc_19 => ?_) (fun hc_19 => ?_)
      · exact absurd rfl hc_19
      · refine aw_iconstZ dX5_over_22 ?_
        refine aw_iret dX5_over_23 rfl (by rfl) ?_
        exact WE.ret hw0 ⟨S, A, h, rfl, Or.inr ⟨hal, rfl, rfl⟩⟩
