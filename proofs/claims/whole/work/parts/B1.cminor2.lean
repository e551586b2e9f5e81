/-! ===== the class: minorWithout, whole; worth ===== -/
theorem ahu_of {V V' : AH} {p : Nat} {e : va_E} (h1 : ∀ a, a ≠ p → V' a = V a) (h2 : V' p = some e) : V' = AHu V p e := by
  funext a
  by_cases q : a = p
  · rw [q, h2, AHu_self]
  · rw [h1 a q, AHu_ne q]
theorem MwP.row {w oN last : Nat} {row : Int} {rr : Nat → Nat} (h : MwP w row oN rr) : ((row < 0 ∨ (last : Int) < row) → rr last = last) ∧ (0 ≤ row → row ≤ (last : Int) → rr last = last + 1) := by
  rcases h with ⟨h1, -, rfl⟩ | ⟨r, c, -, -, h1, -, rfl⟩
  · exact ⟨fun _ => rfl, fun h2 => absurd h2 (by omega)⟩
  · exact ⟨fun h2 => sk_lt (by omega), fun h2 h3 => sk_ge (by omega)⟩
set_option maxRecDepth 20000 in
theorem mw_out (g : GX) (d : Nat) {b x oN : Nat} {S : TSt} {A : ASt} {row : Int} {rr : Nat → Nat} {V0 : AH} {sz : Nat} {Q : AQ} (hb : V0 b = some (bnO b A.t)) (x1 : V0 (b + 647 + 3 * x) = some (tbO (S.r x) (S.c x) (b + 647 + 3 * x + 1) (b + 647 + 3 * x + 2))) (x2 : V0 (b + 647 + 3 * x + 1) = some (aIz g 25 (S.N x))) (qx : ∀ k, k < 25 → -1000 ≤ S.N x k ∧ S.N x k ≤ 1000) (hc5 : S.c x ≤ 5) (hc1 : 1 ≤ S.c x) (ho : oN < 32) (hoc : (2 ^ S.c x - 1) &&& oN = oN) (hM : MwP (S.c x) row oN rr) (hQ : ∀ {V : AH} {F : Nat → Int}, (∀ a, a ≠ b + 646 → V a = V0 a) → V (b + 646) = some (aJz g 32 F) → Q (some (.long (jZ (mdS (S.N x) rr (2 ^ S.c x - 1 - oN))))) V sz 0 0) : ∀ (f s : Nat), s + f = 2 ^ S.c x → 0 < s → ∀ {V : AH} {F : Nat → Int}, (∀ a, a ≠ b + 646 → V a = V0 a) → V (b + 646) = some (aJz g 32 F) → (∀ e, e < s → e &&& oN = 0 → F e = mdS (S.N x) rr e) → AW g mX5_minorWithout (d + 1) 29 [(6, .int (iZ (s : Int))), (4, .int (iZ (S.c x : Nat))), (5, .int (iZ (oN : Int))), (0, .ref b), (1, .ref (b + 647 + 3 * x)), (2, .int (iZ row))] [] V sz Q
  | 0, s, hf, hs0, V, F, hV, hF, hI => by
    have hbV := (hV b (by omega)).trans hb
    have x1V := (hV (b + 647 + 3 * x) (by omega)).trans x1
    have x2V := (hV (b + 647 + 3 * x + 1) (by omega)).trans x2
    have hp2 : 1 ≤ 2 ^ S.c x ∧ 2 ^ S.c x ≤ 32 := pw6 ⟨S.c x, by omega⟩
    obtain ⟨pw, hpw⟩ : ∃ pw : Nat, 2 ^ S.c x = pw := ⟨_, rfl⟩
    have hpZ : (2 : Int) ^ S.c x = (pw : Int) := by rw [← hpw, Int.natCast_pow]; rfl
    have hp2' : 1 ≤ pw ∧ pw ≤ 32 := by rw [← hpw]; exact hp2
    obtain rfl : s = pw := by omega
    refine aw_iload dX5_minorWithout_29 (by rfl) ?_
    refine aw_iconstZ dX5_minorWithout_31 ?_
    refine aw_iload dX5_minorWithout_32 (by rfl) ?_
    refine aw_ishl1Z (S.c x) dX5_minorWithout_34 rfl (by omega) ?_
    rw [hpZ]
    refine aw_icmp_geZ (tgt := 186) dX5_minorWithout_35 (by decide) (by omega) (by omega) (fun hc_35 => ?_) (fun hc_35 => ?_)
    · refine aw_aload_n dX5_minorWithout_186 (by rfl) (Or.inr ⟨_, rfl⟩) ?_
      refine aw_get fX5_60 dX5_minorWithout_187 hbV (by rfl) ?_
      refine aw_iconstZ dX5_minorWithout_190 ?_
      refine aw_iload dX5_minorWithout_191 (by rfl) ?_
      refine aw_ishl1Z (S.c x) dX5_minorWithout_193 rfl (by omega) ?_
      refine aw_iconstZ dX5_minorWithout_194 ?_
      refine aw_isubZ dX5_minorWithout_195 ?_
      refine aw_iload dX5_minorWithout_196 (by rfl) ?_
      refine aw_iconstZ dX5_minorWithout_198 ?_
      refine aw_ixor dX5_minorWithout_199 ?_
      refine aw_iand dX5_minorWithout_200 ?_
      have ef : (iZ ((2 : Int) ^ S.c x - 1) &&& (iZ (oN : Int) ^^^ iZ (-1 : Int))) = iZ ((2 ^ S.c x - 1 - oN : Nat) : Int) := i32_fin ⟨S.c x, by omega⟩ ⟨oN, ho⟩ hoc
      rw [ef]
      refine aw_laldZ (2 ^ S.c x - 1 - oN) dX5_minorWithout_201 hF rfl (by rw [hpw]; omega) (by omega) ?_
      refine aw_lret dX5_minorWithout_202 rfl ?_
      have h10 := bt10 ⟨S.c x, by omega⟩ ⟨oN, ho⟩ hoc
      have h10a : (2 ^ S.c x - 1 - oN) &&& oN = 0 := h10.1
      have h10b : 2 ^ S.c x - 1 - oN < 2 ^ S.c x := h10.2
      rw [hI _ (by omega) h10a]
      exact hQ hV hF
    · exact absurd hc_35 (by omega)
  | f + 1, s, hf, hs0, V, F, hV, hF, hI => by
    have IH := fun s hs h0 => @mw_out g d b x oN S A row rr V0 sz Q hb x1 x2 qx hc5 hc1 ho hoc hM hQ f s hs h0
    have hbV := (hV b (by omega)).trans hb
    have x1V := (hV (b + 647 + 3 * x) (by omega)).trans x1
    have x2V := (hV (b + 647 + 3 * x + 1) (by omega)).trans x2
    have hp2 : 1 ≤ 2 ^ S.c x ∧ 2 ^ S.c x ≤ 32 := pw6 ⟨S.c x, by omega⟩
    obtain ⟨pw, hpw⟩ : ∃ pw : Nat, 2 ^ S.c x = pw := ⟨_, rfl⟩
    have hpZ : (2 : Int) ^ S.c x = (pw : Int) := by rw [← hpw, Int.natCast_pow]; rfl
    have hp2' : 1 ≤ pw ∧ pw ≤ 32 := by rw [← hpw]; exact hp2
    have hs32 : s < 32 := by omega
    have hso32 : s &&& oN < 32 := bt11 ⟨s, hs32⟩ ⟨oN, ho⟩
    have hrp : 0 < rkb s 5 := bt3 ⟨s, hs32⟩ hs0
    have hr5 : rkb s 5 ≤ 5 := (bt6 ⟨s, hs32⟩ ⟨5, by omega⟩ (show s < 2 ^ 5 by omega)).1
    have hrow : R32 row ∧ row < 32 := by rcases hM with ⟨h1, -, -⟩ | ⟨r, c, h1, -, h2, -, -⟩ <;> omega
    refine aw_iload dX5_minorWithout_29 (by rfl) ?_
    refine aw_iconstZ dX5_minorWithout_31 ?_
    refine aw_iload dX5_minorWithout_32 (by rfl) ?_
    refine aw_ishl1Z (S.c x) dX5_minorWithout_34 rfl (by omega) ?_
    rw [hpZ]
    refine aw_icmp_geZ (tgt := 186) dX5_minorWithout_35 (by decide) (by omega) (by omega) (fun hc_35 => ?_) (fun hc_35 => ?_)
    · exact absurd hc_35 (by omega)
    · refine aw_iload dX5_minorWithout_38 (by rfl) ?_
      refine aw_iload dX5_minorWithout_40 (by rfl) ?_
      refine aw_iand dX5_minorWithout_42 ?_
      have ea : (iZ (s : Int) &&& iZ (oN : Int)) = iZ ((s &&& oN : Nat) : Int) := i32_and ⟨s, hs32⟩ ⟨oN, ho⟩
      rw [ea]
      refine aw_if_eqZ (tgt := 49) dX5_minorWithout_43 (by decide) (by omega) (fun hc_43 => ?_) (fun hc_43 => ?_)
      · refine aw_iload dX5_minorWithout_49 (by rfl) ?_
        refine aw_calls sX5_251 dX5_minorWithout_51 (t_bitCount g d hs32) (by rfl) (by rfl) (by omega) (Nat.le_of_ble_eq_true rfl) ?_
        rintro _ _ _ _ _ ⟨rfl, rfl, rfl, rfl, rfl⟩ -
        refine q0 ?_
        refine aw_iconstZ dX5_minorWithout_54 ?_
        refine aw_isubZ dX5_minorWithout_55 ?_
        refine aw_topi (y := ((rkb s 5 - 1 : Nat) : Int)) (by omega) ?_
        refine aw_istore dX5_minorWithout_56 (by decide) ?_
        have K77 : AW g mX5_minorWithout (d + 1) 77 [(7, .int (iZ ((rkb s 5 - 1 : Nat) : Int))), (6, .int (iZ (s : Int))), (4, .int (iZ (S.c x : Nat))), (5, .int (iZ (oN : Int))), (0, .ref b), (1, .ref (b + 647 + 3 * x)), (2, .int (iZ row))] [.int (iZ ((rr (rkb s 5 - 1) : Nat) : Int))] V sz Q := by
          have hso : s &&& oN = 0 := by omega
          have hlt := hM.lt hc5 (by omega) (show s < 2 ^ S.c x by omega) hs32 hso
          refine aw_istore dX5_minorWithout_77 (by decide) ?_
          refine aw_lconstZ (z := 0) dX5_minorWithout_79 (by decide) ?_
          refine aw_lstore dX5_minorWithout_80 (by decide) ?_
          refine aw_iconstZ dX5_minorWithout_82 ?_
          refine aw_istore dX5_minorWithout_83 (by decide) ?_
          refine aw_pk [11, 9, 8, 6, 4, 5, 0, 1, 2] (by rfl) ?_
          refine mw_in g d (A := A) (F := F) hbV x1V x2V hF qx hc5 hlt hs32 (fun {sm} hsm => ?_) (S.c x) 0 0 (by omega) rfl
          refine aw_aload_n dX5_minorWithout_171 (by rfl) (Or.inr ⟨_, rfl⟩) ?_
          refine aw_get fX5_60 dX5_minorWithout_172 hbV (by rfl) ?_
          refine aw_iload dX5_minorWithout_175 (by rfl) ?_
          refine aw_lload dX5_minorWithout_177 (by rfl) ?_
          refine aw_lastZ (s) dX5_minorWithout_179 hF rfl (by omega) (by omega) ?_
          refine aw_iincZ dX5_minorWithout_180 (by rfl) (by decide) ?_
          refine aw_goto (tgt := 29) dX5_minorWithout_183 (by decide) ?_
          rw [show ((s : Int) + 1) = ((s + 1 : Nat) : Int) by omega]
          refine aw_pk [6, 4, 5, 0, 1, 2] (by rfl) ?_
          refine IH (s + 1) (by omega) (by omega) (fun a ha => (AHu_ne ha).trans (hV a ha)) (AHu_self ..) (fun e he hz => ?_)
          by_cases q : e = s
          · rw [q, upF_self, hsm, mdS_step (by omega) hs32, ← Sg_cut (f := mwG (S.N x) F s (rr (rkb s 5 - 1))) (n := 5) hc5 (fun j h1 h2 => if_neg (by have : s / 2 ^ j % 2 = 0 := (bt6 ⟨s, hs32⟩ ⟨S.c x, by omega⟩ (show s < 2 ^ S.c x by omega)).2 ⟨j, h2⟩ h1; omega))]
            refine Sg_congr (fun j hj => ?_)
            unfold mwG
            by_cases hbit : s / 2 ^ j % 2 = 1
            · rw [if_pos hbit, if_pos hbit]
              have h5 : 2 ^ j ≤ s := (bt1 ⟨s, hs32⟩ ⟨j, hj⟩ hbit).2.2.2.2
              have h6 : 1 ≤ 2 ^ j := (pw6 ⟨j, by omega⟩).1
              rw [hI (s - 2 ^ j) (by omega) (bt8 ⟨s, hs32⟩ ⟨oN, ho⟩ ⟨j, hj⟩ hso hbit)]
            · rw [if_neg hbit, if_neg hbit]
          · rw [upF_ne _ _ q]; exact hI e (by omega) hz
        refine aw_iload_n dX5_minorWithout_58 (by rfl) ?_
        refine aw_if_ltZ (tgt := 75) dX5_minorWithout_59 (by decide) hrow.1 (fun hc_59 => ?_) (fun hc_59 => ?_)
        · refine aw_iload dX5_minorWithout_75 (by rfl) ?_
          have h77 := hM.row (last := rkb s 5 - 1)
          refine aw_topi (y := ((rr (rkb s 5 - 1) : Nat) : Int)) (by first | (rw [h77.1 (by omega)]; done) | (rw [h77.2 (by omega) (by omega)]; omega)) ?_
          refine aw_pk [7, 6, 4, 5, 0, 1, 2] (by rfl) ?_
          exact K77
        · refine aw_iload dX5_minorWithout_62 (by rfl) ?_
          refine aw_iload_n dX5_minorWithout_64 (by rfl) ?_
          refine aw_icmp_ltZ (tgt := 75) dX5_minorWithout_65 (by decide) (by omega) hrow.1 (fun hc_65 => ?_) (fun hc_65 => ?_)
          · refine aw_iload dX5_minorWithout_75 (by rfl) ?_
            have h77 := hM.row (last := rkb s 5 - 1)
            refine aw_topi (y := ((rr (rkb s 5 - 1) : Nat) : Int)) (by first | (rw [h77.1 (by omega)]; done) | (rw [h77.2 (by omega) (by omega)]; omega)) ?_
            refine aw_pk [7, 6, 4, 5, 0, 1, 2] (by rfl) ?_
            exact K77
          · refine aw_iload dX5_minorWithout_68 (by rfl) ?_
            refine aw_iconstZ dX5_minorWithout_70 ?_
            refine aw_iaddZ dX5_minorWithout_71 ?_
            refine aw_goto (tgt := 77) dX5_minorWithout_72 (by decide) ?_
            have h77 := hM.row (last := rkb s 5 - 1)
            refine aw_topi (y := ((rr (rkb s 5 - 1) : Nat) : Int)) (by first | (rw [h77.1 (by omega)]; done) | (rw [h77.2 (by omega) (by omega)]; omega)) ?_
            refine aw_pk [7, 6, 4, 5, 0, 1, 2] (by rfl) ?_
            exact K77
      · refine aw_goto (tgt := 180) dX5_minorWithout_46 (by decide) ?_
        refine aw_iincZ dX5_minorWithout_180 (by rfl) (by decide) ?_
        refine aw_goto (tgt := 29) dX5_minorWithout_183 (by decide) ?_
        rw [show ((s : Int) + 1) = ((s + 1 : Nat) : Int) by omega]
        refine aw_pk [6, 4, 5, 0, 1, 2] (by rfl) ?_
        exact IH (s + 1) (by omega) (by omega) hV hF (fun e he hz => by
          by_cases q : e = s
          · rw [q] at hz; exact absurd hz (by omega)
          · exact hI e (by omega) hz)
/-- what minorWithout answers: the table's numbers stay, minors are written over -/
def MwQ (g : GX) (b : Nat) (V : AH) (sz : Nat) (D : Int) : AQ := fun r V' sz' mc ms => ∃ F : Nat → Int, some (.long (jZ D)) = r ∧ V' = AHu V (b + 646) (aJz g 32 F) ∧ sz' = sz ∧ mc = 0 ∧ ms = 0
theorem md_full {N : Nat → Int} {w : Nat} (hw : w ≤ 5) : mdS N (fun a => a) (2 ^ w - 1) = det w (TM N) := by
  obtain ⟨h1, h2⟩ := bt4 ⟨w, by omega⟩
  have h1 : rkb (2 ^ w - 1) 5 = w := h1
  unfold mdS
  rw [h1]
  exact det_congr (fun a k ha hk => by rw [show psb (2 ^ w - 1) k = k from h2 ⟨k, by omega⟩ hk])
theorem md_out {N : Nat → Int} {w r c : Nat} (hw : w ≤ 5) (hc : c < w) : mdS N (sk r) (2 ^ w - 1 - 2 ^ c) = det (w - 1) (fun a k => TM N (sk r a) (sk c k)) := by
  obtain ⟨h1, h2⟩ := bt5 ⟨w, by omega⟩ ⟨c, by omega⟩ hc
  have h1 : rkb (2 ^ w - 1 - 2 ^ c) 5 = w - 1 := h1
  unfold mdS
  rw [h1]
  exact det_congr (fun a k ha hk => by rw [show psb (2 ^ w - 1 - 2 ^ c) k = sk c k from h2 ⟨k, by omega⟩ hk])
theorem bt12 : ∀ c : Fin 5, 2 ^ (c : Nat) < 32 := by decide +kernel
theorem bt13 : ∀ n : Fin 6, ∀ c : Fin 5, (c : Nat) < n → (2 ^ (n : Nat) - 1) &&& 2 ^ (c : Nat) = 2 ^ (c : Nat) := by decide +kernel
set_option maxRecDepth 20000 in
theorem t_minorF {g : GX} {b : Nat} {X : Nat → Prop} {V : AH} {sz : Nat} {Z : Nat → Int} {S : TSt} {A : ASt} (d : Nat) {x : Nat} (h : CX g b X V Z S A) (hx : x < 12) (hrx : 0 < S.r x) : AMet g mX5_minorWithout (d + 1) [.ref b, .ref (b + 647 + 3 * x), .int (iZ (-1)), .int (iZ (-1))] V sz (MwQ g b V sz (det (S.c x) (TM (S.N x)))) := by
  obtain ⟨⟨hb, -⟩, hTb, hOk, -⟩ := id h
  obtain ⟨q1, q3, q5, qx, -⟩ := hOk x hx
  obtain ⟨x1, x2, -⟩ := hTb x hx
  obtain ⟨F0, hMi⟩ := h.2.2.2.2.2.2.2.2.2.2.2.2
  refine AMet.of rfl rfl (Nat.le_of_ble_eq_true rfl) ?_
  show AW g mX5_minorWithout (d + 1) 0 [(0, .ref b), (1, .ref (b + 647 + 3 * x)), (2, .int (iZ (-1))), (3, .int (iZ (-1)))] [] V sz _
  refine aw_aload_n dX5_minorWithout_0 (by rfl) (Or.inr ⟨_, rfl⟩) ?_
  refine aw_get fX5_79 dX5_minorWithout_1 x1 (by rfl) ?_
  refine aw_istore dX5_minorWithout_4 (by decide) ?_
  refine aw_iload_n dX5_minorWithout_6 (by rfl) ?_
  refine aw_if_geZ (tgt := 14) dX5_minorWithout_7 (by decide) (by omega) (fun hc_7 => ?_) (fun hc_7 => ?_)
  · exact absurd hc_7 (by omega)
  · refine aw_iconstZ dX5_minorWithout_10 ?_
    refine aw_goto (tgt := 17) dX5_minorWithout_11 (by decide) ?_
    refine aw_istore dX5_minorWithout_17 (by decide) ?_
    refine aw_aload_n dX5_minorWithout_19 (by rfl) (Or.inr ⟨_, rfl⟩) ?_
    refine aw_get fX5_60 dX5_minorWithout_20 hb (by rfl) ?_
    refine aw_iconstZ dX5_minorWithout_23 ?_
    refine aw_lconstZ (z := 1) dX5_minorWithout_24 (by decide) ?_
    refine aw_lastZ (0) dX5_minorWithout_25 hMi rfl (by omega) (by omega) ?_
    refine aw_iconstZ dX5_minorWithout_26 ?_
    refine aw_istore dX5_minorWithout_27 (by decide) ?_
    refine aw_pk [6, 4, 5, 0, 1, 2] (by rfl) ?_
    refine mw_out g d (A := A) (oN := 0) (row := -1) (rr := fun a => a) hb x1 x2 qx q3 (by omega) (by omega) (Nat.and_zero _) (Or.inl ⟨rfl, rfl, rfl⟩) (fun {V1 F1} h1 h2 => ⟨F1, by rw [Nat.sub_zero, md_full q3], ahu_of h1 h2, rfl, rfl, rfl⟩) (2 ^ S.c x - 1) 1 (by have : 1 ≤ 2 ^ S.c x := (pw6 ⟨S.c x, by omega⟩).1; omega) (by omega) (fun a ha => AHu_ne ha) (AHu_self ..) (fun e he _ => by rw [show e = 0 by omega, upF_self]; rfl)
set_option maxRecDepth 20000 in
theorem t_minorW {g : GX} {b : Nat} {X : Nat → Prop} {V : AH} {sz : Nat} {Z : Nat → Int} {S : TSt} {A : ASt} (d : Nat) {x r c : Nat} (h : CX g b X V Z S A) (hx : x < 12) (hrx : 0 < S.r x) (hr : r < S.c x) (hc : c < S.c x) : AMet g mX5_minorWithout (d + 1) [.ref b, .ref (b + 647 + 3 * x), .int (iZ (r : Int)), .int (iZ (c : Int))] V sz (MwQ g b V sz (det (S.c x - 1) (fun a k => TM (S.N x) (sk r a) (sk c k)))) := by
  obtain ⟨⟨hb, -⟩, hTb, hOk, -⟩ := id h
  obtain ⟨q1, q3, q5, qx, -⟩ := hOk x hx
  obtain ⟨x1, x2, -⟩ := hTb x hx
  obtain ⟨F0, hMi⟩ := h.2.2.2.2.2.2.2.2.2.2.2.2
  refine AMet.of rfl rfl (Nat.le_of_ble_eq_true rfl) ?_
  show AW g mX5_minorWithout (d + 1) 0 [(0, .ref b), (1, .ref (b + 647 + 3 * x)), (2, .int (iZ (r : Int))), (3, .int (iZ (c : Int)))] [] V sz _
  refine aw_aload_n dX5_minorWithout_0 (by rfl) (Or.inr ⟨_, rfl⟩) ?_
  refine aw_get fX5_79 dX5_minorWithout_1 x1 (by rfl) ?_
  refine aw_istore dX5_minorWithout_4 (by decide) ?_
  refine aw_iload_n dX5_minorWithout_6 (by rfl) ?_
  refine aw_if_geZ (tgt := 14) dX5_minorWithout_7 (by decide) (by omega) (fun hc_7 => ?_) (fun hc_7 => ?_)
  · refine aw_iconstZ dX5_minorWithout_14 ?_
    refine aw_iload_n dX5_minorWithout_15 (by rfl) ?_
    refine aw_ishl1Z c dX5_minorWithout_16 rfl (by omega) ?_
    refine aw_topi (y := ((2 ^ c : Nat) : Int)) (by rw [Int.natCast_pow]; rfl) ?_
    refine aw_istore dX5_minorWithout_17 (by decide) ?_
    refine aw_aload_n dX5_minorWithout_19 (by rfl) (Or.inr ⟨_, rfl⟩) ?_
    refine aw_get fX5_60 dX5_minorWithout_20 hb (by rfl) ?_
    refine aw_iconstZ dX5_minorWithout_23 ?_
    refine aw_lconstZ (z := 1) dX5_minorWithout_24 (by decide) ?_
    refine aw_lastZ (0) dX5_minorWithout_25 hMi rfl (by omega) (by omega) ?_
    refine aw_iconstZ dX5_minorWithout_26 ?_
    refine aw_istore dX5_minorWithout_27 (by decide) ?_
    refine aw_pk [6, 4, 5, 0, 1, 2] (by rfl) ?_
    refine mw_out g d (A := A) (oN := 2 ^ c) (row := (r : Int)) (rr := sk r) hb x1 x2 qx q3 (by omega) (bt12 ⟨c, by omega⟩) (bt13 ⟨S.c x, by omega⟩ ⟨c, by omega⟩ (show c < S.c x from hc)) (Or.inr ⟨r, c, hr, hc, rfl, rfl, rfl⟩) (fun {V1 F1} h1 h2 => ⟨F1, by rw [md_out q3 hc], ahu_of h1 h2, rfl, rfl, rfl⟩) (2 ^ S.c x - 1) 1 (by have : 1 ≤ 2 ^ S.c x := (pw6 ⟨S.c x, by omega⟩).1; omega) (by omega) (fun a ha => AHu_ne ha) (AHu_self ..) (fun e he _ => by rw [show e = 0 by omega, upF_self]; rfl)
  · exact absurd hc_7 (by omega)
/-- the bench behind minorWithout -/
theorem CX.mw {g : GX} {b : Nat} {X : Nat → Prop} {V : AH} {Z : Nat → Int} {S : TSt} {A : ASt} {F : Nat → Int} (h : CX g b X V Z S A) : CX g b X (AHu V (b + 646) (aJz g 32 F)) Z S A := h.minors rfl rfl ⟨fun a _ hn => AHu_ne (by omega), fun _ _ => rfl⟩ ⟨F, AHu_self ..⟩
