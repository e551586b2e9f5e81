/-! ===== the reference: both, whole ===== -/
theorem G5.calc {g : GX} {mo : Nat} {V V' : AH} {r : Nat} {kn ar ac : Int} {l : Nat → Nat} {zs z' : Nat → Int} (h : G5 g mo V r kn ar ac l zs) (hV : ∀ a, ¬ EN mo a → V' a = V a) (hM : MN g mo V' z') (hz : ∀ q, q < 150 → z' q = zs q) (hr : r ≤ 9) : G5 g mo V' r kn ar ac l z' := by
  obtain ⟨RW, h1, h2, h3, h4, h5, h6⟩ := h
  refine ⟨RW, (hV _ (by unfold EN; omega)).trans h1, (hV _ (by unfold EN; omega)).trans h2, h3, hM, h5.cong5 (fun i hi => (h5.1.1 i hi).1) (fun i j hi hj => ?_), fun i t hi q1 q2 => ?_⟩
  · show z' (0 + 15 * i + j) = zs (0 + 15 * i + j)
    exact hz _ (by omega)
  · rw [hz _ (by omega)]; exact h6 i t hi q1 q2
theorem st_narrow {A : Mat} {h c : Nat} {l : Nat → Nat} (s : Stair A h 5 l) (h0 : ∀ i j, i < h → c ≤ j → j < 5 → A i j = 0) : Stair A h c l := by
  refine ⟨⟨fun i hi => ⟨?_, (s.1.1 i hi).2⟩, s.1.2⟩, s.2⟩
  obtain ⟨a1, a2, -⟩ := s.1.1 i hi
  rcases Nat.lt_or_ge (l i) c with q | q
  · exact q
  · exact absurd (h0 i (l i) hi q a1) a2
theorem sp_narrow {A B : Mat} {n r c : Nat} (h : SpEq A n B r 5) (h0 : ∀ i j, i < n → c ≤ j → j < 5 → A i j = 0) : ∀ i j, i < r → c ≤ j → j < 5 → B i j = 0 := fun i j hi h1 h2 => by
  obtain ⟨cf, hcf⟩ := (h (B i)).mpr (Span.row hi)
  rw [hcf j h2]
  exact Sg_zero (fun k hk => by rw [h0 k j hk h1 h2, Int.mul_zero])
theorem SpEq.wc {A B : Mat} {n m c : Nat} (h : SpEq A n B m 5) (hc : c ≤ 5) : SpEq A n B m c := SpEq.col (φ := fun j => j) h (fun j hj => by show j < 5; omega)
set_option maxRecDepth 20000 in
theorem bs_c (d : Nat) {g : GX} {V0 : AH} {mo sz x y κ i : Nat} {rk kn ar ac : Int} {zs : Nat → Int} {Q : AQ} (hκ : κ ≤ 10) (hi : i < κ) (hKK : ∀ {V : AH} {z : Nat → Int}, V mo = some (moO mo rk kn ar ac) → MN g mo V z → (∀ a, ¬ EN mo a → V a = V0 a) → CpZ zs z (265 + 10 * i) 150 5 → AW g mX6_both (d + 7) 228 [(4, .int (iZ (i : Int))), (3, .int (iZ (κ : Int))), (0, .ref mo), (1, .int (iZ (x : Int))), (2, .int (iZ (y : Int)))] [] V sz Q) : ∀ (f j : Nat), j + f = 5 → ∀ {V : AH} {z : Nat → Int}, V mo = some (moO mo rk kn ar ac) → MN g mo V z → (∀ a, ¬ EN mo a → V a = V0 a) → CpZ zs z (265 + 10 * i) 150 j → AW g mX6_both (d + 7) 194 [(5, .int (iZ (j : Int))), (4, .int (iZ (i : Int))), (3, .int (iZ (κ : Int))), (0, .ref mo), (1, .int (iZ (x : Int))), (2, .int (iZ (y : Int)))] [] V sz Q
  | 0, j, hf, V, z, hmo, hM, hV, hI => by
    obtain rfl : j = 5 := by omega
    refine aw_iload dX6_both_194 (by rfl) ?_
    refine aw_iconstZ dX6_both_196 ?_
    refine aw_icmp_geZ (tgt := 228) dX6_both_197 (by decide) (by omega) (by omega) (fun hc_197 => ?_) (fun hc_197 => ?_)
    · refine aw_pk [4, 3, 0, 1, 2] (by rfl) ?_
      exact hKK hmo hM hV hI
    · exact absurd hc_197 (by omega)
  | f + 1, j, hf, V, z, hmo, hM, hV, hI => by
    have IH := fun j hj => @bs_c d g V0 mo sz x y κ i rk kn ar ac zs Q hκ hi hKK f j hj
    refine aw_iload dX6_both_194 (by rfl) ?_
    refine aw_iconstZ dX6_both_196 ?_
    refine aw_icmp_geZ (tgt := 228) dX6_both_197 (by decide) (by omega) (by omega) (fun hc_197 => ?_) (fun hc_197 => ?_)
    · exact absurd hc_197 (by omega)
    · refine aw_aload_n dX6_both_200 (by rfl) (Or.inr ⟨_, rfl⟩) ?_
      refine aw_sipushZ dX6_both_201 (by decide) ?_
      refine aw_bipushZ dX6_both_204 (by decide) ?_
      refine aw_iload dX6_both_206 (by rfl) ?_
      refine aw_imulZ dX6_both_208 ?_
      refine aw_iaddZ dX6_both_209 ?_
      refine aw_iload dX6_both_210 (by rfl) ?_
      refine aw_iaddZ dX6_both_212 ?_
      refine aw_topi (y := ((265 + 10 * i + j : Nat) : Int)) (by omega) ?_
      refine aw_sipushZ dX6_both_213 (by decide) ?_
      refine aw_iload dX6_both_216 (by rfl) ?_
      refine aw_iaddZ dX6_both_218 ?_
      refine aw_topi (y := ((150 + j : Nat) : Int)) (by omega) ?_
      refine aw_callv vX6_67 dX6_both_219 hmo (m_copies g (d + 6) (a := 265 + 10 * i + j) (c := 150 + j) ⟨_, _, _, _, hmo⟩ hM (by omega) (by omega)) (by rfl) (by rfl) (by omega) (Nat.le_of_ble_eq_true rfl) ?_
      rintro _ V1 _ _ _ ⟨rfl, rfl, rfl, hE1, rfl, hM1⟩ -
      refine q0 ?_
      refine aw_iincZ dX6_both_222 (by rfl) (by decide) ?_
      refine aw_goto (tgt := 194) dX6_both_225 (by decide) ?_
      rw [show ((j : Int) + 1) = ((j + 1 : Nat) : Int) by omega]
      refine aw_pk [5, 4, 3, 0, 1, 2] (by rfl) ?_
      exact IH (j + 1) (by omega) ((hE1 mo (by unfold EN; omega)).trans hmo) hM1 (fun a ha => (hE1 a ha).trans (hV a ha)) (hI.up (by omega))
set_option maxRecDepth 20000 in
theorem bs_z (d : Nat) {g : GX} {V0 : AH} {mo sz x y κ i : Nat} {rk kn ar ac : Int} {zs : Nat → Int} {Q : AQ} (hκ : κ ≤ 10) (hi : i < κ) (hKK : ∀ {V : AH} {z : Nat → Int}, V mo = some (moO mo rk kn ar ac) → MN g mo V z → (∀ a, ¬ EN mo a → V a = V0 a) → (∀ q, z q = if 155 ≤ q ∧ q < 155 + 10 then 0 else zs q) → AW g mX6_both (d + 7) 255 [(4, .int (iZ (i : Int))), (3, .int (iZ (κ : Int))), (0, .ref mo), (1, .int (iZ (x : Int))), (2, .int (iZ (y : Int)))] [] V sz Q) : ∀ (f j : Nat), j + f = 10 → ∀ {V : AH} {z : Nat → Int}, V mo = some (moO mo rk kn ar ac) → MN g mo V z → (∀ a, ¬ EN mo a → V a = V0 a) → (∀ q, z q = if 155 ≤ q ∧ q < 155 + j then 0 else zs q) → AW g mX6_both (d + 7) 231 [(5, .int (iZ (j : Int))), (4, .int (iZ (i : Int))), (3, .int (iZ (κ : Int))), (0, .ref mo), (1, .int (iZ (x : Int))), (2, .int (iZ (y : Int)))] [] V sz Q
  | 0, j, hf, V, z, hmo, hM, hV, hI => by
    obtain rfl : j = 10 := by omega
    refine aw_iload dX6_both_231 (by rfl) ?_
    refine aw_bipushZ dX6_both_233 (by decide) ?_
    refine aw_icmp_geZ (tgt := 255) dX6_both_235 (by decide) (by omega) (by omega) (fun hc_235 => ?_) (fun hc_235 => ?_)
    · refine aw_pk [4, 3, 0, 1, 2] (by rfl) ?_
      exact hKK hmo hM hV hI
    · exact absurd hc_235 (by omega)
  | f + 1, j, hf, V, z, hmo, hM, hV, hI => by
    have IH := fun j hj => @bs_z d g V0 mo sz x y κ i rk kn ar ac zs Q hκ hi hKK f j hj
    refine aw_iload dX6_both_231 (by rfl) ?_
    refine aw_bipushZ dX6_both_233 (by decide) ?_
    refine aw_icmp_geZ (tgt := 255) dX6_both_235 (by decide) (by omega) (by omega) (fun hc_235 => ?_) (fun hc_235 => ?_)
    · exact absurd hc_235 (by omega)
    · refine aw_aload_n dX6_both_238 (by rfl) (Or.inr ⟨_, rfl⟩) ?_
      refine aw_sipushZ dX6_both_239 (by decide) ?_
      refine aw_iload dX6_both_242 (by rfl) ?_
      refine aw_iaddZ dX6_both_244 ?_
      refine aw_topi (y := ((155 + j : Nat) : Int)) (by omega) ?_
      refine aw_lconstZ (z := 0) dX6_both_245 (by decide) ?_
      refine aw_callv vX6_83 dX6_both_246 hmo (m_becomes g (d + 6) (c := 155 + j) (v := 0) ⟨_, _, _, _, hmo⟩ hM (by omega) (by omega)) (by rfl) (by rfl) (by omega) (Nat.le_of_ble_eq_true rfl) ?_
      rintro _ V1 _ _ _ ⟨rfl, rfl, rfl, hE1, rfl, hM1⟩ -
      refine q0 ?_
      refine aw_iincZ dX6_both_249 (by rfl) (by decide) ?_
      refine aw_goto (tgt := 231) dX6_both_252 (by decide) ?_
      rw [show ((j : Int) + 1) = ((j + 1 : Nat) : Int) by omega]
      refine aw_pk [5, 4, 3, 0, 1, 2] (by rfl) ?_
      exact IH (j + 1) (by omega) ((hE1 mo (by unfold EN; omega)).trans hmo) hM1 (fun a ha => (hE1 a ha).trans (hV a ha)) (fun q => by
        by_cases e1 : q = 155 + j
        · rw [e1, upF_self, if_pos (by omega)]
        · rw [upF_ne _ _ e1, hI q]
          by_cases e2 : 155 ≤ q ∧ q < 155 + j
          · rw [if_pos e2, if_pos (by omega)]
          · rw [if_neg e2, if_neg (by omega)])
set_option maxRecDepth 20000 in
theorem bs_i (d : Nat) {g : GX} {V0 : AH} {mo sz x y κ : Nat} {kn ar ac : Int} {N : Mat} {Q : AQ} (hκ : κ ≤ 10) (hNb : ∀ a b, a < κ → b < 5 → ab (N a b) ≤ XB) (hrk : ∀ (i : Nat) {A : Mat} {h : Nat} {l : Nat → Nat}, i < κ → Ech A h 5 l → SpEq N i A h 5 → h ≤ i → h ≤ 4) (hKK : ∀ {V : AH} {z : Nat → Int} {r : Nat} {l : Nat → Nat}, G5 g mo V r kn ar ac l z → r ≤ κ → SpEq N κ (BMx 0 15 z) r 5 → (∀ a, ¬ E5 mo a → V a = V0 a) → AW g mX6_both (d + 7) 309 [(3, .int (iZ (κ : Int))), (0, .ref mo), (1, .int (iZ (x : Int))), (2, .int (iZ (y : Int)))] [] V sz Q) : ∀ (f i : Nat), i + f = κ → ∀ {V : AH} {z : Nat → Int} {r : Nat} {l : Nat → Nat}, G5 g mo V r kn ar ac l z → r ≤ i → SpEq N i (BMx 0 15 z) r 5 → (∀ a j, a < κ → j < 5 → z (265 + 10 * a + j) = N a j) → (∀ a, ¬ E5 mo a → V a = V0 a) → AW g mX6_both (d + 7) 185 [(4, .int (iZ (i : Int))), (3, .int (iZ (κ : Int))), (0, .ref mo), (1, .int (iZ (x : Int))), (2, .int (iZ (y : Int)))] [] V sz Q
  | 0, i, hf, V, z, r, l, hG, hri, hsp, hN, hV => by
    obtain rfl : κ = i := by omega
    refine aw_iload dX6_both_185 (by rfl) ?_
    refine aw_iload_n dX6_both_187 (by rfl) ?_
    refine aw_icmp_geZ (tgt := 309) dX6_both_188 (by decide) (by omega) (by omega) (fun hc_188 => ?_) (fun hc_188 => ?_)
    · refine aw_pk [3, 0, 1, 2] (by rfl) ?_
      exact hKK hG hri hsp hV
    · exact absurd hc_188 (by omega)
  | f + 1, i, hf, V, z, r, l, hG, hri, hsp, hN, hV => by
    have IH := fun i hi => @bs_i d g V0 mo sz x y κ kn ar ac N Q hκ hNb hrk hKK f i hi
    have hr4 : r ≤ 4 := by
      obtain ⟨RW, -, -, -, -, h5, -⟩ := id hG
      exact hrk i (by omega) h5.1 hsp hri
    obtain ⟨RW, hmo, -, -, hM, -, -⟩ := id hG
    refine aw_iload dX6_both_185 (by rfl) ?_
    refine aw_iload_n dX6_both_187 (by rfl) ?_
    refine aw_icmp_geZ (tgt := 309) dX6_both_188 (by decide) (by omega) (by omega) (fun hc_188 => ?_) (fun hc_188 => ?_)
    · exact absurd hc_188 (by omega)
    · refine aw_iconstZ dX6_both_191 ?_
      refine aw_istore dX6_both_192 (by decide) ?_
      refine aw_pk [5, 4, 3, 0, 1, 2] (by rfl) ?_
      refine bs_c d (V0 := V) (zs := z) hκ (by omega) (fun {V1 z1} hmo1 hM1 hV1 hC1 => ?_) 5 0 (by omega) hmo hM (fun _ _ => rfl) CpZ.nil
      refine aw_iconstZ dX6_both_228 ?_
      refine aw_istore dX6_both_229 (by decide) ?_
      refine aw_pk [5, 4, 3, 0, 1, 2] (by rfl) ?_
      refine bs_z d (V0 := V) (zs := z1) hκ (by omega) (fun {V2 z2} hmo2 hM2 hV2 hC2 => ?_) 10 0 (by omega) hmo1 hM1 hV1 (fun q => by rw [if_neg (by omega)])
      have hz2 : ∀ q, ¬ (150 ≤ q ∧ q < 165) → z2 q = z q := fun q hq => by rw [hC2 q, if_neg (by omega), hC1 q, if_neg (by omega)]
      have hc2 : ∀ t, t < 5 → z2 (150 + t) = N i t := fun t ht => by
        rw [hC2 _, if_neg (by omega), hC1 _, if_pos (by omega), show 265 + 10 * i + (150 + t - 150) = 265 + 10 * i + t by omega]
        exact hN i t (by omega) ht
      refine f5_both (d + 2) (i := i) (N := N) (r := r) (l := l) (zs := z2) (by rfl) (hG.calc hV2 hM2 (fun q hq => hz2 q (by omega)) (by omega)) hr4 hri (fun a b ha hb => hNb a b (by omega) hb) (hsp.tr (SpEq.cong (fun a ha b hb => (hz2 _ (by omega)).symm))) (fun j hj => (hc2 j hj).symm) (fun j hj => hNb i j (by omega) hj) (fun t h1 h2 => by rw [hC2 _, if_pos (by omega)]) (fun {V3 z3 r3 l3} hG3 hsp3 hr3 hV3 hF3 => ?_)
      refine aw_iincZ dX6_both_303 (by rfl) (by decide) ?_
      refine aw_goto (tgt := 185) dX6_both_306 (by decide) ?_
      rw [show ((i : Int) + 1) = ((i + 1 : Nat) : Int) by omega]
      refine aw_pk [4, 3, 0, 1, 2] (by rfl) ?_
      exact IH (i + 1) (by omega) hG3 hr3 hsp3 (fun a j ha hj => by rw [hF3 _ (by unfold InC; omega), hz2 _ (by omega)]; exact hN a j ha hj) (fun a ha => (hV3 a ha).trans ((hV2 a (fun z => ha (by unfold EN at z; unfold E5; omega))).trans (hV a ha)))
set_option maxRecDepth 20000 in
theorem m_both (g : GX) (d : Nat) {V : AH} {mo sz : Nat} {zs : Nat → Int} {S : TSt} {A : ASt} {t u : Int} (hR : RX g mo V zs S A) (ht : R32 t) (hu : R32 u) : AMet g mX6_both (d + 8) [.ref mo, .int (iZ t), .int (iZ u)] V sz (RE g mo V sz (AlkR S A t u (-1) (BthR S))) := by
  obtain ⟨⟨rk, kn, hmo⟩, ⟨F6, h6⟩, ⟨F7, h7⟩, -, -, -, hT, hM, -, o1, -⟩ := id hR
  have hcb : ∀ n, n < 12 → S.c n ≤ 5 := fun n hn => (o1 n hn).2.1
  refine AMet.of rfl rfl (Nat.le_of_ble_eq_true rfl) ?_
  show AW g mX6_both (d + 8) 0 [(0, .ref mo), (1, .int (iZ t)), (2, .int (iZ u))] [] V sz _
  refine aw_aload_n dX6_both_0 (by rfl) (Or.inr ⟨_, rfl⟩) ?_
  refine aw_iload_n dX6_both_1 (by rfl) ?_
  refine aw_iload_n dX6_both_2 (by rfl) ?_
  refine aw_callv vX6_186 dX6_both_3 hmo (m_areAlike g (d + 6) (t := t) (u := u) hmo hT ht hu hcb) (by rfl) (by rfl) (by omega) (Nat.le_of_ble_eq_true rfl) ?_
  rintro _ _ _ _ _ ⟨rfl, rfl, rfl, rfl, rfl⟩ -
  refine q0 ?_
  refine aw_if_neZ (tgt := 11) dX6_both_6 (by decide) (alZ_R _ _ _) (fun hc_6 => ?_) (fun hc_6 => ?_)
  · obtain ⟨x, y, hx, hy, rfl, rfl, hrx, hry, hcc⟩ := alZ_yes hc_6
    have q1 := (o1 x hx).1
    have q2 := (o1 y hy).1
    refine aw_aload_n dX6_both_11 (by rfl) (Or.inr ⟨_, rfl⟩) ?_
    refine aw_callv vX6_195 dX6_both_12 hmo (m_none g (d + 7) hmo) (by rfl) (by rfl) (by omega) (Nat.le_of_ble_eq_true rfl) ?_
    rintro _ V1 _ _ _ ⟨rfl, rfl, rfl, hE1, rfl, hmo1⟩ -
    refine q0 ?_
    have hst0 : Stair (CMx 0 zs) (0 + 0) 15 (lcx 0 (fun _ => 0) (fun _ => 0)) := ⟨⟨fun i hi => absurd hi (by omega), fun i k _ hk => absurd hk (by omega)⟩, fun i hi => absurd hi (by omega), fun i k _ hk => absurd hk (by omega)⟩
    have hC1 : CSt g mo V1 0 0 (arZ A) (acZ A) (fun _ => 0) (fun _ => 0) zs := ⟨F6, F7, hmo1, (hE1 _ (by omega)).trans h6, (hE1 _ (by omega)).trans h7, fun i hi => absurd hi (by omega), fun i hi => absurd hi (by omega), hM.kept (fun a ha => hE1 a (by unfold EN at ha; omega)), fun i hi => absurd hi (by omega)⟩
    have hJb : ∀ a b, a < S.r x + S.r y → b < 5 → ab (JM (S.N x) (S.N y) (S.r x) a b) ≤ 1000 := fun a b ha hb => by
      show ab (if a < S.r x then S.N x (5 * a + b) else S.N y (5 * (a - S.r x) + b)) ≤ 1000
      split
      · have := (o1 x hx).2.2.2.1 (5 * a + b) (by omega); unfold ab; omega
      · have := (o1 y hy).2.2.2.1 (5 * (a - S.r x) + b) (by omega); unfold ab; omega
    refine aw_aload_n dX6_both_15 (by rfl) (Or.inr ⟨_, rfl⟩) ?_
    refine aw_iload_n dX6_both_16 (by rfl) ?_
    refine aw_iconstZ dX6_both_17 ?_
    refine aw_topi (y := ((0 : Nat) : Int)) rfl ?_
    refine aw_callv vX6_198 dX6_both_18 hmo1 (m_brings g d (t := x) (fr := 0) (NJ := JM (S.N x) (S.N y) (S.r x)) (S := S) hC1 hst0 (SpEq.of (fun i hi => absurd hi (by omega)) (fun i hi => absurd hi (by omega))) (by omega) (hT.kept (fun a h1 h2 => hE1 a (by omega))) hx (by omega) (by omega) (o1 x hx).2.2.2.1 (fun a b ha hb => hJb a b (by omega) hb) (fun i j hi hj => by rw [Nat.zero_add]; exact if_pos hi)) (by rfl) (by rfl) (by omega) (Nat.le_of_ble_eq_true rfl) ?_
    rintro _ V2 _ _ _ ⟨rfl, rfl, rfl, hE2, rfl, r2, κ2, l2, lk2, z2, hC2, hst2, hsp2, hn2, hF2⟩ -
    refine q0 ?_
    rw [Nat.zero_add] at hsp2 hn2
    obtain ⟨_, _, hmo2, _⟩ := id hC2
    obtain ⟨_, RR2, _, _, _, _, p2, _, _, _, p6⟩ := hT.kept (V' := V2) (fun a h1 h2 => (hE2 a (by unfold EC; omega)).trans (hE1 a (by omega)))
    refine aw_aload_n dX6_both_21 (by rfl) (Or.inr ⟨_, rfl⟩) ?_
    refine aw_iload_n dX6_both_22 (by rfl) ?_
    refine aw_aload_n dX6_both_23 (by rfl) (Or.inr ⟨_, rfl⟩) ?_
    refine aw_get fX6_37 dX6_both_24 hmo2 (by rfl) ?_
    refine aw_iload_n dX6_both_27 (by rfl) ?_
    refine aw_ialdZ (x) dX6_both_28 p2 (by omega) (by omega) (by omega) ?_
    rw [(p6 x hx).2.1]
    refine aw_callv vX6_198 dX6_both_29 hmo2 (m_brings g d (t := y) (fr := S.r x) (NJ := JM (S.N x) (S.N y) (S.r x)) (S := S) hC2 hst2 hsp2 hn2 (hT.kept (fun a h1 h2 => (hE2 a (by unfold EC; omega)).trans (hE1 a (by omega)))) hy (by omega) (by omega) (o1 y hy).2.2.2.1 hJb (fun i j hi hj => by show (if S.r x + i < S.r x then _ else S.N y (5 * (S.r x + i - S.r x) + j)) = _; rw [if_neg (by omega), show S.r x + i - S.r x = i by omega])) (by rfl) (by rfl) (by omega) (Nat.le_of_ble_eq_true rfl) ?_
    rintro _ V3 _ _ _ ⟨rfl, rfl, rfl, hE3, rfl, r3, κ3, l3, lk3, z3, hC3, hst3, hsp3, hn3, hF3⟩ -
    refine q0 ?_
    obtain ⟨RW3, RK3, hmo3, hra3, hrk3, hl3, hlk3, hM3, hl53⟩ := hC3
    obtain ⟨k1, k2, k3, k4⟩ := cp_main (o1 x hx).2.1 (by omega) hst3 hl53 hsp3 (N := jN (S.N x) (S.N y) (S.r x)) (c := S.c x) (fun i j hi hj => by
      rw [jN_at hj]
      split
      · rfl
      · show (if i < S.r x then S.N x (5 * i + j) else S.N y (5 * (i - S.r x) + j)) = 0
        split
        · exact (o1 x hx).2.2.2.2.2.1 i j (by omega) hj (Or.inr (Or.inl (by omega)))
        · exact (o1 y hy).2.2.2.2.2.1 (i - S.r x) j (by omega) hj (Or.inr (Or.inl (by omega))))
    have hT3 := hT.kept (V' := V3) (fun a h1 h2 => (hE3 a (by unfold EC; omega)).trans ((hE2 a (by unfold EC; omega)).trans (hE1 a (by omega))))
    obtain ⟨s1, s2⟩ := kern_of k1 k2 (cp_split k3)
    rw [show r3 + κ3 - r3 = κ3 by omega] at s1 s2
    have hKe : (fun i j => CPx (S.c x) r3 z3 (r3 + i) (S.c x + j)) = fun i j => z3 (165 + 10 * i + j) := by
      funext i j; exact cp_k
    rw [hKe] at s1 s2
    have hnz := nz_span (o1 x hx).2.1 s2
    have hzb : ∀ i q, i < κ3 → q < 10 → ab (z3 (165 + 10 * i + q)) ≤ 10 * TM10 := fun i q hi hq => by
      have h1 := hst3.bdm (tu_lbm hJb) hsp3 (by omega) (i := r3 + i) (by omega) (j := 5 + q) (by omega)
      rw [cm_k, if_neg (by omega), show 5 + q - 5 = q by omega] at h1
      exact h1
    have hc5 := (o1 x hx).2.1
    have hrk : ∀ (i : Nat) {A : Mat} {h : Nat} {l : Nat → Nat}, i < κ3 → Ech A h 5 l → SpEq (NZ z3 (S.N x) (S.r x)) i A h 5 → h ≤ i → h ≤ 4 := fun i A h l hi he hs hh => by
      rcases Nat.lt_or_ge κ3 6 with q | q
      · omega
      · have h1 : h ≤ r3 := by
          refine ech_h he (A := A) (B := BMx 0 15 z3) (l' := l3) (Stair.w5 (cm_parts hst3 hl53).1 hl53).1 (fun e he2 => ?_)
          refine span_sub (fun a ha => ?_) ((hs _).mpr (Span.row he2))
          have h2 : Span (TM (S.N x)) (S.r x) 5 (NZ z3 (S.N x) (S.r x) a) := ⟨fun p => - z3 (165 + 10 * a + p), fun j hj => Sg_congr (fun p _ => by show -(z3 (165 + 10 * a + p) * S.N x (5 * p + j)) = - z3 (165 + 10 * a + p) * S.N x (5 * p + j); rw [Int.neg_mul])⟩
          refine span_sub (fun p hp => ?_) h2
          have h3 := (hsp3.w5 (GTx (JM (S.N x) (S.N y) (S.r x)) p)).mp (Span.row (by omega))
          refine span_sub (fun b hb => ?_) (h3.congr (fun j hj => by
            unfold GTx
            rw [if_pos hj]
            show (if p < S.r x then S.N x (5 * p + j) else _) = _
            rw [if_pos hp]))
          by_cases c : b < r3
          · exact (Span.row (A := BMx 0 15 z3) (i := b) c).congr (fun j hj => by rw [cm_s c]; show z3 (0 + 15 * b + j) = _; rw [Nat.zero_add])
          · obtain ⟨e', rfl⟩ : ∃ e', b = r3 + e' := ⟨b - r3, by omega⟩
            exact Span.zero.congr (fun j hj => by rw [cm_k, if_pos hj])
        omega
    refine aw_aload_n dX6_both_32 (by rfl) (Or.inr ⟨_, rfl⟩) ?_
    refine aw_get fX6_131 dX6_both_33 hmo3 (by rfl) ?_
    refine aw_istore_n dX6_both_36 (by decide) ?_
    refine aw_iconstZ dX6_both_37 ?_
    refine aw_istore dX6_both_38 (by decide) ?_
    refine aw_pk [4, 3, 0, 1, 2] (by rfl) ?_
    refine bo_i (d + 1) (V0 := V3) (zs := z3) (rx := S.r x) (rk := (r3 : Int)) (kn := (κ3 : Int)) hT3 hx rfl (by omega) (o1 x hx).2.2.2.1 (by omega) (fun i q hi hq => hzb i q hi (by omega)) (fun {V4 z4} hmo4 hM4 hV4 hI4 => ?_) κ3 0 (by omega) hmo3 hM3 (fun _ _ => rfl) ⟨fun a j ha => absurd ha (by omega), fun _ _ => rfl⟩
    refine aw_aload_n dX6_both_178 (by rfl) (Or.inr ⟨_, rfl⟩) ?_
    refine aw_callv vX6_195 dX6_both_179 hmo4 (m_none g (d + 7) hmo4) (by rfl) (by rfl) (by omega) (Nat.le_of_ble_eq_true rfl) ?_
    rintro _ V5 _ _ _ ⟨rfl, rfl, rfl, hE5, rfl, hmo5⟩ -
    refine q0 ?_
    have hM5 := hM4.kept (V' := V5) (fun a ha => hE5 a (by unfold EN at ha; omega))
    refine aw_iconstZ dX6_both_182 ?_
    refine aw_istore dX6_both_183 (by decide) ?_
    refine aw_pk [4, 3, 0, 1, 2] (by rfl) ?_
    refine bs_i (d + 1) (V0 := V5) (N := NZ z3 (S.N x) (S.r x)) (by omega) (fun a b ha hb => PZ.bd (by omega) hb (o1 x hx).2.2.2.1 (fun q hq => hzb a q ha (by omega))) hrk (fun {V6 z6 r6 l6} hG6 hr6 hsp6 hV6 => ?_) κ3 0 (by omega) (r := 0) (l := fun _ => 0) (z := z4) ⟨_, hmo5, (hE5 _ (by omega)).trans ((hV4 _ (by unfold EN; omega)).trans hra3), fun i hi => absurd hi (by omega), hM5, ⟨⟨fun i hi => absurd hi (by omega), fun i k _ hk => absurd hk (by omega)⟩, fun i hi => absurd hi (by omega), fun i k _ hk => absurd hk (by omega)⟩, fun i t hi => absurd hi (by omega)⟩ (by omega) (SpEq.of (fun i hi => absurd hi (by omega)) (fun i hi => absurd hi (by omega))) (fun a j ha hj => hI4.1 a j ha hj) (fun _ _ => rfl)
    obtain ⟨RW6, hmo6, hra6, hl6, hM6, hst6, hz6⟩ := hG6
    have hr65 := hst6.1.le_w
    have hT6 := hT3.kept (V' := V6) (fun a h1 h2 => (hV6 a (by unfold E5; omega)).trans ((hE5 a (by omega)).trans (hV4 a (by unfold EN; omega))))
    obtain ⟨TH, RR, CC, NN, HH, t1, t2, t3, t4, t5, t6⟩ := hT6
    refine aw_aload_n dX6_both_309 (by rfl) (Or.inr ⟨_, rfl⟩) ?_
    refine aw_aload_n dX6_both_310 (by rfl) (Or.inr ⟨_, rfl⟩) ?_
    refine aw_get fX6_40 dX6_both_311 hmo6 (by rfl) ?_
    refine aw_iload_n dX6_both_314 (by rfl) ?_
    refine aw_ialdZ (x) dX6_both_315 t3 (by omega) (by omega) (by omega) ?_
    rw [(t6 x hx).2.2.1]
    refine aw_callv vX6_201 dX6_both_316 hmo6 (m_stairTold g (d + 6) (wd := S.c x) hmo6 hM6 (by omega)) (by rfl) (by rfl) (by omega) (Nat.le_of_ble_eq_true rfl) ?_
    rintro _ V7 _ _ _ ⟨rfl, rfl, rfl, hE7, rfl, hmo7, z7, hM7, hC7⟩ -
    refine q0 ?_
    have hNc : ∀ a b, a < κ3 → S.c x ≤ b → b < 5 → NZ z3 (S.N x) (S.r x) a b = 0 := fun a b ha h1 h2 => Sg_zero (fun p hp => by
      rw [(o1 x hx).2.2.2.2.2.1 p b (by omega) h2 (Or.inr (Or.inl h1)), Int.mul_zero, Int.neg_zero])
    have hst7 := st_narrow hst6 (sp_narrow hsp6 hNc)
    have hsp7 := hsp6.wc hc5
    refine aw_iret dX6_both_319 rfl (by rfl) ?_
    refine ⟨rfl, rfl, rfl, fun a ha => ?_, z7, S, _, hR.tell (h := r6) (w := S.c x) (B := BMx 0 15 z6) hmo7 ((hE7 _ (by omega)).trans hra6) (((hE7 _ (by omega)).trans ((hV6 _ (by unfold E5; omega)).trans ((hE5 _ (by omega)).trans ((hV4 _ (by unfold EN; omega)).trans hrk3))))) (fun a h1 h2 => (hE7 a (by omega)).trans ((hV6 a (by unfold E5; omega)).trans ((hE5 a (by omega)).trans ((hV4 a (by unfold EN; omega)).trans ((hE3 a (by unfold EC; omega)).trans ((hE2 a (by unfold EC; omega)).trans (hE1 a (by omega)))))))) hM7 (fun i j hi hj => ?_) (by omega) hc5, rfl, Or.inl ⟨x, y, hx, hy, rfl, rfl, hrx, hry, hcc, r6, _, _, hst7, fun v => ((hsp7 v).symm.trans (hnz v)).trans (by rw [hcc]), rfl, rfl, rfl, rfl, fun _ _ _ _ => rfl⟩⟩
    · exact (hE7 a (fun z => ha (by unfold EM; omega))).trans ((hV6 a (fun z => ha (by unfold E5 at z; unfold EM; omega))).trans ((hE5 a (fun z => ha (by unfold EM; omega))).trans ((hV4 a (fun z => ha (by unfold EN at z; unfold EM; omega))).trans ((hE3 a (fun z => ha (by unfold EC at z; unfold EM; omega))).trans ((hE2 a (fun z => ha (by unfold EC at z; unfold EM; omega))).trans (hE1 a (fun z => ha (by unfold EM; omega))))))))
    · rw [hC7.1 i j (Or.inl ⟨hi, by omega⟩)]; show _ = z6 (0 + 15 * i + j); rw [Nat.zero_add]
  · have hno := alZ_no hc_6
    refine aw_iconstZ dX6_both_9 ?_
    refine aw_iret dX6_both_10 rfl (by rfl) ?_
    exact ⟨rfl, rfl, rfl, fun _ _ => rfl, zs, S, A, hR, rfl, Or.inr ⟨hno, rfl, rfl⟩⟩
