/-! ===== the reference: dual, whole ===== -/
/-- where the told rows come from -/
def dsr : Nat → Nat → Nat := fun a b => if a = 0 then 265 + b else 15 * (a - 1) + b
set_option maxRecDepth 20000 in
theorem du_r0 (d : Nat) {g : GX} {V0 : AH} {mo sz x nn : Nat} {rk kn ar ac w gg : Int} {zs : Nat → Int} {Q : AQ} (q1 : 1 ≤ nn ∧ nn ≤ 5) (hg : 0 < gg ∧ gg ≤ 120000000000000000) (hw2 : ab w ≤ 120000000000000000) (hKK : ∀ {V : AH} {z : Nat → Int}, V mo = some (moO mo rk kn ar ac) → MN g mo V z → (∀ a, ¬ EN mo a → V a = V0 a) → (∀ q, z q = if 265 ≤ q ∧ q < 265 + nn then (if q = 265 then ab w / gg else 0) else zs q) → AW g mX6_dual (d + 7) 293 [(5, .long (jZ gg)), (4, .int (iZ (nn : Int))), (2, .long (jZ w)), (0, .ref mo), (1, .int (iZ (x : Int)))] [] V sz Q) : ∀ (f j : Nat), j + f = nn → ∀ {V : AH} {z : Nat → Int}, V mo = some (moO mo rk kn ar ac) → MN g mo V z → (∀ a, ¬ EN mo a → V a = V0 a) → (∀ q, z q = if 265 ≤ q ∧ q < 265 + j then (if q = 265 then ab w / gg else 0) else zs q) → AW g mX6_dual (d + 7) 246 [(7, .int (iZ (j : Int))), (5, .long (jZ gg)), (4, .int (iZ (nn : Int))), (2, .long (jZ w)), (0, .ref mo), (1, .int (iZ (x : Int)))] [] V sz Q
  | 0, j, hf, V, z, hmo, hM, hV, hI => by
    obtain rfl : nn = j := by omega
    refine aw_iload dX6_dual_246 (by rfl) ?_
    refine aw_iload dX6_dual_248 (by rfl) ?_
    refine aw_icmp_geZ (tgt := 293) dX6_dual_250 (by decide) (by omega) (by omega) (fun hc_250 => ?_) (fun hc_250 => ?_)
    · refine aw_pk [5, 4, 2, 0, 1] (by rfl) ?_
      exact hKK hmo hM hV hI
    · exact absurd hc_250 (by omega)
  | f + 1, j, hf, V, z, hmo, hM, hV, hI => by
    have IH := fun j hj => @du_r0 d g V0 mo sz x nn rk kn ar ac w gg zs Q q1 hg hw2 hKK f j hj
    have hab : ab w / gg ≤ ab w := Int.ediv_le_self _ (ab0 w)
    have hab2 : 0 ≤ ab w / gg := Int.ediv_nonneg (ab0 w) (by omega)
    have hw3 : ab w ≤ 120000000000000000 := hw2
    unfold ab at hw2
    refine aw_iload dX6_dual_246 (by rfl) ?_
    refine aw_iload dX6_dual_248 (by rfl) ?_
    refine aw_icmp_geZ (tgt := 293) dX6_dual_250 (by decide) (by omega) (by omega) (fun hc_250 => ?_) (fun hc_250 => ?_)
    · exact absurd hc_250 (by omega)
    · refine aw_aload_n dX6_dual_253 (by rfl) (Or.inr ⟨_, rfl⟩) ?_
      refine aw_sipushZ dX6_dual_254 (by decide) ?_
      refine aw_iload dX6_dual_257 (by rfl) ?_
      refine aw_iaddZ dX6_dual_259 ?_
      refine aw_topi (y := ((265 + j : Nat) : Int)) (by omega) ?_
      refine aw_iload dX6_dual_260 (by rfl) ?_
      refine aw_if_neZ (tgt := 283) dX6_dual_262 (by decide) (by omega) (fun hc_262 => ?_) (fun hc_262 => ?_)
      · refine aw_lconstZ (z := 0) dX6_dual_283 (by decide) ?_
        refine aw_callv vX6_83 dX6_dual_284 hmo (m_becomes g (d + 6) (c := 265 + j) (v := 0) ⟨_, _, _, _, hmo⟩ hM (by omega) (by omega)) (by rfl) (by rfl) (by omega) (Nat.le_of_ble_eq_true rfl) ?_
        rintro _ V2 _ _ _ ⟨rfl, rfl, rfl, hE2, rfl, hM2⟩ -
        refine q0 ?_
        refine aw_iincZ dX6_dual_287 (by rfl) (by decide) ?_
        refine aw_goto (tgt := 246) dX6_dual_290 (by decide) ?_
        rw [show ((j : Int) + 1) = ((j + 1 : Nat) : Int) by omega]
        refine aw_pk [7, 5, 4, 2, 0, 1] (by rfl) ?_
        exact IH (j + 1) (by omega) ((hE2 mo (by unfold EN; omega)).trans hmo) hM2 (fun a ha => (hE2 a ha).trans (hV a ha)) (fun q => by
          by_cases e1 : q = 265 + j
          · rw [e1, upF_self, if_pos (by omega)]
            first
            | (rw [if_pos (by omega)]; done)
            | (rw [if_neg (by omega)]; done)
          · rw [upF_ne _ _ e1, hI q]
            by_cases e2 : 265 ≤ q ∧ q < 265 + j
            · rw [if_pos e2, if_pos (show 265 ≤ q ∧ q < 265 + (j + 1) by omega)]
            · rw [if_neg e2, if_neg (show ¬ (265 ≤ q ∧ q < 265 + (j + 1)) by omega)])
      · refine aw_lload_n dX6_dual_265 (by rfl) ?_
        refine aw_lconstZ (z := 0) dX6_dual_266 (by decide) ?_
        refine aw_lcmpZ dX6_dual_267 (by omega) (by omega) ?_
        refine aw_if_geZ (tgt := 276) dX6_dual_268 (by decide) (cmpZ_R _ _) (fun hc_268 => ?_) (fun hc_268 => ?_)
        · have hwp : 0 ≤ w := by have := cmpZ_ge.mp hc_268; omega
          refine aw_lload_n dX6_dual_276 (by rfl) ?_
          refine aw_lload dX6_dual_277 (by rfl) ?_
          refine aw_ldivZ dX6_dual_279 (by omega) (by omega) (by omega) (by omega) ?_
          refine aw_goto (tgt := 284) dX6_dual_280 (by decide) ?_
          refine aw_topl (y := ab w / gg) (by rw [Int.tdiv_eq_ediv_of_nonneg (by omega)]; congr 1; unfold ab; omega) ?_
          refine aw_callv vX6_83 dX6_dual_284 hmo (m_becomes g (d + 6) (c := 265 + j) (v := ab w / gg) ⟨_, _, _, _, hmo⟩ hM (by omega) (by omega)) (by rfl) (by rfl) (by omega) (Nat.le_of_ble_eq_true rfl) ?_
          rintro _ V2 _ _ _ ⟨rfl, rfl, rfl, hE2, rfl, hM2⟩ -
          refine q0 ?_
          refine aw_iincZ dX6_dual_287 (by rfl) (by decide) ?_
          refine aw_goto (tgt := 246) dX6_dual_290 (by decide) ?_
          rw [show ((j : Int) + 1) = ((j + 1 : Nat) : Int) by omega]
          refine aw_pk [7, 5, 4, 2, 0, 1] (by rfl) ?_
          exact IH (j + 1) (by omega) ((hE2 mo (by unfold EN; omega)).trans hmo) hM2 (fun a ha => (hE2 a ha).trans (hV a ha)) (fun q => by
            by_cases e1 : q = 265 + j
            · rw [e1, upF_self, if_pos (by omega)]
              first
              | (rw [if_pos (by omega)]; done)
              | (rw [if_neg (by omega)]; done)
            · rw [upF_ne _ _ e1, hI q]
              by_cases e2 : 265 ≤ q ∧ q < 265 + j
              · rw [if_pos e2, if_pos (show 265 ≤ q ∧ q < 265 + (j + 1) by omega)]
              · rw [if_neg e2, if_neg (show ¬ (265 ≤ q ∧ q < 265 + (j + 1)) by omega)])
        · have hwn : w < 0 := by have h9 : ¬ 0 ≤ w := fun z => hc_268 (cmpZ_ge.mpr z); omega
          refine aw_lload_n dX6_dual_271 (by rfl) ?_
          refine aw_lnegZ dX6_dual_272 ?_
          refine aw_goto (tgt := 277) dX6_dual_273 (by decide) ?_
          refine aw_lload dX6_dual_277 (by rfl) ?_
          refine aw_ldivZ dX6_dual_279 (by omega) (by omega) (by omega) (by omega) ?_
          refine aw_goto (tgt := 284) dX6_dual_280 (by decide) ?_
          refine aw_topl (y := ab w / gg) (by rw [Int.tdiv_eq_ediv_of_nonneg (by omega)]; congr 1; unfold ab; omega) ?_
          refine aw_callv vX6_83 dX6_dual_284 hmo (m_becomes g (d + 6) (c := 265 + j) (v := ab w / gg) ⟨_, _, _, _, hmo⟩ hM (by omega) (by omega)) (by rfl) (by rfl) (by omega) (Nat.le_of_ble_eq_true rfl) ?_
          rintro _ V2 _ _ _ ⟨rfl, rfl, rfl, hE2, rfl, hM2⟩ -
          refine q0 ?_
          refine aw_iincZ dX6_dual_287 (by rfl) (by decide) ?_
          refine aw_goto (tgt := 246) dX6_dual_290 (by decide) ?_
          rw [show ((j : Int) + 1) = ((j + 1 : Nat) : Int) by omega]
          refine aw_pk [7, 5, 4, 2, 0, 1] (by rfl) ?_
          exact IH (j + 1) (by omega) ((hE2 mo (by unfold EN; omega)).trans hmo) hM2 (fun a ha => (hE2 a ha).trans (hV a ha)) (fun q => by
            by_cases e1 : q = 265 + j
            · rw [e1, upF_self, if_pos (by omega)]
              first
              | (rw [if_pos (by omega)]; done)
              | (rw [if_neg (by omega)]; done)
            · rw [upF_ne _ _ e1, hI q]
              by_cases e2 : 265 ≤ q ∧ q < 265 + j
              · rw [if_pos e2, if_pos (show 265 ≤ q ∧ q < 265 + (j + 1) by omega)]
              · rw [if_neg e2, if_neg (show ¬ (265 ≤ q ∧ q < 265 + (j + 1)) by omega)])
set_option maxRecDepth 20000 in
theorem du_ri (d : Nat) {g : GX} {V0 : AH} {mo sz x nn : Nat} {rk kn ar ac w gg : Int} {zs : Nat → Int} {Q : AQ} {i : Nat} (q1 : 1 ≤ nn ∧ nn ≤ 5) (hi : i < nn) (hKK : ∀ {V : AH} {z : Nat → Int}, V mo = some (moO mo rk kn ar ac) → MN g mo V z → (∀ a, ¬ EN mo a → V a = V0 a) → TdI dsr nn zs z (i + 1) nn → AW g mX6_dual (d + 7) 345 [(7, .int (iZ (i : Int))), (5, .long (jZ gg)), (4, .int (iZ (nn : Int))), (2, .long (jZ w)), (0, .ref mo), (1, .int (iZ (x : Int)))] [] V sz Q) : ∀ (f j : Nat), j + f = nn → ∀ {V : AH} {z : Nat → Int}, V mo = some (moO mo rk kn ar ac) → MN g mo V z → (∀ a, ¬ EN mo a → V a = V0 a) → TdI dsr nn zs z (i + 1) j → AW g mX6_dual (d + 7) 306 [(8, .int (iZ (j : Int))), (7, .int (iZ (i : Int))), (5, .long (jZ gg)), (4, .int (iZ (nn : Int))), (2, .long (jZ w)), (0, .ref mo), (1, .int (iZ (x : Int)))] [] V sz Q
  | 0, j, hf, V, z, hmo, hM, hV, hI => by
    obtain rfl : nn = j := by omega
    refine aw_iload dX6_dual_306 (by rfl) ?_
    refine aw_iload dX6_dual_308 (by rfl) ?_
    refine aw_icmp_geZ (tgt := 345) dX6_dual_310 (by decide) (by omega) (by omega) (fun hc_310 => ?_) (fun hc_310 => ?_)
    · refine aw_pk [7, 5, 4, 2, 0, 1] (by rfl) ?_
      exact hKK hmo hM hV hI
    · exact absurd hc_310 (by omega)
  | f + 1, j, hf, V, z, hmo, hM, hV, hI => by
    have IH := fun j hj => @du_ri d g V0 mo sz x nn rk kn ar ac w gg zs Q i q1 hi hKK f j hj
    refine aw_iload dX6_dual_306 (by rfl) ?_
    refine aw_iload dX6_dual_308 (by rfl) ?_
    refine aw_icmp_geZ (tgt := 345) dX6_dual_310 (by decide) (by omega) (by omega) (fun hc_310 => ?_) (fun hc_310 => ?_)
    · exact absurd hc_310 (by omega)
    · refine aw_aload_n dX6_dual_313 (by rfl) (Or.inr ⟨_, rfl⟩) ?_
      refine aw_bipushZ dX6_dual_314 (by decide) ?_
      refine aw_iload dX6_dual_316 (by rfl) ?_
      refine aw_imulZ dX6_dual_318 ?_
      refine aw_iload dX6_dual_319 (by rfl) ?_
      refine aw_iaddZ dX6_dual_321 ?_
      refine aw_topi (y := ((15 * i + j : Nat) : Int)) (by omega) ?_
      refine aw_sipushZ dX6_dual_322 (by decide) ?_
      refine aw_bipushZ dX6_dual_325 (by decide) ?_
      refine aw_iload dX6_dual_327 (by rfl) ?_
      refine aw_iconstZ dX6_dual_329 ?_
      refine aw_iaddZ dX6_dual_330 ?_
      refine aw_imulZ dX6_dual_331 ?_
      refine aw_iaddZ dX6_dual_332 ?_
      refine aw_iload dX6_dual_333 (by rfl) ?_
      refine aw_iaddZ dX6_dual_335 ?_
      refine aw_topi (y := ((265 + 10 * (i + 1) + j : Nat) : Int)) (by omega) ?_
      refine aw_callv vX6_67 dX6_dual_336 hmo (m_copies g (d + 6) (a := 15 * i + j) (c := 265 + 10 * (i + 1) + j) ⟨_, _, _, _, hmo⟩ hM (by omega) (by omega)) (by rfl) (by rfl) (by omega) (Nat.le_of_ble_eq_true rfl) ?_
      rintro _ V2 _ _ _ ⟨rfl, rfl, rfl, hE2, rfl, hM2⟩ -
      refine q0 ?_
      refine aw_iincZ dX6_dual_339 (by rfl) (by decide) ?_
      refine aw_goto (tgt := 306) dX6_dual_342 (by decide) ?_
      rw [show ((j : Int) + 1) = ((j + 1 : Nat) : Int) by omega]
      refine aw_pk [8, 7, 5, 4, 2, 0, 1] (by rfl) ?_
      exact IH (j + 1) (by omega) ((hE2 mo (by unfold EN; omega)).trans hmo) hM2 (fun a ha => (hE2 a ha).trans (hV a ha)) (hI.up (by omega) (by omega) (by omega) (by unfold dsr; rw [if_neg (by omega), show i + 1 - 1 = i by omega]) (by omega))
set_option maxRecDepth 20000 in
theorem du_ro (d : Nat) {g : GX} {V0 : AH} {mo sz x nn : Nat} {rk kn ar ac w gg : Int} {zs : Nat → Int} {Q : AQ} (q1 : 1 ≤ nn ∧ nn ≤ 5) (hKK : ∀ {V : AH} {z : Nat → Int}, V mo = some (moO mo rk kn ar ac) → MN g mo V z → (∀ a, ¬ EN mo a → V a = V0 a) → TdI dsr nn zs z (nn + 1) 0 → AW g mX6_dual (d + 7) 351 [(5, .long (jZ gg)), (4, .int (iZ (nn : Int))), (2, .long (jZ w)), (0, .ref mo), (1, .int (iZ (x : Int)))] [] V sz Q) : ∀ (f i : Nat), i + f = nn → ∀ {V : AH} {z : Nat → Int}, V mo = some (moO mo rk kn ar ac) → MN g mo V z → (∀ a, ¬ EN mo a → V a = V0 a) → TdI dsr nn zs z (i + 1) 0 → AW g mX6_dual (d + 7) 296 [(7, .int (iZ (i : Int))), (5, .long (jZ gg)), (4, .int (iZ (nn : Int))), (2, .long (jZ w)), (0, .ref mo), (1, .int (iZ (x : Int)))] [] V sz Q
  | 0, i, hf, V, z, hmo, hM, hV, hI => by
    obtain rfl : nn = i := by omega
    refine aw_iload dX6_dual_296 (by rfl) ?_
    refine aw_iload dX6_dual_298 (by rfl) ?_
    refine aw_icmp_geZ (tgt := 351) dX6_dual_300 (by decide) (by omega) (by omega) (fun hc_300 => ?_) (fun hc_300 => ?_)
    · refine aw_pk [5, 4, 2, 0, 1] (by rfl) ?_
      exact hKK hmo hM hV hI
    · exact absurd hc_300 (by omega)
  | f + 1, i, hf, V, z, hmo, hM, hV, hI => by
    have IH := fun i hi => @du_ro d g V0 mo sz x nn rk kn ar ac w gg zs Q q1 hKK f i hi
    refine aw_iload dX6_dual_296 (by rfl) ?_
    refine aw_iload dX6_dual_298 (by rfl) ?_
    refine aw_icmp_geZ (tgt := 351) dX6_dual_300 (by decide) (by omega) (by omega) (fun hc_300 => ?_) (fun hc_300 => ?_)
    · exact absurd hc_300 (by omega)
    · refine aw_iconstZ dX6_dual_303 ?_
      refine aw_istore dX6_dual_304 (by decide) ?_
      refine aw_pk [8, 7, 5, 4, 2, 0, 1] (by rfl) ?_
      refine du_ri d (V0 := V0) (zs := zs) q1 (i := i) (by omega) (fun {V1 z1} hmo1 hM1 hV1 hI1 => ?_) nn 0 (by omega) hmo hM hV hI
      refine aw_iincZ dX6_dual_345 (by rfl) (by decide) ?_
      refine aw_goto (tgt := 296) dX6_dual_348 (by decide) ?_
      rw [show ((i : Int) + 1) = ((i + 1 : Nat) : Int) by omega]
      refine aw_pk [7, 5, 4, 2, 0, 1] (by rfl) ?_
      exact IH (i + 1) (by omega) hmo1 hM1 hV1 hI1.out
set_option maxRecDepth 20000 in
theorem m_dual (g : GX) (d : Nat) {V : AH} {mo sz : Nat} {zs : Nat → Int} {S : TSt} {A : ASt} {t : Int} (hR : RX g mo V zs S A) (ht : R32 t) : AMet g mX6_dual (d + 7) [.ref mo, .int (iZ t)] V sz (RE g mo V sz (OneR S A t (-1) (DuaR S A))) := by
  obtain ⟨⟨rk, kn, hmo⟩, -, -, -, -, -, hT, -, -, hTO, -⟩ := id hR
  obtain ⟨TH, RR, CC, NN, HH, t1, t2, t3, t4, t5, t6⟩ := id hT
  refine AMet.of rfl rfl (Nat.le_of_ble_eq_true rfl) ?_
  show AW g mX6_dual (d + 7) 0 [(0, .ref mo), (1, .int (iZ t))] [] V sz _
  refine aw_aload_n dX6_dual_0 (by rfl) (Or.inr ⟨_, rfl⟩) ?_
  refine aw_iload_n dX6_dual_1 (by rfl) ?_
  refine aw_callv vX6_137 dX6_dual_2 hmo (m_isTable g (d + 6) (t := t) hmo hT ht) (by rfl) (by rfl) (by omega) (Nat.le_of_ble_eq_true rfl) ?_
  rintro _ _ _ _ _ ⟨rfl, rfl, rfl, rfl, rfl⟩ -
  refine q0 ?_
  refine aw_if_neZ (tgt := 10) dX6_dual_5 (by decide) (tbZ_R _ _) (fun hc_5 => ?_) (fun hc_5 => ?_)
  · obtain ⟨n, hn, rfl, hrn⟩ := tbZ_yes hc_5
    obtain ⟨q1, q3, -, qx, -⟩ := hTO n hn
    refine aw_aload_n dX6_dual_10 (by rfl) (Or.inr ⟨_, rfl⟩) ?_
    refine aw_get fX6_37 dX6_dual_11 hmo (by rfl) ?_
    refine aw_iload_n dX6_dual_14 (by rfl) ?_
    refine aw_ialdZ (n) dX6_dual_15 t2 (by omega) (by omega) (by omega) ?_
    refine aw_aload_n dX6_dual_16 (by rfl) (Or.inr ⟨_, rfl⟩) ?_
    refine aw_get fX6_40 dX6_dual_17 hmo (by rfl) ?_
    refine aw_iload_n dX6_dual_20 (by rfl) ?_
    refine aw_ialdZ (n) dX6_dual_21 t3 (by omega) (by omega) (by omega) ?_
    refine aw_icmp_eqZ (tgt := 27) dX6_dual_22 (by decide) (by rw [(t6 n hn).2.1]; omega) (by rw [(t6 n hn).2.2.1]; omega) (fun hc_22 => ?_) (fun hc_22 => ?_)
    · have hsq : S.r n = S.c n := by rw [(t6 n hn).2.1, (t6 n hn).2.2.1] at hc_22; omega
      refine aw_aload_n dX6_dual_27 (by rfl) (Or.inr ⟨_, rfl⟩) ?_
      refine aw_iload_n dX6_dual_28 (by rfl) ?_
      refine aw_callv vX6_155 dX6_dual_29 hmo (m_worthOf g (d + 4) (t := n) hR hn) (by rfl) (by rfl) (by omega) (Nat.le_of_ble_eq_true rfl) ?_
      rintro _ V1 _ _ _ ⟨rfl, rfl, rfl, hE1, rfl, h131, h141⟩ -
      refine q0 ?_
      have hR1 := hR.rc hE1 h131 h141
      obtain ⟨⟨rk1, kn1, hmo1⟩, ⟨F61, h61⟩, ⟨F71, h71⟩, -, -, ⟨F15, h15⟩, hT1, hM1, -, -, o2⟩ := id hR1
      obtain ⟨TH1, RR1, CC1, NN1, HH1, u1, u2, u3, u4, u5, u6⟩ := id hT1
      have hdr3 := det_R (N := S.N n) (n := S.r n) q1 qx
      have hdr := hdr3
      unfold ab at hdr
      refine aw_lstore_n dX6_dual_32 (by decide) ?_
      refine aw_lload_n dX6_dual_33 (by rfl) ?_
      refine aw_lconstZ (z := 0) dX6_dual_34 (by decide) ?_
      refine aw_lcmpZ dX6_dual_35 (by omega) (by omega) ?_
      refine aw_if_neZ (tgt := 41) dX6_dual_36 (by decide) (cmpZ_R _ _) (fun hc_36 => ?_) (fun hc_36 => ?_)
      · have hd0 : det (S.r n) (TM (S.N n)) ≠ 0 := fun z => hc_36 (cmpZ_eq.mpr z)
        refine aw_aload_n dX6_dual_41 (by rfl) (Or.inr ⟨_, rfl⟩) ?_
        refine aw_get fX6_37 dX6_dual_42 hmo1 (by rfl) ?_
        refine aw_iload_n dX6_dual_45 (by rfl) ?_
        refine aw_ialdZ (n) dX6_dual_46 u2 (by omega) (by omega) (by omega) ?_
        refine aw_istore dX6_dual_47 (by decide) ?_
        refine aw_lload_n dX6_dual_49 (by rfl) ?_
        refine aw_lstore dX6_dual_50 (by decide) ?_
        refine aw_iconstZ dX6_dual_52 ?_
        refine aw_istore dX6_dual_53 (by decide) ?_
        rw [(u6 n hn).2.1]
        refine aw_pk [7, 5, 4, 2, 0, 1] (by rfl) ?_
        refine dgc_out (d + 3) (V0 := V1) (rk := rk1) (kn := kn1) (ar := arZ A) (ac := acZ A) hT1 hn rfl ⟨by omega, q1⟩ qx (fun {V2 gv} hmo2 hV2 h132 h142 hI2 => ?_) (S.r n) 0 (by omega) hmo1 (fun _ _ => rfl) h131 h141 ⟨fun d => ⟨fun z => ⟨z, fun a b _ hq => absurd hq (by omega)⟩, fun z => z.1⟩, hdr3, Or.inl ⟨rfl, rfl⟩⟩
        obtain ⟨hdA, hdB, hdC⟩ := hI2
        have hdv0 : ∀ d : Int, d ∣ gv ↔ (d ∣ det (S.r n) (TM (S.N n)) ∧ ∀ i j, i < S.r n → j < S.r n → d ∣ cof (S.r n) (TM (S.N n)) i j) := fun d => (hdA d).trans ⟨fun z => ⟨z.1, fun i j hi hj => z.2 i j hj (Or.inl hi)⟩, fun z => ⟨z.1, fun a b hb hq => z.2 a b (by omega) hb⟩⟩
        have hgv0 : 0 ≤ gv := hdC.resolve_left (by omega)
        have hgp : 0 < gv ∧ gv ≤ 120000000000000000 := by
          refine ⟨?_, by rw [ab_pos hgv0] at hdB; exact hdB⟩
          rcases Int.lt_or_eq_of_le hgv0 with q | q
          · exact q
          · obtain ⟨u, hu⟩ := ((hdv0 gv).mp ⟨1, by omega⟩).1
            rw [← q, Int.zero_mul] at hu
            exact absurd hu hd0
        have hgd0 := dual_g (by omega) hdv0
        refine aw_aload_n dX6_dual_100 (by rfl) (Or.inr ⟨_, rfl⟩) ?_
        refine aw_callv vX6_195 dX6_dual_101 hmo2 (m_none g (d + 6) hmo2) (by rfl) (by rfl) (by omega) (Nat.le_of_ble_eq_true rfl) ?_
        rintro _ V3 _ _ _ ⟨rfl, rfl, rfl, hE3, rfl, hmo3⟩ -
        refine q0 ?_
        have hT3 := hT1.kept2b (V' := V3) (fun a h1 h2 => (hE3 a (by omega)).trans (hV2 a (by unfold ERC; omega)))
        refine aw_iconstZ dX6_dual_104 ?_
        refine aw_istore dX6_dual_105 (by decide) ?_
        refine aw_pk [7, 5, 4, 2, 0, 1] (by rfl) ?_
        refine dr_out d (V0 := V3) (gg := gv) (kn := 0) (ar := arZ A) (ac := acZ A) hT3 hn rfl ⟨by omega, q1⟩ qx hgp (fun i j hi hj => (hgd0 gv).mp ⟨1, by omega⟩ i j hi hj) (fun {V4 z4 r4 l4} hG4 hr4 hsp4 hV4 h134 h144 => ?_) (S.r n) 0 (by omega) (r := 0) (l := fun _ => 0) (z := zs) ⟨F61, hmo3, (hE3 _ (by omega)).trans ((hV2 _ (by unfold ERC; omega)).trans h61), fun i hi => absurd hi (by omega), hM1.kept (fun a ha => (hE3 a (by unfold EN at ha; omega)).trans (hV2 a (by unfold EN at ha; unfold ERC; omega))), ⟨⟨fun i hi => absurd hi (by omega), fun i k _ hk => absurd hk (by omega)⟩, fun i hi => absurd hi (by omega), fun i k _ hk => absurd hk (by omega)⟩, fun i t hi => absurd hi (by omega)⟩ (by omega) (SpEq.of (fun i hi => absurd hi (by omega)) (fun i hi => absurd hi (by omega))) (fun _ _ => rfl) (by obtain ⟨F, hF⟩ := h132; exact ⟨F, (hE3 _ (by omega)).trans hF⟩) (by obtain ⟨F, hF⟩ := h142; exact ⟨F, (hE3 _ (by omega)).trans hF⟩)
        obtain ⟨RW4, hmo4, hra4, hl4, hM4, hst4, hz4⟩ := hG4
        have hst5 := st_narrow (c := S.r n) hst4 (sp_narrow hsp4 (fun i j hi h1 h2 => by unfold DR; rw [if_neg (by omega)]))
        have hsp5 := hsp4.wc (c := S.r n) q1
        have hd0' : det (S.c n) (TM (S.N n)) ≠ 0 := by rw [← hsq]; exact hd0
        have hgd : ∀ d : Int, d ∣ gv ↔ ∀ i j, i < S.c n → j < S.c n → d ∣ cof (S.c n) (TM (S.N n)) i j := by rw [← hsq]; exact hgd0
        have hDM : SpEq (DM S n gv) (S.c n) (BMx 0 15 z4) r4 (S.c n) := by
          rw [hsq] at hsp5
          exact SpEq.tr (SpEq.cong (fun i hi j hj => by unfold DR DM; rw [if_pos (by omega)])) hsp5
        obtain rfl : S.c n = r4 := (dm_rank hd0' (fun i j hi hj => (hgd gv).mp ⟨1, by omega⟩ i j hi hj) hgp.1 (by rw [hsq] at hst5; exact hst5.1) hDM).symm
        obtain ⟨gg, rfl⟩ : ∃ gg, gg = gv := ⟨gv, rfl⟩
        have hg := hgp
        refine aw_iconstZ dX6_dual_243 ?_
        refine aw_istore dX6_dual_244 (by decide) ?_
        refine aw_pk [7, 5, 4, 2, 0, 1] (by rfl) ?_
        refine du_r0 d (V0 := V4) (zs := z4) ⟨by omega, q1⟩ hg (by omega) (fun {V5 z5} hmo5 hM5 hV5 hI5 => ?_) (S.r n) 0 (by omega) hmo4 hM4 (fun _ _ => rfl) (fun q => by rw [if_neg (by omega)])
        refine aw_iconstZ dX6_dual_293 ?_
        refine aw_istore dX6_dual_294 (by decide) ?_
        refine aw_pk [7, 5, 4, 2, 0, 1] (by rfl) ?_
        refine du_ro d (V0 := V4) (zs := z5) ⟨by omega, q1⟩ (fun {V6 z6} hmo6 hM6 hV6 hI6 => ?_) (S.r n) 0 (by omega) hmo5 hM5 hV5 ⟨fun a b hab => ?_, fun _ _ => rfl⟩
        rotate_left
        · show z5 (265 + 10 * a + b) = z5 (dsr a b)
          unfold dsr
          rw [if_pos (by omega), show 265 + 10 * a + b = 265 + b by omega]
        refine aw_aload_n dX6_dual_351 (by rfl) (Or.inr ⟨_, rfl⟩) ?_
        refine aw_iload dX6_dual_352 (by rfl) ?_
        refine aw_iconstZ dX6_dual_354 ?_
        refine aw_iaddZ dX6_dual_355 ?_
        rw [show ((S.r n : Int) + 1) = ((S.r n + 1 : Nat) : Int) by omega]
        refine aw_iload dX6_dual_356 (by rfl) ?_
        refine aw_callv vX6_189 dX6_dual_358 hmo6 (m_tells g (d + 6) (h := S.r n + 1) (w := S.r n) hmo6 (by omega)) (by rfl) (by rfl) (by omega) (Nat.le_of_ble_eq_true rfl) ?_
        rintro _ V7 _ _ _ ⟨rfl, rfl, rfl, hE7, rfl, hmo7⟩ -
        refine q0 ?_
        refine aw_iload dX6_dual_361 (by rfl) ?_
        refine aw_iconstZ dX6_dual_363 ?_
        refine aw_iaddZ dX6_dual_364 ?_
        refine aw_iret dX6_dual_365 rfl (by rfl) ?_
        refine ⟨rfl, rfl, rfl, fun a ha => ?_, z6, S, (1, S.c n + 1, S.c n, duM (ab (det (S.c n) (TM (S.N n))) / gg) (BMx 0 15 z4)), ?_, rfl, Or.inl ⟨n, hn, rfl, hrn, Or.inr ⟨hsq, hd0', gg, l4, BMx 0 15 z4, hg.1, hgd, (by rw [hsq] at hst5; exact hst5), hDM, ?_, rfl, rfl, by show S.c n = if S.c n + 1 = 0 then 0 else S.c n; rw [if_neg (by omega)], fun _ _ _ _ => rfl⟩⟩⟩
        · exact (hE7 a (fun z => ha (by unfold EM; omega))).trans ((hV6 a (fun z => ha (by unfold EN at z; unfold EM; omega))).trans ((hV4 a (fun z => ha (by rcases z with z | z; (unfold E5 at z; unfold EM; omega); (unfold ERC at z; unfold EM; omega)))).trans ((hE3 a (fun z => ha (by unfold EM; omega))).trans ((hV2 a (fun z => ha (by unfold ERC at z; unfold EM; omega))).trans (hE1 a (fun z => ha (by unfold ERC at z; unfold EM; omega)))))))
        · have h137 : ∃ F : Nat → Int, V7 (mo + 13) = some (aIz g 5 F) := by obtain ⟨F, hF⟩ := h134; exact ⟨F, (hE7 _ (by omega)).trans ((hV6 _ (by unfold EN; omega)).trans hF)⟩
          have h147 : ∃ F : Nat → Int, V7 (mo + 14) = some (aIz g 5 F) := by obtain ⟨F, hF⟩ := h144; exact ⟨F, (hE7 _ (by omega)).trans ((hV6 _ (by unfold EN; omega)).trans hF)⟩
          refine ⟨⟨((S.c n : Nat) : Int), 0, ?_⟩, ⟨RW4, (hE7 _ (by omega)).trans ((hV6 _ (by unfold EN; omega)).trans hra4)⟩, ⟨F71, (hE7 _ (by omega)).trans ((hV6 _ (by unfold EN; omega)).trans ((hV4 _ (by unfold E5 ERC; omega)).trans ((hE3 _ (by omega)).trans ((hV2 _ (by unfold ERC; omega)).trans h71))))⟩, h137, h147, ⟨F15, (hE7 _ (by omega)).trans ((hV6 _ (by unfold EN; omega)).trans ((hV4 _ (by unfold E5 ERC; omega)).trans ((hE3 _ (by omega)).trans ((hV2 _ (by unfold ERC; omega)).trans h15))))⟩, hT1.kept2b (fun a h1 h2 => (hE7 a (by omega)).trans ((hV6 a (by unfold EN; omega)).trans ((hV4 a (by unfold E5 ERC; omega)).trans ((hE3 a (by omega)).trans (hV2 a (by unfold ERC; omega)))))), hM6.kept (fun a ha => hE7 a (by unfold EN at ha; omega)), fun i j hi hj => ?_, hTO, ?_⟩
          · rw [hmo7, hsq, if_neg (by omega)]; rfl
          · have hi : i < S.c n + 1 := hi
            have hj : j < S.c n := hj
            show z6 (265 + 10 * i + j) = duM _ _ i j
            rw [hI6.1 i j (Or.inl ⟨by omega, by omega⟩)]
            unfold duM dsr
            by_cases c : i = 0
            · rw [if_pos c, if_pos c, hI5 _, if_pos (by omega)]
              by_cases c2 : j = 0
              · rw [if_pos c2, if_pos (by omega), hsq]
              · rw [if_neg c2, if_neg (by omega)]
            · rw [if_neg c, if_neg c, hI5 _, if_neg (by omega)]
              show _ = z4 (0 + 15 * (i - 1) + j)
              rw [Nat.zero_add]
          · refine ⟨Or.inr rfl, ?_, ?_, fun z => absurd z (by show ¬ (1 : Nat) = 0; omega)⟩
            · show S.c n + 1 ≤ 10; omega
            · show S.c n ≤ 5; omega
        · rw [hsq]
      · have hd1 : det (S.r n) (TM (S.N n)) = 0 := cmpZ_eq.mp hc_36
        refine aw_iconstZ dX6_dual_39 ?_
        refine aw_iret dX6_dual_40 rfl (by rfl) ?_
        exact ⟨rfl, rfl, rfl, fun a ha => hE1 a (fun z => ha (by unfold ERC at z; unfold EM; omega)), zs, S, A, hR1, rfl, Or.inl ⟨n, hn, rfl, hrn, Or.inl ⟨fun z => z.2 (by rw [← hsq]; exact hd1), rfl, rfl⟩⟩⟩
    · have hsq : S.r n ≠ S.c n := by rw [(t6 n hn).2.1, (t6 n hn).2.2.1] at hc_22; omega
      refine aw_iconstZ dX6_dual_25 ?_
      refine aw_iret dX6_dual_26 rfl (by rfl) ?_
      exact ⟨rfl, rfl, rfl, fun _ _ => rfl, zs, S, A, hR, rfl, Or.inl ⟨n, hn, rfl, hrn, Or.inl ⟨fun z => hsq z.1, rfl, rfl⟩⟩⟩
  · have hno := tbZ_no hc_5
    refine aw_iconstZ dX6_dual_8 ?_
    refine aw_iret dX6_dual_9 rfl (by rfl) ?_
    exact ⟨rfl, rfl, rfl, fun _ _ => rfl, zs, S, A, hR, rfl, Or.inr ⟨hno, rfl, rfl⟩⟩
