/-! ===== the reference: dual ===== -/
/-- what the WORTH and the cofactors before (i, j) share -/
def DvI (N : Nat → Int) (n : Nat) (w : Int) (i j : Nat) (gv : Int) : Prop := (∀ d : Int, d ∣ gv ↔ d ∣ w ∧ ∀ a b, b < n → (a < i ∨ (a = i ∧ b < j)) → d ∣ cof n (TM N) a b) ∧ ab gv ≤ 120000000000000000 ∧ ((i = 0 ∧ j = 0) ∨ 0 ≤ gv)
theorem DvI.step {N : Nat → Int} {n : Nat} {w gv gg : Int} {i j : Nat} (h : DvI N n w i j gv) (hj : j < n) (h1 : 0 ≤ gg ∧ gg ≤ 120000000000000000) (h2 : ∀ d : Int, d ∣ gg ↔ d ∣ gv ∧ d ∣ cof n (TM N) i j) : DvI N n w i (j + 1) gg := by
  refine ⟨fun d => ?_, by rw [ab_pos h1.1]; exact h1.2, Or.inr h1.1⟩
  rw [h2, h.1]
  constructor
  · rintro ⟨⟨a1, a2⟩, a3⟩
    refine ⟨a1, fun a b hb hq => ?_⟩
    by_cases c : a = i ∧ b = j
    · rw [c.1, c.2]; exact a3
    · exact a2 a b hb (by omega)
  · rintro ⟨a1, a2⟩
    exact ⟨⟨a1, fun a b hb hq => a2 a b hb (by omega)⟩, a2 i j hj (by omega)⟩
theorem DvI.out {N : Nat → Int} {n : Nat} {w gv : Int} {i : Nat} (h : DvI N n w i n gv) (hn : 0 < n) : DvI N n w (i + 1) 0 gv := by
  refine ⟨fun d => (h.1 d).trans ⟨fun z => ⟨z.1, fun a b hb hq => z.2 a b hb (by omega)⟩, fun z => ⟨z.1, fun a b hb hq => z.2 a b hb (by omega)⟩⟩, h.2.1, Or.inr (h.2.2.resolve_left (by omega))⟩
theorem tdiv_ex {a gg : Int} (hg : 0 < gg) (hd : gg ∣ a) : a.tdiv gg = a / gg := by
  obtain ⟨u, rfl⟩ := hd
  rw [Int.mul_tdiv_cancel_left u (by omega), Int.mul_ediv_cancel_left u (by omega)]
/-- the coming row of dual -/
def DR (N : Nat → Int) (n : Nat) (gg : Int) : Mat := fun i j => if j < n then cof n (TM N) i j / gg else 0
theorem DR.bd {N : Nat → Int} {n : Nat} {gg : Int} {i j : Nat} (hn : 1 ≤ n ∧ n ≤ 5) (hN : ∀ k, k < 25 → -1000 ≤ N k ∧ N k ≤ 1000) (hg : 0 < gg) (hd : ∀ i j, i < n → j < n → gg ∣ cof n (TM N) i j) (hi : i < n) : ab (DR N n gg i j) ≤ 24000000000000 := by
  unfold DR
  by_cases c : j < n
  · rw [if_pos c, ← tdiv_ex hg (hd i j hi c)]
    exact Int.le_trans (tdiv_ab hg) (cof_R hn hN hi c)
  · rw [if_neg c]; decide
set_option maxRecDepth 20000 in
theorem dgc_in (d : Nat) {g : GX} {V0 : AH} {mo sz x nn : Nat} {rk kn ar ac w : Int} {S : TSt} {Q : AQ} {i : Nat} (hT0 : RTb g mo V0 S) (hx : x < 12) (hnn : nn = S.r x) (q1 : 1 ≤ nn ∧ nn ≤ 5) (qx : ∀ e, e < 25 → -1000 ≤ S.N x e ∧ S.N x e ≤ 1000) (hi : i < nn) (hKK : ∀ {V : AH} {gv : Int}, V mo = some (moO mo rk kn ar ac) → (∀ a, ¬ ERC mo a → V a = V0 a) → (∃ F : Nat → Int, V (mo + 13) = some (aIz g 5 F)) → (∃ F : Nat → Int, V (mo + 14) = some (aIz g 5 F)) → DvI (S.N x) nn w i nn gv → AW g mX6_dual (d + 4) 94 [(7, .int (iZ (i : Int))), (5, .long (jZ gv)), (4, .int (iZ (nn : Int))), (2, .long (jZ w)), (0, .ref mo), (1, .int (iZ (x : Int)))] [] V sz Q) : ∀ (f j : Nat), j + f = nn → ∀ {V : AH} {gv : Int}, V mo = some (moO mo rk kn ar ac) → (∀ a, ¬ ERC mo a → V a = V0 a) → (∃ F : Nat → Int, V (mo + 13) = some (aIz g 5 F)) → (∃ F : Nat → Int, V (mo + 14) = some (aIz g 5 F)) → DvI (S.N x) nn w i j gv → AW g mX6_dual (d + 4) 65 [(8, .int (iZ (j : Int))), (7, .int (iZ (i : Int))), (5, .long (jZ gv)), (4, .int (iZ (nn : Int))), (2, .long (jZ w)), (0, .ref mo), (1, .int (iZ (x : Int)))] [] V sz Q
  | 0, j, hf, V, gv, hmo, hV, h13, h14, hI => by
    obtain rfl : nn = j := by omega
    refine aw_iload dX6_dual_65 (by rfl) ?_
    refine aw_iload dX6_dual_67 (by rfl) ?_
    refine aw_icmp_geZ (tgt := 94) dX6_dual_69 (by decide) (by omega) (by omega) (fun hc_69 => ?_) (fun hc_69 => ?_)
    · refine aw_pk [7, 5, 4, 2, 0, 1] (by rfl) ?_
      exact hKK hmo hV h13 h14 hI
    · exact absurd hc_69 (by omega)
  | f + 1, j, hf, V, gv, hmo, hV, h13, h14, hI => by
    have IH := fun j hj => @dgc_in d g V0 mo sz x nn rk kn ar ac w S Q i hT0 hx hnn q1 qx hi hKK f j hj
    have hT := hT0.kept2b (V' := V) (fun a h1 h2 => hV a (by unfold ERC; omega))
    obtain ⟨F13, h13'⟩ := id h13
    obtain ⟨F14, h14'⟩ := id h14
    have hcb : ab (cof nn (TM (S.N x)) i j) ≤ 24000000000000 := cof_R q1 qx hi (by omega)
    refine aw_iload dX6_dual_65 (by rfl) ?_
    refine aw_iload dX6_dual_67 (by rfl) ?_
    refine aw_icmp_geZ (tgt := 94) dX6_dual_69 (by decide) (by omega) (by omega) (fun hc_69 => ?_) (fun hc_69 => ?_)
    · exact absurd hc_69 (by omega)
    · refine aw_lload dX6_dual_72 (by rfl) ?_
      refine aw_aload_n dX6_dual_74 (by rfl) (Or.inr ⟨_, rfl⟩) ?_
      refine aw_iload_n dX6_dual_75 (by rfl) ?_
      refine aw_iload dX6_dual_76 (by rfl) ?_
      refine aw_iload dX6_dual_78 (by rfl) ?_
      refine aw_callv vX6_211 dX6_dual_80 hmo (m_cofactor g (d + 1) (t := x) (i := i) (j := j) hmo hT hx (by omega) qx h13' h14' (by omega) (by omega)) (by rfl) (by rfl) (by omega) (Nat.le_of_ble_eq_true rfl) ?_
      rintro _ V1 _ _ _ ⟨rfl, rfl, rfl, hE1, rfl, h131, h141⟩ -
      refine q0 ?_
      rw [← hnn]
      refine aw_calls sX6_207 dX6_dual_83 (m_common g (d + 3) (B := 120000000000000000) (p := gv) (q := cof nn (TM (S.N x)) i j) (by decide) hI.2.1 (by show _ ≤ ((120000000000000000 : Nat) : Int); omega)) (by rfl) (by rfl) (by omega) (Nat.le_of_ble_eq_true rfl) ?_
      rintro _ _ _ _ _ ⟨gg, rfl, hgg, hdv, rfl, rfl, rfl, rfl⟩ -
      refine q0 ?_
      refine aw_lstore dX6_dual_86 (by decide) ?_
      refine aw_iincZ dX6_dual_88 (by rfl) (by decide) ?_
      refine aw_goto (tgt := 65) dX6_dual_91 (by decide) ?_
      rw [show ((j : Int) + 1) = ((j + 1 : Nat) : Int) by omega]
      refine aw_pk [8, 7, 5, 4, 2, 0, 1] (by rfl) ?_
      exact IH (j + 1) (by omega) ((hE1 mo (by unfold ERC; omega)).trans hmo) (fun a ha => (hE1 a ha).trans (hV a ha)) h131 h141 (hI.step (by omega) hgg hdv)
set_option maxRecDepth 20000 in
theorem dgc_out (d : Nat) {g : GX} {V0 : AH} {mo sz x nn : Nat} {rk kn ar ac w : Int} {S : TSt} {Q : AQ} (hT0 : RTb g mo V0 S) (hx : x < 12) (hnn : nn = S.r x) (q1 : 1 ≤ nn ∧ nn ≤ 5) (qx : ∀ e, e < 25 → -1000 ≤ S.N x e ∧ S.N x e ≤ 1000) (hKK : ∀ {V : AH} {gv : Int}, V mo = some (moO mo rk kn ar ac) → (∀ a, ¬ ERC mo a → V a = V0 a) → (∃ F : Nat → Int, V (mo + 13) = some (aIz g 5 F)) → (∃ F : Nat → Int, V (mo + 14) = some (aIz g 5 F)) → DvI (S.N x) nn w nn 0 gv → AW g mX6_dual (d + 4) 100 [(5, .long (jZ gv)), (4, .int (iZ (nn : Int))), (2, .long (jZ w)), (0, .ref mo), (1, .int (iZ (x : Int)))] [] V sz Q) : ∀ (f i : Nat), i + f = nn → ∀ {V : AH} {gv : Int}, V mo = some (moO mo rk kn ar ac) → (∀ a, ¬ ERC mo a → V a = V0 a) → (∃ F : Nat → Int, V (mo + 13) = some (aIz g 5 F)) → (∃ F : Nat → Int, V (mo + 14) = some (aIz g 5 F)) → DvI (S.N x) nn w i 0 gv → AW g mX6_dual (d + 4) 55 [(7, .int (iZ (i : Int))), (5, .long (jZ gv)), (4, .int (iZ (nn : Int))), (2, .long (jZ w)), (0, .ref mo), (1, .int (iZ (x : Int)))] [] V sz Q
  | 0, i, hf, V, gv, hmo, hV, h13, h14, hI => by
    obtain rfl : nn = i := by omega
    refine aw_iload dX6_dual_55 (by rfl) ?_
    refine aw_iload dX6_dual_57 (by rfl) ?_
    refine aw_icmp_geZ (tgt := 100) dX6_dual_59 (by decide) (by omega) (by omega) (fun hc_59 => ?_) (fun hc_59 => ?_)
    · refine aw_pk [5, 4, 2, 0, 1] (by rfl) ?_
      exact hKK hmo hV h13 h14 hI
    · exact absurd hc_59 (by omega)
  | f + 1, i, hf, V, gv, hmo, hV, h13, h14, hI => by
    have IH := fun i hi => @dgc_out d g V0 mo sz x nn rk kn ar ac w S Q hT0 hx hnn q1 qx hKK f i hi
    refine aw_iload dX6_dual_55 (by rfl) ?_
    refine aw_iload dX6_dual_57 (by rfl) ?_
    refine aw_icmp_geZ (tgt := 100) dX6_dual_59 (by decide) (by omega) (by omega) (fun hc_59 => ?_) (fun hc_59 => ?_)
    · exact absurd hc_59 (by omega)
    · refine aw_iconstZ dX6_dual_62 ?_
      refine aw_istore dX6_dual_63 (by decide) ?_
      refine aw_pk [8, 7, 5, 4, 2, 0, 1] (by rfl) ?_
      refine dgc_in d (V0 := V0) (rk := rk) (kn := kn) (ar := ar) (ac := ac) hT0 hx hnn q1 qx (i := i) (by omega) (fun {V1 gv1} hmo1 hV1 h131 h141 hI1 => ?_) nn 0 (by omega) hmo hV h13 h14 hI
      refine aw_iincZ dX6_dual_94 (by rfl) (by decide) ?_
      refine aw_goto (tgt := 55) dX6_dual_97 (by decide) ?_
      rw [show ((i : Int) + 1) = ((i + 1 : Nat) : Int) by omega]
      refine aw_pk [7, 5, 4, 2, 0, 1] (by rfl) ?_
      exact IH (i + 1) (by omega) hmo1 hV1 h131 h141 (hI1.out (by omega))
set_option maxRecDepth 20000 in
theorem dr_in (d : Nat) {g : GX} {V0 : AH} {mo sz x nn : Nat} {rk kn ar ac w gg : Int} {zs : Nat → Int} {S : TSt} {Q : AQ} {i : Nat} (hT0 : RTb g mo V0 S) (hx : x < 12) (hnn : nn = S.r x) (q1 : 1 ≤ nn ∧ nn ≤ 5) (qx : ∀ e, e < 25 → -1000 ≤ S.N x e ∧ S.N x e ≤ 1000) (hg : 0 < gg ∧ gg ≤ 120000000000000000) (hdv : ∀ i j, i < nn → j < nn → gg ∣ cof nn (TM (S.N x)) i j) (hi : i < nn) (hKK : ∀ {V : AH} {z : Nat → Int}, V mo = some (moO mo rk kn ar ac) → MN g mo V z → (∀ a, ¬ (EN mo a ∨ ERC mo a) → V a = V0 a) → (∃ F : Nat → Int, V (mo + 13) = some (aIz g 5 F)) → (∃ F : Nat → Int, V (mo + 14) = some (aIz g 5 F)) → (∀ q, z q = if 150 ≤ q ∧ q < 150 + 5 then DR (S.N x) nn gg i (q - 150) else zs q) → AW g mX6_dual (d + 7) 162 [(7, .int (iZ (i : Int))), (5, .long (jZ gg)), (4, .int (iZ (nn : Int))), (2, .long (jZ w)), (0, .ref mo), (1, .int (iZ (x : Int)))] [] V sz Q) : ∀ (f j : Nat), j + f = 5 → ∀ {V : AH} {z : Nat → Int}, V mo = some (moO mo rk kn ar ac) → MN g mo V z → (∀ a, ¬ (EN mo a ∨ ERC mo a) → V a = V0 a) → (∃ F : Nat → Int, V (mo + 13) = some (aIz g 5 F)) → (∃ F : Nat → Int, V (mo + 14) = some (aIz g 5 F)) → (∀ q, z q = if 150 ≤ q ∧ q < 150 + j then DR (S.N x) nn gg i (q - 150) else zs q) → AW g mX6_dual (d + 7) 117 [(8, .int (iZ (j : Int))), (7, .int (iZ (i : Int))), (5, .long (jZ gg)), (4, .int (iZ (nn : Int))), (2, .long (jZ w)), (0, .ref mo), (1, .int (iZ (x : Int)))] [] V sz Q
  | 0, j, hf, V, z, hmo, hM, hV, h13, h14, hI => by
    obtain rfl : j = 5 := by omega
    refine aw_iload dX6_dual_117 (by rfl) ?_
    refine aw_iconstZ dX6_dual_119 ?_
    refine aw_icmp_geZ (tgt := 162) dX6_dual_120 (by decide) (by omega) (by omega) (fun hc_120 => ?_) (fun hc_120 => ?_)
    · refine aw_pk [7, 5, 4, 2, 0, 1] (by rfl) ?_
      exact hKK hmo hM hV h13 h14 hI
    · exact absurd hc_120 (by omega)
  | f + 1, j, hf, V, z, hmo, hM, hV, h13, h14, hI => by
    have IH := fun j hj => @dr_in d g V0 mo sz x nn rk kn ar ac w gg zs S Q i hT0 hx hnn q1 qx hg hdv hi hKK f j hj
    have hT := hT0.kept2b (V' := V) (fun a h1 h2 => hV a (by unfold EN ERC; omega))
    obtain ⟨F13, h13'⟩ := id h13
    obtain ⟨F14, h14'⟩ := id h14
    have hdb := DR.bd (j := j) q1 qx hg.1 hdv hi
    unfold ab at hdb
    refine aw_iload dX6_dual_117 (by rfl) ?_
    refine aw_iconstZ dX6_dual_119 ?_
    refine aw_icmp_geZ (tgt := 162) dX6_dual_120 (by decide) (by omega) (by omega) (fun hc_120 => ?_) (fun hc_120 => ?_)
    · exact absurd hc_120 (by omega)
    · refine aw_aload_n dX6_dual_123 (by rfl) (Or.inr ⟨_, rfl⟩) ?_
      refine aw_sipushZ dX6_dual_124 (by decide) ?_
      refine aw_iload dX6_dual_127 (by rfl) ?_
      refine aw_iaddZ dX6_dual_129 ?_
      refine aw_topi (y := ((150 + j : Nat) : Int)) (by omega) ?_
      refine aw_iload dX6_dual_130 (by rfl) ?_
      refine aw_iload dX6_dual_132 (by rfl) ?_
      refine aw_icmp_geZ (tgt := 152) dX6_dual_134 (by decide) (by omega) (by omega) (fun hc_134 => ?_) (fun hc_134 => ?_)
      · refine aw_lconstZ (z := 0) dX6_dual_152 (by decide) ?_
        refine aw_topl (y := DR (S.N x) nn gg i j) (by unfold DR; rw [if_neg (by omega)]) ?_
        refine aw_callv vX6_83 dX6_dual_153 hmo (m_becomes g (d + 6) (c := 150 + j) (v := DR (S.N x) nn gg i j) ⟨_, _, _, _, hmo⟩ hM (by omega) (by omega)) (by rfl) (by rfl) (by omega) (Nat.le_of_ble_eq_true rfl) ?_
        rintro _ V2 _ _ _ ⟨rfl, rfl, rfl, hE2, rfl, hM2⟩ -
        refine q0 ?_
        refine aw_iincZ dX6_dual_156 (by rfl) (by decide) ?_
        refine aw_goto (tgt := 117) dX6_dual_159 (by decide) ?_
        rw [show ((j : Int) + 1) = ((j + 1 : Nat) : Int) by omega]
        refine aw_pk [8, 7, 5, 4, 2, 0, 1] (by rfl) ?_
        exact IH (j + 1) (by omega) ((hE2 mo (by unfold EN; omega)).trans hmo) hM2 (fun a ha => (hE2 a (fun z => ha (Or.inl z))).trans (hV a ha)) (by obtain ⟨F, hF⟩ := h13; exact ⟨F, (hE2 _ (by unfold EN; omega)).trans hF⟩) (by obtain ⟨F, hF⟩ := h14; exact ⟨F, (hE2 _ (by unfold EN; omega)).trans hF⟩) (fun q => by
          by_cases e1 : q = 150 + j
          · rw [e1, upF_self, if_pos (by omega), show 150 + j - 150 = j by omega]
          · rw [upF_ne _ _ e1, hI q]
            by_cases e2 : 150 ≤ q ∧ q < 150 + j
            · rw [if_pos e2, if_pos (by omega)]
            · rw [if_neg e2, if_neg (by omega)])
      · have hj : j < nn := by omega
        refine aw_aload_n dX6_dual_137 (by rfl) (Or.inr ⟨_, rfl⟩) ?_
        refine aw_iload_n dX6_dual_138 (by rfl) ?_
        refine aw_iload dX6_dual_139 (by rfl) ?_
        refine aw_iload dX6_dual_141 (by rfl) ?_
        refine aw_callv vX6_211 dX6_dual_143 hmo (m_cofactor g (d + 4) (t := x) (i := i) (j := j) hmo hT hx (by omega) qx h13' h14' (by omega) (by omega)) (by rfl) (by rfl) (by omega) (Nat.le_of_ble_eq_true rfl) ?_
        rintro _ V1 _ _ _ ⟨rfl, rfl, rfl, hE1, rfl, h131, h141⟩ -
        refine q0 ?_
        rw [← hnn]
        have hmo1 := (hE1 mo (by unfold ERC; omega)).trans hmo
        have hM1 := hM.kept (V' := V1) (fun a ha => hE1 a (by unfold EN at ha; unfold ERC; omega))
        refine aw_lload dX6_dual_146 (by rfl) ?_
        refine aw_ldivZ dX6_dual_148 (by have := cof_R q1 qx hi hj; unfold ab at this; omega) (by omega) (by omega) (by omega) ?_
        refine aw_goto (tgt := 153) dX6_dual_149 (by decide) ?_
        refine aw_topl (y := DR (S.N x) nn gg i j) (by unfold DR; rw [if_pos hj]; exact tdiv_ex hg.1 (hdv i j hi hj)) ?_
        refine aw_callv vX6_83 dX6_dual_153 hmo1 (m_becomes g (d + 6) (c := 150 + j) (v := DR (S.N x) nn gg i j) ⟨_, _, _, _, hmo1⟩ hM1 (by omega) (by omega)) (by rfl) (by rfl) (by omega) (Nat.le_of_ble_eq_true rfl) ?_
        rintro _ V2 _ _ _ ⟨rfl, rfl, rfl, hE2, rfl, hM2⟩ -
        refine q0 ?_
        refine aw_iincZ dX6_dual_156 (by rfl) (by decide) ?_
        refine aw_goto (tgt := 117) dX6_dual_159 (by decide) ?_
        rw [show ((j : Int) + 1) = ((j + 1 : Nat) : Int) by omega]
        refine aw_pk [8, 7, 5, 4, 2, 0, 1] (by rfl) ?_
        exact IH (j + 1) (by omega) ((hE2 mo (by unfold EN; omega)).trans hmo1) hM2 (fun a ha => (hE2 a (fun z => ha (Or.inl z))).trans ((hE1 a (fun z => ha (Or.inr z))).trans (hV a ha))) (by obtain ⟨F, hF⟩ := h131; exact ⟨F, (hE2 _ (by unfold EN; omega)).trans hF⟩) (by obtain ⟨F, hF⟩ := h141; exact ⟨F, (hE2 _ (by unfold EN; omega)).trans hF⟩) (fun q => by
          by_cases e1 : q = 150 + j
          · rw [e1, upF_self, if_pos (by omega), show 150 + j - 150 = j by omega]
          · rw [upF_ne _ _ e1, hI q]
            by_cases e2 : 150 ≤ q ∧ q < 150 + j
            · rw [if_pos e2, if_pos (by omega)]
            · rw [if_neg e2, if_neg (by omega)])
set_option maxRecDepth 20000 in
theorem dz_in (d : Nat) {g : GX} {V0 : AH} {mo sz x nn i : Nat} {rk kn ar ac w gg : Int} {zs : Nat → Int} {Q : AQ} (hKK : ∀ {V : AH} {z : Nat → Int}, V mo = some (moO mo rk kn ar ac) → MN g mo V z → (∀ a, ¬ EN mo a → V a = V0 a) → (∀ q, z q = if 155 ≤ q ∧ q < 155 + 10 then 0 else zs q) → AW g mX6_dual (d + 7) 189 [(7, .int (iZ (i : Int))), (5, .long (jZ gg)), (4, .int (iZ (nn : Int))), (2, .long (jZ w)), (0, .ref mo), (1, .int (iZ (x : Int)))] [] V sz Q) : ∀ (f j : Nat), j + f = 10 → ∀ {V : AH} {z : Nat → Int}, V mo = some (moO mo rk kn ar ac) → MN g mo V z → (∀ a, ¬ EN mo a → V a = V0 a) → (∀ q, z q = if 155 ≤ q ∧ q < 155 + j then 0 else zs q) → AW g mX6_dual (d + 7) 165 [(8, .int (iZ (j : Int))), (7, .int (iZ (i : Int))), (5, .long (jZ gg)), (4, .int (iZ (nn : Int))), (2, .long (jZ w)), (0, .ref mo), (1, .int (iZ (x : Int)))] [] V sz Q
  | 0, j, hf, V, z, hmo, hM, hV, hI => by
    obtain rfl : j = 10 := by omega
    refine aw_iload dX6_dual_165 (by rfl) ?_
    refine aw_bipushZ dX6_dual_167 (by decide) ?_
    refine aw_icmp_geZ (tgt := 189) dX6_dual_169 (by decide) (by omega) (by omega) (fun hc_169 => ?_) (fun hc_169 => ?_)
    · refine aw_pk [7, 5, 4, 2, 0, 1] (by rfl) ?_
      exact hKK hmo hM hV hI
    · exact absurd hc_169 (by omega)
  | f + 1, j, hf, V, z, hmo, hM, hV, hI => by
    have IH := fun j hj => @dz_in d g V0 mo sz x nn i rk kn ar ac w gg zs Q hKK f j hj
    refine aw_iload dX6_dual_165 (by rfl) ?_
    refine aw_bipushZ dX6_dual_167 (by decide) ?_
    refine aw_icmp_geZ (tgt := 189) dX6_dual_169 (by decide) (by omega) (by omega) (fun hc_169 => ?_) (fun hc_169 => ?_)
    · exact absurd hc_169 (by omega)
    · refine aw_aload_n dX6_dual_172 (by rfl) (Or.inr ⟨_, rfl⟩) ?_
      refine aw_sipushZ dX6_dual_173 (by decide) ?_
      refine aw_iload dX6_dual_176 (by rfl) ?_
      refine aw_iaddZ dX6_dual_178 ?_
      refine aw_topi (y := ((155 + j : Nat) : Int)) (by omega) ?_
      refine aw_lconstZ (z := 0) dX6_dual_179 (by decide) ?_
      refine aw_callv vX6_83 dX6_dual_180 hmo (m_becomes g (d + 6) (c := 155 + j) (v := 0) ⟨_, _, _, _, hmo⟩ hM (by omega) (by omega)) (by rfl) (by rfl) (by omega) (Nat.le_of_ble_eq_true rfl) ?_
      rintro _ V2 _ _ _ ⟨rfl, rfl, rfl, hE2, rfl, hM2⟩ -
      refine q0 ?_
      refine aw_iincZ dX6_dual_183 (by rfl) (by decide) ?_
      refine aw_goto (tgt := 165) dX6_dual_186 (by decide) ?_
      rw [show ((j : Int) + 1) = ((j + 1 : Nat) : Int) by omega]
      refine aw_pk [8, 7, 5, 4, 2, 0, 1] (by rfl) ?_
      exact IH (j + 1) (by omega) ((hE2 mo (by unfold EN; omega)).trans hmo) hM2 (fun a ha => (hE2 a ha).trans (hV a ha)) (fun q => by
        by_cases e1 : q = 155 + j
        · rw [e1, upF_self, if_pos (by omega)]
        · rw [upF_ne _ _ e1, hI q]
          by_cases e2 : 155 ≤ q ∧ q < 155 + j
          · rw [if_pos e2, if_pos (by omega)]
          · rw [if_neg e2, if_neg (by omega)])
set_option maxRecDepth 20000 in
theorem dr_out (d : Nat) {g : GX} {V0 : AH} {mo sz x nn : Nat} {kn ar ac w gg : Int} {S : TSt} {Q : AQ} (hT0 : RTb g mo V0 S) (hx : x < 12) (hnn : nn = S.r x) (q1 : 1 ≤ nn ∧ nn ≤ 5) (qx : ∀ e, e < 25 → -1000 ≤ S.N x e ∧ S.N x e ≤ 1000) (hg : 0 < gg ∧ gg ≤ 120000000000000000) (hdv : ∀ i j, i < nn → j < nn → gg ∣ cof nn (TM (S.N x)) i j) (hKK : ∀ {V : AH} {z : Nat → Int} {r : Nat} {l : Nat → Nat}, G5 g mo V r kn ar ac l z → r ≤ nn → SpEq (DR (S.N x) nn gg) nn (BMx 0 15 z) r 5 → (∀ a, ¬ (E5 mo a ∨ ERC mo a) → V a = V0 a) → (∃ F : Nat → Int, V (mo + 13) = some (aIz g 5 F)) → (∃ F : Nat → Int, V (mo + 14) = some (aIz g 5 F)) → AW g mX6_dual (d + 7) 243 [(5, .long (jZ gg)), (4, .int (iZ (nn : Int))), (2, .long (jZ w)), (0, .ref mo), (1, .int (iZ (x : Int)))] [] V sz Q) : ∀ (f i : Nat), i + f = nn → ∀ {V : AH} {z : Nat → Int} {r : Nat} {l : Nat → Nat}, G5 g mo V r kn ar ac l z → r ≤ i → SpEq (DR (S.N x) nn gg) i (BMx 0 15 z) r 5 → (∀ a, ¬ (E5 mo a ∨ ERC mo a) → V a = V0 a) → (∃ F : Nat → Int, V (mo + 13) = some (aIz g 5 F)) → (∃ F : Nat → Int, V (mo + 14) = some (aIz g 5 F)) → AW g mX6_dual (d + 7) 107 [(7, .int (iZ (i : Int))), (5, .long (jZ gg)), (4, .int (iZ (nn : Int))), (2, .long (jZ w)), (0, .ref mo), (1, .int (iZ (x : Int)))] [] V sz Q
  | 0, i, hf, V, z, r, l, hG, hri, hsp, hV, h13, h14 => by
    obtain rfl : nn = i := by omega
    refine aw_iload dX6_dual_107 (by rfl) ?_
    refine aw_iload dX6_dual_109 (by rfl) ?_
    refine aw_icmp_geZ (tgt := 243) dX6_dual_111 (by decide) (by omega) (by omega) (fun hc_111 => ?_) (fun hc_111 => ?_)
    · refine aw_pk [5, 4, 2, 0, 1] (by rfl) ?_
      exact hKK hG hri hsp hV h13 h14
    · exact absurd hc_111 (by omega)
  | f + 1, i, hf, V, z, r, l, hG, hri, hsp, hV, h13, h14 => by
    have IH := fun i hi => @dr_out d g V0 mo sz x nn kn ar ac w gg S Q hT0 hx hnn q1 qx hg hdv hKK f i hi
    obtain ⟨RW, hmo, -, -, hM, -, -⟩ := id hG
    have hx2 := xb1
    have hT := hT0.kept2b (V' := V) (fun a h1 h2 => hV a (by unfold E5 ERC; omega))
    refine aw_iload dX6_dual_107 (by rfl) ?_
    refine aw_iload dX6_dual_109 (by rfl) ?_
    refine aw_icmp_geZ (tgt := 243) dX6_dual_111 (by decide) (by omega) (by omega) (fun hc_111 => ?_) (fun hc_111 => ?_)
    · exact absurd hc_111 (by omega)
    · refine aw_iconstZ dX6_dual_114 ?_
      refine aw_istore dX6_dual_115 (by decide) ?_
      refine aw_pk [8, 7, 5, 4, 2, 0, 1] (by rfl) ?_
      refine dr_in d (V0 := V) (zs := z) (rk := (r : Int)) (kn := kn) (ar := ar) (ac := ac) hT hx hnn q1 qx hg hdv (i := i) (by omega) (fun {V1 z1} hmo1 hM1 hV1 h131 h141 hI1 => ?_) 5 0 (by omega) hmo hM (fun _ _ => rfl) h13 h14 (fun q => by rw [if_neg (by omega)])
      refine aw_iconstZ dX6_dual_162 ?_
      refine aw_istore dX6_dual_163 (by decide) ?_
      refine aw_pk [8, 7, 5, 4, 2, 0, 1] (by rfl) ?_
      refine dz_in d (V0 := V1) (zs := z1) (rk := (r : Int)) (kn := kn) (ar := ar) (ac := ac) (fun {V2 z2} hmo2 hM2 hV2 hC2 => ?_) 10 0 (by omega) hmo1 hM1 (fun _ _ => rfl) (fun q => by rw [if_neg (by omega)])
      have hz2 : ∀ q, ¬ (150 ≤ q ∧ q < 165) → z2 q = z q := fun q hq => by rw [hC2 q, if_neg (by omega), hI1 q, if_neg (by omega)]
      have hc2 : ∀ t, t < 5 → z2 (150 + t) = DR (S.N x) nn gg i t := fun t ht => by
        rw [hC2 _, if_neg (by omega), hI1 _, if_pos (by omega), show 150 + t - 150 = t by omega]
      have hG1 : G5 g mo V1 r kn ar ac l z1 := by
        obtain ⟨RW, g1, g2, g3, g4, g5, g6⟩ := hG
        refine ⟨RW, hmo1, (hV1 _ (by unfold EN ERC; omega)).trans g2, g3, hM1, g5.cong5 (fun i hi => (g5.1.1 i hi).1) (fun a b ha hb => ?_), fun a t ha t1 t2 => ?_⟩
        · show z1 (0 + 15 * a + b) = z (0 + 15 * a + b)
          rw [hI1 _, if_neg (by omega)]
        · rw [hI1 _, if_neg (by omega)]; exact g6 a t ha t1 t2
      refine f5_dual (d + 2) (i := i) (N := DR (S.N x) nn gg) (r := r) (l := l) (zs := z2) (by rfl) (hG1.calc hV2 hM2 (fun q hq => by rw [hC2 q, if_neg (by omega)]) (by omega)) (by omega) hri (fun a b ha hb => by have := DR.bd (j := b) q1 qx hg.1 hdv (show a < nn by omega); omega) (hsp.tr (SpEq.cong (fun a ha b hb => (hz2 _ (by omega)).symm))) (fun j hj => (hc2 j hj).symm) (fun j hj => by have := DR.bd (j := j) q1 qx hg.1 hdv (show i < nn by omega); omega) (fun t h1 h2 => by rw [hC2 _, if_pos (by omega)]) (fun {V3 z3 r3 l3} hG3 hsp3 hr3 hV3 hF3 => ?_)
      refine aw_iincZ dX6_dual_237 (by rfl) (by decide) ?_
      refine aw_goto (tgt := 107) dX6_dual_240 (by decide) ?_
      rw [show ((i : Int) + 1) = ((i + 1 : Nat) : Int) by omega]
      refine aw_pk [7, 5, 4, 2, 0, 1] (by rfl) ?_
      refine IH (i + 1) (by omega) hG3 hr3 hsp3 (fun a ha => (hV3 a (fun z => ha (Or.inl z))).trans ((hV2 a (fun z => ha (Or.inl (by unfold EN at z; unfold E5; omega)))).trans ((hV1 a (fun z => ha (z.elim (fun z => Or.inl (by unfold EN at z; unfold E5; omega)) Or.inr))).trans (hV a ha)))) ?_ ?_
      · obtain ⟨F, hF⟩ := h131; exact ⟨F, (hV3 _ (by unfold E5; omega)).trans ((hV2 _ (by unfold EN; omega)).trans hF)⟩
      · obtain ⟨F, hF⟩ := h141; exact ⟨F, (hV3 _ (by unfold E5; omega)).trans ((hV2 _ (by unfold EN; omega)).trans hF)⟩
