/-! ===== the reference: sizes, whole ===== -/
/-- the sizes found so far -/
def SzK (S : TSt) (n nn : Nat) (G : Nat → Int) (zs z : Nat → Int) : Prop := (∀ j, j ≤ nn → GcP j (TM (S.N n)) (S.r n) (S.c n) (G j) ∧ G j ≠ 0 ∧ G j ≤ szB) ∧ (∀ j, j < nn → z (265 + j) = G (j + 1) / G j) ∧ ∀ q, ¬ (265 ≤ q ∧ q < 365) → z q = zs q
theorem SzK.step {S : TSt} {n nn : Nat} {G : Nat → Int} {zs z : Nat → Int} {gg : Int} (h : SzK S n nn G zs z) (hn : nn < 5) (hg : GcP (nn + 1) (TM (S.N n)) (S.r n) (S.c n) gg) (h0 : gg ≠ 0) (hb : gg ≤ szB) : SzK S n (nn + 1) (upF G (nn + 1) gg) zs (upF z (265 + nn) (gg / G nn)) := by
  refine ⟨fun j hj => ?_, fun j hj => ?_, fun q hq => ?_⟩
  · by_cases e : j = nn + 1
    · rw [e, upF_self]; exact ⟨hg, h0, hb⟩
    · rw [upF_ne _ _ e]; exact h.1 j (by omega)
  · by_cases e : j = nn
    · rw [e, upF_self, upF_self, upF_ne _ _ (by omega)]
    · rw [upF_ne _ _ (by omega), upF_ne _ _ (by omega), upF_ne _ _ (by omega)]; exact h.2.1 j (by omega)
  · rw [upF_ne _ _ (by omega)]; exact h.2.2 q hq
theorem gcp_0 {A : Mat} {r c : Nat} : GcP 0 A r c 1 := ⟨by omega, fun d => ⟨fun h p q _ _ => h, fun h => h (fun _ => 0) (fun _ => 0) (fun a ha => absurd ha (by omega)) (fun a ha => absurd ha (by omega))⟩⟩
set_option maxRecDepth 20000 in
theorem sz_k (d : Nat) {g : GX} {V0 : AH} {mo sz n : Nat} {rk kn ar ac : Int} {zs : Nat → Int} {S : TSt} {Q : AQ} (hT0 : RTb g mo V0 S) (hn : n < 12) (q1 : S.r n ≤ 5) (q3 : S.c n ≤ 5) (qx : ∀ e, e < 25 → -1000 ≤ S.N n e ∧ S.N n e ≤ 1000) (hKK : ∀ {V : AH} {z G : Nat → Int} {nn : Nat}, V mo = some (moO mo rk kn ar ac) → MN g mo V z → (∀ a, ¬ (EN mo a ∨ ERC mo a) → V a = V0 a) → (∃ F : Nat → Int, V (mo + 13) = some (aIz g 5 F)) → (∃ F : Nat → Int, V (mo + 14) = some (aIz g 5 F)) → SzK S n nn G zs z → nn ≤ 5 → (nn < 5 → GcP (nn + 1) (TM (S.N n)) (S.r n) (S.c n) 0) → AW g mX6_sizes (d + 2) 194 [(2, .int (iZ (nn : Int))), (0, .ref mo), (1, .int (iZ (n : Int)))] [] V sz Q) : ∀ (f k nn : Nat) {bf : Int}, k + f = 6 → nn + 1 = k → 1 ≤ k → ∀ {V : AH} {z G : Nat → Int}, bf = G nn → V mo = some (moO mo rk kn ar ac) → MN g mo V z → (∀ a, ¬ (EN mo a ∨ ERC mo a) → V a = V0 a) → (∃ F : Nat → Int, V (mo + 13) = some (aIz g 5 F)) → (∃ F : Nat → Int, V (mo + 14) = some (aIz g 5 F)) → SzK S n nn G zs z → AW g mX6_sizes (d + 2) 20 [(6, .int (iZ (k : Int))), (5, .int (iZ 1)), (3, .long (jZ bf)), (2, .int (iZ (nn : Int))), (0, .ref mo), (1, .int (iZ (n : Int)))] [] V sz Q
  | 0, k, nn, bf, hf, hnk, hk1, V, z, G, hbf, hmo, hM, hV, h13, h14, hI => by
    refine aw_iload dX6_sizes_20 (by rfl) ?_
    refine aw_iconstZ dX6_sizes_22 ?_
    refine aw_icmp_gtZ (tgt := 194) dX6_sizes_23 (by decide) (by omega) (by omega) (fun hc_23 => ?_) (fun hc_23 => ?_)
    · refine aw_pk [2, 0, 1] (by rfl) ?_
      exact hKK hmo hM hV h13 h14 hI (by omega) (fun z => absurd z (by omega))
    · exact absurd hc_23 (by omega)
  | f + 1, k, nn, bf, hf, hnk, hk1, V, z, G, hbf, hmo, hM, hV, h13, h14, hI => by
    have IH := fun k nn {bf : Int} hk => @sz_k d g V0 mo sz n rk kn ar ac zs S Q hT0 hn q1 q3 qx hKK f k nn bf hk
    have hT := hT0.kept2b (V' := V) (fun a h1 h2 => hV a (by unfold EN ERC; omega))
    have hszB : szB = 120000000000000000 := rfl
    have hGn := hI.1 nn (Nat.le_refl _)
    have hbp : 0 < bf ∧ bf ≤ szB := by rw [hbf]; exact ⟨by have := hGn.1.1; have := hGn.2.1; omega, hGn.2.2⟩
    refine aw_iload dX6_sizes_20 (by rfl) ?_
    refine aw_iconstZ dX6_sizes_22 ?_
    refine aw_icmp_gtZ (tgt := 194) dX6_sizes_23 (by decide) (by omega) (by omega) (fun hc_23 => ?_) (fun hc_23 => ?_)
    · exact absurd hc_23 (by omega)
    · refine aw_iload dX6_sizes_26 (by rfl) ?_
      refine aw_if_eqZ (tgt := 194) dX6_sizes_28 (by decide) (by decide) (fun hc_28 => ?_) (fun hc_28 => ?_)
      · exact absurd hc_28 (by decide)
      · refine aw_lconstZ (z := 0) dX6_sizes_31 (by decide) ?_
        refine aw_lstore dX6_sizes_32 (by decide) ?_
        refine aw_iconstZ dX6_sizes_34 ?_
        refine aw_istore dX6_sizes_35 (by decide) ?_
        refine aw_pk [9, 7, 6, 5, 3, 2, 0, 1] (by rfl) ?_
        refine sz_r d (k := k) (nn := nn) (bf := bf) hmo hT hn q1 q3 (by omega) qx (fun {V1 gg} hV1 h131 h141 hI1 => ?_) 32 0 (by omega) (fun _ _ => rfl) h13 h14 ⟨⟨by omega, by decide⟩, fun d => ⟨fun _ p q _ _ hpq => absurd hpq (by omega), fun _ => dvd_z d⟩⟩
        have hmo1 := (hV1 mo (by unfold ERC; omega)).trans hmo
        have hM1 := hM.kept (V' := V1) (fun a ha => hV1 a (by unfold EN at ha; unfold ERC; omega))
        have hGc := hI1.fin (by omega) q1 q3
        have hgb := hI1.1
        have hq2 : gg / bf ≤ gg := Int.ediv_le_self _ hgb.1
        have hq1 : 0 ≤ gg / bf := Int.ediv_nonneg hgb.1 (by omega)
        refine aw_lload dX6_sizes_147 (by rfl) ?_
        refine aw_lconstZ (z := 0) dX6_sizes_149 (by decide) ?_
        refine aw_lcmpZ dX6_sizes_150 (by omega) (by omega) ?_
        refine aw_if_eqZ (tgt := 158) dX6_sizes_151 (by decide) (by unfold cmpZ; split <;> (try split) <;> omega) (fun hc_151 => ?_) (fun hc_151 => ?_)
        · have hz := cmpZ_eq.mp hc_151
          refine aw_iconstZ dX6_sizes_158 ?_
          refine aw_istore dX6_sizes_159 (by decide) ?_
          refine aw_iload dX6_sizes_161 (by rfl) ?_
          refine aw_if_neZ (tgt := 169) dX6_sizes_163 (by decide) (by omega) (fun h => absurd rfl h) (fun _ => ?_)
          refine aw_goto (tgt := 188) dX6_sizes_166 (by decide) ?_
          refine aw_iincZ dX6_sizes_188 (by rfl) (by decide) ?_
          refine aw_goto (tgt := 20) dX6_sizes_191 (by decide) ?_
          refine aw_iload dX6_sizes_20 (by rfl) ?_
          refine aw_iconstZ dX6_sizes_22 ?_
          refine aw_icmp_gtZ (tgt := 194) dX6_sizes_23 (by decide) (by omega) (by omega) (fun hc_23 => ?_) (fun hc_23 => ?_)
          · refine aw_pk [2, 0, 1] (by rfl) ?_
            exact hKK hmo1 hM1 (fun a ha => (hV1 a (fun z => ha (Or.inr z))).trans (hV a ha)) h131 h141 hI (by omega) (fun _ => by rw [show nn + 1 = k by omega]; rw [hz] at hGc; exact hGc)
          · refine aw_iload dX6_sizes_26 (by rfl) ?_
            refine aw_if_eqZ (tgt := 194) dX6_sizes_28 (by decide) (by decide) (fun hc_28 => ?_) (fun hc_28 => ?_)
            · refine aw_pk [2, 0, 1] (by rfl) ?_
              exact hKK hmo1 hM1 (fun a ha => (hV1 a (fun z => ha (Or.inr z))).trans (hV a ha)) h131 h141 hI (by omega) (fun _ => by rw [show nn + 1 = k by omega]; rw [hz] at hGc; exact hGc)
            · exact absurd rfl hc_28
        · have hz : ¬ gg = 0 := fun z => hc_151 (cmpZ_eq.mpr z)
          refine aw_iconstZ dX6_sizes_154 ?_
          refine aw_goto (tgt := 159) dX6_sizes_155 (by decide) ?_
          refine aw_istore dX6_sizes_159 (by decide) ?_
          refine aw_iload dX6_sizes_161 (by rfl) ?_
          refine aw_if_neZ (tgt := 169) dX6_sizes_163 (by decide) (by omega) (fun _ => ?_) (fun h => absurd h (by decide))
          refine aw_aload_n dX6_sizes_169 (by rfl) (Or.inr ⟨_, rfl⟩) ?_
          refine aw_sipushZ dX6_sizes_170 (by decide) ?_
          refine aw_iload_n dX6_sizes_173 (by rfl) ?_
          refine aw_iaddZ dX6_sizes_174 ?_
          refine aw_lload dX6_sizes_175 (by rfl) ?_
          refine aw_lload_n dX6_sizes_177 (by rfl) ?_
          refine aw_ldivZ dX6_sizes_178 (by omega) (by omega) (by omega) (by omega) ?_
          refine aw_topl (y := gg / bf) (Int.tdiv_eq_ediv_of_nonneg hI1.1.1) ?_
          rw [show (265 : Int) + (nn : Int) = ((265 + nn : Nat) : Int) by omega]
          refine aw_callv vX6_83 dX6_sizes_179 hmo1 (m_becomes g (d + 1) (c := 265 + nn) (v := gg / bf) ⟨_, _, _, _, hmo1⟩ hM1 (by omega) (by omega)) (by rfl) (by rfl) (by omega) (Nat.le_of_ble_eq_true rfl) ?_
          rintro _ V2 _ _ _ ⟨rfl, rfl, rfl, hE2, rfl, hM2⟩ -
          refine q0 ?_
          refine aw_lload dX6_sizes_182 (by rfl) ?_
          refine aw_lstore_n dX6_sizes_184 (by decide) ?_
          refine aw_iincZ dX6_sizes_185 (by rfl) (by decide) ?_
          refine aw_iincZ dX6_sizes_188 (by rfl) (by decide) ?_
          refine aw_goto (tgt := 20) dX6_sizes_191 (by decide) ?_
          rw [show ((nn : Int) + 1) = ((nn + 1 : Nat) : Int) by omega, show ((k : Int) + 1) = ((k + 1 : Nat) : Int) by omega]
          refine aw_pk [6, 5, 3, 2, 0, 1] (by rfl) ?_
          rw [hbf] at hM2
          exact IH (k + 1) (nn + 1) (by omega) (by omega) (by omega) (by rw [upF_self]) ((hE2 mo (by unfold EN; omega)).trans hmo1) hM2 (fun a ha => (hE2 a (fun z => ha (Or.inl z))).trans ((hV1 a (fun z => ha (Or.inr z))).trans (hV a ha))) (by obtain ⟨F, hF⟩ := h131; exact ⟨F, (hE2 _ (by unfold EN; omega)).trans hF⟩) (by obtain ⟨F, hF⟩ := h141; exact ⟨F, (hE2 _ (by unfold EN; omega)).trans hF⟩) (hI.step (by omega) (by rw [show nn + 1 = k by omega]; exact hGc) hz hI1.1.2)
set_option maxRecDepth 20000 in
theorem m_sizes (g : GX) (d : Nat) {V : AH} {mo sz : Nat} {zs : Nat → Int} {S : TSt} {A : ASt} {t : Int} (hR : RX g mo V zs S A) (ht : R32 t) : AMet g mX6_sizes (d + 2) [.ref mo, .int (iZ t)] V sz (RE g mo V sz (OneR S A t (-1) (SizR S))) := by
  obtain ⟨⟨rk, kn, hmo⟩, -, -, h13, h14, -, hT, hM, -, hTO, -⟩ := id hR
  refine AMet.of rfl rfl (Nat.le_of_ble_eq_true rfl) ?_
  show AW g mX6_sizes (d + 2) 0 [(0, .ref mo), (1, .int (iZ t))] [] V sz _
  refine aw_aload_n dX6_sizes_0 (by rfl) (Or.inr ⟨_, rfl⟩) ?_
  refine aw_iload_n dX6_sizes_1 (by rfl) ?_
  refine aw_callv vX6_137 dX6_sizes_2 hmo (m_isTable g (d + 1) (t := t) hmo hT ht) (by rfl) (by rfl) (by omega) (Nat.le_of_ble_eq_true rfl) ?_
  rintro _ _ _ _ _ ⟨rfl, rfl, rfl, rfl, rfl⟩ -
  refine q0 ?_
  refine aw_if_neZ (tgt := 10) dX6_sizes_5 (by decide) (tbZ_R _ _) (fun hc_5 => ?_) (fun hc_5 => ?_)
  · obtain ⟨n, hn, rfl, hrn⟩ := tbZ_yes hc_5
    obtain ⟨q1, q3, -, qx, -⟩ := hTO n hn
    refine aw_iconstZ dX6_sizes_10 ?_
    refine aw_istore_n dX6_sizes_11 (by decide) ?_
    refine aw_lconstZ (z := 1) dX6_sizes_12 (by decide) ?_
    refine aw_lstore_n dX6_sizes_13 (by decide) ?_
    refine aw_iconstZ dX6_sizes_14 ?_
    refine aw_istore dX6_sizes_15 (by decide) ?_
    refine aw_iconstZ dX6_sizes_17 ?_
    refine aw_istore dX6_sizes_18 (by decide) ?_
    refine aw_pk [6, 5, 3, 2, 0, 1] (by rfl) ?_
    refine sz_k d (V0 := V) (zs := zs) hT hn q1 q3 qx (fun {V2 z2 G nn} hmo2 hM2 hV2 h132 h142 hI2 hn5 hlast => ?_) 5 1 0 (by omega) (by omega) (by omega) (G := fun _ => 1) rfl hmo hM (fun _ _ => rfl) h13 h14 ⟨fun j hj => by rw [show j = 0 by omega]; exact ⟨gcp_0, (by omega : (1 : Int) ≠ 0), (by decide : (1 : Int) ≤ szB)⟩, fun j hj => absurd hj (by omega), fun _ _ => rfl⟩
    by_cases e0 : nn = 0
    · refine aw_aload_n dX6_sizes_194 (by rfl) (Or.inr ⟨_, rfl⟩) ?_
      refine aw_iload_n dX6_sizes_195 (by rfl) ?_
      refine aw_if_neZ (tgt := 203) dX6_sizes_196 (by decide) (by omega) (fun hc_196 => ?_) (fun hc_196 => ?_)
      · exact absurd (show (nn : Int) = 0 by omega) hc_196
      · refine aw_iconstZ dX6_sizes_199 ?_
        refine aw_goto (tgt := 204) dX6_sizes_200 (by decide) ?_
        refine aw_iload_n dX6_sizes_204 (by rfl) ?_
        show AW _ _ _ _ _ (.int (iZ (nn : Int)) :: .int (iZ ((0 : Nat) : Int)) :: _) _ _ _
        refine aw_callv vX6_189 dX6_sizes_205 hmo2 (m_tells g (d + 1) (h := 0) (w := nn) hmo2 (by omega)) (by rfl) (by rfl) (by omega) (Nat.le_of_ble_eq_true rfl) ?_
        rintro _ V3 _ _ _ ⟨rfl, rfl, rfl, hE3, rfl, hmo3⟩ -
        refine q0 ?_
        refine aw_iload_n dX6_sizes_208 (by rfl) ?_
        refine aw_iret dX6_sizes_209 rfl (by rfl) ?_
        refine ⟨rfl, rfl, rfl, fun a ha => (hE3 a (fun z => ha (by unfold EM; omega))).trans (hV2 a (fun z => ha (by rcases z with z | z; (unfold EN at z; unfold EM; omega); (unfold ERC at z; unfold EM; omega)))), z2, S, (1, 0, (if 0 = 0 then 0 else nn), fun _ j => G (j + 1) / G j), ?_, rfl, Or.inl ⟨n, hn, rfl, hrn, nn, G, hn5, fun k hk => ⟨(hI2.1 k hk).1, (hI2.1 k hk).2.1⟩, hlast, rfl, ?_⟩⟩
        · obtain ⟨-, ⟨F6, h6⟩, ⟨F7, h7⟩, -, -, ⟨F15, h15⟩, -, -, -, o1, -⟩ := id hR
          refine ⟨⟨rk, kn, ?_⟩, ⟨F6, (hE3 _ (by omega)).trans ((hV2 _ (by unfold EN ERC; omega)).trans h6)⟩, ⟨F7, (hE3 _ (by omega)).trans ((hV2 _ (by unfold EN ERC; omega)).trans h7)⟩, ?_, ?_, ⟨F15, (hE3 _ (by omega)).trans ((hV2 _ (by unfold EN ERC; omega)).trans h15)⟩, hT.kept2b (fun a h1 h2 => (hE3 a (by omega)).trans (hV2 a (by unfold EN ERC; omega))), hM2.kept (fun a ha => hE3 a (by unfold EN at ha; omega)), fun i j hi hj => ?_, o1, ?_⟩
          · rw [hmo3]; rfl
          · obtain ⟨F, hF⟩ := h132; exact ⟨F, (hE3 _ (by omega)).trans hF⟩
          · obtain ⟨F, hF⟩ := h142; exact ⟨F, (hE3 _ (by omega)).trans hF⟩
          · have hi : i < 0 := hi
            have hj : j < (if 0 = 0 then 0 else nn) := hj
            show z2 (265 + 10 * i + j) = G (j + 1) / G j
            rw [show 265 + 10 * i + j = 265 + j by omega]
            exact hI2.2.1 j (by first | omega | (rw [if_neg (by omega)] at hj; exact hj))
          · refine ⟨Or.inr rfl, ?_, ?_, fun z => absurd z (by show ¬ (1 : Nat) = 0; omega)⟩
            · show 0 ≤ 10; omega
            · show (if 0 = 0 then 0 else nn) ≤ 5; split <;> omega
        · rw [if_pos e0]
          exact ⟨rfl, rfl, rfl, fun _ _ _ _ => rfl⟩
    · refine aw_aload_n dX6_sizes_194 (by rfl) (Or.inr ⟨_, rfl⟩) ?_
      refine aw_iload_n dX6_sizes_195 (by rfl) ?_
      refine aw_if_neZ (tgt := 203) dX6_sizes_196 (by decide) (by omega) (fun hc_196 => ?_) (fun hc_196 => ?_)
      · refine aw_iconstZ dX6_sizes_203 ?_
        refine aw_iload_n dX6_sizes_204 (by rfl) ?_
        show AW _ _ _ _ _ (.int (iZ (nn : Int)) :: .int (iZ ((1 : Nat) : Int)) :: _) _ _ _
        refine aw_callv vX6_189 dX6_sizes_205 hmo2 (m_tells g (d + 1) (h := 1) (w := nn) hmo2 (by omega)) (by rfl) (by rfl) (by omega) (Nat.le_of_ble_eq_true rfl) ?_
        rintro _ V3 _ _ _ ⟨rfl, rfl, rfl, hE3, rfl, hmo3⟩ -
        refine q0 ?_
        refine aw_iload_n dX6_sizes_208 (by rfl) ?_
        refine aw_iret dX6_sizes_209 rfl (by rfl) ?_
        refine ⟨rfl, rfl, rfl, fun a ha => (hE3 a (fun z => ha (by unfold EM; omega))).trans (hV2 a (fun z => ha (by rcases z with z | z; (unfold EN at z; unfold EM; omega); (unfold ERC at z; unfold EM; omega)))), z2, S, (1, 1, (if 1 = 0 then 0 else nn), fun _ j => G (j + 1) / G j), ?_, rfl, Or.inl ⟨n, hn, rfl, hrn, nn, G, hn5, fun k hk => ⟨(hI2.1 k hk).1, (hI2.1 k hk).2.1⟩, hlast, rfl, ?_⟩⟩
        · obtain ⟨-, ⟨F6, h6⟩, ⟨F7, h7⟩, -, -, ⟨F15, h15⟩, -, -, -, o1, -⟩ := id hR
          refine ⟨⟨rk, kn, ?_⟩, ⟨F6, (hE3 _ (by omega)).trans ((hV2 _ (by unfold EN ERC; omega)).trans h6)⟩, ⟨F7, (hE3 _ (by omega)).trans ((hV2 _ (by unfold EN ERC; omega)).trans h7)⟩, ?_, ?_, ⟨F15, (hE3 _ (by omega)).trans ((hV2 _ (by unfold EN ERC; omega)).trans h15)⟩, hT.kept2b (fun a h1 h2 => (hE3 a (by omega)).trans (hV2 a (by unfold EN ERC; omega))), hM2.kept (fun a ha => hE3 a (by unfold EN at ha; omega)), fun i j hi hj => ?_, o1, ?_⟩
          · rw [hmo3]; rfl
          · obtain ⟨F, hF⟩ := h132; exact ⟨F, (hE3 _ (by omega)).trans hF⟩
          · obtain ⟨F, hF⟩ := h142; exact ⟨F, (hE3 _ (by omega)).trans hF⟩
          · have hi : i < 1 := hi
            have hj : j < (if 1 = 0 then 0 else nn) := hj
            show z2 (265 + 10 * i + j) = G (j + 1) / G j
            rw [show 265 + 10 * i + j = 265 + j by omega]
            exact hI2.2.1 j (by first | omega | (rw [if_neg (by omega)] at hj; exact hj))
          · refine ⟨Or.inr rfl, ?_, ?_, fun z => absurd z (by show ¬ (1 : Nat) = 0; omega)⟩
            · show 1 ≤ 10; omega
            · show (if 1 = 0 then 0 else nn) ≤ 5; split <;> omega
        · rw [if_neg e0]
          exact ⟨rfl, rfl, rfl, fun _ _ _ _ => rfl⟩
      · exact absurd hc_196 (by omega)
  · have hno := tbZ_no hc_5
    refine aw_iconstZ dX6_sizes_8 ?_
    refine aw_iret dX6_sizes_9 rfl (by rfl) ?_
    exact ⟨rfl, rfl, rfl, fun _ _ => rfl, zs, S, A, hR, rfl, Or.inr ⟨hno, rfl, rfl⟩⟩
