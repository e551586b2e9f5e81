/-! ===== the reference: minor, whole ===== -/
set_option maxRecDepth 20000 in
theorem mi_i (d : Nat) {g : GX} {V : AH} {mo sz t k : Nat} {Q : AQ} {od : Nat} {sm W : Int} {S : TSt} {RA CA : Nat → Int} {ra ca : Nat → Nat} {rk kn ar ac : Int} (hmo : V mo = some (moO mo rk kn ar ac)) (hT : RTb g mo V S) (ht : t < 12) (hk : k ≤ 5) (hNb : ∀ e, e < 25 → -1000 ≤ S.N t e ∧ S.N t e ≤ 1000) (h13 : V (mo + 13) = some (aIz g 5 RA)) (h14 : V (mo + 14) = some (aIz g 5 CA)) (hra : ∀ i, i < k → RA i = (ra i : Int) ∧ ra i < 5) (hca : ∀ i, i < k → CA i = (ca i : Int) ∧ ca i < 5) (hKK : AW g mX6_minor (d + 1) 198 [(9, .long (jZ W)), (6, .int (iZ (od : Int))), (5, .int (iZ (fcN k : Nat))), (3, .long (jZ sm)), (0, .ref mo), (1, .int (iZ (t : Int))), (2, .int (iZ (k : Int)))] [] V sz Q) : ∀ (f i rest s : Nat) (v : Int), i + f = k → s < 32 → rkb s 5 = k - i → rest < fcN (k - i) → (∀ c, c < rkb s 5 → psb s c < k) → v * vlo (k - i) (fun a c => (fun a c => S.N t (5 * ra a + ca c)) (i + a) (psb s c)) rest = W → AW g mX6_minor (d + 1) 54 [(11, .int (iZ (i : Int))), (7, .int (iZ (rest : Int))), (8, .int (iZ (s : Int))), (9, .long (jZ v)), (6, .int (iZ (od : Int))), (5, .int (iZ (fcN k : Nat))), (3, .long (jZ sm)), (0, .ref mo), (1, .int (iZ (t : Int))), (2, .int (iZ (k : Int)))] [] V sz Q
  | 0, i, rest, s, v, hf, hs, hrk, hrest, hcl, hW => by
    obtain rfl : k = i := by omega
    refine aw_iload dX6_minor_54 (by rfl) ?_
    refine aw_iload_n dX6_minor_56 (by rfl) ?_
    refine aw_icmp_geZ (tgt := 198) dX6_minor_57 (by decide) (by omega) (by omega) (fun hc_57 => ?_) (fun hc_57 => ?_)
    · have ev : v = W := by
        rw [← hW, show k - k = 0 by omega]
        show v = v * 1
        rw [Int.mul_one]
      rw [ev]
      refine aw_pk [9, 6, 5, 3, 0, 1, 2] (by rfl) ?_
      exact hKK
    · exact absurd hc_57 (by omega)
  | f + 1, i, rest, s, v, hf, hs, hrk, hrest, hcl, hW => by
    have IH := fun i rest s v hi => @mi_i d g V mo sz t k Q od sm W S RA CA ra ca rk kn ar ac hmo hT ht hk hNb h13 h14 hra hca hKK f i rest s v hi
    have hm : 1 ≤ k - i := by omega
    have hf1 := fcN_pos (k - i - 1)
    have hf2 : fcN (k - i - 1) ≤ 120 := fc5 ⟨k - i - 1, by omega⟩
    have hf3 : fcN (k - i) ≤ 120 := fc5 ⟨k - i, by omega⟩
    have hfu := fcN_up hm
    obtain ⟨nth, hnth⟩ : ∃ nth, nth = rest / fcN (k - i - 1) := ⟨_, rfl⟩
    have hn : nth < k - i := by
      rw [hnth, Nat.div_lt_iff_lt_mul (by omega), Nat.mul_comm, ← hfu]
      exact hrest
    obtain ⟨b1, b2, b3⟩ := bt14 ⟨s, hs⟩ ⟨nth, by omega⟩ (show nth < rkb s 5 by omega)
    have b1 : psb s nth < 5 := b1
    have b2 : s / 2 ^ psb s nth % 2 = 1 := b2
    have b3 : rkb s (psb s nth) = nth := b3
    obtain ⟨-, c2, -, -, c5⟩ := bt1 ⟨s, hs⟩ ⟨psb s nth, b1⟩ b2
    have c2 : rkb (s - 2 ^ psb s nth) 5 + 1 = rkb s 5 := c2
    have c5 : 2 ^ psb s nth ≤ s := c5
    have hs2 : s - 2 ^ psb s nth < 32 := Nat.lt_of_le_of_lt (Nat.sub_le _ _) hs
    have hpk : psb s nth < k := hcl nth (by omega)
    have hsg : sgI nth = 1 ∨ sgI nth = -1 := by rw [sgI_par]; split <;> simp
    have hNp := hNb (5 * ra i + ca (psb s nth)) (by have := (hra i (by omega)).2; have := (hca (psb s nth) hpk).2; omega)
    have hcl0 := hcl
    have hcl : ∀ c, c < rkb (s - 2 ^ psb s nth) 5 → psb (s - 2 ^ psb s nth) c < k := fun c hc => by
      have c6 := bt2 ⟨s, hs⟩ ⟨psb s nth, b1⟩ b2 ⟨c, by omega⟩ (show c < rkb s 5 - 1 by omega)
      have c6 : psb (s - 2 ^ psb s nth) c = psb s (sk (rkb s (psb s nth)) c) := c6
      rw [c6]
      exact hcl0 _ (by unfold sk; split <;> omega)
    have K168 : AW g mX6_minor (d + 1) 168 [(14, .int (iZ (psb s nth : Nat))), (13, .int (iZ (nth : Int))), (11, .int (iZ (i : Int))), (7, .int (iZ ((rest % fcN (k - i - 1) : Nat) : Int))), (8, .int (iZ ((s - 2 ^ psb s nth : Nat) : Int))), (9, .long (jZ v)), (6, .int (iZ (od : Int))), (5, .int (iZ (fcN k : Nat))), (3, .long (jZ sm)), (0, .ref mo), (1, .int (iZ (t : Int))), (2, .int (iZ (k : Int)))] [.int (iZ (sgI nth)), .long (jZ v)] V sz Q := by
      refine aw_aload_n dX6_minor_168 (by rfl) (Or.inr ⟨_, rfl⟩) ?_
      refine aw_iload_n dX6_minor_169 (by rfl) ?_
      refine aw_aload_n dX6_minor_170 (by rfl) (Or.inr ⟨_, rfl⟩) ?_
      refine aw_get fX6_49 dX6_minor_171 hmo (by rfl) ?_
      refine aw_iload dX6_minor_174 (by rfl) ?_
      refine aw_ialdZ (i) dX6_minor_176 h13 (by omega) (by omega) (by omega) ?_
      refine aw_aload_n dX6_minor_177 (by rfl) (Or.inr ⟨_, rfl⟩) ?_
      refine aw_get fX6_52 dX6_minor_178 hmo (by rfl) ?_
      refine aw_iload dX6_minor_181 (by rfl) ?_
      refine aw_ialdZ (psb s nth) dX6_minor_183 h14 (by omega) (by omega) (by omega) ?_
      rw [(hra i (by omega)).1, (hca (psb s nth) hpk).1]
      refine aw_callv vX6_148 dX6_minor_184 hmo (m_at3 g d (t := t) (i := ra i) (j := ca (psb s nth)) hmo hT ht (hra i (by omega)).2 (hca (psb s nth) hpk).2) (by rfl) (by rfl) (by omega) (Nat.le_of_ble_eq_true rfl) ?_
      rintro _ _ _ _ _ ⟨rfl, rfl, rfl, rfl, rfl⟩ -
      refine q0 ?_
      refine aw_imulZ dX6_minor_187 ?_
      refine aw_i2lZ dX6_minor_188 (by rcases hsg with q | q <;> rw [q] <;> omega) ?_
      refine aw_lmulZ dX6_minor_189 ?_
      refine aw_lstore dX6_minor_190 (by decide) ?_
      refine aw_iincZ dX6_minor_192 (by rfl) (by decide) ?_
      refine aw_goto (tgt := 54) dX6_minor_195 (by decide) ?_
      rw [show ((i : Int) + 1) = ((i + 1 : Nat) : Int) by omega]
      refine aw_pk [11, 7, 8, 9, 6, 5, 3, 0, 1, 2] (by rfl) ?_
      refine IH (i + 1) _ _ _ (by omega) (by omega) (by omega) (by rw [show k - (i + 1) = k - i - 1 by omega]; exact Nat.mod_lt _ (by omega)) (fun c hc => hcl c hc) ?_
      rw [← hW, show k - i = (k - (i + 1)) + 1 by omega, vlo_step (A := (fun a c => S.N t (5 * ra a + ca c))) hs (by omega) (by rw [show k - (i + 1) + 1 = k - i by omega]; exact hrest) (nth := nth) (by rw [hnth, show k - (i + 1) = k - i - 1 by omega]), show k - (i + 1) = k - i - 1 by omega]
      simp only [Int.mul_assoc]
      rw [show k - i - 1 + 1 - 1 = k - i - 1 by omega]
    refine aw_iload dX6_minor_54 (by rfl) ?_
    refine aw_iload_n dX6_minor_56 (by rfl) ?_
    refine aw_icmp_geZ (tgt := 198) dX6_minor_57 (by decide) (by omega) (by omega) (fun hc_57 => ?_) (fun hc_57 => ?_)
    · exact absurd hc_57 (by omega)
    · refine aw_iconstZ dX6_minor_60 ?_
      refine aw_istore dX6_minor_61 (by decide) ?_
      refine aw_iconstZ dX6_minor_63 ?_
      refine aw_istore dX6_minor_64 (by decide) ?_
      refine aw_pk [13, 12, 11, 7, 8, 9, 6, 5, 3, 0, 1, 2] (by rfl) ?_
      refine mi_of (d + 1) hk (by omega) ?_ (k - i - 2) 2 1 (by omega) (by omega) rfl
      refine aw_iload dX6_minor_88 (by rfl) ?_
      refine aw_iload dX6_minor_90 (by rfl) ?_
      refine aw_idivZ dX6_minor_92 (by omega) (by omega) (by omega) ?_
      refine aw_topi (y := (nth : Int)) (by rw [hnth]; rfl) ?_
      refine aw_istore dX6_minor_93 (by decide) ?_
      refine aw_iload dX6_minor_95 (by rfl) ?_
      refine aw_iload dX6_minor_97 (by rfl) ?_
      refine aw_iremZ dX6_minor_99 (by omega) (by omega) (by omega) ?_
      refine aw_topi (y := ((rest % fcN (k - i - 1) : Nat) : Int)) (by rfl) ?_
      refine aw_istore dX6_minor_100 (by decide) ?_
      refine aw_iconstZ dX6_minor_102 ?_
      refine aw_istore dX6_minor_103 (by decide) ?_
      refine aw_iconstZ dX6_minor_105 ?_
      refine aw_istore dX6_minor_106 (by decide) ?_
      refine aw_pk [14, 15, 13, 11, 7, 8, 9, 6, 5, 3, 0, 1, 2] (by rfl) ?_
      refine mi_j (d + 1) hs (by omega) (by omega) ?_ (psb s nth) 0 (by omega)
      refine aw_iload dX6_minor_145 (by rfl) ?_
      refine aw_iconstZ dX6_minor_147 ?_
      refine aw_iload dX6_minor_148 (by rfl) ?_
      refine aw_ishl1Z (psb s nth) dX6_minor_150 rfl (by omega) ?_
      refine aw_isubZ dX6_minor_151 ?_
      refine aw_topi (y := ((s - 2 ^ psb s nth : Nat) : Int)) (by rw [Int.natCast_sub c5, Int.natCast_pow]; rfl) ?_
      refine aw_istore dX6_minor_152 (by decide) ?_
      refine aw_lload dX6_minor_154 (by rfl) ?_
      refine aw_iload dX6_minor_156 (by rfl) ?_
      refine aw_iconstZ dX6_minor_158 ?_
      refine aw_iremZ dX6_minor_159 (by omega) (by omega) (by omega) ?_
      refine aw_topi (y := ((nth % 2 : Nat) : Int)) (by rfl) ?_
      refine aw_if_neZ (tgt := 167) dX6_minor_160 (by decide) (by omega) (fun hc_160 => ?_) (fun hc_160 => ?_)
      · refine aw_iconstZ dX6_minor_167 ?_
        refine aw_topi (y := sgI nth) (by rw [sgI_par]; first | (rw [if_pos (by omega)]; done) | (rw [if_neg (by omega)]; done)) ?_
        refine aw_pk [14, 13, 11, 7, 8, 9, 6, 5, 3, 0, 1, 2] (by rfl) ?_
        exact K168
      · refine aw_iconstZ dX6_minor_163 ?_
        refine aw_goto (tgt := 168) dX6_minor_164 (by decide) ?_
        refine aw_topi (y := sgI nth) (by rw [sgI_par]; first | (rw [if_pos (by omega)]; done) | (rw [if_neg (by omega)]; done)) ?_
        refine aw_pk [14, 13, 11, 7, 8, 9, 6, 5, 3, 0, 1, 2] (by rfl) ?_
        exact K168
set_option maxRecDepth 20000 in
theorem mi_o (d : Nat) {g : GX} {V : AH} {mo sz t k : Nat} {Q : AQ} {S : TSt} {RA CA : Nat → Int} {ra ca : Nat → Nat} {rk kn ar ac : Int} (hmo : V mo = some (moO mo rk kn ar ac)) (hT : RTb g mo V S) (ht : t < 12) (hk : k ≤ 5) (hNb : ∀ e, e < 25 → -1000 ≤ S.N t e ∧ S.N t e ≤ 1000) (h13 : V (mo + 13) = some (aIz g 5 RA)) (h14 : V (mo + 14) = some (aIz g 5 CA)) (hra : ∀ i, i < k → RA i = (ra i : Int) ∧ ra i < 5) (hca : ∀ i, i < k → CA i = (ca i : Int) ∧ ca i < 5) (hQ : Q (some (.long (jZ (det k (fun a c => S.N t (5 * ra a + ca c)))))) V sz 0 0) : ∀ (f od : Nat) (sm : Int), od + f = fcN k → sm = Sg (fun o => vlo k (fun a c => S.N t (5 * ra a + ca c)) o) od → AW g mX6_minor (d + 1) 30 [(6, .int (iZ (od : Int))), (5, .int (iZ (fcN k : Nat))), (3, .long (jZ sm)), (0, .ref mo), (1, .int (iZ (t : Int))), (2, .int (iZ (k : Int)))] [] V sz Q
  | 0, od, sm, hf, hsm => by
    have h5 : fcN k ≤ 120 := fc5 ⟨k, by omega⟩
    obtain rfl : od = fcN k := by omega
    refine aw_iload dX6_minor_30 (by rfl) ?_
    refine aw_iload dX6_minor_32 (by rfl) ?_
    refine aw_icmp_geZ (tgt := 209) dX6_minor_34 (by decide) (by omega) (by omega) (fun hc_34 => ?_) (fun hc_34 => ?_)
    · refine aw_lload_n dX6_minor_209 (by rfl) ?_
      refine aw_lret dX6_minor_210 rfl ?_
      rw [hsm, vlo_sum]
      exact hQ
    · exact absurd hc_34 (by omega)
  | f + 1, od, sm, hf, hsm => by
    have h5 : fcN k ≤ 120 := fc5 ⟨k, by omega⟩
    obtain ⟨b4, b5⟩ := bt4 ⟨k, by omega⟩
    have b4 : rkb (2 ^ k - 1) 5 = k := b4
    have b5 : ∀ c, c < k → psb (2 ^ k - 1) c = c := fun c hc => b5 ⟨c, by omega⟩ hc
    have IH := fun od sm ho => @mi_o d g V mo sz t k Q S RA CA ra ca rk kn ar ac hmo hT ht hk hNb h13 h14 hra hca hQ f od sm ho
    refine aw_iload dX6_minor_30 (by rfl) ?_
    refine aw_iload dX6_minor_32 (by rfl) ?_
    refine aw_icmp_geZ (tgt := 209) dX6_minor_34 (by decide) (by omega) (by omega) (fun hc_34 => ?_) (fun hc_34 => ?_)
    · exact absurd hc_34 (by omega)
    · refine aw_iload dX6_minor_37 (by rfl) ?_
      refine aw_istore dX6_minor_39 (by decide) ?_
      refine aw_iconstZ dX6_minor_41 ?_
      refine aw_iload_n dX6_minor_42 (by rfl) ?_
      refine aw_ishl1Z k dX6_minor_43 rfl (by omega) ?_
      refine aw_iconstZ dX6_minor_44 ?_
      refine aw_isubZ dX6_minor_45 ?_
      refine aw_topi (y := ((2 ^ k - 1 : Nat) : Int)) (by rw [Int.natCast_sub (pw6 ⟨k, by omega⟩).1, Int.natCast_pow]; rfl) ?_
      refine aw_istore dX6_minor_46 (by decide) ?_
      refine aw_lconstZ (z := 1) dX6_minor_48 (by decide) ?_
      refine aw_lstore dX6_minor_49 (by decide) ?_
      refine aw_iconstZ dX6_minor_51 ?_
      refine aw_istore dX6_minor_52 (by decide) ?_
      refine aw_pk [11, 7, 8, 9, 6, 5, 3, 0, 1, 2] (by rfl) ?_
      refine mi_i d (W := vlo k (fun a c => S.N t (5 * ra a + ca c)) od) hmo hT ht hk hNb h13 h14 hra hca ?_ k 0 od (2 ^ k - 1) 1 (by omega) (by have : 2 ^ k ≤ 32 := (pw6 ⟨k, by omega⟩).2; omega) b4 (by rw [Nat.sub_zero]; omega) (fun c hc => by rw [b5 c (by omega)]; omega) ?_
      · skip
        refine aw_lload_n dX6_minor_198 (by rfl) ?_
        refine aw_lload dX6_minor_199 (by rfl) ?_
        refine aw_laddZ dX6_minor_201 ?_
        refine aw_lstore_n dX6_minor_202 (by decide) ?_
        refine aw_iincZ dX6_minor_203 (by rfl) (by decide) ?_
        refine aw_goto (tgt := 30) dX6_minor_206 (by decide) ?_
        rw [show ((od : Int) + 1) = ((od + 1 : Nat) : Int) by omega]
        refine aw_pk [6, 5, 3, 0, 1, 2] (by rfl) ?_
        exact IH (od + 1) _ (by omega) (by rw [hsm]; rfl)
      · rw [Int.one_mul, Nat.sub_zero]
        refine vlo_congr (by omega) (fun a c ha hc => ?_)
        show S.N t (5 * ra (0 + a) + ca (psb (2 ^ k - 1) c)) = _
        rw [b5 c hc, Nat.zero_add]
set_option maxRecDepth 20000 in
theorem m_minor (g : GX) (d : Nat) {V : AH} {mo sz t k : Nat} {S : TSt} {RA CA : Nat → Int} {ra ca : Nat → Nat} {rk kn ar ac : Int} (hmo : V mo = some (moO mo rk kn ar ac)) (hT : RTb g mo V S) (ht : t < 12) (hk : k ≤ 5) (hNb : ∀ e, e < 25 → -1000 ≤ S.N t e ∧ S.N t e ≤ 1000) (h13 : V (mo + 13) = some (aIz g 5 RA)) (h14 : V (mo + 14) = some (aIz g 5 CA)) (hra : ∀ i, i < k → RA i = (ra i : Int) ∧ ra i < 5) (hca : ∀ i, i < k → CA i = (ca i : Int) ∧ ca i < 5) : AMet g mX6_minor (d + 1) [.ref mo, .int (iZ (t : Int)), .int (iZ (k : Int))] V sz (Ex (some (.long (jZ (det k (fun a c => S.N t (5 * ra a + ca c)))))) V sz 0 0) := by
  refine AMet.of rfl rfl (Nat.le_of_ble_eq_true rfl) ?_
  show AW g mX6_minor (d + 1) 0 [(0, .ref mo), (1, .int (iZ (t : Int))), (2, .int (iZ (k : Int)))] [] V sz _
  refine aw_lconstZ (z := 0) dX6_minor_0 (by decide) ?_
  refine aw_lstore_n dX6_minor_1 (by decide) ?_
  refine aw_iconstZ dX6_minor_2 ?_
  refine aw_istore dX6_minor_3 (by decide) ?_
  refine aw_iconstZ dX6_minor_5 ?_
  refine aw_istore dX6_minor_6 (by decide) ?_
  refine aw_pk [6, 5, 3, 0, 1, 2] (by rfl) ?_
  refine mi_all (d + 1) hk ?_ (k - 1) 2 1 (by omega) (by omega) rfl
  refine aw_iconstZ dX6_minor_27 ?_
  refine aw_istore dX6_minor_28 (by decide) ?_
  refine aw_pk [6, 5, 3, 0, 1, 2] (by rfl) ?_
  exact mi_o d hmo hT ht hk hNb h13 h14 hra hca ⟨rfl, rfl, rfl, rfl, rfl⟩ (fcN k) 0 0 (by omega) rfl
