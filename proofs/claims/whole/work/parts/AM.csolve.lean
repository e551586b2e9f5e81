/-! ===== the class: solve ===== -/
def SvP (b c n : Nat) (Z0 : Nat → Int) (j : Nat) (Z : Nat → Int) : Prop := (∀ i, i < j → Z (b + 613 + 2 * (c + i)) = 0) ∧ ∀ q, (∀ i, i < n → q ≠ b + 613 + 2 * (c + i)) → Z q = Z0 q
theorem SvP.step {b c n j : Nat} {Z0 Z : Nat → Int} (h : SvP b c n Z0 j Z) (hj : j < n) : SvP b c n Z0 (j + 1) (upF Z (b + 613 + 2 * (c + j)) 0) := by
  refine ⟨fun i hi => ?_, fun q hq => ?_⟩
  · by_cases e : i = j
    · rw [e, upF_self]
    · rw [upF_ne _ _ (by omega)]; exact h.1 i (by omega)
  · rw [upF_ne _ _ (hq j hj)]; exact h.2 q hq
theorem sm_of2 {x B : Int} (h : ab x ≤ B) (hB : Sm (2 * B)) : Sm x := by
  unfold Sm ab at *
  generalize (2147483648 : Int) ^ 150 = M at *
  omega
abbrev mX5_solve : MI := (yX5_solve, cX5_solve, 9, (some FieldType.int), noX)
theorem dX5_solve_0 : decode cX5_solve 0 = .ok (.aload_n 0, 1) := by decide +kernel
theorem dX5_solve_1 : decode cX5_solve 1 = .ok (.iload_n 1, 1) := by decide +kernel
theorem dX5_solve_2 : decode cX5_solve 2 = .ok (.invokevirtual 72, 3) := by decide +kernel
theorem dX5_solve_5 : decode cX5_solve 5 = .ok (.astore 4, 2) := by decide +kernel
theorem dX5_solve_7 : decode cX5_solve 7 = .ok (.aload_n 0, 1) := by decide +kernel
theorem dX5_solve_8 : decode cX5_solve 8 = .ok (.iload_n 2, 1) := by decide +kernel
theorem dX5_solve_9 : decode cX5_solve 9 = .ok (.invokevirtual 72, 3) := by decide +kernel
theorem dX5_solve_12 : decode cX5_solve 12 = .ok (.astore 5, 2) := by decide +kernel
theorem dX5_solve_14 : decode cX5_solve 14 = .ok (.aload 4, 2) := by decide +kernel
theorem dX5_solve_16 : decode cX5_solve 16 = .ok (.aload 5, 2) := by decide +kernel
theorem dX5_solve_18 : decode cX5_solve 18 = .ok (.invokestatic 137, 3) := by decide +kernel
theorem dX5_solve_21 : decode cX5_solve 21 = .ok (.ifCond .eq 12, 3) := by decide +kernel
theorem dX5_solve_24 : decode cX5_solve 24 = .ok (.aload 5, 2) := by decide +kernel
theorem dX5_solve_26 : decode cX5_solve 26 = .ok (.iload_n 3, 1) := by decide +kernel
theorem dX5_solve_27 : decode cX5_solve 27 = .ok (.invokevirtual 76, 3) := by decide +kernel
theorem dX5_solve_30 : decode cX5_solve 30 = .ok (.ifCond .ne 5, 3) := by decide +kernel
theorem dX5_solve_33 : decode cX5_solve 33 = .ok (.iconst (-1), 1) := by decide +kernel
theorem dX5_solve_34 : decode cX5_solve 34 = .ok (.ireturn, 1) := by decide +kernel
theorem dX5_solve_35 : decode cX5_solve 35 = .ok (.aload 4, 2) := by decide +kernel
theorem dX5_solve_37 : decode cX5_solve 37 = .ok (.getfield 79, 3) := by decide +kernel
theorem dX5_solve_40 : decode cX5_solve 40 = .ok (.istore 6, 2) := by decide +kernel
theorem dX5_solve_42 : decode cX5_solve 42 = .ok (.aload_n 0, 1) := by decide +kernel
theorem dX5_solve_43 : decode cX5_solve 43 = .ok (.getfield 35, 3) := by decide +kernel
theorem dX5_solve_46 : decode cX5_solve 46 = .ok (.aload 4, 2) := by decide +kernel
theorem dX5_solve_48 : decode cX5_solve 48 = .ok (.invokevirtual 175, 3) := by decide +kernel
theorem dX5_solve_51 : decode cX5_solve 51 = .ok (.aload_n 0, 1) := by decide +kernel
theorem dX5_solve_52 : decode cX5_solve 52 = .ok (.getfield 49, 3) := by decide +kernel
theorem dX5_solve_55 : decode cX5_solve 55 = .ok (.aload 5, 2) := by decide +kernel
theorem dX5_solve_57 : decode cX5_solve 57 = .ok (.iload_n 3, 1) := by decide +kernel
theorem dX5_solve_58 : decode cX5_solve 58 = .ok (.iconst (-1), 1) := by decide +kernel
theorem dX5_solve_59 : decode cX5_solve 59 = .ok (.invokevirtual 144, 3) := by decide +kernel
theorem dX5_solve_62 : decode cX5_solve 62 = .ok (.iconst 0, 1) := by decide +kernel
theorem dX5_solve_63 : decode cX5_solve 63 = .ok (.istore 7, 2) := by decide +kernel
theorem dX5_solve_65 : decode cX5_solve 65 = .ok (.iload 7, 2) := by decide +kernel
theorem dX5_solve_67 : decode cX5_solve 67 = .ok (.aload 4, 2) := by decide +kernel
theorem dX5_solve_69 : decode cX5_solve 69 = .ok (.getfield 96, 3) := by decide +kernel
theorem dX5_solve_72 : decode cX5_solve 72 = .ok (.if_icmp .ge 26, 3) := by decide +kernel
theorem dX5_solve_75 : decode cX5_solve 75 = .ok (.aload_n 0, 1) := by decide +kernel
theorem dX5_solve_76 : decode cX5_solve 76 = .ok (.getfield 49, 3) := by decide +kernel
theorem dX5_solve_79 : decode cX5_solve 79 = .ok (.getfield 151, 3) := by decide +kernel
theorem dX5_solve_82 : decode cX5_solve 82 = .ok (.iload 6, 2) := by decide +kernel
theorem dX5_solve_84 : decode cX5_solve 84 = .ok (.iload 7, 2) := by decide +kernel
theorem dX5_solve_86 : decode cX5_solve 86 = .ok (.iadd, 1) := by decide +kernel
theorem dX5_solve_87 : decode cX5_solve 87 = .ok (.aaload, 1) := by decide +kernel
theorem dX5_solve_88 : decode cX5_solve 88 = .ok (.lconst 0, 1) := by decide +kernel
theorem dX5_solve_89 : decode cX5_solve 89 = .ok (.invokevirtual 159, 3) := by decide +kernel
theorem dX5_solve_92 : decode cX5_solve 92 = .ok (.iinc 7 1, 3) := by decide +kernel
theorem dX5_solve_95 : decode cX5_solve 95 = .ok (.goto (-30), 3) := by decide +kernel
theorem dX5_solve_98 : decode cX5_solve 98 = .ok (.aload_n 0, 1) := by decide +kernel
theorem dX5_solve_99 : decode cX5_solve 99 = .ok (.getfield 35, 3) := by decide +kernel
theorem dX5_solve_102 : decode cX5_solve 102 = .ok (.iload 6, 2) := by decide +kernel
theorem dX5_solve_104 : decode cX5_solve 104 = .ok (.invokevirtual 178, 3) := by decide +kernel
theorem dX5_solve_107 : decode cX5_solve 107 = .ok (.istore 7, 2) := by decide +kernel
theorem dX5_solve_109 : decode cX5_solve 109 = .ok (.aload_n 0, 1) := by decide +kernel
theorem dX5_solve_110 : decode cX5_solve 110 = .ok (.getfield 35, 3) := by decide +kernel
theorem dX5_solve_113 : decode cX5_solve 113 = .ok (.aload_n 0, 1) := by decide +kernel
theorem dX5_solve_114 : decode cX5_solve 114 = .ok (.getfield 49, 3) := by decide +kernel
theorem dX5_solve_117 : decode cX5_solve 117 = .ok (.iconst 0, 1) := by decide +kernel
theorem dX5_solve_118 : decode cX5_solve 118 = .ok (.iload 7, 2) := by decide +kernel
theorem dX5_solve_120 : decode cX5_solve 120 = .ok (.aload_n 0, 1) := by decide +kernel
theorem dX5_solve_121 : decode cX5_solve 121 = .ok (.getfield 53, 3) := by decide +kernel
theorem dX5_solve_124 : decode cX5_solve 124 = .ok (.invokevirtual 185, 3) := by decide +kernel
theorem dX5_solve_127 : decode cX5_solve 127 = .ok (.pop, 1) := by decide +kernel
theorem dX5_solve_128 : decode cX5_solve 128 = .ok (.aload_n 0, 1) := by decide +kernel
theorem dX5_solve_129 : decode cX5_solve 129 = .ok (.getfield 49, 3) := by decide +kernel
theorem dX5_solve_132 : decode cX5_solve 132 = .ok (.iload 6, 2) := by decide +kernel
theorem dX5_solve_134 : decode cX5_solve 134 = .ok (.invokevirtual 189, 3) := by decide +kernel
theorem dX5_solve_137 : decode cX5_solve 137 = .ok (.iload 6, 2) := by decide +kernel
theorem dX5_solve_139 : decode cX5_solve 139 = .ok (.if_icmp .ge 5, 3) := by decide +kernel
theorem dX5_solve_142 : decode cX5_solve 142 = .ok (.iconst 0, 1) := by decide +kernel
theorem dX5_solve_143 : decode cX5_solve 143 = .ok (.ireturn, 1) := by decide +kernel
theorem dX5_solve_144 : decode cX5_solve 144 = .ok (.aload_n 0, 1) := by decide +kernel
theorem dX5_solve_145 : decode cX5_solve 145 = .ok (.getfield 35, 3) := by decide +kernel
theorem dX5_solve_148 : decode cX5_solve 148 = .ok (.aload_n 0, 1) := by decide +kernel
theorem dX5_solve_149 : decode cX5_solve 149 = .ok (.getfield 49, 3) := by decide +kernel
theorem dX5_solve_152 : decode cX5_solve 152 = .ok (.iload 7, 2) := by decide +kernel
theorem dX5_solve_154 : decode cX5_solve 154 = .ok (.aload_n 0, 1) := by decide +kernel
theorem dX5_solve_155 : decode cX5_solve 155 = .ok (.getfield 35, 3) := by decide +kernel
theorem dX5_solve_158 : decode cX5_solve 158 = .ok (.getfield 111, 3) := by decide +kernel
theorem dX5_solve_161 : decode cX5_solve 161 = .ok (.aload_n 0, 1) := by decide +kernel
theorem dX5_solve_162 : decode cX5_solve 162 = .ok (.getfield 53, 3) := by decide +kernel
theorem dX5_solve_165 : decode cX5_solve 165 = .ok (.invokevirtual 185, 3) := by decide +kernel
theorem dX5_solve_168 : decode cX5_solve 168 = .ok (.pop, 1) := by decide +kernel
theorem dX5_solve_169 : decode cX5_solve 169 = .ok (.iconst 0, 1) := by decide +kernel
theorem dX5_solve_170 : decode cX5_solve 170 = .ok (.istore 8, 2) := by decide +kernel
theorem dX5_solve_172 : decode cX5_solve 172 = .ok (.iload 8, 2) := by decide +kernel
theorem dX5_solve_174 : decode cX5_solve 174 = .ok (.aload 4, 2) := by decide +kernel
theorem dX5_solve_176 : decode cX5_solve 176 = .ok (.getfield 96, 3) := by decide +kernel
theorem dX5_solve_179 : decode cX5_solve 179 = .ok (.if_icmp .ge 40, 3) := by decide +kernel
theorem dX5_solve_182 : decode cX5_solve 182 = .ok (.aload_n 0, 1) := by decide +kernel
theorem dX5_solve_183 : decode cX5_solve 183 = .ok (.getfield 27, 3) := by decide +kernel
theorem dX5_solve_186 : decode cX5_solve 186 = .ok (.getfield 141, 3) := by decide +kernel
theorem dX5_solve_189 : decode cX5_solve 189 = .ok (.iconst 0, 1) := by decide +kernel
theorem dX5_solve_190 : decode cX5_solve 190 = .ok (.aaload, 1) := by decide +kernel
theorem dX5_solve_191 : decode cX5_solve 191 = .ok (.getfield 151, 3) := by decide +kernel
theorem dX5_solve_194 : decode cX5_solve 194 = .ok (.iload 8, 2) := by decide +kernel
theorem dX5_solve_196 : decode cX5_solve 196 = .ok (.aaload, 1) := by decide +kernel
theorem dX5_solve_197 : decode cX5_solve 197 = .ok (.aload_n 0, 1) := by decide +kernel
theorem dX5_solve_198 : decode cX5_solve 198 = .ok (.getfield 49, 3) := by decide +kernel
theorem dX5_solve_201 : decode cX5_solve 201 = .ok (.getfield 151, 3) := by decide +kernel
theorem dX5_solve_204 : decode cX5_solve 204 = .ok (.iload 6, 2) := by decide +kernel
theorem dX5_solve_206 : decode cX5_solve 206 = .ok (.iload 8, 2) := by decide +kernel
theorem dX5_solve_208 : decode cX5_solve 208 = .ok (.iadd, 1) := by decide +kernel
theorem dX5_solve_209 : decode cX5_solve 209 = .ok (.aaload, 1) := by decide +kernel
theorem dX5_solve_210 : decode cX5_solve 210 = .ok (.invokevirtual 192, 3) := by decide +kernel
theorem dX5_solve_213 : decode cX5_solve 213 = .ok (.iinc 8 1, 3) := by decide +kernel
theorem dX5_solve_216 : decode cX5_solve 216 = .ok (.goto (-44), 3) := by decide +kernel
theorem dX5_solve_219 : decode cX5_solve 219 = .ok (.aload_n 0, 1) := by decide +kernel
theorem dX5_solve_220 : decode cX5_solve 220 = .ok (.iconst 1, 1) := by decide +kernel
theorem dX5_solve_221 : decode cX5_solve 221 = .ok (.aload 4, 2) := by decide +kernel
theorem dX5_solve_223 : decode cX5_solve 223 = .ok (.getfield 96, 3) := by decide +kernel
theorem dX5_solve_226 : decode cX5_solve 226 = .ok (.invokevirtual 148, 3) := by decide +kernel
theorem dX5_solve_229 : decode cX5_solve 229 = .ok (.iconst 1, 1) := by decide +kernel
theorem dX5_solve_230 : decode cX5_solve 230 = .ok (.ireturn, 1) := by decide +kernel
set_option maxRecDepth 20000 in
theorem svp (d : Nat) {g : GX} {b : Nat} {X : Nat → Prop} {Z0 : Nat → Int} {S : TSt} {A : ASt} {V0 : AH} {x : Nat} {QR : Option Value → TSt → ASt → Prop} (h0 : CX g b X V0 Z0 S A) (hx : x < 12) (hKK : ∀ {V : AH} {sz : Nat} {Z : Nat → Int} {P L : Nat → Nat}, WG g (wsB b) (SAB b X) V sz Z P L → (∀ a, SAB b X a → V a = V0 a) → SvP b (S.c x) (S.r x) Z0 (S.r x) Z → AW g mX5_solve (d + 8) 98 [(7, .int (iZ (S.r x))), (6, .int (iZ (S.c x))), (4, .ref (b + 647 + 3 * x)), (0, .ref b)] [] V sz (CE g b X V sz L QR)) : ∀ (f k : Nat), k + f = S.r x → ∀ {V : AH} {sz : Nat} {Z : Nat → Int} {P L : Nat → Nat}, WG g (wsB b) (SAB b X) V sz Z P L → (∀ a, SAB b X a → V a = V0 a) → SvP b (S.c x) (S.r x) Z0 (k) Z → AW g mX5_solve (d + 8) 65 [(7, .int (iZ k)), (6, .int (iZ (S.c x))), (4, .ref (b + 647 + 3 * x)), (0, .ref b)] [] V sz (CE g b X V sz L QR)
  | 0, k, hf, V, sz, Z, P, L, hw0, hV, hP => by
    obtain rfl : k = S.r x := by omega
    have hb := (hV b (Or.inl rfl)).trans h0.1.1
    obtain ⟨-, hTb, hOk, -⟩ := id h0
    obtain ⟨q1, q3, -⟩ := hOk x hx
    obtain ⟨x1, x2, x3⟩ := (hTb x hx).kept (hV _ (tb_sab hx).1) (hV _ (tb_sab hx).2.1) (hV _ (tb_sab hx).2.2)
    obtain ⟨ar1, ar2, -⟩ := h0.2.2.2.2.2.2.2.2.2.1
    have ar1 := (hV (b + 611) (sab_r (by omega))).trans ar1
    have ar2 := (hV (b + 612) (sab_r (by omega))).trans ar2
    refine aw_iload dX5_solve_65 (by rfl) ?_
    refine aw_aload dX5_solve_67 (by rfl) (Or.inr ⟨_, rfl⟩) ?_
    refine aw_get fX5_96 dX5_solve_69 x1 (by rfl) ?_
    refine aw_icmp_geZ (tgt := 98) dX5_solve_72 (by decide) (by omega) (by omega) (fun hc_72 => ?_) (fun hc_72 => ?_)
    · exact hKK hw0 hV hP
    · exact absurd hc_72 (by omega)
  | f + 1, k, hf, V, sz, Z, P, L, hw0, hV, hP => by
    have IH := fun k hk => @svp d g b X Z0 S A V0 x QR h0 hx hKK f k hk
    have hb := (hV b (Or.inl rfl)).trans h0.1.1
    obtain ⟨-, hTb, hOk, -⟩ := id h0
    obtain ⟨q1, q3, -⟩ := hOk x hx
    obtain ⟨x1, x2, x3⟩ := (hTb x hx).kept (hV _ (tb_sab hx).1) (hV _ (tb_sab hx).2.1) (hV _ (tb_sab hx).2.2)
    obtain ⟨ar1, ar2, -⟩ := h0.2.2.2.2.2.2.2.2.2.1
    have ar1 := (hV (b + 611) (sab_r (by omega))).trans ar1
    have ar2 := (hV (b + 612) (sab_r (by omega))).trans ar2
    have hcw : b + 613 + 2 * (S.c x + k) ∈ wsB b := (us_as (b := b) (show S.c x + k < 10 by omega)).1
    obtain ⟨nt, Ft, hWt⟩ := hw0.raw hcw
    refine aw_iload dX5_solve_65 (by rfl) ?_
    refine aw_aload dX5_solve_67 (by rfl) (Or.inr ⟨_, rfl⟩) ?_
    refine aw_get fX5_96 dX5_solve_69 x1 (by rfl) ?_
    refine aw_icmp_geZ (tgt := 98) dX5_solve_72 (by decide) (by omega) (by omega) (fun hc_72 => ?_) (fun hc_72 => ?_)
    · exact absurd hc_72 (by omega)
    · refine aw_aload_n dX5_solve_75 (by rfl) (Or.inr ⟨_, rfl⟩) ?_
      refine aw_get fX5_49 dX5_solve_76 hb (by rfl) ?_
      refine aw_get fX5_151 dX5_solve_79 ar1 (by rfl) ?_
      refine aw_iload dX5_solve_82 (by rfl) ?_
      refine aw_iload dX5_solve_84 (by rfl) ?_
      refine aw_iaddZ dX5_solve_86 ?_
      refine aw_aaldZ (t0 := 5) (S.c x + k) (by rfl) dX5_solve_87 ar2 (by omega) (by omega) (by omega) ?_
      refine aw_lconstZ (z := 0) dX5_solve_88 (by decide) ?_
      refine aw_callv vX5_159 dX5_solve_89 hWt.1 (w_put (d + 6) hw0 hcw (z := 0) (by omega)) (by rfl) (by rfl) (by omega) (Nat.le_of_ble_eq_true rfl) ?_
      rintro _ V1 sz1 mc1 ms1 ⟨rfl, P1, L1, hs1⟩ -
      refine WE.stp (WSE.of hs1) ?_
      refine aw_iincZ dX5_solve_92 (by rfl) (by decide) ?_
      refine aw_goto (tgt := 65) dX5_solve_95 (by decide) ?_
      rw [show ((k : Int) + 1) = ((k + 1 : Nat) : Int) by omega]
      refine aw_pk [7, 6, 4, 0] (by rfl) ?_
      exact IH (k + 1) (by omega) hs1.1 (fun a ha => (hs1.2.2.1 a ha).trans (hV a ha)) (hP.step (by omega))
set_option maxRecDepth 20000 in
theorem svq (d : Nat) {g : GX} {b : Nat} {X : Nat → Prop} {Z0 : Nat → Int} {S : TSt} {A : ASt} {V0 : AH} {x hT wT : Nat} {ldT : Nat → Int} {ρT : Nat → Nat} {qq : Nat → Int} {QR : Option Value → TSt → ASt → Prop} (h0 : CX g b X V0 Z0 S A) (hx : x < 12) (hT0 : GD g V0 (b + 17 + 1) (GT b) hT wT ldT ρT) (hq : ∀ t, t < S.r x → Z0 (b + 613 + 2 * (S.c x + t)) = qq t ∧ Sm (qq t)) (hKK : ∀ {V : AH} {sz : Nat} {Z : Nat → Int} {P L : Nat → Nat}, WG g (wsB b) (SAB b X) V sz Z P L → (∀ a, SAB b X a → V a = V0 a) → TCp b ρT Z0 (fun _ j => qq j) 1 (S.r x) 0 (S.r x) Z → AW g mX5_solve (d + 8) 219 [(8, .int (iZ (S.r x))), (6, .int (iZ (S.c x))), (4, .ref (b + 647 + 3 * x)), (0, .ref b)] [] V sz (CE g b X V sz L QR)) : ∀ (f k : Nat), k + f = S.r x → ∀ {V : AH} {sz : Nat} {Z : Nat → Int} {P L : Nat → Nat}, WG g (wsB b) (SAB b X) V sz Z P L → (∀ a, SAB b X a → V a = V0 a) → TCp b ρT Z0 (fun _ j => qq j) 1 (S.r x) 0 (k) Z → AW g mX5_solve (d + 8) 172 [(8, .int (iZ k)), (6, .int (iZ (S.c x))), (4, .ref (b + 647 + 3 * x)), (0, .ref b)] [] V sz (CE g b X V sz L QR)
  | 0, k, hf, V, sz, Z, P, L, hw0, hV, hTC => by
    obtain rfl : k = S.r x := by omega
    have hb := (hV b (Or.inl rfl)).trans h0.1.1
    obtain ⟨-, hTb, hOk, -⟩ := id h0
    obtain ⟨q1, q3, -⟩ := hOk x hx
    obtain ⟨x1, x2, x3⟩ := (hTb x hx).kept (hV _ (tb_sab hx).1) (hV _ (tb_sab hx).2.1) (hV _ (tb_sab hx).2.2)
    obtain ⟨ar1, ar2, -⟩ := h0.2.2.2.2.2.2.2.2.2.1
    have ar1 := (hV (b + 611) (sab_r (by omega))).trans ar1
    have ar2 := (hV (b + 612) (sab_r (by omega))).trans ar2
    have hGT : GD g V (b + 17 + 1) (GT b) hT wT ldT ρT := hT0.kept2 (fun a ha => hV a (sab_gT ha).1)
    obtain ⟨tgd, tra, -, trow, tRS, tinj⟩ := id hGT
    have tgd : V (b + 17) = some (grO (b + 17 + 21) (b + 17 + 20) (b + 17 + 1) (b + 17 + 16) (b + 17 + 18) hT wT) := tgd
    have tra : V (b + 17 + 21) = some (aQ g 4 10 (fun i => some (ρT i))) := tra
    refine aw_iload dX5_solve_172 (by rfl) ?_
    refine aw_aload dX5_solve_174 (by rfl) (Or.inr ⟨_, rfl⟩) ?_
    refine aw_get fX5_96 dX5_solve_176 x1 (by rfl) ?_
    refine aw_icmp_geZ (tgt := 219) dX5_solve_179 (by decide) (by omega) (by omega) (fun hc_179 => ?_) (fun hc_179 => ?_)
    · exact hKK hw0 hV hTC
    · exact absurd hc_179 (by omega)
  | f + 1, k, hf, V, sz, Z, P, L, hw0, hV, hTC => by
    have IH := fun k hk => @svq d g b X Z0 S A V0 x hT wT ldT ρT qq QR h0 hx hT0 hq hKK f k hk
    have hb := (hV b (Or.inl rfl)).trans h0.1.1
    obtain ⟨-, hTb, hOk, -⟩ := id h0
    obtain ⟨q1, q3, -⟩ := hOk x hx
    obtain ⟨x1, x2, x3⟩ := (hTb x hx).kept (hV _ (tb_sab hx).1) (hV _ (tb_sab hx).2.1) (hV _ (tb_sab hx).2.2)
    obtain ⟨ar1, ar2, -⟩ := h0.2.2.2.2.2.2.2.2.2.1
    have ar1 := (hV (b + 611) (sab_r (by omega))).trans ar1
    have ar2 := (hV (b + 612) (sab_r (by omega))).trans ar2
    have hGT : GD g V (b + 17 + 1) (GT b) hT wT ldT ρT := hT0.kept2 (fun a ha => hV a (sab_gT ha).1)
    obtain ⟨tgd, tra, -, trow, tRS, tinj⟩ := id hGT
    have tgd : V (b + 17) = some (grO (b + 17 + 21) (b + 17 + 20) (b + 17 + 1) (b + 17 + 16) (b + 17 + 18) hT wT) := tgd
    have tra : V (b + 17 + 21) = some (aQ g 4 10 (fun i => some (ρT i))) := tra
    obtain ⟨tr1, tr2, -⟩ := trow _ (tRS 0 (show 0 < 10 by omega))
    have tr2 : V ((GT b).ka (ρT 0)) = some (aQ g 5 5 (fun j => some ((GT b).ga (ρT 0) j))) := tr2
    have hct := ((gst_T b X).2.2.2.2.1 _ (tRS 0 (show 0 < 10 by omega)) k (show k < 5 by omega)).1.1
    have hcw : b + 613 + 2 * (S.c x + k) ∈ wsB b := (us_as (b := b) (show S.c x + k < 10 by omega)).1
    have hit := gl_cell (t0 := b + 17) (mr := 10) (mc := 5) (tRS 0 (show 0 < 10 by omega)) (show k < 5 by omega)
    have htw : (GT b).ga (ρT 0) k ≠ b + 613 + 2 * (S.c x + k) := fun q => by
      have q : (GL (b + 17) 10 5).ga (ρT 0) k = b + 613 + 2 * (S.c x + k) := q
      omega
    have hzw : Z (b + 613 + 2 * (S.c x + k)) = qq k := (hTC.2 _ (by omega)).trans (hq k (by omega)).1
    obtain ⟨nt, Ft, hWt⟩ := hw0.raw hct
    refine aw_iload dX5_solve_172 (by rfl) ?_
    refine aw_aload dX5_solve_174 (by rfl) (Or.inr ⟨_, rfl⟩) ?_
    refine aw_get fX5_96 dX5_solve_176 x1 (by rfl) ?_
    refine aw_icmp_geZ (tgt := 219) dX5_solve_179 (by decide) (by omega) (by omega) (fun hc_179 => ?_) (fun hc_179 => ?_)
    · exact absurd hc_179 (by omega)
    · refine aw_aload_n dX5_solve_182 (by rfl) (Or.inr ⟨_, rfl⟩) ?_
      refine aw_get fX5_27 dX5_solve_183 hb (by rfl) ?_
      refine aw_get fX5_141 dX5_solve_186 tgd (by rfl) ?_
      refine aw_iconstZ dX5_solve_189 ?_
      refine aw_aaldZ (t0 := 4) (0) (by rfl) dX5_solve_190 tra (by omega) (by omega) (by omega) ?_
      refine aw_get fX5_151 dX5_solve_191 tr1 (by rfl) ?_
      refine aw_iload dX5_solve_194 (by rfl) ?_
      refine aw_aaldZ (t0 := 5) (k) (by rfl) dX5_solve_196 tr2 (by omega) (by omega) (by omega) ?_
      refine aw_aload_n dX5_solve_197 (by rfl) (Or.inr ⟨_, rfl⟩) ?_
      refine aw_get fX5_49 dX5_solve_198 hb (by rfl) ?_
      refine aw_get fX5_151 dX5_solve_201 ar1 (by rfl) ?_
      refine aw_iload dX5_solve_204 (by rfl) ?_
      refine aw_iload dX5_solve_206 (by rfl) ?_
      refine aw_iaddZ dX5_solve_208 ?_
      refine aw_aaldZ (t0 := 5) (S.c x + k) (by rfl) dX5_solve_209 ar2 (by omega) (by omega) (by omega) ?_
      refine aw_callv vX5_192 dX5_solve_210 hWt.1 (w_copy (d + 4) hw0 hct hcw htw (Sm.u156 (by rw [hzw]; exact (hq k (by omega)).2))) (by rfl) (by rfl) (by omega) (Nat.le_of_ble_eq_true rfl) ?_
      rintro _ V1 sz1 mc1 ms1 ⟨rfl, P1, L1, hs1⟩ -
      refine WE.stp (WSE.of hs1) ?_
      refine aw_iincZ dX5_solve_213 (by rfl) (by decide) ?_
      refine aw_goto (tgt := 172) dX5_solve_216 (by decide) ?_
      rw [show ((k : Int) + 1) = ((k + 1 : Nat) : Int) by omega]
      refine aw_pk [8, 6, 4, 0] (by rfl) ?_
      exact IH (k + 1) (by omega) hs1.1 (fun a ha => (hs1.2.2.1 a ha).trans (hV a ha)) (hTC.step (b := b) tRS tinj (by omega) (by omega) hzw)
/-- the row that is left behind both takings is what was SOLVED -/
theorem sv_eq {N : Nat → Int} {c r h t : Nat} {l : Nat → Nat} {B : Mat} {v0 v1 v2 q p bb : Nat → Int} (hs : Stair B h (c + r) l) (hsp : SpEq (TU N c) r B h (c + r)) (ht : t ≤ h ∧ (∀ i, i < t → l i < c) ∧ (t < h → c ≤ l t)) (h0 : ∀ j, j < c → v0 j = -1 * bb j) (h00 : ∀ j, j < r → v0 (c + j) = 0) (h1 : ∀ j, j < c + r → v1 j = v0 j - Sg (fun i => q i * B i j) t) (h2 : ∀ j, j < c + r → v2 j = v1 j - Sg (fun i => p i * B (t + i) j) (h - t)) (hz : ∀ j, j < c → v1 j = 0) : ∀ j, j < c → Sg (fun i => v2 (c + i) * N (5 * i + j)) r = bb j := fun j hj => by
  have a1 : Span B h (c + r) (fun j => Sg (fun i => q i * B i j) t) := span_sum (A' := B) (fun i hi => Span.row (by omega))
  have a2 : Span B h (c + r) (fun j => Sg (fun i => p i * B (t + i) j) (h - t)) := span_sum (A' := fun i => B (t + i)) (fun i hi => Span.row (by omega))
  have a3 : Span B h (c + r) (fun j => v2 j - v0 j) := (a1.lin (-1) (-1) a2).congr (fun j hj => by
    have e1 := h1 j hj
    have e2 := h2 j hj
    show -1 * Sg (fun i => q i * B i j) t + -1 * Sg (fun i => p i * B (t + i) j) (h - t) = v2 j - v0 j
    omega)
  have a4 := tu_span ((hsp _).mpr a3) j hj
  have a5 : Sg (fun i => p i * B (t + i) j) (h - t) = 0 := Sg_zero (fun i hi => by
    have hc : c ≤ l (t + i) := by
      rcases Nat.eq_zero_or_pos i with e | e
      · rw [e]; exact ht.2.2 (by omega)
      · have := hs.1.2 t (t + i) (by omega) (by omega)
        have := ht.2.2 (by omega)
        omega
    rw [(hs.1.1 (t + i) (by omega)).2.2 j (by omega), Int.mul_zero])
  have a6 : v2 j = 0 := by rw [h2 j (by omega), hz j hj, a5]; rfl
  have a4 : v2 j - v0 j = Sg (fun i => (v2 (c + i) - v0 (c + i)) * N (5 * i + j)) r := a4
  rw [a6, h0 j hj] at a4
  have a7 : Sg (fun i => v2 (c + i) * N (5 * i + j)) r = Sg (fun i => (v2 (c + i) - v0 (c + i)) * N (5 * i + j)) r := Sg_congr (fun i hi => by rw [h00 i hi, Int.sub_zero])
  rw [a7, ← a4]
  omega
set_option maxRecDepth 20000 in
theorem c_solve {g : GX} {b : Nat} {X : Nat → Prop} {V : AH} {sz : Nat} {Z : Nat → Int} {S : TSt} {A : ASt} (d : Nat) {t u i : Int} {P L : Nat → Nat} (hw0 : WG g (wsB b) (SAB b X) V sz Z P L) (h : CX g b X V Z S A) (ht : R32 t) (hu : R32 u) (hi : R32 i) : AMet g mX5_solve (d + 8) [.ref b, .int (iZ t), .int (iZ u), .int (iZ i)] V sz (CE g b X V sz L (AskR S A t u i (SlvR S A))) := by
  obtain ⟨⟨hb, hb1⟩, hTb, hOk, -⟩ := id h
  obtain ⟨v, hv⟩ := FindV.ex S b t
  obtain ⟨v2, hv2⟩ := FindV.ex S b u
  rcases id hv with ⟨x, hx, rfl, hrx, rfl⟩ | ⟨hno, rfl⟩
  · rcases id hv2 with ⟨y, hy, rfl, hry, rfl⟩ | ⟨hno2, rfl⟩
    · have hy1 := (hTb y hy).1
      by_cases hcc : S.c x = S.c y
      · by_cases hir : 0 ≤ i ∧ i < (S.r y : Int)
        · obtain ⟨k, rfl⟩ : ∃ k : Nat, i = (k : Int) := ⟨i.toNat, by omega⟩
          have hAsk : AskP S (x : Int) (y : Int) (k : Int) x y k := ⟨hx, hy, rfl, rfl, rfl, hrx, hry, hcc, by omega⟩
          obtain ⟨q1, q3, -⟩ := hOk x hx
          obtain ⟨q2, -, -, qy, -⟩ := hOk y hy
          obtain ⟨x1, x2, x3⟩ := id (hTb x hx)
          obtain ⟨h0, w0, ld0, ρ0, hG0⟩ := h.2.2.2.2.2.2.1
          have hgd0 : V (b + 159) = _ := hG0.1
          refine AMet.of rfl rfl (Nat.le_of_ble_eq_true rfl) ?_
          show AW g mX5_solve (d + 8) 0 [(0, .ref b), (1, .int (iZ x)), (2, .int (iZ y)), (3, .int (iZ k))] [] V sz _
          refine aw_aload_n dX5_solve_0 (by rfl) (Or.inr ⟨_, rfl⟩) ?_
          refine aw_iload_n dX5_solve_1 (by rfl) ?_
          refine aw_callv vX5_72 dX5_solve_2 hb (t_find (d + 6) h ht hv) (by rfl) (by rfl) (by omega) (Nat.le_of_ble_eq_true rfl) ?_
          rintro _ _ _ _ _ ⟨rfl, rfl, rfl, rfl, rfl⟩ -
          refine q0 ?_
          refine aw_astore dX5_solve_5 (by decide) (Or.inr ⟨_, rfl⟩) ?_
          refine aw_aload_n dX5_solve_7 (by rfl) (Or.inr ⟨_, rfl⟩) ?_
          refine aw_iload_n dX5_solve_8 (by rfl) ?_
          refine aw_callv vX5_72 dX5_solve_9 hb (t_find (d + 6) h hu hv2) (by rfl) (by rfl) (by omega) (Nat.le_of_ble_eq_true rfl) ?_
          rintro _ _ _ _ _ ⟨rfl, rfl, rfl, rfl, rfl⟩ -
          refine q0 ?_
          refine aw_astore dX5_solve_12 (by decide) (Or.inr ⟨_, rfl⟩) ?_
          refine aw_aload dX5_solve_14 (by rfl) (Or.inr ⟨_, rfl⟩) ?_
          refine aw_aload dX5_solve_16 (by rfl) (Or.inr ⟨_, rfl⟩) ?_
          refine aw_calls sX5_137 dX5_solve_18 (t_areAlike (d + 6 + 1) (q := 1) h hv hv2 (Or.inl ⟨rfl, x, y, hx, hy, rfl, rfl, hrx, hry, hcc⟩)) (by rfl) (by rfl) (by omega) (Nat.le_of_ble_eq_true rfl) ?_
          rintro _ _ _ _ _ ⟨rfl, rfl, rfl, rfl, rfl⟩ -
          refine q0 ?_
          refine aw_if_eqZ (tgt := 33) dX5_solve_21 (by decide) (by decide) (fun hc_21 => ?_) (fun hc_21 => ?_)
          · exact absurd hc_21 (by decide)
          · refine aw_aload dX5_solve_24 (by rfl) (Or.inr ⟨_, rfl⟩) ?_
            refine aw_iload_n dX5_solve_26 (by rfl) ?_
            refine aw_callv vX5_76 dX5_solve_27 hy1 (t_hasRow g (d + 6 + 1) (i := (k : Int)) (hTb y hy) (by have := (hOk y hy).1; omega) hi) (by rfl) (by rfl) (by omega) (Nat.le_of_ble_eq_true rfl) ?_
            rintro _ _ _ _ _ ⟨rfl, rfl, rfl, rfl, rfl⟩ -
            refine q0 ?_
            refine aw_if_neZ (tgt := 35) dX5_solve_30 (by decide) (by split <;> omega) (fun hc_30 => ?_) (fun hc_30 => ?_)
            · refine aw_aload dX5_solve_35 (by rfl) (Or.inr ⟨_, rfl⟩) ?_
              refine aw_get fX5_79 dX5_solve_37 x1 (by rfl) ?_
              refine aw_istore dX5_solve_40 (by decide) ?_
              refine aw_aload_n dX5_solve_42 (by rfl) (Or.inr ⟨_, rfl⟩) ?_
              refine aw_get fX5_35 dX5_solve_43 hb (by rfl) ?_
              refine aw_aload dX5_solve_46 (by rfl) (Or.inr ⟨_, rfl⟩) ?_
              refine aw_callv vX5_175 dX5_solve_48 hgd0 (c_reachM d hw0 h hx) (by rfl) (by rfl) (by omega) (Nat.le_of_ble_eq_true rfl) ?_
              rintro _ V1 sz1 mc1 ms1 ⟨Z1, P1, L1, ⟨rfl, hcx1, ⟨h1, ld1, l1, ρ1, hg1⟩, -⟩, hs1⟩ -
              refine WE.stp hs1 ?_
              have hb1' := hcx1.1.1
              have hh1 : h1 ≤ S.c x + S.r x := hg1.2.2.1.1.le_w
              have hrow1 := hcx1.2.2.2.2.2.2.2.2.2.1.1
              obtain ⟨tt, ht3⟩ := rb_ex l1 (S.c x) h1
              refine aw_aload_n dX5_solve_51 (by rfl) (Or.inr ⟨_, rfl⟩) ?_
              refine aw_get fX5_49 dX5_solve_52 hb1' (by rfl) ?_
              refine aw_aload dX5_solve_55 (by rfl) (Or.inr ⟨_, rfl⟩) ?_
              refine aw_iload_n dX5_solve_57 (by rfl) ?_
              refine aw_iconstZ dX5_solve_58 ?_
              refine aw_callv vX5_144 dX5_solve_59 hrow1 (c_readA (d + 5) (f := -1) hs1.1 hcx1 hy (i := k) (by omega) (Or.inr rfl)) (by rfl) (by rfl) (by omega) (Nat.le_of_ble_eq_true rfl) ?_
              rintro _ V2 sz2 mc2 ms2 ⟨Z2, P2, L2, ⟨rfl, hcx2, hkv2, hrd, hot⟩, hs2⟩ -
              refine WE.stp hs2 ?_
              refine aw_iconstZ dX5_solve_62 ?_
              refine aw_istore dX5_solve_63 (by decide) ?_
              refine aw_pk [7, 6, 4, 0] (by rfl) ?_
              refine svp (d + 0) hcx2 hx (fun {V3 sz3 Z3 P3 L3} hw3 hV3 hP3 => ?_) (S.r x) 0 (by omega) hs2.1 (fun _ _ => rfl) ⟨fun i hi => absurd hi (by omega), fun _ _ => rfl⟩
              have hcx3 : CX g b X V3 Z3 S A := hcx2.zs hV3 (fun q hq => hP3.2 q (fun i hi => by omega))
              obtain ⟨hg3, hAm3⟩ := hg1.read (X := X) (c := 10) (V1 := V3) (Z1 := Z3) (by omega) (by omega) (fun a ha => (hV3 a ha).trans (hkv2 a ha)) (fun q hq => (hP3.2 q (fun i hi => hq _ (by omega))).trans (hot q (fun j hj => hq j (by omega))))
              have hb3 := hcx3.1.1
              have hgd3 : V3 (b + 159) = some (grO (b + 159 + 21) (b + 159 + 20) (b + 159 + 1) (b + 159 + 16) (b + 159 + 18) h1 (S.c x + S.r x)) := hg3.1.1
              have hv3 : ∀ j, j < S.c x → Z3 (b + 613 + 2 * j) = -1 * S.N y (5 * k + j) := fun j hj => (hP3.2 _ (fun i hi => by omega)).trans (hrd j (by omega))
              have hkn := kern_of hg3.2.2.1 hg3.2.2.2 ht3
              have hstT := stair_of hg3.2.2.1 hg3.2.2.2 ht3
              have htc : tt ≤ S.c x := hstT.1.1.le_w
              have hkr : h1 - tt ≤ S.r x := hkn.1.1.le_w
              have hkl : ∀ m, m < h1 - tt → S.c x ≤ l1 (tt + m) := fun m hm => by
                rcases Nat.eq_zero_or_pos m with e | e
                · rw [e]; exact ht3.2.2 (by omega)
                · have := hg3.2.2.1.1.2 tt (tt + m) (by omega) (by omega)
                  have := ht3.2.2 (by omega)
                  omega
              have hneg : Span (TM (S.N x)) (S.r x) (S.c x) (TM (S.N y) k) ↔ Span (TM (S.N x)) (S.r x) (S.c x) (fun j => Z3 (b + 613 + 2 * j)) := ⟨fun z => (z.lin (-1) 0 z).congr (fun j hj => by show -1 * S.N y (5 * k + j) + 0 * S.N y (5 * k + j) = Z3 _; rw [hv3 j hj]; omega), fun z => (z.lin (-1) 0 z).congr (fun j hj => by show -1 * Z3 _ + 0 * Z3 _ = S.N y (5 * k + j); rw [hv3 j hj]; omega)⟩
              have hC3 : ∀ j, j < S.c x + S.r x → ab (Z3 (b + 613 + 2 * j)) ≤ 1000 := fun j hj => by
                by_cases e : j < S.c x
                · rw [hv3 j e]; have := qy (5 * k + j) (by omega); unfold ab; omega
                · have := hP3.1 (j - S.c x) (by omega)
                  rw [show S.c x + (j - S.c x) = j by omega] at this
                  rw [this]; unfold ab; omega
              have hK1 : 1 ≤ (1 + KB (S.c x + S.r x) 1000) ^ (tt - 0) := by
                have := KB.one (w := S.c x + S.r x) (b := 1000) (by omega)
                have := pw_mono (x := 1 + KB (S.c x + S.r x) 1000) (by omega) (Nat.zero_le (tt - 0))
                rwa [Int.pow_zero] at this
              have hT2 : Sm (2 * (1000 * (1 + KB (S.c x + S.r x) 1000) ^ (tt - 0) * (1 + KB (S.c x + S.r x) 1000) ^ (h1 - tt))) := by
                rw [Int.mul_assoc, ← Int.pow_add]
                exact sm_off (by omega) (by omega)
              refine aw_aload_n dX5_solve_98 (by rfl) (Or.inr ⟨_, rfl⟩) ?_
              refine aw_get fX5_35 dX5_solve_99 hb3 (by rfl) ?_
              refine aw_iload dX5_solve_102 (by rfl) ?_
              refine aw_callv vX5_178 dX5_solve_104 hgd3 (t_rowsLeadingBefore g (d + 7) (t := tt) (col := S.c x) hg3.1 ⟨show h1 ≤ 11 by omega, show (11 : Nat) < 100 by omega, by omega, by omega⟩ hg3.2.1 (fun i hi => (hg3.2.2.1.1.1 i hi).1) ht3) (by rfl) (by rfl) (by omega) (Nat.le_of_ble_eq_true rfl) ?_
              rintro _ _ _ _ _ ⟨rfl, rfl, rfl, rfl, rfl⟩ -
              refine q0 ?_
              refine aw_istore dX5_solve_107 (by decide) ?_
              refine aw_aload_n dX5_solve_109 (by rfl) (Or.inr ⟨_, rfl⟩) ?_
              refine aw_get fX5_35 dX5_solve_110 hb3 (by rfl) ?_
              refine aw_aload_n dX5_solve_113 (by rfl) (Or.inr ⟨_, rfl⟩) ?_
              refine aw_get fX5_49 dX5_solve_114 hb3 (by rfl) ?_
              refine aw_iconstZ dX5_solve_117 ?_
              refine aw_iload dX5_solve_118 (by rfl) ?_
              refine aw_aload_n dX5_solve_120 (by rfl) (Or.inr ⟨_, rfl⟩) ?_
              refine aw_get fX5_53 dX5_solve_121 hb3 (by rfl) ?_
              refine aw_callv vX5_185 dX5_solve_124 hgd3 (c_offW (d + 2) (fr := 0) (to := tt) (C := 1000) hw3 hcx3 hg3 (hOk.tu hx) (by omega) ⟨by omega, by omega, by omega⟩ (by omega) hC3 (sm_off (by omega) (by omega))) (by rfl) (by rfl) (by omega) (Nat.le_of_ble_eq_true rfl) ?_
              rintro r4 V4 sz4 mc4 ms4 ⟨Z4, P4, L4, ⟨hcx4, hg4, ⟨hkv4, hZ4, hAm4, -⟩, qq, hq1, hq2, hqb, hres⟩, hs4⟩ -
              refine WE.stp hs4 ?_
              obtain ⟨e4, rfl⟩ : ∃ e : Int, some (Value.int (iZ e)) = r4 := by rcases hres with ⟨_, q⟩ | ⟨_, q⟩ <;> exact ⟨_, q⟩
              have hb4 := hcx4.1.1
              have hAs4 := hcx4.2.2.2.2.2.2.2.2.2.1
              have hgd4 : V4 (b + 159) = some (grO (b + 159 + 21) (b + 159 + 20) (b + 159 + 1) (b + 159 + 16) (b + 159 + 18) h1 (S.c x + S.r x)) := hg4.1.1
              obtain ⟨jj, hjj⟩ := FF.ex (fun j => Z4 (b + 613 + 2 * j)) (S.c x)
              have hin : Span (TM (S.N x)) (S.r x) (S.c x) (TM (S.N y) k) ↔ ∀ j, j < S.c x → Z4 (b + 613 + 2 * j) = 0 := by
                rw [hneg, hstT.2 _]
                refine off_in hstT.1 (v' := fun j => Z4 (b + 613 + 2 * j)) (q := qq) (fun j hj => ?_) (fun k hk => ?_)
                · have h5 := hq1 j (by omega)
                  rw [Nat.sub_zero] at h5
                  simp only [Nat.zero_add] at h5
                  exact h5
                · have h5 := hq2 k (by omega)
                  simp only [Nat.zero_add] at h5
                  exact h5.2
              refine aw_pop dX5_solve_127 rfl ?_
              refine aw_aload_n dX5_solve_128 (by rfl) (Or.inr ⟨_, rfl⟩) ?_
              refine aw_get fX5_49 dX5_solve_129 hb4 (by rfl) ?_
              refine aw_iload dX5_solve_132 (by rfl) ?_
              have hle4 := hjj.1
              refine aw_callv vX5_189 dX5_solve_134 hAs4.1 (t_firstFilled (d + 7) hs4.1 hAs4 (fun j hj => (us_as hj).1) hjj (by omega)) (by rfl) (by rfl) (by omega) (Nat.le_of_ble_eq_true rfl) ?_
              rintro _ _ _ _ _ ⟨rfl, rfl, rfl, rfl, rfl⟩ -
              refine q0 ?_
              refine aw_iload dX5_solve_137 (by rfl) ?_
              refine aw_icmp_geZ (tgt := 144) dX5_solve_139 (by decide) (by omega) (by omega) (fun hc_139 => ?_) (fun hc_139 => ?_)
              · refine aw_aload_n dX5_solve_144 (by rfl) (Or.inr ⟨_, rfl⟩) ?_
                refine aw_get fX5_35 dX5_solve_145 hb4 (by rfl) ?_
                refine aw_aload_n dX5_solve_148 (by rfl) (Or.inr ⟨_, rfl⟩) ?_
                refine aw_get fX5_49 dX5_solve_149 hb4 (by rfl) ?_
                refine aw_iload dX5_solve_152 (by rfl) ?_
                refine aw_aload_n dX5_solve_154 (by rfl) (Or.inr ⟨_, rfl⟩) ?_
                refine aw_get fX5_35 dX5_solve_155 hb4 (by rfl) ?_
                refine aw_get fX5_111 dX5_solve_158 hgd4 (by rfl) ?_
                refine aw_aload_n dX5_solve_161 (by rfl) (Or.inr ⟨_, rfl⟩) ?_
                refine aw_get fX5_53 dX5_solve_162 hb4 (by rfl) ?_
                refine aw_callv vX5_185 dX5_solve_165 hgd4 (c_offW (d + 2) (fr := tt) (to := h1) (C := 1000 * (1 + KB (S.c x + S.r x) 1000) ^ (tt - 0)) hs4.1 hcx4 hg4 (hOk.tu hx) (by omega) ⟨by omega, by omega, by omega⟩ (by omega) hqb hT2) (by rfl) (by rfl) (by omega) (Nat.le_of_ble_eq_true rfl) ?_
                rintro r5 V5 sz5 mc5 ms5 ⟨Z5, P5, L5, ⟨hcx5, hg5, ⟨hkv5, hZ5, hAm5, -⟩, qp, hp1, hp2, hpb, hres5⟩, hs5⟩ -
                refine WE.stp hs5 ?_
                obtain ⟨e5, rfl⟩ : ∃ e : Int, some (Value.int (iZ e)) = r5 := by rcases hres5 with ⟨_, q⟩ | ⟨_, q⟩ <;> exact ⟨_, q⟩
                have hb5 := hcx5.1.1
                obtain ⟨ldT, ρT, hGD, -⟩ := hcx5.2.2.2.2.1
                have hA := hcx5.2.2.2.2.2.1
                refine aw_pop dX5_solve_168 rfl ?_
                refine aw_iconstZ dX5_solve_169 ?_
                refine aw_istore dX5_solve_170 (by decide) ?_
                refine aw_pk [8, 6, 4, 0] (by rfl) ?_
                refine svq (d + 0) hcx5 hx hGD (qq := fun j => Z5 (b + 613 + 2 * (S.c x + j))) (fun t ht => ⟨rfl, sm_of2 (hpb (S.c x + t) (by omega)) hT2⟩) (fun {V6 sz6 Z6 P6 L6} hw6 hV6 hTC6 => ?_) (S.r x) 0 (by omega) hs5.1 (fun _ _ => rfl) ⟨fun a e _ _ q => absurd q (by omega), fun _ _ => rfl⟩
                have hb6 := (hV6 b (Or.inl rfl)).trans hb5
                have hGT6 : GD g V6 (b + 17 + 1) (GT b) A.h A.w ldT ρT := hGD.kept2 (fun a ha => hV6 a (sab_gT ha).1)
                obtain ⟨y1, y2, y3⟩ := (hcx5.2.1 x hx).kept (hV6 _ (tb_sab hx).1) (hV6 _ (tb_sab hx).2.1) (hV6 _ (tb_sab hx).2.2)
                refine aw_aload_n dX5_solve_219 (by rfl) (Or.inr ⟨_, rfl⟩) ?_
                refine aw_iconstZ dX5_solve_220 ?_
                refine aw_aload dX5_solve_221 (by rfl) (Or.inr ⟨_, rfl⟩) ?_
                refine aw_get fX5_96 dX5_solve_223 y1 (by rfl) ?_
                show AW _ _ _ _ _ (.int (iZ (S.r x)) :: .int (iZ ((1 : Nat) : Int)) :: _) _ _ _
                refine aw_callv vX5_148 dX5_solve_226 hb6 (t_closeAnswer g (d + 6) (r := 1) (w := S.r x) hb6 hGT6 (by omega)) (by rfl) (by rfl) (by omega) (Nat.le_of_ble_eq_true rfl) ?_
                rintro _ _ _ _ _ ⟨rfl, rfl, rfl, rfl, rfl⟩ -
                refine WE.stp (cl_wse hw6) ?_
                refine aw_iconstZ dX5_solve_229 ?_
                refine aw_iret dX5_solve_230 rfl (by rfl) ?_
                obtain ⟨hcx, hAI⟩ := hcx5.ans (V := V6) (Z := Z6) (r := 1) (w := S.r x) (M := fun _ j => Z5 (b + 613 + 2 * (S.c x + j))) hGD hA hV6 hTC6.2 (by omega) (fun i j hi hj => hTC6.1 i j (by omega) hj (by omega))
                refine WE.ret (cl_wse hw6).1 ⟨S, _, hcx, rfl, Or.inl ⟨x, y, k, hAsk, Or.inl ⟨rfl, h1 - tt, _, _, fun j => Z5 (b + 613 + 2 * (S.c x + j)), hkn.1, hkn.2, ?_, fun m hm => ?_, hAI⟩⟩⟩
                · exact sv_eq (v0 := fun j => Z3 (b + 613 + 2 * j)) (v1 := fun j => Z4 (b + 613 + 2 * j)) (v2 := fun j => Z5 (b + 613 + 2 * j)) (q := qq) (p := qp) (bb := fun j => S.N y (5 * k + j)) hg3.2.2.1 hg3.2.2.2 ht3 hv3 (fun j hj => hP3.1 j hj) (fun j hj => by
                    have h5 := hq1 j hj
                    rw [Nat.sub_zero] at h5
                    simp only [Nat.zero_add] at h5
                    exact h5) (fun j hj => by
                    have h5 := hp1 j hj
                    show Z5 (b + 613 + 2 * j) = _
                    rw [h5]
                    congr 1
                    exact Sg_congr (fun i hi => by rw [hAm4 _ _ (by omega) hj])) (fun j hj => hjj.2.1 j (by omega))
                · have h5 := (hp2 m hm).2
                  have h6 := hkl m hm
                  rw [hAm4 _ _ (by omega) (hg3.2.2.1.1.1 _ (by omega)).1] at h5
                  show 0 ≤ Z5 (b + 613 + 2 * (S.c x + (l1 (tt + m) - S.c x))) ∧ Z5 (b + 613 + 2 * (S.c x + (l1 (tt + m) - S.c x))) < AM (GWd b) Z3 ρ1 (tt + m) (S.c x + (l1 (tt + m) - S.c x))
                  rw [show S.c x + (l1 (tt + m) - S.c x) = l1 (tt + m) by omega]
                  exact h5
              · refine aw_iconstZ dX5_solve_142 ?_
                refine aw_iret dX5_solve_143 rfl (by rfl) ?_
                exact WE.ret hs4.1 ⟨S, A, hcx4, rfl, Or.inl ⟨x, y, k, hAsk, Or.inr ⟨rfl, fun z => hjj.2.2 (by omega) (hin.mp z _ (by omega)), rfl⟩⟩⟩
            · exact absurd hc_30 (by rw [if_pos hir]; decide)
        · have hno3 : ¬ ∃ n m k : Nat, AskP S (x : Int) (y : Int) i n m k := by
            rintro ⟨n, m, k, k1, k2, k3, k4, k5, k6, k7, k8, k9⟩
            obtain rfl : y = m := by omega
            exact hir ⟨by omega, by omega⟩
          refine AMet.of rfl rfl (Nat.le_of_ble_eq_true rfl) ?_
          show AW g mX5_solve (d + 8) 0 [(0, .ref b), (1, .int (iZ x)), (2, .int (iZ y)), (3, .int (iZ i))] [] V sz _
          refine aw_aload_n dX5_solve_0 (by rfl) (Or.inr ⟨_, rfl⟩) ?_
          refine aw_iload_n dX5_solve_1 (by rfl) ?_
          refine aw_callv vX5_72 dX5_solve_2 hb (t_find (d + 6) h ht hv) (by rfl) (by rfl) (by omega) (Nat.le_of_ble_eq_true rfl) ?_
          rintro _ _ _ _ _ ⟨rfl, rfl, rfl, rfl, rfl⟩ -
          refine q0 ?_
          refine aw_astore dX5_solve_5 (by decide) (Or.inr ⟨_, rfl⟩) ?_
          refine aw_aload_n dX5_solve_7 (by rfl) (Or.inr ⟨_, rfl⟩) ?_
          refine aw_iload_n dX5_solve_8 (by rfl) ?_
          refine aw_callv vX5_72 dX5_solve_9 hb (t_find (d + 6) h hu hv2) (by rfl) (by rfl) (by omega) (Nat.le_of_ble_eq_true rfl) ?_
          rintro _ _ _ _ _ ⟨rfl, rfl, rfl, rfl, rfl⟩ -
          refine q0 ?_
          refine aw_astore dX5_solve_12 (by decide) (Or.inr ⟨_, rfl⟩) ?_
          refine aw_aload dX5_solve_14 (by rfl) (Or.inr ⟨_, rfl⟩) ?_
          refine aw_aload dX5_solve_16 (by rfl) (Or.inr ⟨_, rfl⟩) ?_
          refine aw_calls sX5_137 dX5_solve_18 (t_areAlike (d + 6 + 1) (q := 1) h hv hv2 (Or.inl ⟨rfl, x, y, hx, hy, rfl, rfl, hrx, hry, hcc⟩)) (by rfl) (by rfl) (by omega) (Nat.le_of_ble_eq_true rfl) ?_
          rintro _ _ _ _ _ ⟨rfl, rfl, rfl, rfl, rfl⟩ -
          refine q0 ?_
          refine aw_if_eqZ (tgt := 33) dX5_solve_21 (by decide) (by decide) (fun hc_21 => ?_) (fun hc_21 => ?_)
          · exact absurd hc_21 (by decide)
          · refine aw_aload dX5_solve_24 (by rfl) (Or.inr ⟨_, rfl⟩) ?_
            refine aw_iload_n dX5_solve_26 (by rfl) ?_
            refine aw_callv vX5_76 dX5_solve_27 hy1 (t_hasRow g (d + 6 + 1) (i := i) (hTb y hy) (by have := (hOk y hy).1; omega) hi) (by rfl) (by rfl) (by omega) (Nat.le_of_ble_eq_true rfl) ?_
            rintro _ _ _ _ _ ⟨rfl, rfl, rfl, rfl, rfl⟩ -
            refine q0 ?_
            refine aw_if_neZ (tgt := 35) dX5_solve_30 (by decide) (by split <;> omega) (fun hc_30 => ?_) (fun hc_30 => ?_)
            · exact absurd (if_neg hir) hc_30
            · refine aw_iconstZ dX5_solve_33 ?_
              refine aw_iret dX5_solve_34 rfl (by rfl) ?_
              exact WE.ret hw0 ⟨S, A, h, rfl, Or.inr ⟨hno3, rfl, rfl⟩⟩
      · have hal : ¬ (∃ n m : Nat, n < 12 ∧ m < 12 ∧ ((x : Nat) : Int) = (n : Int) ∧ ((y : Nat) : Int) = (m : Int) ∧ 0 < S.r n ∧ 0 < S.r m ∧ S.c n = S.c m) := fun ⟨n, k, _, _, e1, e2, _, _, e3⟩ => by
          obtain rfl : x = n := by omega
          obtain rfl : y = k := by omega
          exact hcc e3
        have hno3 : ¬ ∃ n m k : Nat, AskP S (x : Int) (y : Int) i n m k := fun ⟨n, m, k, k1, k2, k3, k4, k5, k6, k7, k8, k9⟩ => hal ⟨n, m, k1, k2, k3, k4, k6, k7, k8⟩
        refine AMet.of rfl rfl (Nat.le_of_ble_eq_true rfl) ?_
        show AW g mX5_solve (d + 8) 0 [(0, .ref b), (1, .int (iZ x)), (2, .int (iZ y)), (3, .int (iZ i))] [] V sz _
        refine aw_aload_n dX5_solve_0 (by rfl) (Or.inr ⟨_, rfl⟩) ?_
        refine aw_iload_n dX5_solve_1 (by rfl) ?_
        refine aw_callv vX5_72 dX5_solve_2 hb (t_find (d + 6) h ht hv) (by rfl) (by rfl) (by omega) (Nat.le_of_ble_eq_true rfl) ?_
        rintro _ _ _ _ _ ⟨rfl, rfl, rfl, rfl, rfl⟩ -
        refine q0 ?_
        refine aw_astore dX5_solve_5 (by decide) (Or.inr ⟨_, rfl⟩) ?_
        refine aw_aload_n dX5_solve_7 (by rfl) (Or.inr ⟨_, rfl⟩) ?_
        refine aw_iload_n dX5_solve_8 (by rfl) ?_
        refine aw_callv vX5_72 dX5_solve_9 hb (t_find (d + 6) h hu hv2) (by rfl) (by rfl) (by omega) (Nat.le_of_ble_eq_true rfl) ?_
        rintro _ _ _ _ _ ⟨rfl, rfl, rfl, rfl, rfl⟩ -
        refine q0 ?_
        refine aw_astore dX5_solve_12 (by decide) (Or.inr ⟨_, rfl⟩) ?_
        refine aw_aload dX5_solve_14 (by rfl) (Or.inr ⟨_, rfl⟩) ?_
        refine aw_aload dX5_solve_16 (by rfl) (Or.inr ⟨_, rfl⟩) ?_
        refine aw_calls sX5_137 dX5_solve_18 (t_areAlike (d + 6 + 1) (q := 0) h hv hv2 (Or.inr ⟨rfl, hal⟩)) (by rfl) (by rfl) (by omega) (Nat.le_of_ble_eq_true rfl) ?_
        rintro _ _ _ _ _ ⟨rfl, rfl, rfl, rfl, rfl⟩ -
        refine q0 ?_
        refine aw_if_eqZ (tgt := 33) dX5_solve_21 (by decide) (by decide) (fun hc_21 => ?_) (fun hc_21 => ?_)
        · refine aw_iconstZ dX5_solve_33 ?_
          refine aw_iret dX5_solve_34 rfl (by rfl) ?_
          exact WE.ret hw0 ⟨S, A, h, rfl, Or.inr ⟨hno3, rfl, rfl⟩⟩
        · exact absurd rfl hc_21
    · have hal : ¬ (∃ n m : Nat, n < 12 ∧ m < 12 ∧ ((x : Nat) : Int) = (n : Int) ∧ u = (m : Int) ∧ 0 < S.r n ∧ 0 < S.r m ∧ S.c n = S.c m) := fun ⟨n, k, _, hk, e1, e2, _, hk2, e3⟩ => by
        have := hno2 k hk e2
        omega
      have hno3 : ¬ ∃ n m k : Nat, AskP S (x : Int) u i n m k := fun ⟨n, m, k, k1, k2, k3, k4, k5, k6, k7, k8, k9⟩ => hal ⟨n, m, k1, k2, k3, k4, k6, k7, k8⟩
      refine AMet.of rfl rfl (Nat.le_of_ble_eq_true rfl) ?_
      show AW g mX5_solve (d + 8) 0 [(0, .ref b), (1, .int (iZ x)), (2, .int (iZ u)), (3, .int (iZ i))] [] V sz _
      refine aw_aload_n dX5_solve_0 (by rfl) (Or.inr ⟨_, rfl⟩) ?_
      refine aw_iload_n dX5_solve_1 (by rfl) ?_
      refine aw_callv vX5_72 dX5_solve_2 hb (t_find (d + 6) h ht hv) (by rfl) (by rfl) (by omega) (Nat.le_of_ble_eq_true rfl) ?_
      rintro _ _ _ _ _ ⟨rfl, rfl, rfl, rfl, rfl⟩ -
      refine q0 ?_
      refine aw_astore dX5_solve_5 (by decide) (Or.inr ⟨_, rfl⟩) ?_
      refine aw_aload_n dX5_solve_7 (by rfl) (Or.inr ⟨_, rfl⟩) ?_
      refine aw_iload_n dX5_solve_8 (by rfl) ?_
      refine aw_callv vX5_72 dX5_solve_9 hb (t_find (d + 6) h hu hv2) (by rfl) (by rfl) (by omega) (Nat.le_of_ble_eq_true rfl) ?_
      rintro _ _ _ _ _ ⟨rfl, rfl, rfl, rfl, rfl⟩ -
      refine q0 ?_
      refine aw_astore dX5_solve_12 (by decide) (Or.inl rfl) ?_
      refine aw_aload dX5_solve_14 (by rfl) (Or.inr ⟨_, rfl⟩) ?_
      refine aw_aload dX5_solve_16 (by rfl) (Or.inl rfl) ?_
      refine aw_calls sX5_137 dX5_solve_18 (t_areAlike (d + 6 + 1) (q := 0) h hv hv2 (Or.inr ⟨rfl, hal⟩)) (by rfl) (by rfl) (by omega) (Nat.le_of_ble_eq_true rfl) ?_
      rintro _ _ _ _ _ ⟨rfl, rfl, rfl, rfl, rfl⟩ -
      refine q0 ?_
      refine aw_if_eqZ (tgt := 33) dX5_solve_21 (by decide) (by decide) (fun hc_21 => ?_) (fun hc_21 => ?_)
      · refine aw_iconstZ dX5_solve_33 ?_
        refine aw_iret dX5_solve_34 rfl (by rfl) ?_
        exact WE.ret hw0 ⟨S, A, h, rfl, Or.inr ⟨hno3, rfl, rfl⟩⟩
      · exact absurd rfl hc_21
  · have hal : ¬ (∃ n m : Nat, n < 12 ∧ m < 12 ∧ t = (n : Int) ∧ u = (m : Int) ∧ 0 < S.r n ∧ 0 < S.r m ∧ S.c n = S.c m) := fun ⟨n, k, hk, _, e1, e2, hk2, _, e3⟩ => by
      have := hno n hk e1
      omega
    have hno3 : ¬ ∃ n m k : Nat, AskP S t u i n m k := fun ⟨n, m, k, k1, k2, k3, k4, k5, k6, k7, k8, k9⟩ => hal ⟨n, m, k1, k2, k3, k4, k6, k7, k8⟩
    rcases id hv2 with ⟨y, hy, rfl, hry, rfl⟩ | ⟨hno2, rfl⟩
    · skip
      refine AMet.of rfl rfl (Nat.le_of_ble_eq_true rfl) ?_
      show AW g mX5_solve (d + 8) 0 [(0, .ref b), (1, .int (iZ t)), (2, .int (iZ y)), (3, .int (iZ i))] [] V sz _
      refine aw_aload_n dX5_solve_0 (by rfl) (Or.inr ⟨_, rfl⟩) ?_
      refine aw_iload_n dX5_solve_1 (by rfl) ?_
      refine aw_callv vX5_72 dX5_solve_2 hb (t_find (d + 6) h ht hv) (by rfl) (by rfl) (by omega) (Nat.le_of_ble_eq_true rfl) ?_
      rintro _ _ _ _ _ ⟨rfl, rfl, rfl, rfl, rfl⟩ -
      refine q0 ?_
      refine aw_astore dX5_solve_5 (by decide) (Or.inl rfl) ?_
      refine aw_aload_n dX5_solve_7 (by rfl) (Or.inr ⟨_, rfl⟩) ?_
      refine aw_iload_n dX5_solve_8 (by rfl) ?_
      refine aw_callv vX5_72 dX5_solve_9 hb (t_find (d + 6) h hu hv2) (by rfl) (by rfl) (by omega) (Nat.le_of_ble_eq_true rfl) ?_
      rintro _ _ _ _ _ ⟨rfl, rfl, rfl, rfl, rfl⟩ -
      refine q0 ?_
      refine aw_astore dX5_solve_12 (by decide) (Or.inr ⟨_, rfl⟩) ?_
      refine aw_aload dX5_solve_14 (by rfl) (Or.inl rfl) ?_
      refine aw_aload dX5_solve_16 (by rfl) (Or.inr ⟨_, rfl⟩) ?_
      refine aw_calls sX5_137 dX5_solve_18 (t_areAlike (d + 6 + 1) (q := 0) h hv hv2 (Or.inr ⟨rfl, hal⟩)) (by rfl) (by rfl) (by omega) (Nat.le_of_ble_eq_true rfl) ?_
      rintro _ _ _ _ _ ⟨rfl, rfl, rfl, rfl, rfl⟩ -
      refine q0 ?_
      refine aw_if_eqZ (tgt := 33) dX5_solve_21 (by decide) (by decide) (fun hc_21 => ?_) (fun hc_21 => ?_)
      · refine aw_iconstZ dX5_solve_33 ?_
        refine aw_iret dX5_solve_34 rfl (by rfl) ?_
        exact WE.ret hw0 ⟨S, A, h, rfl, Or.inr ⟨hno3, rfl, rfl⟩⟩
      · exact absurd rfl hc_21
    · skip
      refine AMet.of rfl rfl (Nat.le_of_ble_eq_true rfl) ?_
      show AW g mX5_solve (d + 8) 0 [(0, .ref b), (1, .int (iZ t)), (2, .int (iZ u)), (3, .int (iZ i))] [] V sz _
      refine aw_aload_n dX5_solve_0 (by rfl) (Or.inr ⟨_, rfl⟩) ?_
      refine aw_iload_n dX5_solve_1 (by rfl) ?_
      refine aw_callv vX5_72 dX5_solve_2 hb (t_find (d + 6) h ht hv) (by rfl) (by rfl) (by omega) (Nat.le_of_ble_eq_true rfl) ?_
      rintro _ _ _ _ _ ⟨rfl, rfl, rfl, rfl, rfl⟩ -
      refine q0 ?_
      refine aw_astore dX5_solve_5 (by decide) (Or.inl rfl) ?_
      refine aw_aload_n dX5_solve_7 (by rfl) (Or.inr ⟨_, rfl⟩) ?_
      refine aw_iload_n dX5_solve_8 (by rfl) ?_
      refine aw_callv vX5_72 dX5_solve_9 hb (t_find (d + 6) h hu hv2) (by rfl) (by rfl) (by omega) (Nat.le_of_ble_eq_true rfl) ?_
      rintro _ _ _ _ _ ⟨rfl, rfl, rfl, rfl, rfl⟩ -
      refine q0 ?_
      refine aw_astore dX5_solve_12 (by decide) (Or.inl rfl) ?_
      refine aw_aload dX5_solve_14 (by rfl) (Or.inl rfl) ?_
      refine aw_aload dX5_solve_16 (by rfl) (Or.inl rfl) ?_
      refine aw_calls sX5_137 dX5_solve_18 (t_areAlike (d + 6 + 1) (q := 0) h hv hv2 (Or.inr ⟨rfl, hal⟩)) (by rfl) (by rfl) (by omega) (Nat.le_of_ble_eq_true rfl) ?_
      rintro _ _ _ _ _ ⟨rfl, rfl, rfl, rfl, rfl⟩ -
      refine q0 ?_
      refine aw_if_eqZ (tgt := 33) dX5_solve_21 (by decide) (by decide) (fun hc_21 => ?_) (fun hc_21 => ?_)
      · refine aw_iconstZ dX5_solve_33 ?_
        refine aw_iret dX5_solve_34 rfl (by rfl) ?_
        exact WE.ret hw0 ⟨S, A, h, rfl, Or.inr ⟨hno3, rfl, rfl⟩⟩
      · exact absurd rfl hc_21
