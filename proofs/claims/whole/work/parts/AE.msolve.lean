/-! ===== the reference: solve ===== -/
def InS : Nat → Prop := fun q => (265 ≤ q ∧ q < 365) ∨ (415 ≤ q ∧ q ≤ 418)
theorem MN.flip {g : GX} {mo : Nat} {V : AH} {zs D LN SG O1 O2 : Nat → Int} {c : Nat} (hA : MA g mo V D LN SG O1 O2) (h0 : ∀ q, q < 460 → NuV D LN SG q (zs q)) : MN g mo (AHu V (mo + 3) (aIz g 460 (upF SG c (- SG c)))) (upF zs c (- zs c)) := by
  refine ⟨D, LN, _, O1, O2, hA.s, fun q hq => ?_⟩
  by_cases e : q = c
  · subst e
    obtain ⟨w, a1, a2, a3, a4, a5, a6⟩ := h0 q hq
    rw [upF_self]
    exact ⟨w, a1, a2, by rw [upF_self, a3, Int.sign_neg], a4, by rw [a5, Int.natAbs_neg], a6⟩
  · rw [upF_ne _ _ e]
    exact (h0 q hq).kept (fun _ _ => rfl) rfl (upF_ne _ _ e)
/-- the answer row when k multiples have been added -/
def SvI (z3 z : Nat → Int) (k : Nat) : Prop := (∀ j, j < 10 → z (265 + j) = Sg (fun i => z3 (440 + i) * z3 (15 * i + 5 + j)) k) ∧ Frm z3 z InS
/-- and when c rows of the kernel have been taken off -/
def SwI (z3 : Nat → Int) (lk : Nat → Nat) (r : Nat) (Y K : Int) (z : Nat → Int) (c : Nat) : Prop := (∃ qc : Nat → Int, ∀ j, j < 10 → z (265 + j) = Sg (fun i => z3 (440 + i) * z3 (15 * i + 5 + j)) r - Sg (fun e => qc e * z3 (165 + 10 * e + j)) c) ∧ (∀ e, e < c → 0 ≤ z (265 + lk e) ∧ z (265 + lk e) < z3 (165 + 10 * e + lk e)) ∧ (∀ j, j < 10 → ab (z (265 + j)) ≤ Y * (1 + K) ^ c) ∧ Frm z3 z InS
theorem SvI.step {z3 z z' : Nat → Int} {k : Nat} (h : SvI z3 z k) (h1 : ∀ j, j < 10 → z' (265 + j) = z (265 + j) - - z3 (440 + k) * z3 (15 * k + 5 + j)) (h2 : Frm z z' InS) : SvI z3 z' (k + 1) := by
  refine ⟨fun j hj => ?_, fun q hq => (h2 q hq).trans (h.2 q hq)⟩
  rw [h1 j hj, h.1 j hj, Int.neg_mul]
  show _ = Sg _ k + z3 (440 + k) * z3 (15 * k + 5 + j)
  omega
theorem SwI.step {z3 z z' : Nat → Int} {lk : Nat → Nat} {r c : Nat} {Y K : Int} (h : SwI z3 lk r Y K z c) (hlk : lk c < 10) (hp : 0 < z3 (165 + 10 * c + lk c)) (hinc : ∀ e, e < c → lk e < lk c) (hz0 : ∀ j, j < lk c → z3 (165 + 10 * c + j) = 0) (hK : ∀ j, j < 10 → ab (z3 (165 + 10 * c + j)) ≤ K) (hY : 0 ≤ Y) (hK0 : 0 ≤ K) (h1 : ∀ j, j < 10 → z' (265 + j) = z (265 + j) - z (265 + lk c) / z3 (165 + 10 * c + lk c) * z3 (165 + 10 * c + j)) (h2 : Frm z z' InS) : SwI z3 lk r Y K z' (c + 1) := by
  obtain ⟨⟨qc, hq⟩, hr, hb, hF⟩ := h
  refine ⟨⟨upF qc c (z (265 + lk c) / z3 (165 + 10 * c + lk c)), fun j hj => ?_⟩, fun e he => ?_, fun j hj => ?_, fun q hq => (h2 q hq).trans (hF q hq)⟩
  · rw [h1 j hj, hq j hj]
    show _ = _ - (Sg (fun e => upF qc c _ e * z3 (165 + 10 * e + j)) c + upF qc c _ c * z3 (165 + 10 * c + j))
    rw [upF_self, Sg_congr (f := fun e => upF qc c (z (265 + lk c) / z3 (165 + 10 * c + lk c)) e * z3 (165 + 10 * e + j)) (h := fun e => qc e * z3 (165 + 10 * e + j)) (fun i hi => by show upF qc c _ i * _ = _; rw [upF_ne _ _ (by omega)])]
    omega
  · by_cases e1 : e = c
    · subst e1
      rw [h1 _ hlk]
      have m1 := Int.emod_nonneg (z (265 + lk e)) (show z3 (165 + 10 * e + lk e) ≠ 0 by omega)
      have m2 := Int.emod_lt_of_pos (z (265 + lk e)) hp
      have m3 := Int.emod_def (z (265 + lk e)) (z3 (165 + 10 * e + lk e))
      rw [Int.mul_comm] at m3
      omega
    · have he' : e < c := by omega
      rw [h1 _ (by have := hinc e he'; omega), hz0 _ (hinc e he'), Int.mul_zero, Int.sub_zero]
      exact hr e he'
  · rw [h1 j hj]
    have a1 := hb (lk c) hlk
    have a2 := hb j hj
    have a3 := hK j hj
    have a4 : ab (z (265 + lk c) / z3 (165 + 10 * c + lk c)) ≤ ab (z (265 + lk c)) := by
      have := fl_abs (a := z (265 + lk c)) hp
      unfold ab; omega
    have a5 : 0 ≤ Y * (1 + K) ^ c := Int.mul_nonneg hY (Int.pow_nonneg (by omega))
    rw [show Y * (1 + K) ^ (c + 1) = Y * (1 + K) ^ c + Y * (1 + K) ^ c * K by rw [Int.pow_succ, Int.mul_add, Int.mul_one, Int.mul_add, Int.mul_assoc]]
    generalize Y * (1 + K) ^ c = W at *
    have b1 : ab (z (265 + lk c) / z3 (165 + 10 * c + lk c)) * ab (z3 (165 + 10 * c + j)) ≤ W * K := Int.mul_le_mul (Int.le_trans a4 a1) a3 (ab0 _) a5
    have b2 := ab_sub (z (265 + j)) (z (265 + lk c) / z3 (165 + 10 * c + lk c) * z3 (165 + 10 * c + j))
    rw [ab_mul] at b2
    omega
theorem SwI.bd {z3 z : Nat → Int} {lk : Nat → Nat} {r c : Nat} {Y K : Int} (h : SwI z3 lk r Y K z c) (hlk : lk c < 10) (hp : 0 < z3 (165 + 10 * c + lk c)) (hK : ∀ j, j < 10 → ab (z3 (165 + 10 * c + j)) ≤ K) (hY : 0 ≤ Y) (hK0 : 0 ≤ K) {j : Nat} (hj : j < 10) : ab (z (265 + lk c) / z3 (165 + 10 * c + lk c) * z3 (165 + 10 * c + j)) ≤ Y * (1 + K) ^ (c + 1) ∧ ab (z (265 + j) - z (265 + lk c) / z3 (165 + 10 * c + lk c) * z3 (165 + 10 * c + j)) ≤ Y * (1 + K) ^ (c + 1) := by
  obtain ⟨-, -, hb, -⟩ := h
  have a1 := hb (lk c) hlk
  have a2 := hb j hj
  have a3 := hK j hj
  have a4 : ab (z (265 + lk c) / z3 (165 + 10 * c + lk c)) ≤ ab (z (265 + lk c)) := by
    have := fl_abs (a := z (265 + lk c)) hp
    unfold ab; omega
  have a5 : 0 ≤ Y * (1 + K) ^ c := Int.mul_nonneg hY (Int.pow_nonneg (by omega))
  rw [show Y * (1 + K) ^ (c + 1) = Y * (1 + K) ^ c + Y * (1 + K) ^ c * K by rw [Int.pow_succ, Int.mul_add, Int.mul_one, Int.mul_add, Int.mul_assoc]]
  generalize Y * (1 + K) ^ c = W at *
  have b1 : ab (z (265 + lk c) / z3 (165 + 10 * c + lk c)) * ab (z3 (165 + 10 * c + j)) ≤ W * K := Int.mul_le_mul (Int.le_trans a4 a1) a3 (ab0 _) a5
  have b2 := ab_sub (z (265 + j)) (z (265 + lk c) / z3 (165 + 10 * c + lk c) * z3 (165 + 10 * c + j))
  rw [ab_mul] at b2 ⊢
  exact ⟨by omega, by omega⟩
theorem sv_sm : SmM (31000 * (10 * TM10) * (1 + 10 * TM10) ^ 10) := by
  unfold SmM
  decide +kernel
theorem sm_le {x B : Int} (h : ab x ≤ B) (hB : SmM B) : SmM x := by
  unfold SmM ab at *
  omega
def SlvR (S : TSt) (A : ASt) (x y k : Nat) (q : Option Value) (A' : ASt) : Prop := (some (.int (iZ 1)) = q ∧ ∃ (h1 : Nat) (l1 : Nat → Nat) (B : Mat) (X : Nat → Int), Stair B h1 (S.r x) l1 ∧ (∀ v, Span B h1 (S.r x) v ↔ KerP (S.N x) (S.r x) (S.c x) v) ∧ (∀ j, j < S.c x → Sg (fun i => X i * S.N x (5 * i + j)) (S.r x) = S.N y (5 * k + j)) ∧ (∀ m, m < h1 → 0 ≤ X (l1 m) ∧ X (l1 m) < B m (l1 m)) ∧ AIs A' 1 (S.r x) (fun _ j => X j)) ∨ (some (.int (iZ 0)) = q ∧ ¬ Span (TM (S.N x)) (S.r x) (S.c x) (TM (S.N y) k) ∧ A' = A)
abbrev mX6_solve : MI := (yX6_solve, cX6_solve, 5, (some FieldType.int), noX)
theorem dX6_solve_0 : decode cX6_solve 0 = .ok (.aload_n 0, 1) := by decide +kernel
theorem dX6_solve_1 : decode cX6_solve 1 = .ok (.iload_n 1, 1) := by decide +kernel
theorem dX6_solve_2 : decode cX6_solve 2 = .ok (.iload_n 2, 1) := by decide +kernel
theorem dX6_solve_3 : decode cX6_solve 3 = .ok (.iload_n 3, 1) := by decide +kernel
theorem dX6_solve_4 : decode cX6_solve 4 = .ok (.invokevirtual 215, 3) := by decide +kernel
theorem dX6_solve_7 : decode cX6_solve 7 = .ok (.ifCond .ne 5, 3) := by decide +kernel
theorem dX6_solve_10 : decode cX6_solve 10 = .ok (.iconst (-1), 1) := by decide +kernel
theorem dX6_solve_11 : decode cX6_solve 11 = .ok (.ireturn, 1) := by decide +kernel
theorem dX6_solve_12 : decode cX6_solve 12 = .ok (.aload_n 0, 1) := by decide +kernel
theorem dX6_solve_13 : decode cX6_solve 13 = .ok (.iload_n 1, 1) := by decide +kernel
theorem dX6_solve_14 : decode cX6_solve 14 = .ok (.invokevirtual 165, 3) := by decide +kernel
theorem dX6_solve_17 : decode cX6_solve 17 = .ok (.aload_n 0, 1) := by decide +kernel
theorem dX6_solve_18 : decode cX6_solve 18 = .ok (.iload_n 2, 1) := by decide +kernel
theorem dX6_solve_19 : decode cX6_solve 19 = .ok (.iload_n 3, 1) := by decide +kernel
theorem dX6_solve_20 : decode cX6_solve 20 = .ok (.invokevirtual 218, 3) := by decide +kernel
theorem dX6_solve_23 : decode cX6_solve 23 = .ok (.aload_n 0, 1) := by decide +kernel
theorem dX6_solve_24 : decode cX6_solve 24 = .ok (.sipush 450, 3) := by decide +kernel
theorem dX6_solve_27 : decode cX6_solve 27 = .ok (.invokevirtual 221, 3) := by decide +kernel
theorem dX6_solve_30 : decode cX6_solve 30 = .ok (.ifCond .ne 5, 3) := by decide +kernel
theorem dX6_solve_33 : decode cX6_solve 33 = .ok (.iconst 0, 1) := by decide +kernel
theorem dX6_solve_34 : decode cX6_solve 34 = .ok (.ireturn, 1) := by decide +kernel
theorem dX6_solve_35 : decode cX6_solve 35 = .ok (.iconst 0, 1) := by decide +kernel
theorem dX6_solve_36 : decode cX6_solve 36 = .ok (.istore 4, 2) := by decide +kernel
theorem dX6_solve_38 : decode cX6_solve 38 = .ok (.iload 4, 2) := by decide +kernel
theorem dX6_solve_40 : decode cX6_solve 40 = .ok (.bipush 10, 2) := by decide +kernel
theorem dX6_solve_42 : decode cX6_solve 42 = .ok (.if_icmp .ge 20, 3) := by decide +kernel
theorem dX6_solve_45 : decode cX6_solve 45 = .ok (.aload_n 0, 1) := by decide +kernel
theorem dX6_solve_46 : decode cX6_solve 46 = .ok (.sipush 265, 3) := by decide +kernel
theorem dX6_solve_49 : decode cX6_solve 49 = .ok (.iload 4, 2) := by decide +kernel
theorem dX6_solve_51 : decode cX6_solve 51 = .ok (.iadd, 1) := by decide +kernel
theorem dX6_solve_52 : decode cX6_solve 52 = .ok (.lconst 0, 1) := by decide +kernel
theorem dX6_solve_53 : decode cX6_solve 53 = .ok (.invokevirtual 83, 3) := by decide +kernel
theorem dX6_solve_56 : decode cX6_solve 56 = .ok (.iinc 4 1, 3) := by decide +kernel
theorem dX6_solve_59 : decode cX6_solve 59 = .ok (.goto (-21), 3) := by decide +kernel
theorem dX6_solve_62 : decode cX6_solve 62 = .ok (.iconst 0, 1) := by decide +kernel
theorem dX6_solve_63 : decode cX6_solve 63 = .ok (.istore 4, 2) := by decide +kernel
theorem dX6_solve_65 : decode cX6_solve 65 = .ok (.iload 4, 2) := by decide +kernel
theorem dX6_solve_67 : decode cX6_solve 67 = .ok (.aload_n 0, 1) := by decide +kernel
theorem dX6_solve_68 : decode cX6_solve 68 = .ok (.getfield 117, 3) := by decide +kernel
theorem dX6_solve_71 : decode cX6_solve 71 = .ok (.if_icmp .ge 58, 3) := by decide +kernel
theorem dX6_solve_74 : decode cX6_solve 74 = .ok (.aload_n 0, 1) := by decide +kernel
theorem dX6_solve_75 : decode cX6_solve 75 = .ok (.sipush 440, 3) := by decide +kernel
theorem dX6_solve_78 : decode cX6_solve 78 = .ok (.iload 4, 2) := by decide +kernel
theorem dX6_solve_80 : decode cX6_solve 80 = .ok (.iadd, 1) := by decide +kernel
theorem dX6_solve_81 : decode cX6_solve 81 = .ok (.sipush 416, 3) := by decide +kernel
theorem dX6_solve_84 : decode cX6_solve 84 = .ok (.invokevirtual 67, 3) := by decide +kernel
theorem dX6_solve_87 : decode cX6_solve 87 = .ok (.aload_n 0, 1) := by decide +kernel
theorem dX6_solve_88 : decode cX6_solve 88 = .ok (.getfield 17, 3) := by decide +kernel
theorem dX6_solve_91 : decode cX6_solve 91 = .ok (.sipush 416, 3) := by decide +kernel
theorem dX6_solve_94 : decode cX6_solve 94 = .ok (.aload_n 0, 1) := by decide +kernel
theorem dX6_solve_95 : decode cX6_solve 95 = .ok (.getfield 17, 3) := by decide +kernel
theorem dX6_solve_98 : decode cX6_solve 98 = .ok (.sipush 416, 3) := by decide +kernel
theorem dX6_solve_101 : decode cX6_solve 101 = .ok (.iaload, 1) := by decide +kernel
theorem dX6_solve_102 : decode cX6_solve 102 = .ok (.ineg, 1) := by decide +kernel
theorem dX6_solve_103 : decode cX6_solve 103 = .ok (.iastore, 1) := by decide +kernel
theorem dX6_solve_104 : decode cX6_solve 104 = .ok (.aload_n 0, 1) := by decide +kernel
theorem dX6_solve_105 : decode cX6_solve 105 = .ok (.sipush 265, 3) := by decide +kernel
theorem dX6_solve_108 : decode cX6_solve 108 = .ok (.bipush 15, 2) := by decide +kernel
theorem dX6_solve_110 : decode cX6_solve 110 = .ok (.iload 4, 2) := by decide +kernel
theorem dX6_solve_112 : decode cX6_solve 112 = .ok (.imul, 1) := by decide +kernel
theorem dX6_solve_113 : decode cX6_solve 113 = .ok (.iconst 5, 1) := by decide +kernel
theorem dX6_solve_114 : decode cX6_solve 114 = .ok (.iadd, 1) := by decide +kernel
theorem dX6_solve_115 : decode cX6_solve 115 = .ok (.bipush 10, 2) := by decide +kernel
theorem dX6_solve_117 : decode cX6_solve 117 = .ok (.sipush 416, 3) := by decide +kernel
theorem dX6_solve_120 : decode cX6_solve 120 = .ok (.invokevirtual 100, 3) := by decide +kernel
theorem dX6_solve_123 : decode cX6_solve 123 = .ok (.iinc 4 1, 3) := by decide +kernel
theorem dX6_solve_126 : decode cX6_solve 126 = .ok (.goto (-61), 3) := by decide +kernel
theorem dX6_solve_129 : decode cX6_solve 129 = .ok (.iconst 0, 1) := by decide +kernel
theorem dX6_solve_130 : decode cX6_solve 130 = .ok (.istore 4, 2) := by decide +kernel
theorem dX6_solve_132 : decode cX6_solve 132 = .ok (.iload 4, 2) := by decide +kernel
theorem dX6_solve_134 : decode cX6_solve 134 = .ok (.aload_n 0, 1) := by decide +kernel
theorem dX6_solve_135 : decode cX6_solve 135 = .ok (.getfield 131, 3) := by decide +kernel
theorem dX6_solve_138 : decode cX6_solve 138 = .ok (.if_icmp .ge 66, 3) := by decide +kernel
theorem dX6_solve_141 : decode cX6_solve 141 = .ok (.aload_n 0, 1) := by decide +kernel
theorem dX6_solve_142 : decode cX6_solve 142 = .ok (.sipush 265, 3) := by decide +kernel
theorem dX6_solve_145 : decode cX6_solve 145 = .ok (.aload_n 0, 1) := by decide +kernel
theorem dX6_solve_146 : decode cX6_solve 146 = .ok (.getfield 30, 3) := by decide +kernel
theorem dX6_solve_149 : decode cX6_solve 149 = .ok (.iload 4, 2) := by decide +kernel
theorem dX6_solve_151 : decode cX6_solve 151 = .ok (.iaload, 1) := by decide +kernel
theorem dX6_solve_152 : decode cX6_solve 152 = .ok (.iadd, 1) := by decide +kernel
theorem dX6_solve_153 : decode cX6_solve 153 = .ok (.sipush 165, 3) := by decide +kernel
theorem dX6_solve_156 : decode cX6_solve 156 = .ok (.bipush 10, 2) := by decide +kernel
theorem dX6_solve_158 : decode cX6_solve 158 = .ok (.iload 4, 2) := by decide +kernel
theorem dX6_solve_160 : decode cX6_solve 160 = .ok (.imul, 1) := by decide +kernel
theorem dX6_solve_161 : decode cX6_solve 161 = .ok (.iadd, 1) := by decide +kernel
theorem dX6_solve_162 : decode cX6_solve 162 = .ok (.aload_n 0, 1) := by decide +kernel
theorem dX6_solve_163 : decode cX6_solve 163 = .ok (.getfield 30, 3) := by decide +kernel
theorem dX6_solve_166 : decode cX6_solve 166 = .ok (.iload 4, 2) := by decide +kernel
theorem dX6_solve_168 : decode cX6_solve 168 = .ok (.iaload, 1) := by decide +kernel
theorem dX6_solve_169 : decode cX6_solve 169 = .ok (.iadd, 1) := by decide +kernel
theorem dX6_solve_170 : decode cX6_solve 170 = .ok (.sipush 416, 3) := by decide +kernel
theorem dX6_solve_173 : decode cX6_solve 173 = .ok (.invokevirtual 113, 3) := by decide +kernel
theorem dX6_solve_176 : decode cX6_solve 176 = .ok (.pop, 1) := by decide +kernel
theorem dX6_solve_177 : decode cX6_solve 177 = .ok (.aload_n 0, 1) := by decide +kernel
theorem dX6_solve_178 : decode cX6_solve 178 = .ok (.sipush 265, 3) := by decide +kernel
theorem dX6_solve_181 : decode cX6_solve 181 = .ok (.sipush 165, 3) := by decide +kernel
theorem dX6_solve_184 : decode cX6_solve 184 = .ok (.bipush 10, 2) := by decide +kernel
theorem dX6_solve_186 : decode cX6_solve 186 = .ok (.iload 4, 2) := by decide +kernel
theorem dX6_solve_188 : decode cX6_solve 188 = .ok (.imul, 1) := by decide +kernel
theorem dX6_solve_189 : decode cX6_solve 189 = .ok (.iadd, 1) := by decide +kernel
theorem dX6_solve_190 : decode cX6_solve 190 = .ok (.bipush 10, 2) := by decide +kernel
theorem dX6_solve_192 : decode cX6_solve 192 = .ok (.sipush 416, 3) := by decide +kernel
theorem dX6_solve_195 : decode cX6_solve 195 = .ok (.invokevirtual 100, 3) := by decide +kernel
theorem dX6_solve_198 : decode cX6_solve 198 = .ok (.iinc 4 1, 3) := by decide +kernel
theorem dX6_solve_201 : decode cX6_solve 201 = .ok (.goto (-69), 3) := by decide +kernel
theorem dX6_solve_204 : decode cX6_solve 204 = .ok (.aload_n 0, 1) := by decide +kernel
theorem dX6_solve_205 : decode cX6_solve 205 = .ok (.iconst 1, 1) := by decide +kernel
theorem dX6_solve_206 : decode cX6_solve 206 = .ok (.aload_n 0, 1) := by decide +kernel
theorem dX6_solve_207 : decode cX6_solve 207 = .ok (.getfield 37, 3) := by decide +kernel
theorem dX6_solve_210 : decode cX6_solve 210 = .ok (.iload_n 1, 1) := by decide +kernel
theorem dX6_solve_211 : decode cX6_solve 211 = .ok (.iaload, 1) := by decide +kernel
theorem dX6_solve_212 : decode cX6_solve 212 = .ok (.invokevirtual 189, 3) := by decide +kernel
theorem dX6_solve_215 : decode cX6_solve 215 = .ok (.iconst 1, 1) := by decide +kernel
theorem dX6_solve_216 : decode cX6_solve 216 = .ok (.ireturn, 1) := by decide +kernel
theorem sva (d : Nat) {g : GX} {V0 : AH} {mo sz x y e r κ : Nat} {ar ac : Int} {zs : Nat → Int}  {Q : AQ}  (hKK : ∀ {V : AH} {z : Nat → Int}, V mo = some (moO mo r κ ar ac) → MN g mo V z → (∀ a, ¬ EN mo a → V a = V0 a) → MtI (fun _ _ => 0) 10 zs z 0 10 → AW g mX6_solve (d + 1) 62 [(4, .int (iZ (10 : Nat))), (0, .ref mo), (1, .int (iZ x)), (2, .int (iZ y)), (3, .int (iZ e))] [] V sz Q) : ∀ (f k : Nat), k + f = 10 → ∀ {V : AH} {z : Nat → Int}, V mo = some (moO mo r κ ar ac) → MN g mo V z → (∀ a, ¬ EN mo a → V a = V0 a) → MtI (fun _ _ => 0) 10 zs z 0 k → AW g mX6_solve (d + 1) 38 [(4, .int (iZ k)), (0, .ref mo), (1, .int (iZ x)), (2, .int (iZ y)), (3, .int (iZ e))] [] V sz Q
  | 0, k, hf, V, z, hmo, hM, hV, hI => by
    obtain rfl : k = 10 := by omega
    refine aw_iload dX6_solve_38 (by rfl) ?_
    refine aw_bipushZ dX6_solve_40 (by decide) ?_
    refine aw_icmp_geZ (tgt := 62) dX6_solve_42 (by decide) (by omega) (by omega) (fun hc_42 => ?_) (fun hc_42 => ?_)
    · exact hKK hmo hM hV hI
    · exact absurd hc_42 (by omega)
  | f + 1, k, hf, V, z, hmo, hM, hV, hI => by
    have IH := fun k hk => @sva d g V0 mo sz x y e r κ ar ac zs  Q  hKK f k hk
    refine aw_iload dX6_solve_38 (by rfl) ?_
    refine aw_bipushZ dX6_solve_40 (by decide) ?_
    refine aw_icmp_geZ (tgt := 62) dX6_solve_42 (by decide) (by omega) (by omega) (fun hc_42 => ?_) (fun hc_42 => ?_)
    · exact absurd hc_42 (by omega)
    · refine aw_aload_n dX6_solve_45 (by rfl) (Or.inr ⟨_, rfl⟩) ?_
      refine aw_sipushZ dX6_solve_46 (by decide) ?_
      refine aw_iload dX6_solve_49 (by rfl) ?_
      refine aw_iaddZ dX6_solve_51 ?_
      refine aw_lconstZ (z := 0) dX6_solve_52 (by decide) ?_
      rw [show (265 : Int) + (k : Int) = ((265 + k : Nat) : Int) by omega]
      refine aw_callv vX6_83 dX6_solve_53 hmo (m_becomes g d (c := 265 + k) (v := 0) ⟨_, _, _, _, hmo⟩ hM (by omega) (by omega)) (by rfl) (by rfl) (by omega) (Nat.le_of_ble_eq_true rfl) ?_
      rintro _ V1 _ _ _ ⟨rfl, rfl, rfl, hE1, rfl, hM1⟩ -
      refine q0 ?_
      refine aw_iincZ dX6_solve_56 (by rfl) (by decide) ?_
      refine aw_goto (tgt := 38) dX6_solve_59 (by decide) ?_
      rw [show ((k : Int) + 1) = ((k + 1 : Nat) : Int) by omega]
      refine aw_pk [4, 0, 1, 2, 3] (by rfl) ?_
      exact IH (k + 1) (by omega) ((hE1 mo (by unfold EN; omega)).trans hmo) hM1 (fun a ha => (hE1 a ha).trans (hV a ha)) (by have := hI.up (v := 0) (by omega) (by omega) (by omega) rfl; rwa [show 265 + 10 * 0 + k = 265 + k by omega] at this)
theorem svb (d : Nat) {g : GX} {V0 : AH} {mo sz x y e r κ : Nat} {ar ac : Int} {zs : Nat → Int}  {Q : AQ} (hr : r ≤ 5) (hb : ∀ k, k < r → ∀ j, j < 10 → SmM (- zs (440 + k) * zs (15 * k + 5 + j)) ∧ SmM (Sg (fun i => zs (440 + i) * zs (15 * i + 5 + j)) (k + 1))) (hKK : ∀ {V : AH} {z : Nat → Int}, V mo = some (moO mo r κ ar ac) → MN g mo V z → (∀ a, ¬ EN mo a → V a = V0 a) → SvI zs z r → AW g mX6_solve (d + 3) 129 [(4, .int (iZ (r : Nat))), (0, .ref mo), (1, .int (iZ x)), (2, .int (iZ y)), (3, .int (iZ e))] [] V sz Q) : ∀ (f k : Nat), k + f = r → ∀ {V : AH} {z : Nat → Int}, V mo = some (moO mo r κ ar ac) → MN g mo V z → (∀ a, ¬ EN mo a → V a = V0 a) → SvI zs z k → AW g mX6_solve (d + 3) 65 [(4, .int (iZ k)), (0, .ref mo), (1, .int (iZ x)), (2, .int (iZ y)), (3, .int (iZ e))] [] V sz Q
  | 0, k, hf, V, z, hmo, hM, hV, hI => by
    obtain rfl : k = r := by omega
    refine aw_iload dX6_solve_65 (by rfl) ?_
    refine aw_aload_n dX6_solve_67 (by rfl) (Or.inr ⟨_, rfl⟩) ?_
    refine aw_get fX6_117 dX6_solve_68 hmo (by rfl) ?_
    refine aw_icmp_geZ (tgt := 129) dX6_solve_71 (by decide) (by omega) (by omega) (fun hc_71 => ?_) (fun hc_71 => ?_)
    · exact hKK hmo hM hV hI
    · exact absurd hc_71 (by omega)
  | f + 1, k, hf, V, z, hmo, hM, hV, hI => by
    have IH := fun k hk => @svb d g V0 mo sz x y e r κ ar ac zs  Q hr hb hKK f k hk
    refine aw_iload dX6_solve_65 (by rfl) ?_
    refine aw_aload_n dX6_solve_67 (by rfl) (Or.inr ⟨_, rfl⟩) ?_
    refine aw_get fX6_117 dX6_solve_68 hmo (by rfl) ?_
    refine aw_icmp_geZ (tgt := 129) dX6_solve_71 (by decide) (by omega) (by omega) (fun hc_71 => ?_) (fun hc_71 => ?_)
    · exact absurd hc_71 (by omega)
    · refine aw_aload_n dX6_solve_74 (by rfl) (Or.inr ⟨_, rfl⟩) ?_
      refine aw_sipushZ dX6_solve_75 (by decide) ?_
      refine aw_iload dX6_solve_78 (by rfl) ?_
      refine aw_iaddZ dX6_solve_80 ?_
      refine aw_sipushZ dX6_solve_81 (by decide) ?_
      rw [show (440 : Int) + (k : Int) = ((440 + k : Nat) : Int) by omega]
      show AW _ _ _ _ _ (.int (iZ ((416 : Nat) : Int)) :: _) _ _ _
      refine aw_callv vX6_67 dX6_solve_84 hmo (m_copies g (d + 2) (a := 440 + k) (c := 416) ⟨_, _, _, _, hmo⟩ hM (by omega) (by omega)) (by rfl) (by rfl) (by omega) (Nat.le_of_ble_eq_true rfl) ?_
      rintro _ V1 _ _ _ ⟨rfl, rfl, rfl, hE1, rfl, hM1⟩ -
      refine q0 ?_
      have hmo1 := (hE1 mo (by unfold EN; omega)).trans hmo
      obtain ⟨D, LN, SG, O1, O2, hA, h0⟩ := id hM1
      refine aw_aload_n dX6_solve_87 (by rfl) (Or.inr ⟨_, rfl⟩) ?_
      refine aw_get fX6_17 dX6_solve_88 hmo1 (by rfl) ?_
      refine aw_sipushZ dX6_solve_91 (by decide) ?_
      refine aw_aload_n dX6_solve_94 (by rfl) (Or.inr ⟨_, rfl⟩) ?_
      refine aw_get fX6_17 dX6_solve_95 hmo1 (by rfl) ?_
      refine aw_sipushZ dX6_solve_98 (by decide) ?_
      refine aw_ialdZ (416) dX6_solve_101 hA.2.2.1 (by omega) (by omega) (by omega) ?_
      refine aw_inegZ dX6_solve_102 ?_
      refine aw_iastZ (416) dX6_solve_103 hA.2.2.1 (by omega) (by omega) (by omega) ?_
      have hM2 := MN.flip (c := 416) hA h0
      rw [upF_self, upF_up] at hM2
      have hmo2 : AHu V1 (mo + 3) (aIz g 460 (upF SG 416 (- SG 416))) mo = some (moO mo r κ ar ac) := (AHu_ne (by omega)).trans hmo1
      have hzk : z (440 + k) = zs (440 + k) := hI.2 _ (by unfold InS; omega)
      rw [hzk] at hM2
      have hE2 : ∀ a, ¬ EN mo a → AHu V1 (mo + 3) (aIz g 460 (upF SG 416 (- SG 416))) a = V1 a := fun a ha => AHu_ne (fun q => ha (by unfold EN; omega))
      generalize AHu V1 (mo + 3) (aIz g 460 (upF SG 416 (- SG 416))) = V2 at *
      refine aw_aload_n dX6_solve_104 (by rfl) (Or.inr ⟨_, rfl⟩) ?_
      refine aw_sipushZ dX6_solve_105 (by decide) ?_
      refine aw_bipushZ dX6_solve_108 (by decide) ?_
      refine aw_iload dX6_solve_110 (by rfl) ?_
      refine aw_imulZ dX6_solve_112 ?_
      refine aw_iconstZ dX6_solve_113 ?_
      refine aw_iaddZ dX6_solve_114 ?_
      refine aw_bipushZ dX6_solve_115 (by decide) ?_
      refine aw_sipushZ dX6_solve_117 (by decide) ?_
      rw [show (15 : Int) * (k : Int) + 5 = ((15 * k + 5 : Nat) : Int) by omega]
      show AW _ _ _ _ _ (.int (iZ ((416 : Nat) : Int)) :: .int (iZ ((10 : Nat) : Int)) :: _ :: .int (iZ ((265 : Nat) : Int)) :: _) _ _ _
      refine aw_callv vX6_100 dX6_solve_120 hmo2 (m_takesRow g d (a := 265) (e := 15 * k + 5) (n := 10) (f := 416) ⟨_, _, _, _, hmo2⟩ hM2 (by omega) (by omega) (by omega) (by omega) (fun j hj => by rw [upF_self, upF_ne _ _ (by omega), hI.2 _ (by unfold InS; omega)]; exact (hb k (by omega) j hj).1) (fun j hj => by rw [upF_self, upF_ne _ _ (by omega), upF_ne _ _ (by omega), hI.1 j hj, hI.2 _ (by unfold InS; omega), Int.neg_mul, Int.sub_neg]; exact (hb k (by omega) j hj).2)) (by rfl) (by rfl) (by omega) (Nat.le_of_ble_eq_true rfl) ?_
      rintro _ V3 _ _ _ ⟨rfl, rfl, rfl, hE3, rfl, z3, hM3, hT3⟩ -
      refine q0 ?_
      refine aw_iincZ dX6_solve_123 (by rfl) (by decide) ?_
      refine aw_goto (tgt := 65) dX6_solve_126 (by decide) ?_
      rw [show ((k : Int) + 1) = ((k + 1 : Nat) : Int) by omega]
      refine aw_pk [4, 0, 1, 2, 3] (by rfl) ?_
      refine IH (k + 1) (by omega) ((hE3 mo (by unfold EN; omega)).trans hmo2) hM3 (fun a ha => (hE3 a ha).trans ((hE2 a ha).trans ((hE1 a ha).trans (hV a ha)))) (hI.step (fun j hj => ?_) (fun q hq => ?_))
      · rw [hT3 _ (by omega), if_pos (by omega), upF_self, upF_ne _ _ (by omega), upF_ne _ _ (by omega), show 15 * k + 5 + (265 + j - 265) = 15 * k + 5 + j by omega, hI.2 (15 * k + 5 + j) (by unfold InS; omega)]
      · unfold InS at hq
        rw [hT3 _ (by omega), if_neg (by omega), upF_ne _ _ (by omega)]
theorem svc (d : Nat) {g : GX} {V0 : AH} {mo sz x y e r κ : Nat} {ar ac : Int} {zs : Nat → Int} {RK : Nat → Int} {lk : Nat → Nat} {Y K : Int} {Q : AQ} (hκ : κ ≤ 10) (hrk : V0 (mo + 7) = some (aIz g 11 RK)) (hlk : ∀ i, i < κ → RK i = (lk i : Int)) (hl : ∀ c, c < κ → lk c < 10) (hp : ∀ c, c < κ → 0 < zs (165 + 10 * c + lk c)) (hinc : ∀ e c, e < c → c < κ → lk e < lk c) (hz0 : ∀ c, c < κ → ∀ j, j < lk c → zs (165 + 10 * c + j) = 0) (hK : ∀ c, c < κ → ∀ j, j < 10 → ab (zs (165 + 10 * c + j)) ≤ K) (hY : 0 ≤ Y) (hK0 : 0 ≤ K) (hSm : ∀ c, c < κ → SmM (Y * (1 + K) ^ (c + 1))) (hKK : ∀ {V : AH} {z : Nat → Int}, V mo = some (moO mo r κ ar ac) → MN g mo V z → (∀ a, ¬ EN mo a → V a = V0 a) → SwI zs lk r Y K z κ → AW g mX6_solve (d + 3) 204 [(4, .int (iZ (κ : Nat))), (0, .ref mo), (1, .int (iZ x)), (2, .int (iZ y)), (3, .int (iZ e))] [] V sz Q) : ∀ (f k : Nat), k + f = κ → ∀ {V : AH} {z : Nat → Int}, V mo = some (moO mo r κ ar ac) → MN g mo V z → (∀ a, ¬ EN mo a → V a = V0 a) → SwI zs lk r Y K z k → AW g mX6_solve (d + 3) 132 [(4, .int (iZ k)), (0, .ref mo), (1, .int (iZ x)), (2, .int (iZ y)), (3, .int (iZ e))] [] V sz Q
  | 0, k, hf, V, z, hmo, hM, hV, hI => by
    obtain rfl : k = κ := by omega
    refine aw_iload dX6_solve_132 (by rfl) ?_
    refine aw_aload_n dX6_solve_134 (by rfl) (Or.inr ⟨_, rfl⟩) ?_
    refine aw_get fX6_131 dX6_solve_135 hmo (by rfl) ?_
    refine aw_icmp_geZ (tgt := 204) dX6_solve_138 (by decide) (by omega) (by omega) (fun hc_138 => ?_) (fun hc_138 => ?_)
    · exact hKK hmo hM hV hI
    · exact absurd hc_138 (by omega)
  | f + 1, k, hf, V, z, hmo, hM, hV, hI => by
    have IH := fun k hk => @svc d g V0 mo sz x y e r κ ar ac zs RK lk Y K Q hκ hrk hlk hl hp hinc hz0 hK hY hK0 hSm hKK f k hk
    have hrkV := (hV (mo + 7) (by unfold EN; omega)).trans hrk
    have hlk1 := hlk k (by omega)
    have hl1 := hl k (by omega)
    have hf1 : z (165 + 10 * k + lk k) = zs (165 + 10 * k + lk k) := hI.2.2.2 _ (by unfold InS; omega)
    have hf2 : ∀ j, j < 10 → z (165 + 10 * k + j) = zs (165 + 10 * k + j) := fun j hj => hI.2.2.2 _ (by unfold InS; omega)
    have hbd := fun j hj => hI.bd hl1 (hp k (by omega)) (hK k (by omega)) hY hK0 (j := j) hj
    refine aw_iload dX6_solve_132 (by rfl) ?_
    refine aw_aload_n dX6_solve_134 (by rfl) (Or.inr ⟨_, rfl⟩) ?_
    refine aw_get fX6_131 dX6_solve_135 hmo (by rfl) ?_
    refine aw_icmp_geZ (tgt := 204) dX6_solve_138 (by decide) (by omega) (by omega) (fun hc_138 => ?_) (fun hc_138 => ?_)
    · exact absurd hc_138 (by omega)
    · refine aw_aload_n dX6_solve_141 (by rfl) (Or.inr ⟨_, rfl⟩) ?_
      refine aw_sipushZ dX6_solve_142 (by decide) ?_
      refine aw_aload_n dX6_solve_145 (by rfl) (Or.inr ⟨_, rfl⟩) ?_
      refine aw_get fX6_30 dX6_solve_146 hmo (by rfl) ?_
      refine aw_iload dX6_solve_149 (by rfl) ?_
      refine aw_ialdZ (k) dX6_solve_151 hrkV (by omega) (by omega) (by omega) ?_
      refine aw_iaddZ dX6_solve_152 ?_
      refine aw_sipushZ dX6_solve_153 (by decide) ?_
      refine aw_bipushZ dX6_solve_156 (by decide) ?_
      refine aw_iload dX6_solve_158 (by rfl) ?_
      refine aw_imulZ dX6_solve_160 ?_
      refine aw_iaddZ dX6_solve_161 ?_
      refine aw_aload_n dX6_solve_162 (by rfl) (Or.inr ⟨_, rfl⟩) ?_
      refine aw_get fX6_30 dX6_solve_163 hmo (by rfl) ?_
      refine aw_iload dX6_solve_166 (by rfl) ?_
      refine aw_ialdZ (k) dX6_solve_168 hrkV (by omega) (by omega) (by omega) ?_
      refine aw_iaddZ dX6_solve_169 ?_
      refine aw_sipushZ dX6_solve_170 (by decide) ?_
      rw [hlk1, show (265 : Int) + (lk k : Int) = ((265 + lk k : Nat) : Int) by omega, show (165 : Int) + 10 * (k : Int) + (lk k : Int) = ((165 + 10 * k + lk k : Nat) : Int) by omega]
      show AW _ _ _ _ _ (.int (iZ ((416 : Nat) : Int)) :: _) _ _ _
      refine aw_callv vX6_113 dX6_solve_173 hmo (m_floors g d (a := 265 + lk k) (e := 165 + 10 * k + lk k) (c := 416) ⟨_, _, _, _, hmo⟩ hM (by omega) (by omega) (by omega) (by omega) (by omega) (by omega) (by rw [hf1]; exact hp k (by omega))) (by rfl) (by rfl) (by omega) (Nat.le_of_ble_eq_true rfl) ?_
      rintro _ V1 _ _ _ ⟨rfl, rfl, rfl, hE1, rfl, z1, hM1, hz1⟩ -
      refine q0 ?_
      have hmo1 := (hE1 mo (by unfold EN; omega)).trans hmo
      have hq : z1 416 = z (265 + lk k) / zs (165 + 10 * k + lk k) := by rw [hz1 _ (by omega), upF_self, hf1]
      have hne : ∀ q, q ≠ 415 → q ≠ 416 → z1 q = z q := fun q h1 h2 => by rw [hz1 q h1, upF_ne _ _ h2]
      refine aw_pop dX6_solve_176 rfl ?_
      refine aw_aload_n dX6_solve_177 (by rfl) (Or.inr ⟨_, rfl⟩) ?_
      refine aw_sipushZ dX6_solve_178 (by decide) ?_
      refine aw_sipushZ dX6_solve_181 (by decide) ?_
      refine aw_bipushZ dX6_solve_184 (by decide) ?_
      refine aw_iload dX6_solve_186 (by rfl) ?_
      refine aw_imulZ dX6_solve_188 ?_
      refine aw_iaddZ dX6_solve_189 ?_
      refine aw_bipushZ dX6_solve_190 (by decide) ?_
      refine aw_sipushZ dX6_solve_192 (by decide) ?_
      rw [show (165 : Int) + 10 * (k : Int) = ((165 + 10 * k : Nat) : Int) by omega]
      show AW _ _ _ _ _ (.int (iZ ((416 : Nat) : Int)) :: .int (iZ ((10 : Nat) : Int)) :: _ :: .int (iZ ((265 : Nat) : Int)) :: _) _ _ _
      refine aw_callv vX6_100 dX6_solve_195 hmo1 (m_takesRow g d (a := 265) (e := 165 + 10 * k) (n := 10) (f := 416) ⟨_, _, _, _, hmo1⟩ hM1 (by omega) (by omega) (by omega) (by omega) (fun j hj => by rw [hq, hne _ (by omega) (by omega), hf2 j hj]; exact sm_le (hbd j hj).1 (hSm k (by omega))) (fun j hj => by rw [hq, hne _ (by omega) (by omega), hne _ (by omega) (by omega), hf2 j hj]; exact sm_le (hbd j hj).2 (hSm k (by omega)))) (by rfl) (by rfl) (by omega) (Nat.le_of_ble_eq_true rfl) ?_
      rintro _ V2 _ _ _ ⟨rfl, rfl, rfl, hE2, rfl, z2, hM2, hT2⟩ -
      refine q0 ?_
      refine aw_iincZ dX6_solve_198 (by rfl) (by decide) ?_
      refine aw_goto (tgt := 132) dX6_solve_201 (by decide) ?_
      rw [show ((k : Int) + 1) = ((k + 1 : Nat) : Int) by omega]
      refine aw_pk [4, 0, 1, 2, 3] (by rfl) ?_
      refine IH (k + 1) (by omega) ((hE2 mo (by unfold EN; omega)).trans hmo1) hM2 (fun a ha => (hE2 a ha).trans ((hE1 a ha).trans (hV a ha))) (hI.step hl1 (hp k (by omega)) (fun e he => hinc e k he (by omega)) (hz0 k (by omega)) (hK k (by omega)) hY hK0 (fun j hj => ?_) (fun q hq2 => ?_))
      · rw [hT2 _ (by omega), if_pos (by omega), hq, hne _ (by omega) (by omega), show 165 + 10 * k + (265 + j - 265) = 165 + 10 * k + j by omega, hne _ (by omega) (by omega), hf2 j hj]
      · unfold InS at hq2
        rw [hT2 _ (by omega), if_neg (by omega), hne _ (by omega) (by omega)]
theorem sv_fin {S : TSt} {x r κ : Nat} {z z1 m qc X b : Nat → Int} (hc5 : S.c x ≤ 5) (hsp1 : SpEq (TU (S.N x) (S.c x)) (S.r x) (CPx (S.c x) r z1) (r + κ) (S.c x + S.r x)) (hm : ∀ j, j < S.c x → b j = Sg (fun i => m i * CPx (S.c x) r z1 i j) r) (hX : ∀ j, j < S.r x → X j = Sg (fun i => m i * z1 (15 * i + 5 + j)) r - Sg (fun e => qc e * z1 (165 + 10 * e + j)) κ) : ∀ j, j < S.c x → Sg (fun i => X i * S.N x (5 * i + j)) (S.r x) = b j := fun j hj => by
  have h1 : Span (CPx (S.c x) r z1) (r + κ) (S.c x + S.r x) (fun j => Sg (fun i => m i * CPx (S.c x) r z1 i j) r - 1 * Sg (fun e => qc e * CPx (S.c x) r z1 (r + e) j) κ) := Span.sub (span_sum (A' := CPx (S.c x) r z1) (fun i hi => Span.row (by omega))) (span_sum (A' := fun e => CPx (S.c x) r z1 (r + e)) (fun i hi => Span.row (by omega)))
  have h2 := tu_span ((hsp1 _).mpr h1) j hj
  rw [Sg_zero (f := fun e => qc e * CPx (S.c x) r z1 (r + e) j) (fun e he => by
    show qc e * CPx (S.c x) r z1 (r + e) j = 0
    unfold CPx phi
    rw [if_pos hj, cm_k, if_pos (by omega), Int.mul_zero]), Int.mul_zero, Int.sub_zero, ← hm j hj] at h2
  rw [h2]
  refine Sg_congr (fun i hi => ?_)
  show X i * _ = (_ - 1 * _) * _
  rw [hX i hi, Int.one_mul, Sg_congr (f := fun a => m a * CPx (S.c x) r z1 a (S.c x + i)) (h := fun a => m a * z1 (15 * a + 5 + i)) (fun a ha => by show m a * CPx (S.c x) r z1 a (S.c x + i) = _; rw [cp_x ha]), Sg_congr (f := fun e => qc e * CPx (S.c x) r z1 (r + e) (S.c x + i)) (h := fun e => qc e * z1 (165 + 10 * e + i)) (fun e he => by show qc e * CPx (S.c x) r z1 (r + e) (S.c x + i) = _; rw [cp_k])]
theorem Sg_nn {f : Nat → Int} : ∀ {n : Nat}, (∀ i, i < n → 0 ≤ f i) → 0 ≤ Sg f n
  | 0, _ => Int.le_refl 0
  | n + 1, h => by
    have h1 := Sg_nn (fun i hi => h i (Nat.lt_succ_of_lt hi))
    have h2 := h n (Nat.lt_succ_self n)
    show 0 ≤ Sg f n + f n
    omega
theorem m_solve (g : GX) (d : Nat) {V : AH} {mo sz : Nat} {zs : Nat → Int} {S : TSt} {A : ASt} {t u i : Int} (hR : RX g mo V zs S A) (ht : R32 t) (hu : R32 u) (hi : R32 i) : AMet g mX6_solve (d + 9) [.ref mo, .int (iZ t), .int (iZ u), .int (iZ i)] V sz (RE g mo V sz (AskR S A t u i (SlvR S A))) := by
  obtain ⟨⟨rk, kn, hmo⟩, -, -, -, -, -, hT, -, -, o1, -⟩ := id hR
  have hrb : ∀ n, n < 12 → S.r n ≤ 5 := fun n hn => (o1 n hn).1
  have hcb : ∀ n, n < 12 → S.c n ≤ 5 := fun n hn => (o1 n hn).2.1
  refine AMet.of rfl rfl (Nat.le_of_ble_eq_true rfl) ?_
  show AW g mX6_solve (d + 9) 0 [(0, .ref mo), (1, .int (iZ t)), (2, .int (iZ u)), (3, .int (iZ i))] [] V sz _
  refine aw_aload_n dX6_solve_0 (by rfl) (Or.inr ⟨_, rfl⟩) ?_
  refine aw_iload_n dX6_solve_1 (by rfl) ?_
  refine aw_iload_n dX6_solve_2 (by rfl) ?_
  refine aw_iload_n dX6_solve_3 (by rfl) ?_
  refine aw_callv vX6_215 dX6_solve_4 hmo (m_isAsked g (d + 6) (t := t) (u := u) (i := i) hmo hT ht hu hi hrb hcb) (by rfl) (by rfl) (by omega) (Nat.le_of_ble_eq_true rfl) ?_
  rintro _ _ _ _ _ ⟨rfl, rfl, rfl, rfl, rfl⟩ -
  refine q0 ?_
  show AW g mX6_solve (d + 9) _ _ (.int (iZ (asZ S t u i)) :: _) _ _ _
  refine aw_if_neZ (tgt := 12) dX6_solve_7 (by decide) (asZ_R _ _ _ _) (fun hc_7 => ?_) (fun hc_7 => ?_)
  · obtain ⟨x, y, k, hAsk⟩ := asZ_yes hc_7
    obtain ⟨hx, hy, rfl, rfl, rfl, hrx, hry, hcc, hk⟩ := id hAsk
    have q1 := (o1 x hx).1
    have q2 := (o1 y hy).1
    have q3 := (o1 x hx).2.1
    refine aw_aload_n dX6_solve_12 (by rfl) (Or.inr ⟨_, rfl⟩) ?_
    refine aw_iload_n dX6_solve_13 (by rfl) ?_
    refine aw_callv vX6_165 dX6_solve_14 hmo (m_stairOf g (d + 0) (t := x) hR hx) (by rfl) (by rfl) (by omega) (Nat.le_of_ble_eq_true rfl) ?_
    rintro _ V1 _ _ _ ⟨rfl, rfl, rfl, hE1, rfl, r1, κ1, l1, lk1, z1, ⟨RW1, RK1, hmo1, hra1, hrk1, hl1, hlk1, hM1, hl51⟩, hst1, hsp1, hlc1, hln1, hst2, hsp2, hn1, hF1⟩ -
    refine q0 ?_
    obtain ⟨s1, s2⟩ := stair_of hst1 hsp1 (cp_split hlc1)
    have hNb : ∀ i j, i < S.r x → j < 5 → ab (TM (S.N x) i j) ≤ 1000 := fun a b ha hb => by
      have := (o1 x hx).2.2.2.1 (5 * a + b) (by omega)
      show ab (S.N x (5 * a + b)) ≤ 1000
      unfold ab; omega
    refine aw_aload_n dX6_solve_17 (by rfl) (Or.inr ⟨_, rfl⟩) ?_
    refine aw_iload_n dX6_solve_18 (by rfl) ?_
    refine aw_iload_n dX6_solve_19 (by rfl) ?_
    refine aw_callv vX6_218 dX6_solve_20 hmo1 (m_takesTableRow g (d + 7) (u := y) (i := k) hmo1 hM1 (hT.kept (fun a h1 h2 => hE1 a (by unfold EC; omega))) hy (by omega) (o1 y hy).2.2.2.1) (by rfl) (by rfl) (by omega) (Nat.le_of_ble_eq_true rfl) ?_
    rintro _ V2 _ _ _ ⟨rfl, rfl, rfl, hE2, rfl, hM2⟩ -
    refine q0 ?_
    have hmo2 := (hE2 mo (by unfold EN; omega)).trans hmo1
    have hp1 := rcp_of (z' := rowZ z1 (S.N y) k 5) hst2 hl51 hsp2 hNb (by omega) (fun q hq => rowZ.ne (by omega)) (fun j hj => by rw [rowZ.at hj]; have := (o1 y hy).2.2.2.1 (5 * k + j) (by omega); unfold ab; omega)
    have hask := ask_sp o1 hx hy hk hcc hst1 hsp1 hlc1 hsp2 hn1
    refine aw_aload_n dX6_solve_23 (by rfl) (Or.inr ⟨_, rfl⟩) ?_
    refine aw_sipushZ dX6_solve_24 (by decide) ?_
    refine aw_callv vX6_221 dX6_solve_27 hmo2 (m_reaches g (d + 5) hp1 hmo2 hM2 ((hE2 _ (by unfold EN; omega)).trans hra1) hl1 rc_sm) (by rfl) (by rfl) (by omega) (Nat.le_of_ble_eq_true rfl) ?_
    rintro _ V3 _ _ _ ⟨rfl, rfl, rfl, hE3, z3, hM3, hF3, hr3⟩ -
    refine q0 ?_
    have hmo3 := (hE3 mo (by unfold EN; omega)).trans hmo2
    have hz31 : ∀ q, ¬ InW q → z3 q = z1 q := fun q hq => (hF3 q hq).trans (rowZ.ne (by unfold InW at hq; omega))
    have hE : ∀ a, ¬ EC mo a → V3 a = V a := fun a ha => (hE3 a (fun z => ha (by unfold EN at z; unfold EC; omega))).trans ((hE2 a (fun z => ha (by unfold EN at z; unfold EC; omega))).trans (hE1 a ha))
    have hC3 : CSt g mo V3 r1 κ1 (arZ A) (acZ A) l1 lk1 z3 := ⟨RW1, RK1, hmo3, (hE3 _ (by unfold EN; omega)).trans ((hE2 _ (by unfold EN; omega)).trans hra1), (hE3 _ (by unfold EN; omega)).trans ((hE2 _ (by unfold EN; omega)).trans hrk1), hl1, hlk1, hM3, hl51⟩
    rcases hr3 with ⟨rfl, hr3⟩ | ⟨rfl, hr3⟩
    · refine aw_if_neZ (tgt := 35) dX6_solve_30 (by decide) (by omega) (fun _ => ?_) (fun h => absurd h (by decide))
      have hmul : ∀ j, j < S.c x → TM (S.N y) k j = Sg (fun i => z3 (440 + i) * CPx (S.c x) r1 z1 i j) r1 := fun j hj => by
        have := hr3 j (by omega)
        rw [rowZ.at (by omega)] at this
        show S.N y (5 * k + j) = _
        rw [this]
        exact Sg_congr (fun i hi => by rw [cp_s hi hj, rowZ.ne (by omega)])
      obtain ⟨hpS, hpK, -⟩ := cm_parts hst2 hl51
      have hbE : ∀ i j, i < r1 + κ1 → j < 15 → ab (CMx r1 z1 i j) ≤ 10 * TM10 := fun i j hi hj => hst2.bdm (tu_lbm hNb) hsp2 (by omega) (i := i) hi (j := j) hj
      have hT10 := tm10
      have hmb : ∀ n, n ≤ r1 → Sg (fun i => ab (z3 (440 + i))) n ≤ 31000 := fun n hn => by
        have h1 := mul_bd s1 (b := TM (S.N y) k) (m := fun i => z3 (440 + i)) (X := 1000) hmul (fun j hj => by
          have := (o1 y hy).2.2.2.1 (5 * k + j) (by omega)
          show ab (S.N y (5 * k + j)) ≤ 1000
          unfold ab; omega) (by omega) n hn
        have h2 := two_le (show n ≤ 5 by omega)
        have h3 : (2 : Int) ^ 5 = 32 := by decide
        omega
      have hxb : ∀ a j, a < r1 → j < 10 → ab (z3 (15 * a + 5 + j)) ≤ 10 * TM10 := fun a j ha hj => by
        have := hbE a (5 + j) (by omega) (by omega)
        rw [cm_s ha, show 15 * a + (5 + j) = 15 * a + 5 + j by omega] at this
        rw [hz31 _ (by unfold InW; omega)]
        exact this
      have hY1 : ∀ n j, n ≤ r1 → j < 10 → ab (Sg (fun i => z3 (440 + i) * z3 (15 * i + 5 + j)) n) ≤ 31000 * (10 * TM10) := fun n j hn hj => by
        have h1 := sg_abp (m := fun i => z3 (440 + i)) (c := fun i => z3 (15 * i + 5 + j)) (p := 10 * TM10) (by omega) (k := n) (fun i hi => hxb i j (by omega) hj)
        exact Int.le_trans h1 (Int.mul_le_mul_of_nonneg_right (hmb n hn) (by omega))
      have hpw : ∀ n, n ≤ 10 → 31000 * (10 * TM10) * (1 + 10 * TM10) ^ n ≤ 31000 * (10 * TM10) * (1 + 10 * TM10) ^ 10 := fun n hn => Int.mul_le_mul_of_nonneg_left (pw_mono (by omega) hn) (by omega)
      have hSy : ∀ (n : Nat) (v : Int), n ≤ 10 → ab v ≤ 31000 * (10 * TM10) * (1 + 10 * TM10) ^ n → SmM v := fun n v hn hv => sm_le (Int.le_trans hv (hpw n hn)) sv_sm
      have hzk : ∀ c j, c < κ1 → j < 10 → z3 (165 + 10 * c + j) = z1 (165 + 10 * c + j) := fun c j hc hj => hz31 _ (by unfold InW; omega)
      have hlk10 : ∀ c, c < κ1 → lk1 c < 10 := fun c hc => (hpK.1.1 c hc).1
      refine aw_iconstZ dX6_solve_35 ?_
      refine aw_istore dX6_solve_36 (by decide) ?_
      refine aw_pk [4, 0, 1, 2, 3] (by rfl) ?_
      refine sva (d + 8) (V0 := V3) (zs := z3) (r := r1) (κ := κ1) (fun {V4 z4} hmo4 hM4 hV4 hI4 => ?_) 10 0 (by omega) hmo3 hM3 (fun _ _ => rfl) MtI.nil
      refine aw_iconstZ dX6_solve_62 ?_
      refine aw_istore dX6_solve_63 (by decide) ?_
      refine aw_pk [4, 0, 1, 2, 3] (by rfl) ?_
      refine svb (d + 6) (V0 := V3) (zs := z3) (r := r1) (κ := κ1) (by omega) (fun n hn j hj => ⟨?_, hSy 0 _ (by omega) (by rw [Int.pow_zero, Int.mul_one]; exact hY1 (n + 1) j (by omega) hj)⟩) (fun {V5 z5} hmo5 hM5 hV5 hI5 => ?_) r1 0 (by omega) hmo4 hM4 hV4 ⟨fun j hj => by have := hI4.1 0 j (by omega); rw [show 265 + 10 * 0 + j = 265 + j by omega] at this; rw [this]; rfl, fun q hq => hI4.2 q (fun z => hq (Or.inl z))⟩
      · refine hSy 0 _ (by omega) ?_
        rw [Int.pow_zero, Int.mul_one, Int.neg_mul, ab_neg, ab_mul]
        have h1 : ab (z3 (440 + n)) ≤ 31000 := by
          have := hmb (n + 1) (by omega)
          have h0 : 0 ≤ Sg (fun i => ab (z3 (440 + i))) n := Sg_nn (fun i _ => ab0 _)
          have h2 : Sg (fun i => ab (z3 (440 + i))) (n + 1) = Sg (fun i => ab (z3 (440 + i))) n + ab (z3 (440 + n)) := rfl
          omega
        exact Int.mul_le_mul h1 (hxb n j hn hj) (ab0 _) (by omega)
      refine aw_iconstZ dX6_solve_129 ?_
      refine aw_istore dX6_solve_130 (by decide) ?_
      refine aw_pk [4, 0, 1, 2, 3] (by rfl) ?_
      refine svc (d + 6) (V0 := V3) (zs := z3) (r := r1) (κ := κ1) (RK := RK1) (lk := lk1) (Y := 31000 * (10 * TM10)) (K := 10 * TM10) (by omega) ((hE3 _ (by unfold EN; omega)).trans ((hE2 _ (by unfold EN; omega)).trans hrk1)) hlk1 hlk10 (fun c hc => by rw [hzk c _ hc (hlk10 c hc)]; exact hpK.2.1 c hc) (fun e c h1 h2 => hpK.1.2 e c h1 h2) (fun c hc j hj => by rw [hzk c _ hc (by have := hlk10 c hc; omega)]; exact (hpK.1.1 c hc).2.2 j hj) (fun c hc j hj => ?_) (by omega) (by omega) (fun c hc => hSy (c + 1) _ (by omega) (by rw [ab_pos (Int.mul_nonneg (by omega) (Int.pow_nonneg (by omega)))]; exact Int.le_refl _)) (fun {V6 z6} hmo6 hM6 hV6 hI6 => ?_) κ1 0 (by omega) hmo5 hM5 hV5 ⟨⟨fun _ => 0, fun j hj => by rw [hI5.1 j hj]; show _ = _ - 0; omega⟩, fun e he => absurd he (by omega), fun j hj => by rw [hI5.1 j hj, Int.pow_zero, Int.mul_one]; exact hY1 r1 j (Nat.le_refl _) hj, hI5.2⟩
      · rw [hzk c j hc hj]
        have := hbE (r1 + c) (5 + j) (by omega) (by omega)
        rw [cm_k, if_neg (by omega), show 5 + j - 5 = j by omega] at this
        exact this
      obtain ⟨TH, RR, CC, NN, HH, t1, t2, t3, t4, t5, t6⟩ := hT.kept (V' := V6) (fun a h1 h2 => (hV6 a (by unfold EN; omega)).trans (hE a (by unfold EC; omega)))
      obtain ⟨k1, k2⟩ := kern_of hst1 hsp1 (cp_split hlc1)
      rw [show r1 + κ1 - r1 = κ1 by omega] at k1 k2
      obtain ⟨⟨qc, hqc⟩, hred, -, hF6⟩ := hI6
      refine aw_aload_n dX6_solve_204 (by rfl) (Or.inr ⟨_, rfl⟩) ?_
      refine aw_iconstZ dX6_solve_205 ?_
      refine aw_aload_n dX6_solve_206 (by rfl) (Or.inr ⟨_, rfl⟩) ?_
      refine aw_get fX6_37 dX6_solve_207 hmo6 (by rfl) ?_
      refine aw_iload_n dX6_solve_210 (by rfl) ?_
      refine aw_ialdZ (x) dX6_solve_211 t2 (by omega) (by omega) (by omega) ?_
      rw [(t6 x hx).2.1]
      show AW _ _ _ _ _ (_ :: .int (iZ ((1 : Nat) : Int)) :: _) _ _ _
      refine aw_callv vX6_189 dX6_solve_212 hmo6 (m_tells g (d + 8) (h := 1) (w := S.r x) hmo6 (by omega)) (by rfl) (by rfl) (by omega) (Nat.le_of_ble_eq_true rfl) ?_
      rintro _ V7 _ _ _ ⟨rfl, rfl, rfl, hE7, rfl, hmo7⟩ -
      refine q0 ?_
      refine aw_iconstZ dX6_solve_215 ?_
      refine aw_iret dX6_solve_216 rfl (by rfl) ?_
      refine ⟨rfl, rfl, rfl, fun a ha => (hE7 a (fun z => ha (by unfold EM; omega))).trans ((hV6 a (fun z => ha (by unfold EN at z; unfold EM; omega))).trans (hE a (fun z => ha (by unfold EC at z; unfold EM; omega)))), z6, S, _, hR.tell (h := 1) (w := S.r x) (B := fun _ j => z6 (265 + j)) hmo7 ((hE7 _ (by omega)).trans ((hV6 _ (by unfold EN; omega)).trans ((hE3 _ (by unfold EN; omega)).trans ((hE2 _ (by unfold EN; omega)).trans hra1)))) ((hE7 _ (by omega)).trans ((hV6 _ (by unfold EN; omega)).trans ((hE3 _ (by unfold EN; omega)).trans ((hE2 _ (by unfold EN; omega)).trans hrk1)))) (fun a h1 h2 => (hE7 a (by omega)).trans ((hV6 a (by unfold EN; omega)).trans (hE a (by unfold EC; omega)))) (hM6.kept (fun a ha => hE7 a (by unfold EN at ha; omega))) (fun i j hi hj => (show z6 (265 + 10 * i + j) = z6 (265 + j) by rw [show i = 0 by omega])) (by omega) q1, rfl, Or.inl ⟨x, y, k, hAsk, Or.inl ⟨rfl, κ1, _, _, fun j => z6 (265 + j), k1, k2, ?_, fun e he => ?_, rfl, rfl, rfl, fun _ _ _ _ => rfl⟩⟩⟩
      · refine sv_fin (S := S) (x := x) (r := r1) (κ := κ1) (z := z6) (z1 := z1) (m := fun i => z3 (440 + i)) (qc := qc) (b := fun j => S.N y (5 * k + j)) q3 hsp1 hmul (fun j hj => ?_)
        show z6 (265 + j) = _
        rw [hqc j (by omega)]
        rw [Sg_congr (f := fun i => z3 (440 + i) * z3 (15 * i + 5 + j)) (h := fun i => z3 (440 + i) * z1 (15 * i + 5 + j)) (fun i hi => by show z3 (440 + i) * z3 (15 * i + 5 + j) = _; rw [hz31 (15 * i + 5 + j) (by unfold InW; omega)]), Sg_congr (f := fun e => qc e * z3 (165 + 10 * e + j)) (h := fun e => qc e * z1 (165 + 10 * e + j)) (fun e he => by show _ * z3 _ = _; rw [hzk e j he (by omega)])]
      · have hle : lpx (S.c x) r1 l1 lk1 (r1 + e) - S.c x = lk1 e := by
          unfold lpx
          rw [if_neg (by omega), show r1 + e - r1 = e by omega]
          omega
        have := hred e he
        rw [hzk e _ he (hlk10 e he)] at this
        show 0 ≤ z6 (265 + (lpx (S.c x) r1 l1 lk1 (r1 + e) - S.c x)) ∧ z6 (265 + (lpx (S.c x) r1 l1 lk1 (r1 + e) - S.c x)) < CPx (S.c x) r1 z1 (r1 + e) (S.c x + (lpx (S.c x) r1 l1 lk1 (r1 + e) - S.c x))
        rw [hle, cp_k]
        exact this
    · refine aw_if_neZ (tgt := 35) dX6_solve_30 (by decide) (by omega) (fun h => absurd rfl h) (fun _ => ?_)
      refine aw_iconstZ dX6_solve_33 ?_
      refine aw_iret dX6_solve_34 rfl (by rfl) ?_
      exact ⟨rfl, rfl, rfl, fun a ha => hE a (fun z => ha (by unfold EC at z; unfold EM; omega)), z3, S, A, hR.calc hC3 hE (fun q h1 h2 => (hz31 q (by unfold InW; omega)).trans (hF1 q (by unfold InC; omega))), rfl, Or.inl ⟨x, y, k, hAsk, Or.inr ⟨rfl, fun z => hr3 (hask.mpr z), rfl⟩⟩⟩
  · have hno := asZ_no hc_7
    refine aw_iconstZ dX6_solve_10 ?_
    refine aw_iret dX6_solve_11 rfl (by rfl) ?_
    exact ⟨rfl, rfl, rfl, fun _ _ => rfl, zs, S, A, hR, rfl, Or.inr ⟨hno, rfl, rfl⟩⟩
