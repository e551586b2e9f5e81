/-! ===== the reference: order ===== -/
def InO : Nat → Prop := fun q => q = 440 ∨ (450 ≤ q ∧ q < 455) ∨ (415 ≤ q ∧ q ≤ 421)
def OXn (K : Int) (n : Nat) : Int := 1000 * (K * (1 + K)) ^ n
def OrI (z0 : Nat → Int) (r : Nat) (l : Nat → Nat) (K : Int) (z : Nat → Int) (n : Nat) : Prop := OrP (B5 z0) r 5 l (fun j => z0 (450 + j)) n (z 440) (fun j => z (450 + j)) ∧ Frm z0 z InO ∧ (∀ j, j < 5 → ab (z (450 + j)) ≤ OXn K n) ∧ ab (z 440) ≤ OXn K n
def muZ (z : Nat → Int) (u : Int) (n : Nat) : Nat → Int := fun q => if 450 ≤ q ∧ q < 450 + n then z q * u else z q
theorem muZ.up {z : Nat → Int} {u : Int} {n : Nat} : upF (muZ z u n) (450 + n) (z (450 + n) * u) = muZ z u (n + 1) := by
  funext q
  unfold upF muZ
  by_cases e : q = 450 + n
  · rw [if_pos e, if_pos (by omega), e]
  · rw [if_neg e]
    by_cases e2 : 450 ≤ q ∧ q < 450 + n
    · rw [if_pos e2, if_pos (by omega)]
    · rw [if_neg e2, if_neg (by omega)]
theorem muZ.nil {z : Nat → Int} {u : Int} : muZ z u 0 = z := by funext q; unfold muZ; rw [if_neg (by omega)]
theorem muZ.at {z : Nat → Int} {u : Int} {n j : Nat} (h : j < n) : muZ z u n (450 + j) = z (450 + j) * u := by unfold muZ; rw [if_pos (by omega)]
theorem muZ.ne {z : Nat → Int} {u : Int} {n q : Nat} (h : ¬ (450 ≤ q ∧ q < 450 + n)) : muZ z u n q = z q := by unfold muZ; rw [if_neg h]
theorem oxn_pos {K : Int} (hK : 1 ≤ K) (n : Nat) : 1 ≤ OXn K n ∧ OXn K (n + 1) = OXn K n * K * (1 + K) := by
  unfold OXn
  have h1 : 1 * 1 ≤ K * (1 + K) := Int.mul_le_mul hK (by omega) (by omega) (by omega)
  have h2 := pw1 (show 1 ≤ K * (1 + K) by omega) n
  refine ⟨by omega, ?_⟩
  rw [Int.pow_succ, ← Int.mul_assoc, ← Int.mul_assoc]
theorem oxn_le {K : Int} (hK : 1 ≤ K) {a b : Nat} (h : a ≤ b) : OXn K a ≤ OXn K b := by
  unfold OXn
  have h1 : 1 * 1 ≤ K * (1 + K) := Int.mul_le_mul hK (by omega) (by omega) (by omega)
  have := pw_mono (show 1 ≤ K * (1 + K) by omega) h
  omega
/-- one step's numbers stay below the next bound -/
theorem or_bd {K X u p a w Bj : Int} (hK : 1 ≤ K) (hX : 1 ≤ X) (hp : 0 < p) (hu : 0 < u ∧ u ≤ K) (ha : ab a ≤ X) (hw : ab w ≤ X) (hB : ab Bj ≤ K) : ab (a * u) ≤ X * K * (1 + K) ∧ ab (w * u / p * Bj) ≤ X * K * (1 + K) ∧ ab (a * u - w * u / p * Bj) ≤ X * K * (1 + K) := by
  have h1 : ∀ x : Int, ab x ≤ X → ab (x * u) ≤ X * K := fun x hx => by
    rw [ab_mul, ab_pos (show 0 ≤ u by omega)]
    exact Int.mul_le_mul hx hu.2 (by omega) (by omega)
  have h2 := h1 a ha
  have h3 := h1 w hw
  have h4 : ab (w * u / p) ≤ ab (w * u) := by
    have := fl_abs (a := w * u) hp
    unfold ab; omega
  have h5 : 1 * 1 ≤ X * K := Int.mul_le_mul hX hK (by omega) (by omega)
  have h6 : ab (w * u / p) * ab Bj ≤ X * K * K := Int.mul_le_mul (Int.le_trans h4 h3) hB (ab0 _) (by omega)
  have h7 := ab_sub (a * u) (w * u / p * Bj)
  rw [show X * K * (1 + K) = X * K + X * K * K by rw [Int.mul_add, Int.mul_one]]
  rw [ab_mul (w * u / p)] at h7 ⊢
  have h8 : 0 ≤ X * K * K := Int.mul_nonneg (by omega) (by omega)
  have h9 : 0 ≤ ab (w * u / p) * ab Bj := Int.mul_nonneg (ab0 _) (ab0 _)
  exact ⟨by omega, by omega, by omega⟩
theorem or_sm : SmM (OXn (10 * TM10) 5) := by
  unfold SmM
  decide +kernel
theorem OrI.step {z0 z z' : Nat → Int} {r n : Nat} {l : Nat → Nat} {K u q : Int} (h : OrI z0 r l K z n) (e : Ech (B5 z0) r 5 l) (hn : n < r) (hp : 0 < z0 (15 * n + l n)) (hK : 1 ≤ K) (hB : ∀ j, j < 5 → ab (z0 (15 * n + j)) ≤ K) (hu : u = z0 (15 * n + l n) / ((Int.gcd (z0 (15 * n + l n)) (z (450 + l n)) : Nat) : Int)) (hq : q = z (450 + l n) * u / z0 (15 * n + l n)) (h1 : z' 440 = z 440 * u) (h2 : ∀ j, j < 5 → z' (450 + j) = z (450 + j) * u - q * z0 (15 * n + j)) (h3 : Frm z z' InO) (huK : 0 < u ∧ u ≤ K) : OrI z0 r l K z' (n + 1) := by
  obtain ⟨a1, a2, a3, a4⟩ := h
  obtain ⟨x1, x2⟩ := oxn_pos hK n
  have hl := (e.1 n hn).1
  refine ⟨?_, fun q hq => (h3 q hq).trans (a2 q hq), fun j hj => ?_, ?_⟩
  · rw [h1]
    refine OrP.step (W' := fun j => z' (450 + j)) (u := u) (q := q) e a1 hn hp hu (by rw [hq, Int.mul_comm u]) (fun j hj => ?_)
    show z' (450 + j) = u * z (450 + j) - q * z0 (15 * n + j)
    rw [h2 j hj, Int.mul_comm u]
  · rw [h2 j hj, hq, x2]
    exact (or_bd hK x1 hp huK (a3 j hj) (a3 _ hl) (hB j hj)).2.2
  · rw [h1, x2]
    exact (or_bd hK x1 hp huK a4 (a3 _ hl) (hB 0 (by omega))).1
abbrev mX6_order : MI := (yX6_order, cX6_order, 6, (some FieldType.int), noX)
theorem dX6_order_0 : decode cX6_order 0 = .ok (.aload_n 0, 1) := by decide +kernel
theorem dX6_order_1 : decode cX6_order 1 = .ok (.iload_n 1, 1) := by decide +kernel
theorem dX6_order_2 : decode cX6_order 2 = .ok (.iload_n 2, 1) := by decide +kernel
theorem dX6_order_3 : decode cX6_order 3 = .ok (.iload_n 3, 1) := by decide +kernel
theorem dX6_order_4 : decode cX6_order 4 = .ok (.invokevirtual 215, 3) := by decide +kernel
theorem dX6_order_7 : decode cX6_order 7 = .ok (.ifCond .ne 5, 3) := by decide +kernel
theorem dX6_order_10 : decode cX6_order 10 = .ok (.iconst (-1), 1) := by decide +kernel
theorem dX6_order_11 : decode cX6_order 11 = .ok (.ireturn, 1) := by decide +kernel
theorem dX6_order_12 : decode cX6_order 12 = .ok (.aload_n 0, 1) := by decide +kernel
theorem dX6_order_13 : decode cX6_order 13 = .ok (.iload_n 1, 1) := by decide +kernel
theorem dX6_order_14 : decode cX6_order 14 = .ok (.invokevirtual 165, 3) := by decide +kernel
theorem dX6_order_17 : decode cX6_order 17 = .ok (.aload_n 0, 1) := by decide +kernel
theorem dX6_order_18 : decode cX6_order 18 = .ok (.iload_n 2, 1) := by decide +kernel
theorem dX6_order_19 : decode cX6_order 19 = .ok (.iload_n 3, 1) := by decide +kernel
theorem dX6_order_20 : decode cX6_order 20 = .ok (.invokevirtual 218, 3) := by decide +kernel
theorem dX6_order_23 : decode cX6_order 23 = .ok (.aload_n 0, 1) := by decide +kernel
theorem dX6_order_24 : decode cX6_order 24 = .ok (.sipush 440, 3) := by decide +kernel
theorem dX6_order_27 : decode cX6_order 27 = .ok (.lconst 1, 1) := by decide +kernel
theorem dX6_order_28 : decode cX6_order 28 = .ok (.invokevirtual 83, 3) := by decide +kernel
theorem dX6_order_31 : decode cX6_order 31 = .ok (.iconst 0, 1) := by decide +kernel
theorem dX6_order_32 : decode cX6_order 32 = .ok (.istore 4, 2) := by decide +kernel
theorem dX6_order_34 : decode cX6_order 34 = .ok (.iload 4, 2) := by decide +kernel
theorem dX6_order_36 : decode cX6_order 36 = .ok (.aload_n 0, 1) := by decide +kernel
theorem dX6_order_37 : decode cX6_order 37 = .ok (.getfield 117, 3) := by decide +kernel
theorem dX6_order_40 : decode cX6_order 40 = .ok (.if_icmp .ge 175, 3) := by decide +kernel
theorem dX6_order_43 : decode cX6_order 43 = .ok (.aload_n 0, 1) := by decide +kernel
theorem dX6_order_44 : decode cX6_order 44 = .ok (.bipush 15, 2) := by decide +kernel
theorem dX6_order_46 : decode cX6_order 46 = .ok (.iload 4, 2) := by decide +kernel
theorem dX6_order_48 : decode cX6_order 48 = .ok (.imul, 1) := by decide +kernel
theorem dX6_order_49 : decode cX6_order 49 = .ok (.aload_n 0, 1) := by decide +kernel
theorem dX6_order_50 : decode cX6_order 50 = .ok (.getfield 27, 3) := by decide +kernel
theorem dX6_order_53 : decode cX6_order 53 = .ok (.iload 4, 2) := by decide +kernel
theorem dX6_order_55 : decode cX6_order 55 = .ok (.iaload, 1) := by decide +kernel
theorem dX6_order_56 : decode cX6_order 56 = .ok (.iadd, 1) := by decide +kernel
theorem dX6_order_57 : decode cX6_order 57 = .ok (.sipush 419, 3) := by decide +kernel
theorem dX6_order_60 : decode cX6_order 60 = .ok (.invokevirtual 67, 3) := by decide +kernel
theorem dX6_order_63 : decode cX6_order 63 = .ok (.aload_n 0, 1) := by decide +kernel
theorem dX6_order_64 : decode cX6_order 64 = .ok (.sipush 450, 3) := by decide +kernel
theorem dX6_order_67 : decode cX6_order 67 = .ok (.aload_n 0, 1) := by decide +kernel
theorem dX6_order_68 : decode cX6_order 68 = .ok (.getfield 27, 3) := by decide +kernel
theorem dX6_order_71 : decode cX6_order 71 = .ok (.iload 4, 2) := by decide +kernel
theorem dX6_order_73 : decode cX6_order 73 = .ok (.iaload, 1) := by decide +kernel
theorem dX6_order_74 : decode cX6_order 74 = .ok (.iadd, 1) := by decide +kernel
theorem dX6_order_75 : decode cX6_order 75 = .ok (.sipush 420, 3) := by decide +kernel
theorem dX6_order_78 : decode cX6_order 78 = .ok (.invokevirtual 67, 3) := by decide +kernel
theorem dX6_order_81 : decode cX6_order 81 = .ok (.aload_n 0, 1) := by decide +kernel
theorem dX6_order_82 : decode cX6_order 82 = .ok (.sipush 419, 3) := by decide +kernel
theorem dX6_order_85 : decode cX6_order 85 = .ok (.sipush 420, 3) := by decide +kernel
theorem dX6_order_88 : decode cX6_order 88 = .ok (.invokevirtual 224, 3) := by decide +kernel
theorem dX6_order_91 : decode cX6_order 91 = .ok (.aload_n 0, 1) := by decide +kernel
theorem dX6_order_92 : decode cX6_order 92 = .ok (.bipush 15, 2) := by decide +kernel
theorem dX6_order_94 : decode cX6_order 94 = .ok (.iload 4, 2) := by decide +kernel
theorem dX6_order_96 : decode cX6_order 96 = .ok (.imul, 1) := by decide +kernel
theorem dX6_order_97 : decode cX6_order 97 = .ok (.aload_n 0, 1) := by decide +kernel
theorem dX6_order_98 : decode cX6_order 98 = .ok (.getfield 27, 3) := by decide +kernel
theorem dX6_order_101 : decode cX6_order 101 = .ok (.iload 4, 2) := by decide +kernel
theorem dX6_order_103 : decode cX6_order 103 = .ok (.iaload, 1) := by decide +kernel
theorem dX6_order_104 : decode cX6_order 104 = .ok (.iadd, 1) := by decide +kernel
theorem dX6_order_105 : decode cX6_order 105 = .ok (.sipush 419, 3) := by decide +kernel
theorem dX6_order_108 : decode cX6_order 108 = .ok (.sipush 421, 3) := by decide +kernel
theorem dX6_order_111 : decode cX6_order 111 = .ok (.invokevirtual 91, 3) := by decide +kernel
theorem dX6_order_114 : decode cX6_order 114 = .ok (.iconst 0, 1) := by decide +kernel
theorem dX6_order_115 : decode cX6_order 115 = .ok (.istore 5, 2) := by decide +kernel
theorem dX6_order_117 : decode cX6_order 117 = .ok (.iload 5, 2) := by decide +kernel
theorem dX6_order_119 : decode cX6_order 119 = .ok (.iconst 5, 1) := by decide +kernel
theorem dX6_order_120 : decode cX6_order 120 = .ok (.if_icmp .ge 28, 3) := by decide +kernel
theorem dX6_order_123 : decode cX6_order 123 = .ok (.aload_n 0, 1) := by decide +kernel
theorem dX6_order_124 : decode cX6_order 124 = .ok (.sipush 450, 3) := by decide +kernel
theorem dX6_order_127 : decode cX6_order 127 = .ok (.iload 5, 2) := by decide +kernel
theorem dX6_order_129 : decode cX6_order 129 = .ok (.iadd, 1) := by decide +kernel
theorem dX6_order_130 : decode cX6_order 130 = .ok (.sipush 421, 3) := by decide +kernel
theorem dX6_order_133 : decode cX6_order 133 = .ok (.sipush 450, 3) := by decide +kernel
theorem dX6_order_136 : decode cX6_order 136 = .ok (.iload 5, 2) := by decide +kernel
theorem dX6_order_138 : decode cX6_order 138 = .ok (.iadd, 1) := by decide +kernel
theorem dX6_order_139 : decode cX6_order 139 = .ok (.invokevirtual 97, 3) := by decide +kernel
theorem dX6_order_142 : decode cX6_order 142 = .ok (.iinc 5 1, 3) := by decide +kernel
theorem dX6_order_145 : decode cX6_order 145 = .ok (.goto (-28), 3) := by decide +kernel
theorem dX6_order_148 : decode cX6_order 148 = .ok (.aload_n 0, 1) := by decide +kernel
theorem dX6_order_149 : decode cX6_order 149 = .ok (.sipush 440, 3) := by decide +kernel
theorem dX6_order_152 : decode cX6_order 152 = .ok (.sipush 421, 3) := by decide +kernel
theorem dX6_order_155 : decode cX6_order 155 = .ok (.sipush 440, 3) := by decide +kernel
theorem dX6_order_158 : decode cX6_order 158 = .ok (.invokevirtual 97, 3) := by decide +kernel
theorem dX6_order_161 : decode cX6_order 161 = .ok (.aload_n 0, 1) := by decide +kernel
theorem dX6_order_162 : decode cX6_order 162 = .ok (.sipush 450, 3) := by decide +kernel
theorem dX6_order_165 : decode cX6_order 165 = .ok (.aload_n 0, 1) := by decide +kernel
theorem dX6_order_166 : decode cX6_order 166 = .ok (.getfield 27, 3) := by decide +kernel
theorem dX6_order_169 : decode cX6_order 169 = .ok (.iload 4, 2) := by decide +kernel
theorem dX6_order_171 : decode cX6_order 171 = .ok (.iaload, 1) := by decide +kernel
theorem dX6_order_172 : decode cX6_order 172 = .ok (.iadd, 1) := by decide +kernel
theorem dX6_order_173 : decode cX6_order 173 = .ok (.bipush 15, 2) := by decide +kernel
theorem dX6_order_175 : decode cX6_order 175 = .ok (.iload 4, 2) := by decide +kernel
theorem dX6_order_177 : decode cX6_order 177 = .ok (.imul, 1) := by decide +kernel
theorem dX6_order_178 : decode cX6_order 178 = .ok (.aload_n 0, 1) := by decide +kernel
theorem dX6_order_179 : decode cX6_order 179 = .ok (.getfield 27, 3) := by decide +kernel
theorem dX6_order_182 : decode cX6_order 182 = .ok (.iload 4, 2) := by decide +kernel
theorem dX6_order_184 : decode cX6_order 184 = .ok (.iaload, 1) := by decide +kernel
theorem dX6_order_185 : decode cX6_order 185 = .ok (.iadd, 1) := by decide +kernel
theorem dX6_order_186 : decode cX6_order 186 = .ok (.sipush 416, 3) := by decide +kernel
theorem dX6_order_189 : decode cX6_order 189 = .ok (.invokevirtual 113, 3) := by decide +kernel
theorem dX6_order_192 : decode cX6_order 192 = .ok (.pop, 1) := by decide +kernel
theorem dX6_order_193 : decode cX6_order 193 = .ok (.aload_n 0, 1) := by decide +kernel
theorem dX6_order_194 : decode cX6_order 194 = .ok (.sipush 450, 3) := by decide +kernel
theorem dX6_order_197 : decode cX6_order 197 = .ok (.bipush 15, 2) := by decide +kernel
theorem dX6_order_199 : decode cX6_order 199 = .ok (.iload 4, 2) := by decide +kernel
theorem dX6_order_201 : decode cX6_order 201 = .ok (.imul, 1) := by decide +kernel
theorem dX6_order_202 : decode cX6_order 202 = .ok (.iconst 5, 1) := by decide +kernel
theorem dX6_order_203 : decode cX6_order 203 = .ok (.sipush 416, 3) := by decide +kernel
theorem dX6_order_206 : decode cX6_order 206 = .ok (.invokevirtual 100, 3) := by decide +kernel
theorem dX6_order_209 : decode cX6_order 209 = .ok (.iinc 4 1, 3) := by decide +kernel
theorem dX6_order_212 : decode cX6_order 212 = .ok (.goto (-178), 3) := by decide +kernel
theorem dX6_order_215 : decode cX6_order 215 = .ok (.iconst 0, 1) := by decide +kernel
theorem dX6_order_216 : decode cX6_order 216 = .ok (.istore 4, 2) := by decide +kernel
theorem dX6_order_218 : decode cX6_order 218 = .ok (.iload 4, 2) := by decide +kernel
theorem dX6_order_220 : decode cX6_order 220 = .ok (.iconst 5, 1) := by decide +kernel
theorem dX6_order_221 : decode cX6_order 221 = .ok (.if_icmp .ge 25, 3) := by decide +kernel
theorem dX6_order_224 : decode cX6_order 224 = .ok (.aload_n 0, 1) := by decide +kernel
theorem dX6_order_225 : decode cX6_order 225 = .ok (.getfield 17, 3) := by decide +kernel
theorem dX6_order_228 : decode cX6_order 228 = .ok (.sipush 450, 3) := by decide +kernel
theorem dX6_order_231 : decode cX6_order 231 = .ok (.iload 4, 2) := by decide +kernel
theorem dX6_order_233 : decode cX6_order 233 = .ok (.iadd, 1) := by decide +kernel
theorem dX6_order_234 : decode cX6_order 234 = .ok (.iaload, 1) := by decide +kernel
theorem dX6_order_235 : decode cX6_order 235 = .ok (.ifCond .eq 5, 3) := by decide +kernel
theorem dX6_order_238 : decode cX6_order 238 = .ok (.iconst 0, 1) := by decide +kernel
theorem dX6_order_239 : decode cX6_order 239 = .ok (.ireturn, 1) := by decide +kernel
theorem dX6_order_240 : decode cX6_order 240 = .ok (.iinc 4 1, 3) := by decide +kernel
theorem dX6_order_243 : decode cX6_order 243 = .ok (.goto (-25), 3) := by decide +kernel
theorem dX6_order_246 : decode cX6_order 246 = .ok (.aload_n 0, 1) := by decide +kernel
theorem dX6_order_247 : decode cX6_order 247 = .ok (.sipush 440, 3) := by decide +kernel
theorem dX6_order_250 : decode cX6_order 250 = .ok (.sipush 265, 3) := by decide +kernel
theorem dX6_order_253 : decode cX6_order 253 = .ok (.invokevirtual 67, 3) := by decide +kernel
theorem dX6_order_256 : decode cX6_order 256 = .ok (.aload_n 0, 1) := by decide +kernel
theorem dX6_order_257 : decode cX6_order 257 = .ok (.iconst 1, 1) := by decide +kernel
theorem dX6_order_258 : decode cX6_order 258 = .ok (.iconst 1, 1) := by decide +kernel
theorem dX6_order_259 : decode cX6_order 259 = .ok (.invokevirtual 189, 3) := by decide +kernel
theorem dX6_order_262 : decode cX6_order 262 = .ok (.iconst 1, 1) := by decide +kernel
theorem dX6_order_263 : decode cX6_order 263 = .ok (.ireturn, 1) := by decide +kernel
theorem orj (d : Nat) {g : GX} {V0 : AH} {mo sz x y e n r κ : Nat} {ar ac : Int} {zs : Nat → Int} {Q : AQ} (hb : ∀ j, j < 5 → SmM (zs (450 + j) * zs 421)) (hKK : ∀ {V : AH}, V mo = some (moO mo r κ ar ac) → MN g mo V (muZ zs (zs 421) 5) → (∀ a, ¬ EN mo a → V a = V0 a) → AW g mX6_order (d + 2) 148 [(5, .int (iZ (5 : Nat))), (4, .int (iZ n)), (0, .ref mo), (1, .int (iZ x)), (2, .int (iZ y)), (3, .int (iZ e))] [] V sz Q) : ∀ (f j : Nat), j + f = 5 → ∀ {V : AH}, V mo = some (moO mo r κ ar ac) → MN g mo V (muZ zs (zs 421) j) → (∀ a, ¬ EN mo a → V a = V0 a) → AW g mX6_order (d + 2) 117 [(5, .int (iZ j)), (4, .int (iZ n)), (0, .ref mo), (1, .int (iZ x)), (2, .int (iZ y)), (3, .int (iZ e))] [] V sz Q
  | 0, j, hf, V, hmo, hM, hV => by
    obtain rfl : j = 5 := by omega
    refine aw_iload dX6_order_117 (by rfl) ?_
    refine aw_iconstZ dX6_order_119 ?_
    refine aw_icmp_geZ (tgt := 148) dX6_order_120 (by decide) (by omega) (by omega) (fun hc_120 => ?_) (fun hc_120 => ?_)
    · exact hKK hmo hM hV
    · exact absurd hc_120 (by omega)
  | f + 1, j, hf, V, hmo, hM, hV => by
    have IH := fun j hj => @orj d g V0 mo sz x y e n r κ ar ac zs Q hb hKK f j hj
    refine aw_iload dX6_order_117 (by rfl) ?_
    refine aw_iconstZ dX6_order_119 ?_
    refine aw_icmp_geZ (tgt := 148) dX6_order_120 (by decide) (by omega) (by omega) (fun hc_120 => ?_) (fun hc_120 => ?_)
    · exact absurd hc_120 (by omega)
    · refine aw_aload_n dX6_order_123 (by rfl) (Or.inr ⟨_, rfl⟩) ?_
      refine aw_sipushZ dX6_order_124 (by decide) ?_
      refine aw_iload dX6_order_127 (by rfl) ?_
      refine aw_iaddZ dX6_order_129 ?_
      refine aw_sipushZ dX6_order_130 (by decide) ?_
      refine aw_sipushZ dX6_order_133 (by decide) ?_
      refine aw_iload dX6_order_136 (by rfl) ?_
      refine aw_iaddZ dX6_order_138 ?_
      rw [show (450 : Int) + (j : Int) = ((450 + j : Nat) : Int) by omega]
      show AW _ _ _ _ _ (_ :: .int (iZ ((421 : Nat) : Int)) :: _) _ _ _
      refine aw_callv vX6_97 dX6_order_139 hmo (m_multiplies g d (a := 450 + j) (e := 421) (c := 450 + j) ⟨_, _, _, _, hmo⟩ hM (by omega) (by omega) (by omega) (by rw [muZ.ne (by omega), muZ.ne (by omega)]; exact hb j (by omega))) (by rfl) (by rfl) (by omega) (Nat.le_of_ble_eq_true rfl) ?_
      rintro _ V1 _ _ _ ⟨rfl, rfl, rfl, hE1, rfl, hM1⟩ -
      refine q0 ?_
      rw [muZ.ne (q := 450 + j) (by omega), muZ.ne (q := 421) (by omega), muZ.up] at hM1
      refine aw_iincZ dX6_order_142 (by rfl) (by decide) ?_
      refine aw_goto (tgt := 117) dX6_order_145 (by decide) ?_
      rw [show ((j : Int) + 1) = ((j + 1 : Nat) : Int) by omega]
      refine aw_pk [5, 4, 0, 1, 2, 3] (by rfl) ?_
      exact IH (j + 1) (by omega) ((hE1 mo (by unfold EN; omega)).trans hmo) hM1 (fun a ha => (hE1 a ha).trans (hV a ha))
theorem orn (d : Nat) {g : GX} {V0 : AH} {mo sz x y e r κ : Nat} {ar ac K : Int} {z0 RW : Nat → Int} {l : Nat → Nat} {Q : AQ} (hE0 : Ech (B5 z0) r 5 l) (hr : r ≤ 5) (hra : V0 (mo + 6) = some (aIz g 11 RW)) (hl : ∀ i, i < r → RW i = (l i : Int)) (hp0 : ∀ i, i < r → 0 < z0 (15 * i + l i)) (hK : 1 ≤ K) (hBK : ∀ i j, i < r → j < 5 → ab (z0 (15 * i + j)) ≤ K) (hSm : SmM (OXn K 5)) (hKK : ∀ {V : AH} {z : Nat → Int}, V mo = some (moO mo r κ ar ac) → MN g mo V z → (∀ a, ¬ EN mo a → V a = V0 a) → OrI z0 r l K z r → AW g mX6_order (d + 3) 215 [(4, .int (iZ r)), (0, .ref mo), (1, .int (iZ x)), (2, .int (iZ y)), (3, .int (iZ e))] [] V sz Q) : ∀ (f n : Nat), n + f = r → ∀ {V : AH} {z : Nat → Int}, V mo = some (moO mo r κ ar ac) → MN g mo V z → (∀ a, ¬ EN mo a → V a = V0 a) → OrI z0 r l K z n → AW g mX6_order (d + 3) 34 [(4, .int (iZ n)), (0, .ref mo), (1, .int (iZ x)), (2, .int (iZ y)), (3, .int (iZ e))] [] V sz Q
  | 0, n, hf, V, z, hmo, hM, hV, hI => by
    obtain rfl : n = r := by omega
    refine aw_iload dX6_order_34 (by rfl) ?_
    refine aw_aload_n dX6_order_36 (by rfl) (Or.inr ⟨_, rfl⟩) ?_
    refine aw_get fX6_117 dX6_order_37 hmo (by rfl) ?_
    refine aw_icmp_geZ (tgt := 215) dX6_order_40 (by decide) (by omega) (by omega) (fun hc_40 => ?_) (fun hc_40 => ?_)
    · exact hKK hmo hM hV hI
    · exact absurd hc_40 (by omega)
  | f + 1, n, hf, V, z, hmo, hM, hV, hI => by
    have IH := fun n hn => @orn d g V0 mo sz x y e r κ ar ac K z0 RW l Q hE0 hr hra hl hp0 hK hBK hSm hKK f n hn
    have hraV := (hV (mo + 6) (by unfold EN; omega)).trans hra
    have hln := hl n (by omega)
    have hl5 := (hE0.1 n (by omega)).1
    have hp := hp0 n (by omega)
    obtain ⟨I1, I2, I3, I4⟩ := id hI
    have hzp : z (15 * n + l n) = z0 (15 * n + l n) := I2 _ (by unfold InO; omega)
    obtain ⟨x1, x2⟩ := oxn_pos hK n
    have x3 := oxn_le hK (show n + 1 ≤ 5 by omega)
    obtain ⟨g1, g2, -⟩ := gcd_mul (W := z (450 + l n)) hp
    have hpK : z0 (15 * n + l n) ≤ K := by have := hBK n (l n) (by omega) hl5; rwa [ab_pos (by omega)] at this
    refine aw_iload dX6_order_34 (by rfl) ?_
    refine aw_aload_n dX6_order_36 (by rfl) (Or.inr ⟨_, rfl⟩) ?_
    refine aw_get fX6_117 dX6_order_37 hmo (by rfl) ?_
    refine aw_icmp_geZ (tgt := 215) dX6_order_40 (by decide) (by omega) (by omega) (fun hc_40 => ?_) (fun hc_40 => ?_)
    · exact absurd hc_40 (by omega)
    · refine aw_aload_n dX6_order_43 (by rfl) (Or.inr ⟨_, rfl⟩) ?_
      refine aw_bipushZ dX6_order_44 (by decide) ?_
      refine aw_iload dX6_order_46 (by rfl) ?_
      refine aw_imulZ dX6_order_48 ?_
      refine aw_aload_n dX6_order_49 (by rfl) (Or.inr ⟨_, rfl⟩) ?_
      refine aw_get fX6_27 dX6_order_50 hmo (by rfl) ?_
      refine aw_iload dX6_order_53 (by rfl) ?_
      refine aw_ialdZ (n) dX6_order_55 hraV (by omega) (by omega) (by omega) ?_
      refine aw_iaddZ dX6_order_56 ?_
      refine aw_sipushZ dX6_order_57 (by decide) ?_
      rw [hln, show (15 : Int) * (n : Int) + (l n : Int) = ((15 * n + l n : Nat) : Int) by omega]
      show AW _ _ _ _ _ (.int (iZ ((419 : Nat) : Int)) :: _) _ _ _
      refine aw_callv vX6_67 dX6_order_60 hmo (m_copies g (d + 2) (a := 15 * n + l n) (c := 419) ⟨_, _, _, _, hmo⟩ hM (by omega) (by omega)) (by rfl) (by rfl) (by omega) (Nat.le_of_ble_eq_true rfl) ?_
      rintro _ V1 _ _ _ ⟨rfl, rfl, rfl, hE1, rfl, hM1⟩ -
      refine q0 ?_
      have hmo1 := (hE1 mo (by unfold EN; omega)).trans hmo
      have hra1 := (hE1 (mo + 6) (by unfold EN; omega)).trans hraV
      rw [hzp] at hM1
      refine aw_aload_n dX6_order_63 (by rfl) (Or.inr ⟨_, rfl⟩) ?_
      refine aw_sipushZ dX6_order_64 (by decide) ?_
      refine aw_aload_n dX6_order_67 (by rfl) (Or.inr ⟨_, rfl⟩) ?_
      refine aw_get fX6_27 dX6_order_68 hmo1 (by rfl) ?_
      refine aw_iload dX6_order_71 (by rfl) ?_
      refine aw_ialdZ (n) dX6_order_73 hra1 (by omega) (by omega) (by omega) ?_
      refine aw_iaddZ dX6_order_74 ?_
      refine aw_sipushZ dX6_order_75 (by decide) ?_
      rw [hln, show (450 : Int) + (l n : Int) = ((450 + l n : Nat) : Int) by omega]
      show AW _ _ _ _ _ (.int (iZ ((420 : Nat) : Int)) :: _) _ _ _
      refine aw_callv vX6_67 dX6_order_78 hmo1 (m_copies g (d + 2) (a := 450 + l n) (c := 420) ⟨_, _, _, _, hmo1⟩ hM1 (by omega) (by omega)) (by rfl) (by rfl) (by omega) (Nat.le_of_ble_eq_true rfl) ?_
      rintro _ V2 _ _ _ ⟨rfl, rfl, rfl, hE2, rfl, hM2⟩ -
      refine q0 ?_
      have hmo2 := (hE2 mo (by unfold EN; omega)).trans hmo1
      have hra2 := (hE2 (mo + 6) (by unfold EN; omega)).trans hra1
      rw [upF_ne _ _ (show 450 + l n ≠ 419 by omega)] at hM2
      refine aw_aload_n dX6_order_81 (by rfl) (Or.inr ⟨_, rfl⟩) ?_
      refine aw_sipushZ dX6_order_82 (by decide) ?_
      refine aw_sipushZ dX6_order_85 (by decide) ?_
      show AW _ _ _ _ _ (.int (iZ ((420 : Nat) : Int)) :: .int (iZ ((419 : Nat) : Int)) :: _) _ _ _
      refine aw_callv vX6_224 dX6_order_88 hmo2 (m_commonOf g d (a := 419) (e := 420) hmo2 hM2 (by omega) (by omega) (by omega) (by omega) (by omega)) (by rfl) (by rfl) (by omega) (Nat.le_of_ble_eq_true rfl) ?_
      rintro _ V3 _ _ _ ⟨rfl, rfl, rfl, hE3, rfl, z3, hM3, hg3, h03, hC3⟩ -
      refine q0 ?_
      have hmo3 := (hE3 mo (by unfold EN; omega)).trans hmo2
      have hra3 := (hE3 (mo + 6) (by unfold EN; omega)).trans hra2
      rw [upF_ne _ _ (show 419 ≠ 420 by omega), upF_self, upF_self] at hg3
      have hz3 : ∀ q, ¬ (415 ≤ q ∧ q ≤ 421) → z3 q = z q := fun q hq => by rw [hC3 q (by omega) (by omega) (by omega), upF_ne _ _ (by omega), upF_ne _ _ (by omega)]
      refine aw_aload_n dX6_order_91 (by rfl) (Or.inr ⟨_, rfl⟩) ?_
      refine aw_bipushZ dX6_order_92 (by decide) ?_
      refine aw_iload dX6_order_94 (by rfl) ?_
      refine aw_imulZ dX6_order_96 ?_
      refine aw_aload_n dX6_order_97 (by rfl) (Or.inr ⟨_, rfl⟩) ?_
      refine aw_get fX6_27 dX6_order_98 hmo3 (by rfl) ?_
      refine aw_iload dX6_order_101 (by rfl) ?_
      refine aw_ialdZ (n) dX6_order_103 hra3 (by omega) (by omega) (by omega) ?_
      refine aw_iaddZ dX6_order_104 ?_
      refine aw_sipushZ dX6_order_105 (by decide) ?_
      refine aw_sipushZ dX6_order_108 (by decide) ?_
      rw [hln, show (15 : Int) * (n : Int) + (l n : Int) = ((15 * n + l n : Nat) : Int) by omega]
      show AW _ _ _ _ _ (.int (iZ ((421 : Nat) : Int)) :: .int (iZ ((419 : Nat) : Int)) :: _) _ _ _
      refine aw_callv vX6_91 dX6_order_111 hmo3 (m_div g (d + 1) (a := 15 * n + l n) (e := 419) (c := 421) hmo3 hM3 (by omega) (by omega) (by omega) (by omega) (by omega) (by rw [hg3]; intro z; rw [z, Int.ediv_zero] at g1; omega)) (by rfl) (by rfl) (by omega) (Nat.le_of_ble_eq_true rfl) ?_
      rintro _ V4 _ _ _ ⟨rfl, rfl, rfl, hE4, rfl, hM4⟩ -
      refine q0 ?_
      have hmo4 := (hE4 mo (by unfold EN; omega)).trans hmo3
      have hra4 := (hE4 (mo + 6) (by unfold EN; omega)).trans hra3
      rw [hg3, hz3 _ (by omega), hzp, Int.tdiv_eq_ediv_of_nonneg (Int.le_of_lt hp)] at hM4
      generalize hu : z0 (15 * n + l n) / ((Int.gcd (z0 (15 * n + l n)) (z (450 + l n)) : Nat) : Int) = u at *
      have hz4 : ∀ q, ¬ (415 ≤ q ∧ q ≤ 421) → upF z3 421 u q = z q := fun q hq => by rw [upF_ne _ _ (by omega)]; exact hz3 q hq
      refine aw_iconstZ dX6_order_114 ?_
      refine aw_istore dX6_order_115 (by decide) ?_
      refine aw_pk [5, 4, 0, 1, 2, 3] (by rfl) ?_
      have hbb := fun (a : Int) (ha : ab a ≤ OXn K n) (j : Nat) (hj : j < 5) => or_bd hK x1 hp ⟨g1, Int.le_trans g2 hpK⟩ ha (I3 (l n) hl5) (hBK n j (by omega) hj)
      rw [← x2] at hbb
      refine orj (d + 1) (V0 := V4) (zs := upF z3 421 u) (n := n) (fun j hj => by rw [upF_self, hz4 _ (by omega)]; exact sm_le (Int.le_trans (hbb _ (I3 j hj) j hj).1 x3) hSm) (fun {V5} hmo5 hM5 hV5 => ?_) 5 0 (by omega) hmo4 (by rw [muZ.nil]; exact hM4) (fun _ _ => rfl)
      rw [upF_self] at hM5
      have hra5 := (hV5 (mo + 6) (by unfold EN; omega)).trans hra4
      have m440 : muZ (upF z3 421 u) u 5 440 = z 440 := by rw [muZ.ne (by omega), hz4 _ (by omega)]
      have m421 : muZ (upF z3 421 u) u 5 421 = u := by rw [muZ.ne (by omega), upF_self]
      have mrow : ∀ j, j < 5 → muZ (upF z3 421 u) u 5 (450 + j) = z (450 + j) * u := fun j hj => by rw [muZ.at hj, hz4 _ (by omega)]
      have mlow : ∀ q, ¬ InO q → muZ (upF z3 421 u) u 5 q = z q := fun q hq => by unfold InO at hq; rw [muZ.ne (by omega), hz4 _ (by omega)]
      generalize muZ (upF z3 421 u) u 5 = z5 at *
      refine aw_aload_n dX6_order_148 (by rfl) (Or.inr ⟨_, rfl⟩) ?_
      refine aw_sipushZ dX6_order_149 (by decide) ?_
      refine aw_sipushZ dX6_order_152 (by decide) ?_
      refine aw_sipushZ dX6_order_155 (by decide) ?_
      show AW _ _ _ _ _ (.int (iZ ((440 : Nat) : Int)) :: .int (iZ ((421 : Nat) : Int)) :: .int (iZ ((440 : Nat) : Int)) :: _) _ _ _
      refine aw_callv vX6_97 dX6_order_158 hmo5 (m_multiplies g (d + 1) (a := 440) (e := 421) (c := 440) ⟨_, _, _, _, hmo5⟩ hM5 (by omega) (by omega) (by omega) (by rw [m440, m421]; exact sm_le (Int.le_trans (hbb _ I4 0 (by omega)).1 x3) hSm)) (by rfl) (by rfl) (by omega) (Nat.le_of_ble_eq_true rfl) ?_
      rintro _ V6 _ _ _ ⟨rfl, rfl, rfl, hE6, rfl, hM6⟩ -
      refine q0 ?_
      have hmo6 := (hE6 mo (by unfold EN; omega)).trans hmo5
      have hra6 := (hE6 (mo + 6) (by unfold EN; omega)).trans hra5
      rw [m440, m421] at hM6
      refine aw_aload_n dX6_order_161 (by rfl) (Or.inr ⟨_, rfl⟩) ?_
      refine aw_sipushZ dX6_order_162 (by decide) ?_
      refine aw_aload_n dX6_order_165 (by rfl) (Or.inr ⟨_, rfl⟩) ?_
      refine aw_get fX6_27 dX6_order_166 hmo6 (by rfl) ?_
      refine aw_iload dX6_order_169 (by rfl) ?_
      refine aw_ialdZ (n) dX6_order_171 hra6 (by omega) (by omega) (by omega) ?_
      refine aw_iaddZ dX6_order_172 ?_
      refine aw_bipushZ dX6_order_173 (by decide) ?_
      refine aw_iload dX6_order_175 (by rfl) ?_
      refine aw_imulZ dX6_order_177 ?_
      refine aw_aload_n dX6_order_178 (by rfl) (Or.inr ⟨_, rfl⟩) ?_
      refine aw_get fX6_27 dX6_order_179 hmo6 (by rfl) ?_
      refine aw_iload dX6_order_182 (by rfl) ?_
      refine aw_ialdZ (n) dX6_order_184 hra6 (by omega) (by omega) (by omega) ?_
      refine aw_iaddZ dX6_order_185 ?_
      refine aw_sipushZ dX6_order_186 (by decide) ?_
      rw [hln, show (450 : Int) + (l n : Int) = ((450 + l n : Nat) : Int) by omega, show (15 : Int) * (n : Int) + (l n : Int) = ((15 * n + l n : Nat) : Int) by omega]
      show AW _ _ _ _ _ (.int (iZ ((416 : Nat) : Int)) :: _) _ _ _
      refine aw_callv vX6_113 dX6_order_189 hmo6 (m_floors g d (a := 450 + l n) (e := 15 * n + l n) (c := 416) ⟨_, _, _, _, hmo6⟩ hM6 (by omega) (by omega) (by omega) (by omega) (by omega) (by omega) (by rw [upF_ne _ _ (by omega), mlow _ (by unfold InO; omega), hzp]; exact hp)) (by rfl) (by rfl) (by omega) (Nat.le_of_ble_eq_true rfl) ?_
      rintro _ V7 _ _ _ ⟨rfl, rfl, rfl, hE7, rfl, z7, hM7, hz7⟩ -
      refine q0 ?_
      have hmo7 := (hE7 mo (by unfold EN; omega)).trans hmo6
      rw [upF_ne _ _ (show 450 + l n ≠ 440 by omega), upF_ne _ _ (show 15 * n + l n ≠ 440 by omega), mrow _ hl5, mlow _ (by unfold InO; omega), hzp] at hz7
      have hq7 : z7 416 = z (450 + l n) * u / z0 (15 * n + l n) := by rw [hz7 _ (by omega), upF_self]
      have hn7 : ∀ q, q ≠ 415 → q ≠ 416 → q ≠ 440 → z7 q = z5 q := fun q h1 h2 h3 => by rw [hz7 q h1, upF_ne _ _ h2, upF_ne _ _ h3]
      have h74 : z7 440 = z 440 * u := by rw [hz7 _ (by omega), upF_ne _ _ (by omega), upF_self]
      have hlw : ∀ j, j < 5 → z7 (15 * n + j) = z0 (15 * n + j) := fun j hj => by rw [hn7 _ (by omega) (by omega) (by omega), mlow _ (by unfold InO; omega), I2 _ (by unfold InO; omega)]
      refine aw_pop dX6_order_192 rfl ?_
      refine aw_aload_n dX6_order_193 (by rfl) (Or.inr ⟨_, rfl⟩) ?_
      refine aw_sipushZ dX6_order_194 (by decide) ?_
      refine aw_bipushZ dX6_order_197 (by decide) ?_
      refine aw_iload dX6_order_199 (by rfl) ?_
      refine aw_imulZ dX6_order_201 ?_
      refine aw_iconstZ dX6_order_202 ?_
      refine aw_sipushZ dX6_order_203 (by decide) ?_
      rw [show (15 : Int) * (n : Int) = ((15 * n : Nat) : Int) by omega]
      show AW _ _ _ _ _ (.int (iZ ((416 : Nat) : Int)) :: .int (iZ ((5 : Nat) : Int)) :: _ :: .int (iZ ((450 : Nat) : Int)) :: _) _ _ _
      refine aw_callv vX6_100 dX6_order_206 hmo7 (m_takesRow g d (a := 450) (e := 15 * n) (n := 5) (f := 416) ⟨_, _, _, _, hmo7⟩ hM7 (by omega) (by omega) (by omega) (by omega) (fun j hj => by rw [hq7, hlw j hj]; exact sm_le (Int.le_trans (hbb _ (I3 j hj) j hj).2.1 x3) hSm) (fun j hj => by rw [hq7, hlw j hj, hn7 _ (by omega) (by omega) (by omega), mrow j hj]; exact sm_le (Int.le_trans (hbb _ (I3 j hj) j hj).2.2 x3) hSm)) (by rfl) (by rfl) (by omega) (Nat.le_of_ble_eq_true rfl) ?_
      rintro _ V8 _ _ _ ⟨rfl, rfl, rfl, hE8, rfl, z8, hM8, hT8⟩ -
      refine q0 ?_
      refine aw_iincZ dX6_order_209 (by rfl) (by decide) ?_
      refine aw_goto (tgt := 34) dX6_order_212 (by decide) ?_
      rw [show ((n : Int) + 1) = ((n + 1 : Nat) : Int) by omega]
      refine aw_pk [4, 0, 1, 2, 3] (by rfl) ?_
      refine IH (n + 1) (by omega) ((hE8 mo (by unfold EN; omega)).trans hmo7) hM8 (fun a ha => (hE8 a ha).trans ((hE7 a ha).trans ((hE6 a ha).trans ((hV5 a ha).trans ((hE4 a ha).trans ((hE3 a ha).trans ((hE2 a ha).trans ((hE1 a ha).trans (hV a ha))))))))) (hI.step hE0 (by omega) hp hK (fun j hj => hBK n j (by omega) hj) hu.symm rfl ?_ (fun j hj => ?_) (fun q hq => ?_) ⟨g1, Int.le_trans g2 hpK⟩)
      · rw [hT8 _ (by omega), if_neg (by omega), h74]
      · rw [hT8 _ (by omega), if_pos (by omega), hq7, hn7 _ (by omega) (by omega) (by omega), mrow j hj, show 15 * n + (450 + j - 450) = 15 * n + j by omega, hlw j hj]
      · unfold InO at hq
        rw [hT8 _ (by omega), if_neg (by omega), hn7 _ (by omega) (by omega) (by omega), mlow _ (by unfold InO; omega)]
