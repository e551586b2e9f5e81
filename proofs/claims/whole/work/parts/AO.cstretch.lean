/-! ===== the class: order ===== -/
theorem CX.zs2 {g : GX} {b : Nat} {X : Nat → Prop} {V V' : AH} {Z Z' : Nat → Int} {S : TSt} {A : ASt} (h : CX g b X V Z S A) (hV : ∀ a, SAB b X a → V' a = V a) (hZ : ∀ x, (x < b + 9 ∨ b + 17 ≤ x) → x < b + 159 ∨ DK b x → Z' x = Z x) : CX g b X V' Z' S A := by
  obtain ⟨hB, hTb, hOk, hD, hT, hA, hW, hSc, hTh, hAs, hFa, hMa, hMi⟩ := h
  refine ⟨⟨(hV _ (Or.inl rfl)).trans hB.1, (hV _ (Or.inr (Or.inl rfl))).trans hB.2⟩, fun t ht => (hTb t ht).kept (hV _ (tb_sab ht).1) (hV _ (tb_sab ht).2.1) (hV _ (tb_sab ht).2.2), hOk, hD.keep (fun a ha _ => hV a ha) (fun x q => hZ x (by omega) (by rcases q with q | q; (exact Or.inl (by omega)); (exact Or.inr q))), ?_, hA, ?_, ?_, ?_, hAs.kept (hV _ (sab_r (by omega))) (hV _ (sab_r (by omega))), hFa.kept (hV _ (sab_r (by omega))) (hV _ (sab_r (by omega))), ?_, ?_⟩
  · obtain ⟨ld, ρ, h1, h2⟩ := hT
    refine ⟨ld, ρ, h1.kept2 (fun a ha => hV a (sab_gT ha).1), fun i j hi hj => ?_⟩
    rw [← h2 i j hi hj]
    have hRS := h1.2.2.2.2.1 i (show i < 10 by have := hA.2.1; omega)
    have h3 := gl_cell (t0 := b + 17) (mr := 10) (mc := 5) hRS (show j < 5 by have := hA.2.2.1; omega)
    have h4 : b + 17 + 24 ≤ (GT b).ga (ρ i) j ∧ (GT b).ga (ρ i) j < b + 17 + 22 + (2 + 2 * 5) * 10 := h3
    exact hZ _ (by omega) (by omega)
  · obtain ⟨h, w, ld, ρ, h1⟩ := hW
    exact ⟨h, w, ld, ρ, h1.kept2 (fun a ha => hV a (sab_gW ha).1)⟩
  · obtain ⟨h, w, ld, ρ, h1⟩ := hSc
    exact ⟨h, w, ld, ρ, h1.kept2 (fun a ha => hV a (sab_gS ha).1)⟩
  · obtain ⟨h, w, ld, ρ, h1⟩ := hTh
    exact ⟨h, w, ld, ρ, h1.kept2 (fun a ha => hV a (sab_gH ha).1)⟩
  · obtain ⟨F, h1⟩ := hMa
    exact ⟨F, (hV _ (sab_t (by omega))).trans h1⟩
  · obtain ⟨F, h1⟩ := hMi
    exact ⟨F, (hV _ (sab_t (by omega))).trans h1⟩
theorem us_dk {b i : Nat} (hi : 3 ≤ i ∧ i < 7) : US (wsB b) (DB b) (b + 3 + 2 * i) := ⟨mem_ws.mpr (Or.inl ⟨i, by omega, Or.inl rfl⟩), by show b + 3 + 2 * i ≠ b + 3; omega, by show b + 3 + 2 * i ≠ b + 5; omega, by show b + 3 + 2 * i ≠ b + 7; omega⟩
theorem dkx_b (b : Nat) : DKX (wsB b) (DB b) := by
  refine ⟨⟨us_dk (i := 3) (by omega), us_dk (i := 4) (by omega), us_dk (i := 5) (by omega), us_dk (i := 6) (by omega)⟩, ?_⟩
  show b + 9 ≠ b + 11 ∧ b + 9 ≠ b + 13 ∧ b + 9 ≠ b + 15 ∧ b + 11 ≠ b + 13 ∧ b + 11 ≠ b + 15 ∧ b + 13 ≠ b + 15
  omega
theorem ndk {b x : Nat} (h : x < b + 9 ∨ b + 16 ≤ x) : nDk (DB b) x := by
  show x ≠ b + 9 ∧ x ≠ b + 11 ∧ x ≠ b + 13 ∧ x ≠ b + 15
  omega
/-- the asked row and the multiple stretched by u -/
def StI (b lk w : Nat) (Z0 : Nat → Int) (u : Int) (Z : Nat → Int) : Prop := Z (b + 635) = Z0 (b + 635) * u ∧ (∀ j, lk ≤ j → j < w → Z (b + 613 + 2 * j) = Z0 (b + 613 + 2 * j) * u) ∧ ∀ q, (q < b + 9 ∨ b + 17 ≤ q) → q ≠ b + 635 → q ≠ b + 637 → q ≠ b + 639 → (∀ j, lk ≤ j → j < w → q ≠ b + 613 + 2 * j) → Z q = Z0 q
/-- what stretchTo has done -/
def StE (b lk w : Nat) (Z0 : Nat → Int) (u q : Int) (B : Nat → Int) (Z : Nat → Int) : Prop := Z (b + 635) = Z0 (b + 635) * u ∧ (∀ j, lk ≤ j → j < w → Z (b + 613 + 2 * j) = Z0 (b + 613 + 2 * j) * u - q * B j) ∧ ∀ q, (q < b + 9 ∨ b + 17 ≤ q) → q ≠ b + 635 → q ≠ b + 637 → q ≠ b + 639 → (∀ j, lk ≤ j → j < w → q ≠ b + 613 + 2 * j) → Z q = Z0 q
theorem ab_mulle {x y a c : Int} (h1 : ab x ≤ a) (h2 : ab y ≤ c) (ha : 0 ≤ a) : ab (x * y) ≤ a * c := by
  rw [ab_mul]; exact Int.mul_le_mul h1 h2 (ab0 _) ha
theorem ab_div {a p : Int} (hp : 0 < p) : ab (a / p) ≤ ab a := by
  have := fl_abs (a := a) hp
  unfold ab; omega
abbrev mX5_stretchTo : MI := (yX5_stretchTo, cX5_stretchTo, 8, none, noX)
theorem dX5_stretchTo_0 : decode cX5_stretchTo 0 = .ok (.aload_n 1, 1) := by decide +kernel
theorem dX5_stretchTo_1 : decode cX5_stretchTo 1 = .ok (.getfield 257, 3) := by decide +kernel
theorem dX5_stretchTo_4 : decode cX5_stretchTo 4 = .ok (.iload_n 2, 1) := by decide +kernel
theorem dX5_stretchTo_5 : decode cX5_stretchTo 5 = .ok (.iaload, 1) := by decide +kernel
theorem dX5_stretchTo_6 : decode cX5_stretchTo 6 = .ok (.istore 4, 2) := by decide +kernel
theorem dX5_stretchTo_8 : decode cX5_stretchTo 8 = .ok (.aload_n 0, 1) := by decide +kernel
theorem dX5_stretchTo_9 : decode cX5_stretchTo 9 = .ok (.getfield 53, 3) := by decide +kernel
theorem dX5_stretchTo_12 : decode cX5_stretchTo 12 = .ok (.getfield 151, 3) := by decide +kernel
theorem dX5_stretchTo_15 : decode cX5_stretchTo 15 = .ok (.iconst 1, 1) := by decide +kernel
theorem dX5_stretchTo_16 : decode cX5_stretchTo 16 = .ok (.aaload, 1) := by decide +kernel
theorem dX5_stretchTo_17 : decode cX5_stretchTo 17 = .ok (.astore 5, 2) := by decide +kernel
theorem dX5_stretchTo_19 : decode cX5_stretchTo 19 = .ok (.aload_n 0, 1) := by decide +kernel
theorem dX5_stretchTo_20 : decode cX5_stretchTo 20 = .ok (.getfield 53, 3) := by decide +kernel
theorem dX5_stretchTo_23 : decode cX5_stretchTo 23 = .ok (.getfield 151, 3) := by decide +kernel
theorem dX5_stretchTo_26 : decode cX5_stretchTo 26 = .ok (.iconst 2, 1) := by decide +kernel
theorem dX5_stretchTo_27 : decode cX5_stretchTo 27 = .ok (.aaload, 1) := by decide +kernel
theorem dX5_stretchTo_28 : decode cX5_stretchTo 28 = .ok (.astore 6, 2) := by decide +kernel
theorem dX5_stretchTo_30 : decode cX5_stretchTo 30 = .ok (.aload_n 0, 1) := by decide +kernel
theorem dX5_stretchTo_31 : decode cX5_stretchTo 31 = .ok (.getfield 18, 3) := by decide +kernel
theorem dX5_stretchTo_34 : decode cX5_stretchTo 34 = .ok (.aload_n 0, 1) := by decide +kernel
theorem dX5_stretchTo_35 : decode cX5_stretchTo 35 = .ok (.getfield 49, 3) := by decide +kernel
theorem dX5_stretchTo_38 : decode cX5_stretchTo 38 = .ok (.getfield 151, 3) := by decide +kernel
theorem dX5_stretchTo_41 : decode cX5_stretchTo 41 = .ok (.iload 4, 2) := by decide +kernel
theorem dX5_stretchTo_43 : decode cX5_stretchTo 43 = .ok (.aaload, 1) := by decide +kernel
theorem dX5_stretchTo_44 : decode cX5_stretchTo 44 = .ok (.aload_n 1, 1) := by decide +kernel
theorem dX5_stretchTo_45 : decode cX5_stretchTo 45 = .ok (.getfield 141, 3) := by decide +kernel
theorem dX5_stretchTo_48 : decode cX5_stretchTo 48 = .ok (.iload_n 2, 1) := by decide +kernel
theorem dX5_stretchTo_49 : decode cX5_stretchTo 49 = .ok (.aaload, 1) := by decide +kernel
theorem dX5_stretchTo_50 : decode cX5_stretchTo 50 = .ok (.getfield 151, 3) := by decide +kernel
theorem dX5_stretchTo_53 : decode cX5_stretchTo 53 = .ok (.iload 4, 2) := by decide +kernel
theorem dX5_stretchTo_55 : decode cX5_stretchTo 55 = .ok (.aaload, 1) := by decide +kernel
theorem dX5_stretchTo_56 : decode cX5_stretchTo 56 = .ok (.aload 6, 2) := by decide +kernel
theorem dX5_stretchTo_58 : decode cX5_stretchTo 58 = .ok (.invokevirtual 260, 3) := by decide +kernel
theorem dX5_stretchTo_61 : decode cX5_stretchTo 61 = .ok (.aload_n 0, 1) := by decide +kernel
theorem dX5_stretchTo_62 : decode cX5_stretchTo 62 = .ok (.getfield 18, 3) := by decide +kernel
theorem dX5_stretchTo_65 : decode cX5_stretchTo 65 = .ok (.aload_n 1, 1) := by decide +kernel
theorem dX5_stretchTo_66 : decode cX5_stretchTo 66 = .ok (.getfield 141, 3) := by decide +kernel
theorem dX5_stretchTo_69 : decode cX5_stretchTo 69 = .ok (.iload_n 2, 1) := by decide +kernel
theorem dX5_stretchTo_70 : decode cX5_stretchTo 70 = .ok (.aaload, 1) := by decide +kernel
theorem dX5_stretchTo_71 : decode cX5_stretchTo 71 = .ok (.getfield 151, 3) := by decide +kernel
theorem dX5_stretchTo_74 : decode cX5_stretchTo 74 = .ok (.iload 4, 2) := by decide +kernel
theorem dX5_stretchTo_76 : decode cX5_stretchTo 76 = .ok (.aaload, 1) := by decide +kernel
theorem dX5_stretchTo_77 : decode cX5_stretchTo 77 = .ok (.aload 6, 2) := by decide +kernel
theorem dX5_stretchTo_79 : decode cX5_stretchTo 79 = .ok (.aload 5, 2) := by decide +kernel
theorem dX5_stretchTo_81 : decode cX5_stretchTo 81 = .ok (.invokevirtual 212, 3) := by decide +kernel
theorem dX5_stretchTo_84 : decode cX5_stretchTo 84 = .ok (.aload 5, 2) := by decide +kernel
theorem dX5_stretchTo_86 : decode cX5_stretchTo 86 = .ok (.lconst 1, 1) := by decide +kernel
theorem dX5_stretchTo_87 : decode cX5_stretchTo 87 = .ok (.invokevirtual 237, 3) := by decide +kernel
theorem dX5_stretchTo_90 : decode cX5_stretchTo 90 = .ok (.ifCond .ne 68, 3) := by decide +kernel
theorem dX5_stretchTo_93 : decode cX5_stretchTo 93 = .ok (.aload 6, 2) := by decide +kernel
theorem dX5_stretchTo_95 : decode cX5_stretchTo 95 = .ok (.aload_n 3, 1) := by decide +kernel
theorem dX5_stretchTo_96 : decode cX5_stretchTo 96 = .ok (.aload 5, 2) := by decide +kernel
theorem dX5_stretchTo_98 : decode cX5_stretchTo 98 = .ok (.invokevirtual 263, 3) := by decide +kernel
theorem dX5_stretchTo_101 : decode cX5_stretchTo 101 = .ok (.aload_n 3, 1) := by decide +kernel
theorem dX5_stretchTo_102 : decode cX5_stretchTo 102 = .ok (.aload 6, 2) := by decide +kernel
theorem dX5_stretchTo_104 : decode cX5_stretchTo 104 = .ok (.invokevirtual 192, 3) := by decide +kernel
theorem dX5_stretchTo_107 : decode cX5_stretchTo 107 = .ok (.iload 4, 2) := by decide +kernel
theorem dX5_stretchTo_109 : decode cX5_stretchTo 109 = .ok (.istore 7, 2) := by decide +kernel
theorem dX5_stretchTo_111 : decode cX5_stretchTo 111 = .ok (.iload 7, 2) := by decide +kernel
theorem dX5_stretchTo_113 : decode cX5_stretchTo 113 = .ok (.aload_n 1, 1) := by decide +kernel
theorem dX5_stretchTo_114 : decode cX5_stretchTo 114 = .ok (.getfield 114, 3) := by decide +kernel
theorem dX5_stretchTo_117 : decode cX5_stretchTo 117 = .ok (.if_icmp .ge 41, 3) := by decide +kernel
theorem dX5_stretchTo_120 : decode cX5_stretchTo 120 = .ok (.aload 6, 2) := by decide +kernel
theorem dX5_stretchTo_122 : decode cX5_stretchTo 122 = .ok (.aload_n 0, 1) := by decide +kernel
theorem dX5_stretchTo_123 : decode cX5_stretchTo 123 = .ok (.getfield 49, 3) := by decide +kernel
theorem dX5_stretchTo_126 : decode cX5_stretchTo 126 = .ok (.getfield 151, 3) := by decide +kernel
theorem dX5_stretchTo_129 : decode cX5_stretchTo 129 = .ok (.iload 7, 2) := by decide +kernel
theorem dX5_stretchTo_131 : decode cX5_stretchTo 131 = .ok (.aaload, 1) := by decide +kernel
theorem dX5_stretchTo_132 : decode cX5_stretchTo 132 = .ok (.aload 5, 2) := by decide +kernel
theorem dX5_stretchTo_134 : decode cX5_stretchTo 134 = .ok (.invokevirtual 263, 3) := by decide +kernel
theorem dX5_stretchTo_137 : decode cX5_stretchTo 137 = .ok (.aload_n 0, 1) := by decide +kernel
theorem dX5_stretchTo_138 : decode cX5_stretchTo 138 = .ok (.getfield 49, 3) := by decide +kernel
theorem dX5_stretchTo_141 : decode cX5_stretchTo 141 = .ok (.getfield 151, 3) := by decide +kernel
theorem dX5_stretchTo_144 : decode cX5_stretchTo 144 = .ok (.iload 7, 2) := by decide +kernel
theorem dX5_stretchTo_146 : decode cX5_stretchTo 146 = .ok (.aaload, 1) := by decide +kernel
theorem dX5_stretchTo_147 : decode cX5_stretchTo 147 = .ok (.aload 6, 2) := by decide +kernel
theorem dX5_stretchTo_149 : decode cX5_stretchTo 149 = .ok (.invokevirtual 192, 3) := by decide +kernel
theorem dX5_stretchTo_152 : decode cX5_stretchTo 152 = .ok (.iinc 7 1, 3) := by decide +kernel
theorem dX5_stretchTo_155 : decode cX5_stretchTo 155 = .ok (.goto (-44), 3) := by decide +kernel
theorem dX5_stretchTo_158 : decode cX5_stretchTo 158 = .ok (.aload_n 0, 1) := by decide +kernel
theorem dX5_stretchTo_159 : decode cX5_stretchTo 159 = .ok (.getfield 18, 3) := by decide +kernel
theorem dX5_stretchTo_162 : decode cX5_stretchTo 162 = .ok (.aload_n 0, 1) := by decide +kernel
theorem dX5_stretchTo_163 : decode cX5_stretchTo 163 = .ok (.getfield 49, 3) := by decide +kernel
theorem dX5_stretchTo_166 : decode cX5_stretchTo 166 = .ok (.getfield 151, 3) := by decide +kernel
theorem dX5_stretchTo_169 : decode cX5_stretchTo 169 = .ok (.iload 4, 2) := by decide +kernel
theorem dX5_stretchTo_171 : decode cX5_stretchTo 171 = .ok (.aaload, 1) := by decide +kernel
theorem dX5_stretchTo_172 : decode cX5_stretchTo 172 = .ok (.aload_n 1, 1) := by decide +kernel
theorem dX5_stretchTo_173 : decode cX5_stretchTo 173 = .ok (.getfield 141, 3) := by decide +kernel
theorem dX5_stretchTo_176 : decode cX5_stretchTo 176 = .ok (.iload_n 2, 1) := by decide +kernel
theorem dX5_stretchTo_177 : decode cX5_stretchTo 177 = .ok (.aaload, 1) := by decide +kernel
theorem dX5_stretchTo_178 : decode cX5_stretchTo 178 = .ok (.getfield 151, 3) := by decide +kernel
theorem dX5_stretchTo_181 : decode cX5_stretchTo 181 = .ok (.iload 4, 2) := by decide +kernel
theorem dX5_stretchTo_183 : decode cX5_stretchTo 183 = .ok (.aaload, 1) := by decide +kernel
theorem dX5_stretchTo_184 : decode cX5_stretchTo 184 = .ok (.aload 5, 2) := by decide +kernel
theorem dX5_stretchTo_186 : decode cX5_stretchTo 186 = .ok (.invokevirtual 212, 3) := by decide +kernel
theorem dX5_stretchTo_189 : decode cX5_stretchTo 189 = .ok (.aload_n 0, 1) := by decide +kernel
theorem dX5_stretchTo_190 : decode cX5_stretchTo 190 = .ok (.getfield 49, 3) := by decide +kernel
theorem dX5_stretchTo_193 : decode cX5_stretchTo 193 = .ok (.aload 5, 2) := by decide +kernel
theorem dX5_stretchTo_195 : decode cX5_stretchTo 195 = .ok (.aload_n 1, 1) := by decide +kernel
theorem dX5_stretchTo_196 : decode cX5_stretchTo 196 = .ok (.getfield 141, 3) := by decide +kernel
theorem dX5_stretchTo_199 : decode cX5_stretchTo 199 = .ok (.iload_n 2, 1) := by decide +kernel
theorem dX5_stretchTo_200 : decode cX5_stretchTo 200 = .ok (.aaload, 1) := by decide +kernel
theorem dX5_stretchTo_201 : decode cX5_stretchTo 201 = .ok (.iload 4, 2) := by decide +kernel
theorem dX5_stretchTo_203 : decode cX5_stretchTo 203 = .ok (.aload_n 1, 1) := by decide +kernel
theorem dX5_stretchTo_204 : decode cX5_stretchTo 204 = .ok (.getfield 114, 3) := by decide +kernel
theorem dX5_stretchTo_207 : decode cX5_stretchTo 207 = .ok (.aload 6, 2) := by decide +kernel
theorem dX5_stretchTo_209 : decode cX5_stretchTo 209 = .ok (.invokevirtual 266, 3) := by decide +kernel
theorem dX5_stretchTo_212 : decode cX5_stretchTo 212 = .ok (.return_, 1) := by decide +kernel
/-- bounds behind the stretching -/
theorem st_sm {C K x y z u p : Int} (hC : 1 ≤ C) (hK : 1 ≤ K) (hS : Sm (2 * (C * (K * (1 + K))))) (hx : ab x ≤ C) (hu : ab u ≤ K) (hz : ab z ≤ C) (hy : ab y ≤ K) (hp : 0 < p) : ab (x * u) ≤ C * K ∧ Sm (x * u) ∧ Sm ((z * u) / p) ∧ Sm ((z * u) / p * y) ∧ ab (x * u - (z * u) / p * y) ≤ C * (K * (1 + K)) := by
  have e0 : 0 ≤ C * K := Int.mul_nonneg (by omega) (by omega)
  have e1 := ab_mulle hx hu (by omega)
  have e2 := ab_mulle hz hu (by omega)
  have e3 := ab_div (a := z * u) hp
  have e4 := ab_mulle (Int.le_trans e3 e2) hy e0
  have e5 : C * (K * (1 + K)) = C * K + C * K * K := by rw [Int.mul_add, Int.mul_one, Int.mul_add, Int.mul_assoc]
  have e6 : 0 ≤ C * K * K := Int.mul_nonneg e0 (by omega)
  have e7 := ab_sub (x * u) ((z * u) / p * y)
  have h : ∀ v, ab v ≤ C * (K * (1 + K)) → Sm v := fun v hv => sm_of2 hv hS
  exact ⟨e1, h _ (by omega), h _ (by omega), h _ (by omega), by omega⟩
set_option maxRecDepth 20000 in
theorem st_158 (d : Nat) {g : GX} {b : Nat} {X : Nat → Prop} {S : TSt} {A : ASt} {V0 : AH} {Z0 : Nat → Int} {M : Mat} {n w h1 k : Nat} {ld : Nat → Int} {l ρ : Nat → Nat} {C Y K : Int} (h0 : CX g b X V0 Z0 S A) (hg : GSp g b V0 Z0 (GWd b) M n w h1 ld l ρ) (hw5 : w ≤ 5) (hk : k < h1) (hK1 : 1 ≤ K) (hKb : ∀ i j, i < h1 → j < w → ab (AM (GWd b) Z0 ρ i j) ≤ K) (hC1 : 1 ≤ C) (hCb : ∀ j, j < w → ab (Z0 (b + 613 + 2 * j)) ≤ C) (hY1 : 1 ≤ Y) (hYb : ab (Z0 (b + 635)) ≤ Y) (hSC : Sm (2 * (C * (K * (1 + K))))) (hSY : Sm (Y * K)) {u : Int} (hue : AM (GWd b) Z0 ρ k (l k) / ((Int.gcd (AM (GWd b) Z0 ρ k (l k)) (Z0 (b + 613 + 2 * l k)) : Nat) : Int) = u) {V : AH} {sz : Nat} {Z : Nat → Int} {P L : Nat → Nat} (hw0 : WG g (wsB b) (SAB b X) V sz Z P L) (hV : ∀ a, SAB b X a → V a = V0 a) (hSt : StI b (l k) w Z0 u Z) : AW g mX5_stretchTo (d + 7) 158 [(4, .int (iZ (l k))), (5, .ref (b + 637)), (6, .ref (b + 639)), (0, .ref b), (1, .ref (b + 159)), (2, .int (iZ k)), (3, .ref (b + 635))] [] V sz (WE g (wsB b) (SAB b X) (EB b) V sz L (fun r V' Z' => none = r ∧ (∀ a, SAB b X a → V' a = V0 a) ∧ StE b (l k) w Z0 (AM (GWd b) Z0 ρ k (l k) / ((Int.gcd (AM (GWd b) Z0 ρ k (l k)) (Z0 (b + 613 + 2 * l k)) : Nat) : Int)) ((AM (GWd b) Z0 ρ k (l k) / ((Int.gcd (AM (GWd b) Z0 ρ k (l k)) (Z0 (b + 613 + 2 * l k)) : Nat) : Int) * Z0 (b + 613 + 2 * l k)) / AM (GWd b) Z0 ρ k (l k)) (fun j => AM (GWd b) Z0 ρ k j) Z')) := by
    have hb := (hV b (Or.inl rfl)).trans h0.1.1
    obtain ⟨fr1, fr2, -⟩ := h0.2.2.2.2.2.2.2.2.2.2.1
    have fr1 := (hV (b + 633) (sab_r (by omega))).trans fr1
    have fr2 := (hV (b + 634) (sab_r (by omega))).trans fr2
    have hAs : RowV g V (b + 611) (b + 612) 10 (fun j => b + 613 + 2 * j) := h0.2.2.2.2.2.2.2.2.2.1.kept (hV _ (sab_r (by omega))) (hV _ (sab_r (by omega)))
    obtain ⟨ar1, ar2, -⟩ := id hAs
    have hGW : GD g V (b + 159 + 1) (GWd b) h1 w ld ρ := hg.1.kept2 (fun a ha => hV a (sab_gW ha).1)
    obtain ⟨wgd, wra, wla, wrow, wRS, winj⟩ := id hGW
    have wgd : V (b + 159) = some (grO (b + 159 + 21) (b + 159 + 20) (b + 159 + 1) (b + 159 + 16) (b + 159 + 18) h1 w) := wgd
    have wra : V (b + 159 + 21) = some (aQ g 4 11 (fun i => some (ρ i))) := wra
    have wla : V (b + 159 + 20) = some (aIz g 11 ld) := wla
    have hle := hg.2.2.1.1.le_w
    have hRk := wRS k (show k < 11 by omega)
    have hrk := wrow _ hRk
    obtain ⟨rk1, rk2, -⟩ := id hrk
    have rk2 : V ((GWd b).ka (ρ k)) = some (aQ g 5 10 (fun j => some ((GWd b).ga (ρ k) j))) := rk2
    have hlw : l k < w := (hg.2.2.1.1.1 k hk).1
    have hp0 := hg.2.2.1.2.1 k hk
    have hcp := am_W hGW (i := k) (j := l k) (by omega) (by omega)
    have hUp : US (wsB b) (DB b) ((GWd b).ga (ρ k) (l k)) := ((gst_W b X).2.2.2.2.1 _ hRk (l k) (show l k < 10 by omega)).1
    have hUa : US (wsB b) (DB b) (b + 613 + 2 * l k) := us_as (by omega)
    have hUn : US (wsB b) (DB b) (b + 637) := us_fa (b := b) (j := 1) (by omega)
    have hUs : US (wsB b) (DB b) (b + 639) := us_fa (b := b) (j := 2) (by omega)
    have hUm : US (wsB b) (DB b) (b + 635) := us_fa (b := b) (j := 0) (by omega)
    have hgm := gcd_mul (W := Z0 (b + 613 + 2 * l k)) hp0
    rw [hue] at hgm ⊢
    obtain ⟨p, hpe⟩ : ∃ p : Int, AM (GWd b) Z0 ρ k (l k) = p := ⟨_, rfl⟩
    have hpK : ab p ≤ K := hpe ▸ hKb k (l k) hk hlw
    rw [hpe] at hp0 hgm ⊢
    have hpp : ab p = p := ab_pos (by omega)
    have hu1 : ab u ≤ K := by rw [ab_pos (by omega)]; omega
    have hKC : K ≤ C * (K * (1 + K)) := by
      have e1 : 1 * K ≤ C * K := Int.mul_le_mul_of_nonneg_right hC1 (by omega)
      have e2 : 0 ≤ C * K * K := Int.mul_nonneg (by omega) (by omega)
      have e5 : C * (K * (1 + K)) = C * K + C * K * K := by rw [Int.mul_add, Int.mul_one, Int.mul_add, Int.mul_assoc]
      omega
    have hZp : ∀ j, j < w → Z ((GWd b).ga (ρ k) j) = AM (GWd b) Z0 ρ k j := fun j hj => by
      have := am_W hGW (i := k) (j := j) (by omega) (by omega)
      exact hSt.2.2 _ (by omega) (by omega) (by omega) (by omega) (fun i _ hi => by omega)
    have hD := h0.2.2.2.1.1.kept (V' := V) (Z' := Z) (hV _ (Or.inr (Or.inr (Or.inl rfl)))) (hSt.2.2 _ (Or.inl (show b + 3 < b + 9 by omega)) (show b + 3 ≠ _ by omega) (show b + 3 ≠ _ by omega) (show b + 3 ≠ _ by omega) (fun j _ _ => show b + 3 ≠ _ by omega)) (hSt.2.2 _ (Or.inl (show b + 5 < b + 9 by omega)) (show b + 5 ≠ _ by omega) (show b + 5 ≠ _ by omega) (show b + 5 ≠ _ by omega) (fun j _ _ => show b + 5 ≠ _ by omega)) (hSt.2.2 _ (Or.inl (show b + 7 < b + 9 by omega)) (show b + 7 ≠ _ by omega) (show b + 7 ≠ _ by omega) (show b + 7 ≠ _ by omega) (fun j _ _ => show b + 7 ≠ _ by omega))
    refine aw_aload_n dX5_stretchTo_158 (by rfl) (Or.inr ⟨_, rfl⟩) ?_
    refine aw_get fX5_18 dX5_stretchTo_159 hb (by rfl) ?_
    refine aw_aload_n dX5_stretchTo_162 (by rfl) (Or.inr ⟨_, rfl⟩) ?_
    refine aw_get fX5_49 dX5_stretchTo_163 hb (by rfl) ?_
    refine aw_get fX5_151 dX5_stretchTo_166 ar1 (by rfl) ?_
    refine aw_iload dX5_stretchTo_169 (by rfl) ?_
    refine aw_aaldZ (t0 := 5) (l k) (by rfl) dX5_stretchTo_171 ar2 (by omega) (by omega) (by omega) ?_
    refine aw_aload_n dX5_stretchTo_172 (by rfl) (Or.inr ⟨_, rfl⟩) ?_
    refine aw_get fX5_141 dX5_stretchTo_173 wgd (by rfl) ?_
    refine aw_iload_n dX5_stretchTo_176 (by rfl) ?_
    refine aw_aaldZ (t0 := 4) (k) (by rfl) dX5_stretchTo_177 wra (by omega) (by omega) (by omega) ?_
    refine aw_get fX5_151 dX5_stretchTo_178 rk1 (by rfl) ?_
    refine aw_iload dX5_stretchTo_181 (by rfl) ?_
    refine aw_aaldZ (t0 := 5) (l k) (by rfl) dX5_stretchTo_183 rk2 (by omega) (by omega) (by omega) ?_
    refine aw_aload dX5_stretchTo_184 (by rfl) (Or.inr ⟨_, rfl⟩) ?_
    show AW _ _ _ _ _ (.ref (b + 637) :: .ref ((GWd b).ga (ρ k) (l k)) :: .ref (b + 613 + 2 * l k) :: .ref (b + 2) :: _) _ _ _
    refine aw_callv vX5_212 dX5_stretchTo_186 hD.2.1 (w_div (d + 2) (a := b + 613 + 2 * l k) (b := (GWd b).ga (ρ k) (l k)) (qq := b + 637) hw0 hD hUa hUp hUn (by rw [hSt.2.1 _ (Nat.le_refl _) hlw]; exact (st_sm (x := Z0 (b + 613 + 2 * l k)) (y := AM (GWd b) Z0 ρ k (l k)) (z := Z0 (b + 613 + 2 * l k)) (u := u) (p := p) hC1 hK1 hSC (hCb _ hlw) hu1 (hCb _ hlw) (hKb k _ hk hlw) hp0).2.1)) (by rfl) (by rfl) (by omega) (Nat.le_of_ble_eq_true rfl) ?_
    rintro _ V1 sz1 mc1 ms1 ⟨rfl, P1, L1, hs1⟩ -
    refine WE.stp (WSE.of hs1) ?_
    have hk1 : ∀ a, SAB b X a → V1 a = V a := fun a ha => hs1.2.2.1 a ha
    have hb1 := (hk1 b (Or.inl rfl)).trans hb
    have hAs1 := hAs.kept (hk1 (b + 611) (sab_r (by omega))) (hk1 (b + 612) (sab_r (by omega)))
    have hrk1 := hrk.kept (hk1 _ ((gst_W b X).2.2.2.1 _ hRk).1) (hk1 _ ((gst_W b X).2.2.2.1 _ hRk).2.1)
    have wgd1 := (hk1 (b + 159) (sab_gW (Or.inl rfl)).1).trans wgd
    have wra1 := (hk1 (b + 159 + 21) (sab_gW (Or.inr (Or.inr (Or.inl rfl)))).1).trans wra
    have hf1 : upF Z (b + 637) (Z (b + 613 + 2 * l k) / Z ((GWd b).ga (ρ k) (l k))) (b + 637) = (Z0 (b + 613 + 2 * l k) * u) / p := by rw [upF_self, hSt.2.1 _ (Nat.le_refl _) hlw, hZp _ hlw, ← hpe]
    have hbd := fun j (h1 : l k ≤ j) (h2 : j < w) => st_sm (x := Z0 (b + 613 + 2 * j)) (y := AM (GWd b) Z0 ρ k j) (z := Z0 (b + 613 + 2 * l k)) (u := u) (p := p) hC1 hK1 hSC (hCb j h2) hu1 (hCb _ hlw) (hKb k j hk h2) hp0
    refine aw_aload_n dX5_stretchTo_189 (by rfl) (Or.inr ⟨_, rfl⟩) ?_
    refine aw_get fX5_49 dX5_stretchTo_190 hb1 (by rfl) ?_
    refine aw_aload dX5_stretchTo_193 (by rfl) (Or.inr ⟨_, rfl⟩) ?_
    refine aw_aload_n dX5_stretchTo_195 (by rfl) (Or.inr ⟨_, rfl⟩) ?_
    refine aw_get fX5_141 dX5_stretchTo_196 wgd1 (by rfl) ?_
    refine aw_iload_n dX5_stretchTo_199 (by rfl) ?_
    refine aw_aaldZ (t0 := 4) (k) (by rfl) dX5_stretchTo_200 wra1 (by omega) (by omega) (by omega) ?_
    refine aw_iload dX5_stretchTo_201 (by rfl) ?_
    refine aw_aload_n dX5_stretchTo_203 (by rfl) (Or.inr ⟨_, rfl⟩) ?_
    refine aw_get fX5_114 dX5_stretchTo_204 wgd1 (by rfl) ?_
    refine aw_aload dX5_stretchTo_207 (by rfl) (Or.inr ⟨_, rfl⟩) ?_
    refine aw_callv vX5_266 dX5_stretchTo_209 hAs1.1 (w_lessMultiple (w := w) (fr := l k) (f := b + 637) (pr := b + 639) (d + 2) hs1.1 hAs1 hrk1 (fun j hj => (us_as hj).1) (fun j hj => ((gst_W b X).2.2.2.2.1 _ hRk j hj).1.1) (fun i j _ _ hne => by show b + 613 + 2 * i ≠ b + 613 + 2 * j; omega) (fun i j _ hj => by have := am_W hGW (i := k) (j := j) (by omega) hj; show b + 613 + 2 * i ≠ _; omega) (fun j hj => by show b + 637 ≠ b + 613 + 2 * j; omega) (by omega) (fun j hj => by show b + 639 ≠ b + 613 + 2 * j; omega) (fun j hj => by have := am_W hGW (i := k) (j := j) (by omega) hj; show b + 639 ≠ _; omega) hUn.1 hUs.1 (sab_r (by omega)) (sab_r (by omega)) ((gst_W b X).2.2.2.1 _ hRk).1 ((gst_W b X).2.2.2.1 _ hRk).2.1 ⟨by omega, by omega, show w ≤ 10 by omega⟩ (by rw [hf1]; exact (hbd _ (Nat.le_refl _) hlw).2.2.1) (fun j j1 j2 => by have hcj := am_W hGW (i := k) (j := j) (by omega) (by omega); show Sm (upF Z (b + 637) _ (b + 613 + 2 * j)) ∧ Sm (upF Z (b + 637) _ ((GWd b).ga (ρ k) j)) ∧ Sm (upF Z (b + 637) _ (b + 637) * upF Z (b + 637) _ ((GWd b).ga (ρ k) j)); rw [hf1, upF_ne _ _ (by omega), upF_ne _ _ (by omega), hSt.2.1 j j1 j2, hZp j j2]; exact ⟨(hbd j j1 j2).2.1, sm_of2 (Int.le_trans (hKb k j hk j2) hKC) hSC, (hbd j j1 j2).2.2.2.1⟩)) (by rfl) (by rfl) (by omega) (Nat.le_of_ble_eq_true rfl) ?_
    rintro _ V2 sz2 mc2 ms2 ⟨Z2, P2, L2, ⟨rfl, hru⟩, hs2⟩ -
    refine WE.stp (hs2.weak (fun a z => z.elim)) ?_
    refine aw_ret dX5_stretchTo_212 rfl ?_
    refine WE.ret hs2.1 ⟨rfl, fun a ha => (hs2.2.2.1 a ha (fun z => z)).trans ((hk1 a ha).trans (hV a ha)), ?_, fun j h1 h2 => ?_, fun q h1 h2 h3 h4 h5 => ?_⟩
    · rw [hru.2 _ (show b + 635 ≠ b + 639 by omega) (fun j _ hj => by show b + 635 ≠ b + 613 + 2 * j; omega), upF_ne _ _ (by omega)]; exact hSt.1
    · rw [hru.1 j h1 h2]
      show upF Z (b + 637) _ (b + 613 + 2 * j) - upF Z (b + 637) _ (b + 637) * upF Z (b + 637) _ ((GWd b).ga (ρ k) j) = _
      have hcj := am_W hGW (i := k) (j := j) (by omega) (by omega)
      rw [hf1, upF_ne _ _ (by omega), upF_ne _ _ (by omega), hSt.2.1 j h1 h2, hZp j h2, Int.mul_comm u]
    · rw [hru.2 q (show q ≠ b + 639 from h4) h5, upF_ne _ _ h3]; exact hSt.2.2 q h1 h2 h3 h4 h5
set_option maxRecDepth 20000 in
theorem st_111 (d : Nat) {g : GX} {b : Nat} {X : Nat → Prop} {S : TSt} {A : ASt} {V0 : AH} {Z0 : Nat → Int} {M : Mat} {n w h1 k : Nat} {ld : Nat → Int} {l ρ : Nat → Nat} {C Y K : Int} (h0 : CX g b X V0 Z0 S A) (hg : GSp g b V0 Z0 (GWd b) M n w h1 ld l ρ) (hw5 : w ≤ 5) (hk : k < h1) (hK1 : 1 ≤ K) (hKb : ∀ i j, i < h1 → j < w → ab (AM (GWd b) Z0 ρ i j) ≤ K) (hC1 : 1 ≤ C) (hCb : ∀ j, j < w → ab (Z0 (b + 613 + 2 * j)) ≤ C) (hY1 : 1 ≤ Y) (hYb : ab (Z0 (b + 635)) ≤ Y) (hSC : Sm (2 * (C * (K * (1 + K))))) (hSY : Sm (Y * K)) {u : Int} (hue : AM (GWd b) Z0 ρ k (l k) / ((Int.gcd (AM (GWd b) Z0 ρ k (l k)) (Z0 (b + 613 + 2 * l k)) : Nat) : Int) = u) : ∀ (f j : Nat), j + f = w → l k ≤ j → ∀ {V : AH} {sz : Nat} {Z : Nat → Int} {P L : Nat → Nat}, WG g (wsB b) (SAB b X) V sz Z P L → (∀ a, SAB b X a → V a = V0 a) → Z (b + 637) = u → StI b (l k) j Z0 u Z → AW g mX5_stretchTo (d + 7) 111 [(7, .int (iZ j)), (4, .int (iZ (l k))), (5, .ref (b + 637)), (6, .ref (b + 639)), (0, .ref b), (1, .ref (b + 159)), (2, .int (iZ k)), (3, .ref (b + 635))] [] V sz (WE g (wsB b) (SAB b X) (EB b) V sz L (fun r V' Z' => none = r ∧ (∀ a, SAB b X a → V' a = V0 a) ∧ StE b (l k) w Z0 (AM (GWd b) Z0 ρ k (l k) / ((Int.gcd (AM (GWd b) Z0 ρ k (l k)) (Z0 (b + 613 + 2 * l k)) : Nat) : Int)) ((AM (GWd b) Z0 ρ k (l k) / ((Int.gcd (AM (GWd b) Z0 ρ k (l k)) (Z0 (b + 613 + 2 * l k)) : Nat) : Int) * Z0 (b + 613 + 2 * l k)) / AM (GWd b) Z0 ρ k (l k)) (fun j => AM (GWd b) Z0 ρ k j) Z'))
  | 0, j, hf, hlj, V, sz, Z, P, L, hw0, hV, hZn, hI => by
    obtain rfl : w = j := by omega
    have hb := (hV b (Or.inl rfl)).trans h0.1.1
    obtain ⟨fr1, fr2, -⟩ := h0.2.2.2.2.2.2.2.2.2.2.1
    have fr1 := (hV (b + 633) (sab_r (by omega))).trans fr1
    have fr2 := (hV (b + 634) (sab_r (by omega))).trans fr2
    have hAs : RowV g V (b + 611) (b + 612) 10 (fun j => b + 613 + 2 * j) := h0.2.2.2.2.2.2.2.2.2.1.kept (hV _ (sab_r (by omega))) (hV _ (sab_r (by omega)))
    obtain ⟨ar1, ar2, -⟩ := id hAs
    have hGW : GD g V (b + 159 + 1) (GWd b) h1 w ld ρ := hg.1.kept2 (fun a ha => hV a (sab_gW ha).1)
    obtain ⟨wgd, wra, wla, wrow, wRS, winj⟩ := id hGW
    have wgd : V (b + 159) = some (grO (b + 159 + 21) (b + 159 + 20) (b + 159 + 1) (b + 159 + 16) (b + 159 + 18) h1 w) := wgd
    have wra : V (b + 159 + 21) = some (aQ g 4 11 (fun i => some (ρ i))) := wra
    have wla : V (b + 159 + 20) = some (aIz g 11 ld) := wla
    have hle := hg.2.2.1.1.le_w
    have hRk := wRS k (show k < 11 by omega)
    have hrk := wrow _ hRk
    obtain ⟨rk1, rk2, -⟩ := id hrk
    have rk2 : V ((GWd b).ka (ρ k)) = some (aQ g 5 10 (fun j => some ((GWd b).ga (ρ k) j))) := rk2
    have hlw : l k < w := (hg.2.2.1.1.1 k hk).1
    have hp0 := hg.2.2.1.2.1 k hk
    have hcp := am_W hGW (i := k) (j := l k) (by omega) (by omega)
    have hUp : US (wsB b) (DB b) ((GWd b).ga (ρ k) (l k)) := ((gst_W b X).2.2.2.2.1 _ hRk (l k) (show l k < 10 by omega)).1
    have hUa : US (wsB b) (DB b) (b + 613 + 2 * l k) := us_as (by omega)
    have hUn : US (wsB b) (DB b) (b + 637) := us_fa (b := b) (j := 1) (by omega)
    have hUs : US (wsB b) (DB b) (b + 639) := us_fa (b := b) (j := 2) (by omega)
    have hUm : US (wsB b) (DB b) (b + 635) := us_fa (b := b) (j := 0) (by omega)
    have hgm := gcd_mul (W := Z0 (b + 613 + 2 * l k)) hp0
    refine aw_iload dX5_stretchTo_111 (by rfl) ?_
    refine aw_aload_n dX5_stretchTo_113 (by rfl) (Or.inr ⟨_, rfl⟩) ?_
    refine aw_get fX5_114 dX5_stretchTo_114 wgd (by rfl) ?_
    refine aw_icmp_geZ (tgt := 158) dX5_stretchTo_117 (by decide) (by omega) (by omega) (fun hc_117 => ?_) (fun hc_117 => ?_)
    · refine aw_pk [4, 5, 6, 0, 1, 2, 3] (by rfl) ?_
      exact st_158 d h0 hg hw5 hk hK1 hKb hC1 hCb hY1 hYb hSC hSY hue hw0 hV hI
    · exact absurd hc_117 (by omega)
  | f + 1, j, hf, hlj, V, sz, Z, P, L, hw0, hV, hZn, hI => by
    have IH := fun j hj => @st_111 d g b X S A V0 Z0 M n w h1 k ld l ρ C Y K h0 hg hw5 hk hK1 hKb hC1 hCb hY1 hYb hSC hSY u hue f j hj
    have hb := (hV b (Or.inl rfl)).trans h0.1.1
    obtain ⟨fr1, fr2, -⟩ := h0.2.2.2.2.2.2.2.2.2.2.1
    have fr1 := (hV (b + 633) (sab_r (by omega))).trans fr1
    have fr2 := (hV (b + 634) (sab_r (by omega))).trans fr2
    have hAs : RowV g V (b + 611) (b + 612) 10 (fun j => b + 613 + 2 * j) := h0.2.2.2.2.2.2.2.2.2.1.kept (hV _ (sab_r (by omega))) (hV _ (sab_r (by omega)))
    obtain ⟨ar1, ar2, -⟩ := id hAs
    have hGW : GD g V (b + 159 + 1) (GWd b) h1 w ld ρ := hg.1.kept2 (fun a ha => hV a (sab_gW ha).1)
    obtain ⟨wgd, wra, wla, wrow, wRS, winj⟩ := id hGW
    have wgd : V (b + 159) = some (grO (b + 159 + 21) (b + 159 + 20) (b + 159 + 1) (b + 159 + 16) (b + 159 + 18) h1 w) := wgd
    have wra : V (b + 159 + 21) = some (aQ g 4 11 (fun i => some (ρ i))) := wra
    have wla : V (b + 159 + 20) = some (aIz g 11 ld) := wla
    have hle := hg.2.2.1.1.le_w
    have hRk := wRS k (show k < 11 by omega)
    have hrk := wrow _ hRk
    obtain ⟨rk1, rk2, -⟩ := id hrk
    have rk2 : V ((GWd b).ka (ρ k)) = some (aQ g 5 10 (fun j => some ((GWd b).ga (ρ k) j))) := rk2
    have hlw : l k < w := (hg.2.2.1.1.1 k hk).1
    have hp0 := hg.2.2.1.2.1 k hk
    have hcp := am_W hGW (i := k) (j := l k) (by omega) (by omega)
    have hUp : US (wsB b) (DB b) ((GWd b).ga (ρ k) (l k)) := ((gst_W b X).2.2.2.2.1 _ hRk (l k) (show l k < 10 by omega)).1
    have hUa : US (wsB b) (DB b) (b + 613 + 2 * l k) := us_as (by omega)
    have hUn : US (wsB b) (DB b) (b + 637) := us_fa (b := b) (j := 1) (by omega)
    have hUs : US (wsB b) (DB b) (b + 639) := us_fa (b := b) (j := 2) (by omega)
    have hUm : US (wsB b) (DB b) (b + 635) := us_fa (b := b) (j := 0) (by omega)
    have hgm := gcd_mul (W := Z0 (b + 613 + 2 * l k)) hp0
    have hu1 : ab u ≤ K := by
      have hpK := hKb k (l k) hk hlw
      rw [ab_pos (by omega)] at hpK
      rw [← hue, ab_pos (by omega)]; omega
    have hKC : K ≤ C * (K * (1 + K)) := by
      have e1 : 1 * K ≤ C * K := Int.mul_le_mul_of_nonneg_right hC1 (by omega)
      have e2 : 0 ≤ C * K * K := Int.mul_nonneg (by omega) (by omega)
      have e5 : C * (K * (1 + K)) = C * K + C * K * K := by rw [Int.mul_add, Int.mul_one, Int.mul_add, Int.mul_assoc]
      omega
    have hCC : C ≤ C * (K * (1 + K)) := by
      have e1 : C * 1 ≤ C * K := Int.mul_le_mul_of_nonneg_left hK1 (by omega)
      have e2 : 0 ≤ C * K * K := Int.mul_nonneg (by omega) (by omega)
      have e5 : C * (K * (1 + K)) = C * K + C * K * K := by rw [Int.mul_add, Int.mul_one, Int.mul_add, Int.mul_assoc]
      omega
    have hca : b + 613 + 2 * j ∈ wsB b := (us_as (b := b) (show j < 10 by omega)).1
    have hzj : Z (b + 613 + 2 * j) = Z0 (b + 613 + 2 * j) := hI.2.2 _ (by omega) (by omega) (by omega) (by omega) (fun i _ hi => by omega)
    have hbd := st_sm (x := Z0 (b + 613 + 2 * j)) (y := AM (GWd b) Z0 ρ k j) (z := Z0 (b + 613 + 2 * l k)) (u := u) (p := AM (GWd b) Z0 ρ k (l k)) hC1 hK1 hSC (hCb j (by omega)) hu1 (hCb _ hlw) (hKb k j hk (by omega)) hp0
    have hsx : Sm (Z0 (b + 613 + 2 * j)) := sm_of2 (Int.le_trans (hCb j (by omega)) hCC) hSC
    have hsu : Sm u := sm_of2 (Int.le_trans hu1 hKC) hSC
    obtain ⟨ns, Fs, hWs⟩ := hw0.raw hUs.1
    refine aw_iload dX5_stretchTo_111 (by rfl) ?_
    refine aw_aload_n dX5_stretchTo_113 (by rfl) (Or.inr ⟨_, rfl⟩) ?_
    refine aw_get fX5_114 dX5_stretchTo_114 wgd (by rfl) ?_
    refine aw_icmp_geZ (tgt := 158) dX5_stretchTo_117 (by decide) (by omega) (by omega) (fun hc_117 => ?_) (fun hc_117 => ?_)
    · exact absurd hc_117 (by omega)
    · refine aw_aload dX5_stretchTo_120 (by rfl) (Or.inr ⟨_, rfl⟩) ?_
      refine aw_aload_n dX5_stretchTo_122 (by rfl) (Or.inr ⟨_, rfl⟩) ?_
      refine aw_get fX5_49 dX5_stretchTo_123 hb (by rfl) ?_
      refine aw_get fX5_151 dX5_stretchTo_126 ar1 (by rfl) ?_
      refine aw_iload dX5_stretchTo_129 (by rfl) ?_
      refine aw_aaldZ (t0 := 5) (j) (by rfl) dX5_stretchTo_131 ar2 (by omega) (by omega) (by omega) ?_
      refine aw_aload dX5_stretchTo_132 (by rfl) (Or.inr ⟨_, rfl⟩) ?_
      refine aw_callv vX5_263 dX5_stretchTo_134 hWs.1 (w_product (d + 3) (w := b + 639) (u := b + 613 + 2 * j) (v := b + 637) hw0 hUs.1 hca hUn.1 (by omega) (by omega) (by rw [hzj]; exact hsx) (by rw [hZn]; exact hsu) (by rw [hzj, hZn]; exact hbd.2.1)) (by rfl) (by rfl) (by omega) (Nat.le_of_ble_eq_true rfl) ?_
      rintro _ V1 sz1 mc1 ms1 ⟨rfl, P1, L1, hs1⟩ -
      refine WE.stp (WSE.of hs1) ?_
      have hk1 : ∀ a, SAB b X a → V1 a = V a := fun a ha => hs1.2.2.1 a ha
      have hb1 := (hk1 b (Or.inl rfl)).trans hb
      have br1 := (hk1 (b + 611) (sab_r (by omega))).trans ar1
      have br2 := (hk1 (b + 612) (sab_r (by omega))).trans ar2
      obtain ⟨na, Fa, hWa⟩ := hs1.1.raw hca
      refine aw_aload_n dX5_stretchTo_137 (by rfl) (Or.inr ⟨_, rfl⟩) ?_
      refine aw_get fX5_49 dX5_stretchTo_138 hb1 (by rfl) ?_
      refine aw_get fX5_151 dX5_stretchTo_141 br1 (by rfl) ?_
      refine aw_iload dX5_stretchTo_144 (by rfl) ?_
      refine aw_aaldZ (t0 := 5) (j) (by rfl) dX5_stretchTo_146 br2 (by omega) (by omega) (by omega) ?_
      refine aw_aload dX5_stretchTo_147 (by rfl) (Or.inr ⟨_, rfl⟩) ?_
      refine aw_callv vX5_192 dX5_stretchTo_149 hWa.1 (w_copy (d + 3) (w := b + 613 + 2 * j) (u := b + 639) hs1.1 hca hUs.1 (by omega) (by rw [upF_self, hzj, hZn]; exact Sm.u156 hbd.2.1)) (by rfl) (by rfl) (by omega) (Nat.le_of_ble_eq_true rfl) ?_
      rintro _ V2 sz2 mc2 ms2 ⟨rfl, P2, L2, hs2⟩ -
      refine WE.stp (WSE.of hs2) ?_
      refine aw_iincZ dX5_stretchTo_152 (by rfl) (by decide) ?_
      refine aw_goto (tgt := 111) dX5_stretchTo_155 (by decide) ?_
      rw [show ((j : Int) + 1) = ((j + 1 : Nat) : Int) by omega]
      refine aw_pk [7, 4, 5, 6, 0, 1, 2, 3] (by rfl) ?_
      refine IH (j + 1) (by omega) (by omega) hs2.1 (fun a ha => (hs2.2.2.1 a ha).trans ((hk1 a ha).trans (hV a ha))) (by rw [upF_ne _ _ (by omega), upF_ne _ _ (by omega)]; exact hZn) ⟨by rw [upF_ne _ _ (by omega), upF_ne _ _ (by omega)]; exact hI.1, fun i h1 h2 => ?_, fun q h1 h2 h3 h4 h5 => ?_⟩
      · by_cases e : i = j
        · rw [e, upF_self, upF_self, hzj, hZn]
        · rw [upF_ne _ _ (by omega), upF_ne _ _ (by omega)]; exact hI.2.1 i h1 (by omega)
      · rw [upF_ne _ _ (h5 j (by omega) (by omega)), upF_ne _ _ h4]; exact hI.2.2 q h1 h2 h3 h4 (fun i i1 i2 => h5 i i1 (by omega))
set_option maxRecDepth 20000 in
theorem t_stretchTo (d : Nat) {g : GX} {b : Nat} {X : Nat → Prop} {S : TSt} {A : ASt} {V : AH} {Z : Nat → Int} {M : Mat} {n w h1 k : Nat} {ld : Nat → Int} {l ρ : Nat → Nat} {C Y K : Int} (h0 : CX g b X V Z S A) (hg : GSp g b V Z (GWd b) M n w h1 ld l ρ) (hw5 : w ≤ 5) (hk : k < h1) (hK1 : 1 ≤ K) (hKb : ∀ i j, i < h1 → j < w → ab (AM (GWd b) Z ρ i j) ≤ K) (hC1 : 1 ≤ C) (hCb : ∀ j, j < w → ab (Z (b + 613 + 2 * j)) ≤ C) (hY1 : 1 ≤ Y) (hYb : ab (Z (b + 635)) ≤ Y) (hSC : Sm (2 * (C * (K * (1 + K))))) (hSY : Sm (Y * K)) {sz : Nat} {P L : Nat → Nat} (hw0 : WG g (wsB b) (SAB b X) V sz Z P L) : AMet g mX5_stretchTo (d + 7) [.ref b, .ref (b + 159), .int (iZ k), .ref (b + 635)] V sz (WE g (wsB b) (SAB b X) (EB b) V sz L (fun r V' Z' => none = r ∧ (∀ a, SAB b X a → V' a = V a) ∧ StE b (l k) w Z (AM (GWd b) Z ρ k (l k) / ((Int.gcd (AM (GWd b) Z ρ k (l k)) (Z (b + 613 + 2 * l k)) : Nat) : Int)) ((AM (GWd b) Z ρ k (l k) / ((Int.gcd (AM (GWd b) Z ρ k (l k)) (Z (b + 613 + 2 * l k)) : Nat) : Int) * Z (b + 613 + 2 * l k)) / AM (GWd b) Z ρ k (l k)) (fun j => AM (GWd b) Z ρ k j) Z')) := by
  refine AMet.of rfl rfl (Nat.le_of_ble_eq_true rfl) ?_
  show AW g mX5_stretchTo (d + 7) 0 [(0, .ref b), (1, .ref (b + 159)), (2, .int (iZ k)), (3, .ref (b + 635))] [] V sz _
  have hV : ∀ a, SAB b X a → V a = V a := fun _ _ => rfl
  have hb := (hV b (Or.inl rfl)).trans h0.1.1
  obtain ⟨fr1, fr2, -⟩ := h0.2.2.2.2.2.2.2.2.2.2.1
  have fr1 := (hV (b + 633) (sab_r (by omega))).trans fr1
  have fr2 := (hV (b + 634) (sab_r (by omega))).trans fr2
  have hAs : RowV g V (b + 611) (b + 612) 10 (fun j => b + 613 + 2 * j) := h0.2.2.2.2.2.2.2.2.2.1.kept (hV _ (sab_r (by omega))) (hV _ (sab_r (by omega)))
  obtain ⟨ar1, ar2, -⟩ := id hAs
  have hGW : GD g V (b + 159 + 1) (GWd b) h1 w ld ρ := hg.1.kept2 (fun a ha => hV a (sab_gW ha).1)
  obtain ⟨wgd, wra, wla, wrow, wRS, winj⟩ := id hGW
  have wgd : V (b + 159) = some (grO (b + 159 + 21) (b + 159 + 20) (b + 159 + 1) (b + 159 + 16) (b + 159 + 18) h1 w) := wgd
  have wra : V (b + 159 + 21) = some (aQ g 4 11 (fun i => some (ρ i))) := wra
  have wla : V (b + 159 + 20) = some (aIz g 11 ld) := wla
  have hle := hg.2.2.1.1.le_w
  have hRk := wRS k (show k < 11 by omega)
  have hrk := wrow _ hRk
  obtain ⟨rk1, rk2, -⟩ := id hrk
  have rk2 : V ((GWd b).ka (ρ k)) = some (aQ g 5 10 (fun j => some ((GWd b).ga (ρ k) j))) := rk2
  have hlw : l k < w := (hg.2.2.1.1.1 k hk).1
  have hp0 := hg.2.2.1.2.1 k hk
  have hcp := am_W hGW (i := k) (j := l k) (by omega) (by omega)
  have hUp : US (wsB b) (DB b) ((GWd b).ga (ρ k) (l k)) := ((gst_W b X).2.2.2.2.1 _ hRk (l k) (show l k < 10 by omega)).1
  have hUa : US (wsB b) (DB b) (b + 613 + 2 * l k) := us_as (by omega)
  have hUn : US (wsB b) (DB b) (b + 637) := us_fa (b := b) (j := 1) (by omega)
  have hUs : US (wsB b) (DB b) (b + 639) := us_fa (b := b) (j := 2) (by omega)
  have hUm : US (wsB b) (DB b) (b + 635) := us_fa (b := b) (j := 0) (by omega)
  have hgm := gcd_mul (W := Z (b + 613 + 2 * l k)) hp0
  have hKC : K ≤ C * (K * (1 + K)) := by
    have e1 : 1 * K ≤ C * K := Int.mul_le_mul_of_nonneg_right hC1 (by omega)
    have e2 : 0 ≤ C * K * K := Int.mul_nonneg (by omega) (by omega)
    have e5 : C * (K * (1 + K)) = C * K + C * K * K := by rw [Int.mul_add, Int.mul_one, Int.mul_add, Int.mul_assoc]
    omega
  have hCC : C ≤ C * (K * (1 + K)) := by
    have e1 : C * 1 ≤ C * K := Int.mul_le_mul_of_nonneg_left hK1 (by omega)
    have e2 : 0 ≤ C * K * K := Int.mul_nonneg (by omega) (by omega)
    have e5 : C * (K * (1 + K)) = C * K + C * K * K := by rw [Int.mul_add, Int.mul_one, Int.mul_add, Int.mul_assoc]
    omega
  have hD := h0.2.2.2.1.1
  refine aw_aload_n dX5_stretchTo_0 (by rfl) (Or.inr ⟨_, rfl⟩) ?_
  refine aw_get fX5_257 dX5_stretchTo_1 wgd (by rfl) ?_
  refine aw_iload_n dX5_stretchTo_4 (by rfl) ?_
  refine aw_ialdZ (k) dX5_stretchTo_5 wla (by omega) (by omega) (by omega) ?_
  rw [hg.2.1 k hk]
  refine aw_istore dX5_stretchTo_6 (by decide) ?_
  refine aw_aload_n dX5_stretchTo_8 (by rfl) (Or.inr ⟨_, rfl⟩) ?_
  refine aw_get fX5_53 dX5_stretchTo_9 hb (by rfl) ?_
  refine aw_get fX5_151 dX5_stretchTo_12 fr1 (by rfl) ?_
  refine aw_iconstZ dX5_stretchTo_15 ?_
  refine aw_aaldZ (t0 := 5) (1) (by rfl) dX5_stretchTo_16 fr2 (by omega) (by omega) (by omega) ?_
  refine aw_astore dX5_stretchTo_17 (by decide) (Or.inr ⟨_, rfl⟩) ?_
  refine aw_aload_n dX5_stretchTo_19 (by rfl) (Or.inr ⟨_, rfl⟩) ?_
  refine aw_get fX5_53 dX5_stretchTo_20 hb (by rfl) ?_
  refine aw_get fX5_151 dX5_stretchTo_23 fr1 (by rfl) ?_
  refine aw_iconstZ dX5_stretchTo_26 ?_
  refine aw_aaldZ (t0 := 5) (2) (by rfl) dX5_stretchTo_27 fr2 (by omega) (by omega) (by omega) ?_
  refine aw_astore dX5_stretchTo_28 (by decide) (Or.inr ⟨_, rfl⟩) ?_
  refine aw_aload_n dX5_stretchTo_30 (by rfl) (Or.inr ⟨_, rfl⟩) ?_
  refine aw_get fX5_18 dX5_stretchTo_31 hb (by rfl) ?_
  refine aw_aload_n dX5_stretchTo_34 (by rfl) (Or.inr ⟨_, rfl⟩) ?_
  refine aw_get fX5_49 dX5_stretchTo_35 hb (by rfl) ?_
  refine aw_get fX5_151 dX5_stretchTo_38 ar1 (by rfl) ?_
  refine aw_iload dX5_stretchTo_41 (by rfl) ?_
  refine aw_aaldZ (t0 := 5) (l k) (by rfl) dX5_stretchTo_43 ar2 (by omega) (by omega) (by omega) ?_
  refine aw_aload_n dX5_stretchTo_44 (by rfl) (Or.inr ⟨_, rfl⟩) ?_
  refine aw_get fX5_141 dX5_stretchTo_45 wgd (by rfl) ?_
  refine aw_iload_n dX5_stretchTo_48 (by rfl) ?_
  refine aw_aaldZ (t0 := 4) (k) (by rfl) dX5_stretchTo_49 wra (by omega) (by omega) (by omega) ?_
  refine aw_get fX5_151 dX5_stretchTo_50 rk1 (by rfl) ?_
  refine aw_iload dX5_stretchTo_53 (by rfl) ?_
  refine aw_aaldZ (t0 := 5) (l k) (by rfl) dX5_stretchTo_55 rk2 (by omega) (by omega) (by omega) ?_
  refine aw_aload dX5_stretchTo_56 (by rfl) (Or.inr ⟨_, rfl⟩) ?_
  show AW _ _ _ _ _ (.ref (b + 639) :: .ref ((GWd b).ga (ρ k) (l k)) :: .ref (b + 613 + 2 * l k) :: .ref (b + 2) :: _) _ _ _
  refine aw_callv vX5_260 dX5_stretchTo_58 hD.2.1 (w_findShared g (d + 1) (a := b + 613 + 2 * l k) (b := (GWd b).ga (ρ k) (l k)) (sh := b + 639) (T := C * (K * (1 + K))) (dkx_b b) ⟨hUs.1, show b + 639 ≠ b + 9 by omega, show b + 639 ≠ b + 11 by omega, show b + 639 ≠ b + 15 by omega⟩ hSC hw0 hD ⟨hUa.1, ndk (by omega), hUa⟩ ⟨hUp.1, ndk (by omega), hUp⟩ (Int.le_trans (hCb _ hlw) hCC) (Int.le_trans (hKb k _ hk hlw) hKC)) (by rfl) (by rfl) (by omega) (Nat.le_of_ble_eq_true rfl) ?_
  rintro _ V1 sz1 mc1 ms1 ⟨Z1, P1, L1, ⟨rfl, hZs1, ho1⟩, hs1⟩ -
  refine WE.stp (hs1.weak (fun a z => z.elim)) ?_
  have hk1 : ∀ a, SAB b X a → V1 a = V a := fun a ha => hs1.2.2.1 a ha (fun z => z)
  have hb1 := (hk1 b (Or.inl rfl)).trans hb
  have wgd1 := (hk1 (b + 159) (sab_gW (Or.inl rfl)).1).trans wgd
  have wra1 := (hk1 (b + 159 + 21) (sab_gW (Or.inr (Or.inr (Or.inl rfl)))).1).trans wra
  have rk11 := (hk1 _ ((gst_W b X).2.2.2.1 _ hRk).1).trans rk1
  have rk21 := (hk1 _ ((gst_W b X).2.2.2.1 _ hRk).2.1).trans rk2
  have hD1 := hD.kept (V' := V1) (Z' := Z1) (hk1 _ (Or.inr (Or.inr (Or.inl rfl)))) (ho1 _ (ndk (show b + 3 < b + 9 ∨ _ by omega)) (show b + 3 ≠ b + 639 by omega)) (ho1 _ (ndk (show b + 5 < b + 9 ∨ _ by omega)) (show b + 5 ≠ b + 639 by omega)) (ho1 _ (ndk (show b + 7 < b + 9 ∨ _ by omega)) (show b + 7 ≠ b + 639 by omega))
  have hZ1 : ∀ q, (q < b + 9 ∨ b + 17 ≤ q) → q ≠ b + 639 → Z1 q = Z q := fun q h1 h2 => ho1 q (ndk (by omega)) h2
  have hZp1 : Z1 ((GWd b).ga (ρ k) (l k)) = AM (GWd b) Z ρ k (l k) := hZ1 _ (by omega) (by omega)
  rw [Int.gcd_comm] at hZs1
  refine aw_aload_n dX5_stretchTo_61 (by rfl) (Or.inr ⟨_, rfl⟩) ?_
  refine aw_get fX5_18 dX5_stretchTo_62 hb1 (by rfl) ?_
  refine aw_aload_n dX5_stretchTo_65 (by rfl) (Or.inr ⟨_, rfl⟩) ?_
  refine aw_get fX5_141 dX5_stretchTo_66 wgd1 (by rfl) ?_
  refine aw_iload_n dX5_stretchTo_69 (by rfl) ?_
  refine aw_aaldZ (t0 := 4) (k) (by rfl) dX5_stretchTo_70 wra1 (by omega) (by omega) (by omega) ?_
  refine aw_get fX5_151 dX5_stretchTo_71 rk11 (by rfl) ?_
  refine aw_iload dX5_stretchTo_74 (by rfl) ?_
  refine aw_aaldZ (t0 := 5) (l k) (by rfl) dX5_stretchTo_76 rk21 (by omega) (by omega) (by omega) ?_
  refine aw_aload dX5_stretchTo_77 (by rfl) (Or.inr ⟨_, rfl⟩) ?_
  refine aw_aload dX5_stretchTo_79 (by rfl) (Or.inr ⟨_, rfl⟩) ?_
  show AW _ _ _ _ _ (.ref (b + 637) :: .ref (b + 639) :: .ref ((GWd b).ga (ρ k) (l k)) :: .ref (b + 2) :: _) _ _ _
  refine aw_callv vX5_212 dX5_stretchTo_81 hD1.2.1 (w_div (d + 2) (a := (GWd b).ga (ρ k) (l k)) (b := b + 639) (qq := b + 637) hs1.1 hD1 hUp hUs hUn (by rw [hZp1]; exact sm_of2 (Int.le_trans (hKb k _ hk hlw) hKC) hSC)) (by rfl) (by rfl) (by omega) (Nat.le_of_ble_eq_true rfl) ?_
  rintro _ V2 sz2 mc2 ms2 ⟨rfl, P2, L2, hs2⟩ -
  refine WE.stp (WSE.of hs2) ?_
  have hk2 : ∀ a, SAB b X a → V2 a = V a := fun a ha => (hs2.2.2.1 a ha).trans (hk1 a ha)
  obtain ⟨u, hue⟩ : ∃ u : Int, AM (GWd b) Z ρ k (l k) / ((Int.gcd (AM (GWd b) Z ρ k (l k)) (Z (b + 613 + 2 * l k)) : Nat) : Int) = u := ⟨_, rfl⟩
  have hnu : Z1 ((GWd b).ga (ρ k) (l k)) / Z1 (b + 639) = u := by rw [hZp1, hZs1]; exact hue
  rw [hnu] at hs2
  have hZ2 : ∀ q, (q < b + 9 ∨ b + 17 ≤ q) → q ≠ b + 637 → q ≠ b + 639 → upF Z1 (b + 637) u q = Z q := fun q h1 h2 h3 => (upF_ne _ _ h2).trans (hZ1 q h1 h3)
  have hu1 : ab u ≤ K := by
    have hpK := hKb k (l k) hk hlw
    rw [ab_pos (by omega)] at hpK
    rw [← hue, ab_pos (by omega)]; omega
  have hWn := hs2.1.2.1 _ hUn.1
  obtain ⟨nn, Fn, hWnr⟩ := hs2.1.raw hUn.1
  rw [upF_self] at hWn
  refine aw_aload dX5_stretchTo_84 (by rfl) (Or.inr ⟨_, rfl⟩) ?_
  refine aw_lconstZ (z := 1) dX5_stretchTo_86 (by decide) ?_
  refine aw_callv vX5_237 dX5_stretchTo_87 hWnr.1 (t_is g (d + 5) (v := 1) hWn (by omega)) (by rfl) (by rfl) (by omega) (Nat.le_of_ble_eq_true rfl) ?_
  rintro _ _ _ _ _ ⟨rfl, rfl, rfl, rfl, rfl⟩ -
  refine q0 ?_
  refine aw_if_neZ (tgt := 158) dX5_stretchTo_90 (by decide) (by split <;> omega) (fun hc_90 => ?_) (fun hc_90 => ?_)
  · refine aw_pk [4, 5, 6, 0, 1, 2, 3] (by rfl) ?_
    have hu : u = 1 := by
      by_cases e : u = 1
      · exact e
      · rw [if_neg e] at hc_90; exact absurd rfl hc_90
    refine st_158 d h0 hg hw5 hk hK1 hKb hC1 hCb hY1 hYb hSC hSY hue hs2.1 hk2 ⟨?_, fun j h1 h2 => ?_, fun q h1 h2 h3 h4 h5 => hZ2 q h1 h3 h4⟩
    · rw [hZ2 _ (by omega) (by omega) (by omega), hu, Int.mul_one]
    · rw [hZ2 _ (by omega) (by omega) (by omega), hu, Int.mul_one]
  · have hSy : Sm (Z (b + 635)) := Sm.le (z := Y * K) (by
        have e1 : Y * 1 ≤ Y * K := Int.mul_le_mul_of_nonneg_left hK1 (by omega)
        unfold ab at hYb
        omega) hSY
    have hSyu : Sm (Z (b + 635) * u) := Sm.le (z := Y * K) (by
        have e1 := ab_mulle hYb hu1 (by omega)
        have e2 : 0 ≤ Y * K := Int.mul_nonneg (by omega) (by omega)
        unfold ab at e1
        omega) hSY
    obtain ⟨ns, Fs, hWs⟩ := hs2.1.raw hUs.1
    refine aw_aload dX5_stretchTo_93 (by rfl) (Or.inr ⟨_, rfl⟩) ?_
    refine aw_aload_n dX5_stretchTo_95 (by rfl) (Or.inr ⟨_, rfl⟩) ?_
    refine aw_aload dX5_stretchTo_96 (by rfl) (Or.inr ⟨_, rfl⟩) ?_
    show AW _ _ _ _ _ (.ref (b + 637) :: .ref (b + 635) :: .ref (b + 639) :: _) _ _ _
    refine aw_callv vX5_263 dX5_stretchTo_98 hWs.1 (w_product (d + 3) (w := b + 639) (u := b + 635) (v := b + 637) hs2.1 hUs.1 hUm.1 hUn.1 (by omega) (by omega) (by rw [hZ2 _ (by omega) (by omega) (by omega)]; exact hSy) (by rw [upF_self]; exact sm_of2 (Int.le_trans hu1 hKC) hSC) (by rw [upF_self, hZ2 _ (by omega) (by omega) (by omega)]; exact hSyu)) (by rfl) (by rfl) (by omega) (Nat.le_of_ble_eq_true rfl) ?_
    rintro _ V3 sz3 mc3 ms3 ⟨rfl, P3, L3, hs3⟩ -
    refine WE.stp (WSE.of hs3) ?_
    obtain ⟨nm, Fm, hWm⟩ := hs3.1.raw hUm.1
    refine aw_aload_n dX5_stretchTo_101 (by rfl) (Or.inr ⟨_, rfl⟩) ?_
    refine aw_aload dX5_stretchTo_102 (by rfl) (Or.inr ⟨_, rfl⟩) ?_
    refine aw_callv vX5_192 dX5_stretchTo_104 hWm.1 (w_copy (d + 3) (w := b + 635) (u := b + 639) hs3.1 hUm.1 hUs.1 (by omega) (by rw [upF_self, upF_self, hZ2 _ (by omega) (by omega) (by omega)]; exact Sm.u156 hSyu)) (by rfl) (by rfl) (by omega) (Nat.le_of_ble_eq_true rfl) ?_
    rintro _ V4 sz4 mc4 ms4 ⟨rfl, P4, L4, hs4⟩ -
    refine WE.stp (WSE.of hs4) ?_
    refine aw_iload dX5_stretchTo_107 (by rfl) ?_
    refine aw_istore dX5_stretchTo_109 (by decide) ?_
    refine aw_pk [7, 4, 5, 6, 0, 1, 2, 3] (by rfl) ?_
    refine st_111 d h0 hg hw5 hk hK1 hKb hC1 hCb hY1 hYb hSC hSY hue (w - l k) (l k) (by omega) (Nat.le_refl _) hs4.1 (fun a ha => (hs4.2.2.1 a ha).trans ((hs3.2.2.1 a ha).trans (hk2 a ha))) (by rw [upF_ne _ _ (by omega), upF_ne _ _ (by omega), upF_self]) ⟨?_, fun j h1 h2 => absurd h1 (by omega), fun q h1 h2 h3 h4 h5 => ?_⟩
    · rw [upF_self, upF_self, upF_self, upF_ne _ _ (by omega), hZ1 _ (by omega) (by omega)]
    · rw [upF_ne _ _ h2, upF_ne _ _ h4]; exact hZ2 q h1 h3 h4
