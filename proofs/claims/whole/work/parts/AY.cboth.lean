/-! ===== the class: both ===== -/
theorem Sg_app (f : Nat → Int) (m : Nat) : ∀ n, Sg f (m + n) = Sg f m + Sg (fun i => f (m + i)) n
  | 0 => by show Sg f m = Sg f m + 0; omega
  | n + 1 => by
    show Sg f (m + n) + f (m + n) = Sg f m + (Sg (fun i => f (m + i)) n + f (m + n))
    rw [Sg_app f m n]; omega
/-- of a STAIR the rows that lead behind column c, and what they reach -/
theorem split_of {A : Mat} {h c r t : Nat} {l : Nat → Nat} (hs : Stair A h (c + r) l) (ht : t ≤ h ∧ (∀ i, i < t → l i < c) ∧ (t < h → c ≤ l t)) : Stair (fun i j => A (t + i) (c + j)) (h - t) r (fun i => l (t + i) - c) ∧ ∀ x, Span (fun i j => A (t + i) (c + j)) (h - t) r x ↔ Span A h (c + r) (fun j => if j < c then 0 else x (j - c)) := by
  have hlc : ∀ i, t ≤ i → i < h → c ≤ l i := fun i h1 h2 => by
    rcases Nat.lt_or_eq_of_le h1 with h3 | h3
    · have := hs.1.2 t i h3 h2
      have := ht.2.2 (by omega)
      omega
    · rw [← h3]; exact ht.2.2 (by omega)
  refine ⟨⟨⟨fun i hi => ?_, fun i k hik hk => ?_⟩, fun i hi => ?_, fun i k hik hk => ?_⟩, fun x => ⟨fun hx => ?_, fun hv => ?_⟩⟩
  · obtain ⟨h1, h2, h3⟩ := hs.1.1 (t + i) (by omega)
    have h4 := hlc (t + i) (by omega) (by omega)
    refine ⟨by show l (t + i) - c < r; omega, ?_, fun j hj => h3 _ (by have hj : j < l (t + i) - c := hj; omega)⟩
    show A (t + i) (c + (l (t + i) - c)) ≠ 0
    rw [show c + (l (t + i) - c) = l (t + i) by omega]; exact h2
  · have h1 := hs.1.2 (t + i) (t + k) (by omega) (by omega)
    have h4 := hlc (t + i) (by omega) (by omega)
    show l (t + i) - c < l (t + k) - c
    omega
  · have h4 := hlc (t + i) (by omega) (by omega)
    show 0 < A (t + i) (c + (l (t + i) - c))
    rw [show c + (l (t + i) - c) = l (t + i) by omega]; exact hs.2.1 _ (by omega)
  · have h4 := hlc (t + k) (by omega) (by omega)
    show 0 ≤ A (t + i) (c + (l (t + k) - c)) ∧ A (t + i) (c + (l (t + k) - c)) < A (t + k) (c + (l (t + k) - c))
    rw [show c + (l (t + k) - c) = l (t + k) by omega]
    exact hs.2.2 _ _ (by omega) (by omega)
  · obtain ⟨y, hy⟩ := hx
    have hv : Span A h (c + r) (fun j => Sg (fun i => y i * A (t + i) j) (h - t)) := span_sum (A' := fun i => A (t + i)) (fun i hi => Span.row (by omega))
    refine hv.congr (fun j hj => ?_)
    by_cases e : j < c
    · rw [if_pos e]
      exact Sg_zero (fun i hi => by rw [(hs.1.1 (t + i) (by omega)).2.2 j (by have := hlc (t + i) (by omega) (by omega); omega), Int.mul_zero])
    · rw [if_neg e, hy (j - c) (by omega)]
      exact Sg_congr (fun i _ => by show y i * A (t + i) j = y i * A (t + i) (c + (j - c)); rw [show c + (j - c) = j by omega])
  · obtain ⟨y, hy⟩ := hv
    have hc0 := ech_coef hs.1 hy t ht.1 (fun k hk => if_pos (ht.2.1 k hk))
    refine ⟨fun i => y (t + i), fun j hj => ?_⟩
    have h1 : (if c + j < c then 0 else x (c + j - c)) = Sg (fun i => y i * A i (c + j)) h := hy (c + j) (by omega)
    rw [if_neg (show ¬ c + j < c by omega), show c + j - c = j by omega] at h1
    have e : Sg (fun i => y i * A i (c + j)) h = Sg (fun i => y (t + i) * A (t + i) (c + j)) (h - t) := Sg_from (f := fun i => y i * A i (c + j)) (fun i hi => by show y i * A i (c + j) = 0; rw [hc0 i hi, Int.zero_mul]) ht.1
    exact h1.trans e
/-- rows (v + w, v) -/
def BM (N M : Nat → Int) (r c : Nat) : Mat := fun i j => if i < r then (if j < c then N (5 * i + j) else N (5 * i + (j - c))) else if j < c then M (5 * (i - r) + j) else 0
theorem bm_span {N M : Nat → Int} {r s c : Nat} {u : Nat → Int} : Span (BM N M r c) (r + s) (c + c) (fun j => if j < c then 0 else u (j - c)) ↔ Span (TM N) r c u ∧ Span (TM M) s c u := by
  have e1 : ∀ (y : Nat → Int) j, j < c → Sg (fun i => y i * BM N M r c i j) (r + s) = Sg (fun i => y i * TM N i j) r + Sg (fun i => y (r + i) * TM M i j) s := fun y j hj => by
    rw [Sg_app]
    congr 1
    · exact Sg_congr (fun i hi => by unfold BM; rw [if_pos hi, if_pos hj])
    · exact Sg_congr (fun i hi => by unfold BM; rw [if_neg (by omega), if_pos hj, show r + i - r = i by omega])
  have e2 : ∀ (y : Nat → Int) j, Sg (fun i => y i * BM N M r c i (c + j)) (r + s) = Sg (fun i => y i * TM N i j) r := fun y j => by
    rw [Sg_app, Sg_zero (f := fun i => y (r + i) * BM N M r c (r + i) (c + j)) (fun i hi => by unfold BM; rw [if_neg (by omega), if_neg (by omega), Int.mul_zero]), Int.add_zero]
    exact Sg_congr (fun i hi => by unfold BM; rw [if_pos hi, if_neg (by omega), show c + j - c = j by omega])
  constructor
  · rintro ⟨y, hy⟩
    have a1 : ∀ j, j < c → u j = Sg (fun i => y i * TM N i j) r := fun j hj => by
      have h1 : (if c + j < c then 0 else u (c + j - c)) = _ := hy (c + j) (by omega)
      rw [if_neg (by omega), show c + j - c = j by omega, e2] at h1
      exact h1
    refine ⟨⟨y, a1⟩, fun i => - y (r + i), fun j hj => ?_⟩
    have h1 : (if j < c then 0 else u (j - c)) = _ := hy j (by omega)
    rw [if_pos hj, e1 y j hj, ← a1 j hj] at h1
    have h2 := Sg_lin (fun i => y (r + i) * TM M i j) (fun _ => 0) (-1) 0 s
    rw [Sg_congr (f := fun i => - y (r + i) * TM M i j) (h := fun i => -1 * (y (r + i) * TM M i j) + 0 * 0) (fun i _ => by rw [Int.neg_mul]; omega), h2]
    omega
  · rintro ⟨⟨p, hp⟩, ⟨q, hq⟩⟩
    refine ⟨fun i => if i < r then p i else - q (i - r), fun j hj => ?_⟩
    have c1 : ∀ j, Sg (fun i => (if i < r then p i else - q (i - r)) * TM N i j) r = Sg (fun i => p i * TM N i j) r := fun j => Sg_congr (fun i hi => by rw [if_pos hi])
    by_cases e : j < c
    · rw [e1 _ j e, c1 j, ← hp j e]
      show (if j < c then 0 else u (j - c)) = _
      rw [if_pos e]
      have h2 := Sg_lin (fun i => q i * TM M i j) (fun _ => 0) (-1) 0 s
      rw [Sg_congr (f := fun i => (if r + i < r then p (r + i) else - q (r + i - r)) * TM M i j) (h := fun i => -1 * (q i * TM M i j) + 0 * 0) (fun i _ => by rw [if_neg (by omega), show r + i - r = i by omega, Int.neg_mul]; omega), h2, ← hq j e]
      omega
    · obtain ⟨k, rfl⟩ : ∃ k, j = c + k := ⟨j - c, by omega⟩
      rw [e2, c1 k, ← hp k (by omega)]
      show (if c + k < c then 0 else u (c + k - c)) = _
      rw [if_neg (by omega), show c + k - c = k by omega]
theorem bm_ab {S : TSt} (h : TOK S) {x y : Nat} (hx : x < 12) (hy : y < 12) (hc : S.c x = S.c y) : ∀ i j, i < S.r x + S.r y → j < S.c x + S.c x → ab (BM (S.N x) (S.N y) (S.r x) (S.c x) i j) ≤ 1000 := fun i j hi hj => by
  have q1 := h x hx
  have q2 := h y hy
  unfold BM
  split
  · split
    · have := q1.2.2.2.1 (5 * i + j) (by omega); unfold ab; omega
    · have := q1.2.2.2.1 (5 * i + (j - S.c x)) (by omega); unfold ab; omega
  · split
    · have := q2.2.2.2.1 (5 * (i - S.r x) + j) (by omega); unfold ab; omega
    · unfold ab; omega
def BthR (S : TSt) (x y : Nat) (q : Option Value) (A' : ASt) : Prop := ∃ (h1 : Nat) (l1 : Nat → Nat) (B : Mat), Stair B h1 (S.c x) l1 ∧ (∀ v, Span B h1 (S.c x) v ↔ Span (TM (S.N x)) (S.r x) (S.c x) v ∧ Span (TM (S.N y)) (S.r y) (S.c x) v) ∧ some (.int (iZ h1)) = q ∧ AIs A' h1 (S.c x) B
abbrev mX5_both : MI := (yX5_both, cX5_both, 9, (some FieldType.int), noX)
theorem dX5_both_0 : decode cX5_both 0 = .ok (.aload_n 0, 1) := by decide +kernel
theorem dX5_both_1 : decode cX5_both 1 = .ok (.iload_n 1, 1) := by decide +kernel
theorem dX5_both_2 : decode cX5_both 2 = .ok (.invokevirtual 72, 3) := by decide +kernel
theorem dX5_both_5 : decode cX5_both 5 = .ok (.astore_n 3, 1) := by decide +kernel
theorem dX5_both_6 : decode cX5_both 6 = .ok (.aload_n 0, 1) := by decide +kernel
theorem dX5_both_7 : decode cX5_both 7 = .ok (.iload_n 2, 1) := by decide +kernel
theorem dX5_both_8 : decode cX5_both 8 = .ok (.invokevirtual 72, 3) := by decide +kernel
theorem dX5_both_11 : decode cX5_both 11 = .ok (.astore 4, 2) := by decide +kernel
theorem dX5_both_13 : decode cX5_both 13 = .ok (.aload_n 3, 1) := by decide +kernel
theorem dX5_both_14 : decode cX5_both 14 = .ok (.aload 4, 2) := by decide +kernel
theorem dX5_both_16 : decode cX5_both 16 = .ok (.invokestatic 137, 3) := by decide +kernel
theorem dX5_both_19 : decode cX5_both 19 = .ok (.ifCond .ne 5, 3) := by decide +kernel
theorem dX5_both_22 : decode cX5_both 22 = .ok (.iconst (-1), 1) := by decide +kernel
theorem dX5_both_23 : decode cX5_both 23 = .ok (.ireturn, 1) := by decide +kernel
theorem dX5_both_24 : decode cX5_both 24 = .ok (.aload_n 3, 1) := by decide +kernel
theorem dX5_both_25 : decode cX5_both 25 = .ok (.getfield 79, 3) := by decide +kernel
theorem dX5_both_28 : decode cX5_both 28 = .ok (.istore 5, 2) := by decide +kernel
theorem dX5_both_30 : decode cX5_both 30 = .ok (.aload_n 0, 1) := by decide +kernel
theorem dX5_both_31 : decode cX5_both 31 = .ok (.getfield 35, 3) := by decide +kernel
theorem dX5_both_34 : decode cX5_both 34 = .ok (.iconst 2, 1) := by decide +kernel
theorem dX5_both_35 : decode cX5_both 35 = .ok (.iload 5, 2) := by decide +kernel
theorem dX5_both_37 : decode cX5_both 37 = .ok (.imul, 1) := by decide +kernel
theorem dX5_both_38 : decode cX5_both 38 = .ok (.invokevirtual 203, 3) := by decide +kernel
theorem dX5_both_41 : decode cX5_both 41 = .ok (.iconst 0, 1) := by decide +kernel
theorem dX5_both_42 : decode cX5_both 42 = .ok (.istore 6, 2) := by decide +kernel
theorem dX5_both_44 : decode cX5_both 44 = .ok (.iload 6, 2) := by decide +kernel
theorem dX5_both_46 : decode cX5_both 46 = .ok (.aload_n 3, 1) := by decide +kernel
theorem dX5_both_47 : decode cX5_both 47 = .ok (.getfield 96, 3) := by decide +kernel
theorem dX5_both_50 : decode cX5_both 50 = .ok (.if_icmp .ge 80, 3) := by decide +kernel
theorem dX5_both_53 : decode cX5_both 53 = .ok (.aload_n 0, 1) := by decide +kernel
theorem dX5_both_54 : decode cX5_both 54 = .ok (.getfield 35, 3) := by decide +kernel
theorem dX5_both_57 : decode cX5_both 57 = .ok (.getfield 141, 3) := by decide +kernel
theorem dX5_both_60 : decode cX5_both 60 = .ok (.aload_n 0, 1) := by decide +kernel
theorem dX5_both_61 : decode cX5_both 61 = .ok (.getfield 35, 3) := by decide +kernel
theorem dX5_both_64 : decode cX5_both 64 = .ok (.getfield 111, 3) := by decide +kernel
theorem dX5_both_67 : decode cX5_both 67 = .ok (.aaload, 1) := by decide +kernel
theorem dX5_both_68 : decode cX5_both 68 = .ok (.astore 7, 2) := by decide +kernel
theorem dX5_both_70 : decode cX5_both 70 = .ok (.aload 7, 2) := by decide +kernel
theorem dX5_both_72 : decode cX5_both 72 = .ok (.aload_n 3, 1) := by decide +kernel
theorem dX5_both_73 : decode cX5_both 73 = .ok (.iload 6, 2) := by decide +kernel
theorem dX5_both_75 : decode cX5_both 75 = .ok (.iconst 1, 1) := by decide +kernel
theorem dX5_both_76 : decode cX5_both 76 = .ok (.invokevirtual 144, 3) := by decide +kernel
theorem dX5_both_79 : decode cX5_both 79 = .ok (.iconst 0, 1) := by decide +kernel
theorem dX5_both_80 : decode cX5_both 80 = .ok (.istore 8, 2) := by decide +kernel
theorem dX5_both_82 : decode cX5_both 82 = .ok (.iload 8, 2) := by decide +kernel
theorem dX5_both_84 : decode cX5_both 84 = .ok (.iload 5, 2) := by decide +kernel
theorem dX5_both_86 : decode cX5_both 86 = .ok (.if_icmp .ge 31, 3) := by decide +kernel
theorem dX5_both_89 : decode cX5_both 89 = .ok (.aload 7, 2) := by decide +kernel
theorem dX5_both_91 : decode cX5_both 91 = .ok (.getfield 151, 3) := by decide +kernel
theorem dX5_both_94 : decode cX5_both 94 = .ok (.iload 5, 2) := by decide +kernel
theorem dX5_both_96 : decode cX5_both 96 = .ok (.iload 8, 2) := by decide +kernel
theorem dX5_both_98 : decode cX5_both 98 = .ok (.iadd, 1) := by decide +kernel
theorem dX5_both_99 : decode cX5_both 99 = .ok (.aaload, 1) := by decide +kernel
theorem dX5_both_100 : decode cX5_both 100 = .ok (.aload 7, 2) := by decide +kernel
theorem dX5_both_102 : decode cX5_both 102 = .ok (.getfield 151, 3) := by decide +kernel
theorem dX5_both_105 : decode cX5_both 105 = .ok (.iload 8, 2) := by decide +kernel
theorem dX5_both_107 : decode cX5_both 107 = .ok (.aaload, 1) := by decide +kernel
theorem dX5_both_108 : decode cX5_both 108 = .ok (.invokevirtual 192, 3) := by decide +kernel
theorem dX5_both_111 : decode cX5_both 111 = .ok (.iinc 8 1, 3) := by decide +kernel
theorem dX5_both_114 : decode cX5_both 114 = .ok (.goto (-32), 3) := by decide +kernel
theorem dX5_both_117 : decode cX5_both 117 = .ok (.aload_n 0, 1) := by decide +kernel
theorem dX5_both_118 : decode cX5_both 118 = .ok (.getfield 35, 3) := by decide +kernel
theorem dX5_both_121 : decode cX5_both 121 = .ok (.invokevirtual 200, 3) := by decide +kernel
theorem dX5_both_124 : decode cX5_both 124 = .ok (.iinc 6 1, 3) := by decide +kernel
theorem dX5_both_127 : decode cX5_both 127 = .ok (.goto (-83), 3) := by decide +kernel
theorem dX5_both_130 : decode cX5_both 130 = .ok (.iconst 0, 1) := by decide +kernel
theorem dX5_both_131 : decode cX5_both 131 = .ok (.istore 6, 2) := by decide +kernel
theorem dX5_both_133 : decode cX5_both 133 = .ok (.iload 6, 2) := by decide +kernel
theorem dX5_both_135 : decode cX5_both 135 = .ok (.aload 4, 2) := by decide +kernel
theorem dX5_both_137 : decode cX5_both 137 = .ok (.getfield 96, 3) := by decide +kernel
theorem dX5_both_140 : decode cX5_both 140 = .ok (.if_icmp .ge 74, 3) := by decide +kernel
theorem dX5_both_143 : decode cX5_both 143 = .ok (.aload_n 0, 1) := by decide +kernel
theorem dX5_both_144 : decode cX5_both 144 = .ok (.getfield 35, 3) := by decide +kernel
theorem dX5_both_147 : decode cX5_both 147 = .ok (.getfield 141, 3) := by decide +kernel
theorem dX5_both_150 : decode cX5_both 150 = .ok (.aload_n 0, 1) := by decide +kernel
theorem dX5_both_151 : decode cX5_both 151 = .ok (.getfield 35, 3) := by decide +kernel
theorem dX5_both_154 : decode cX5_both 154 = .ok (.getfield 111, 3) := by decide +kernel
theorem dX5_both_157 : decode cX5_both 157 = .ok (.aaload, 1) := by decide +kernel
theorem dX5_both_158 : decode cX5_both 158 = .ok (.astore 7, 2) := by decide +kernel
theorem dX5_both_160 : decode cX5_both 160 = .ok (.aload 7, 2) := by decide +kernel
theorem dX5_both_162 : decode cX5_both 162 = .ok (.aload 4, 2) := by decide +kernel
theorem dX5_both_164 : decode cX5_both 164 = .ok (.iload 6, 2) := by decide +kernel
theorem dX5_both_166 : decode cX5_both 166 = .ok (.iconst 1, 1) := by decide +kernel
theorem dX5_both_167 : decode cX5_both 167 = .ok (.invokevirtual 144, 3) := by decide +kernel
theorem dX5_both_170 : decode cX5_both 170 = .ok (.iconst 0, 1) := by decide +kernel
theorem dX5_both_171 : decode cX5_both 171 = .ok (.istore 8, 2) := by decide +kernel
theorem dX5_both_173 : decode cX5_both 173 = .ok (.iload 8, 2) := by decide +kernel
theorem dX5_both_175 : decode cX5_both 175 = .ok (.iload 5, 2) := by decide +kernel
theorem dX5_both_177 : decode cX5_both 177 = .ok (.if_icmp .ge 24, 3) := by decide +kernel
theorem dX5_both_180 : decode cX5_both 180 = .ok (.aload 7, 2) := by decide +kernel
theorem dX5_both_182 : decode cX5_both 182 = .ok (.getfield 151, 3) := by decide +kernel
theorem dX5_both_185 : decode cX5_both 185 = .ok (.iload 5, 2) := by decide +kernel
theorem dX5_both_187 : decode cX5_both 187 = .ok (.iload 8, 2) := by decide +kernel
theorem dX5_both_189 : decode cX5_both 189 = .ok (.iadd, 1) := by decide +kernel
theorem dX5_both_190 : decode cX5_both 190 = .ok (.aaload, 1) := by decide +kernel
theorem dX5_both_191 : decode cX5_both 191 = .ok (.lconst 0, 1) := by decide +kernel
theorem dX5_both_192 : decode cX5_both 192 = .ok (.invokevirtual 159, 3) := by decide +kernel
theorem dX5_both_195 : decode cX5_both 195 = .ok (.iinc 8 1, 3) := by decide +kernel
theorem dX5_both_198 : decode cX5_both 198 = .ok (.goto (-25), 3) := by decide +kernel
theorem dX5_both_201 : decode cX5_both 201 = .ok (.aload_n 0, 1) := by decide +kernel
theorem dX5_both_202 : decode cX5_both 202 = .ok (.getfield 35, 3) := by decide +kernel
theorem dX5_both_205 : decode cX5_both 205 = .ok (.invokevirtual 200, 3) := by decide +kernel
theorem dX5_both_208 : decode cX5_both 208 = .ok (.iinc 6 1, 3) := by decide +kernel
theorem dX5_both_211 : decode cX5_both 211 = .ok (.goto (-78), 3) := by decide +kernel
theorem dX5_both_214 : decode cX5_both 214 = .ok (.aload_n 0, 1) := by decide +kernel
theorem dX5_both_215 : decode cX5_both 215 = .ok (.aload_n 0, 1) := by decide +kernel
theorem dX5_both_216 : decode cX5_both 216 = .ok (.getfield 35, 3) := by decide +kernel
theorem dX5_both_219 : decode cX5_both 219 = .ok (.aload_n 0, 1) := by decide +kernel
theorem dX5_both_220 : decode cX5_both 220 = .ok (.getfield 35, 3) := by decide +kernel
theorem dX5_both_223 : decode cX5_both 223 = .ok (.iload 5, 2) := by decide +kernel
theorem dX5_both_225 : decode cX5_both 225 = .ok (.invokevirtual 178, 3) := by decide +kernel
theorem dX5_both_228 : decode cX5_both 228 = .ok (.iload 5, 2) := by decide +kernel
theorem dX5_both_230 : decode cX5_both 230 = .ok (.invokevirtual 163, 3) := by decide +kernel
theorem dX5_both_233 : decode cX5_both 233 = .ok (.ireturn, 1) := by decide +kernel
set_option maxRecDepth 20000 in
theorem bt_in1 (d : Nat) {g : GX} {b : Nat} {X : Nat → Prop} {S : TSt} {A : ASt} {x y : Nat} {QR : Option Value → TSt → ASt → Prop} (hx : x < 12) (hy : y < 12) (hcc : S.c x = S.c y) {i hh : Nat} {V1 : AH} {Z1 : Nat → Int} {ld : Nat → Int} {ρ : Nat → Nat} (hOk : TOK S) (hi : i < S.r x) (hG1 : GD g V1 (b + 159 + 1) (GWd b) hh (S.c x + S.c x) ld ρ) (hhh : hh < 11) (hKK : ∀ {V : AH} {sz : Nat} {Z : Nat → Int} {P L : Nat → Nat}, WG g (wsB b) (SAB b X) V sz Z P L → (∀ a, SAB b X a → V a = V1 a) → RU Z1 Z ((GWd b).ga (ρ hh)) 0 (S.c x + S.c x) ((BM (S.N x) (S.N y) (S.r x) (S.c x)) (i)) E0 → AW g mX5_both (d + 8) 117 [(6, .int (iZ i)), (5, .int (iZ (S.c x))), (3, .ref (b + 647 + 3 * x)), (4, .ref (b + 647 + 3 * y)), (0, .ref b)] [] V sz (CE g b X V sz L QR)) : ∀ (f j : Nat), j + f = S.c x → ∀ {V : AH} {sz : Nat} {Z : Nat → Int} {P L : Nat → Nat}, WG g (wsB b) (SAB b X) V sz Z P L → (∀ a, SAB b X a → V a = V1 a) → RU Z1 Z ((GWd b).ga (ρ hh)) 0 (S.c x + j) ((BM (S.N x) (S.N y) (S.r x) (S.c x)) (i)) E0 → AW g mX5_both (d + 8) 82 [(8, .int (iZ j)), (7, .ref (ρ hh)), (6, .int (iZ i)), (5, .int (iZ (S.c x))), (3, .ref (b + 647 + 3 * x)), (4, .ref (b + 647 + 3 * y)), (0, .ref b)] [] V sz (CE g b X V sz L QR)
  | 0, j, hf, V, sz, Z, P, L, hw0, hV, hru => by
    obtain rfl : j = S.c x := by omega
    obtain ⟨q1, q3, -⟩ := hOk x hx
    obtain ⟨q2, q4, -⟩ := hOk y hy
    refine aw_iload dX5_both_82 (by rfl) ?_
    refine aw_iload dX5_both_84 (by rfl) ?_
    refine aw_icmp_geZ (tgt := 117) dX5_both_86 (by decide) (by omega) (by omega) (fun hc_86 => ?_) (fun hc_86 => ?_)
    · refine aw_pk [6, 5, 3, 4, 0] (by rfl) ?_
      exact hKK hw0 hV hru
    · exact absurd hc_86 (by omega)
  | f + 1, j, hf, V, sz, Z, P, L, hw0, hV, hru => by
    have IH := fun j hj => @bt_in1 d g b X S A x y QR hx hy hcc i hh V1 Z1 ld ρ hOk hi hG1 hhh hKK f j hj
    obtain ⟨q1, q3, -⟩ := hOk x hx
    obtain ⟨q2, q4, -⟩ := hOk y hy
    obtain ⟨-, wra, -, wrow, wRS, winj⟩ := id (hG1.kept2 (V' := V) (fun a ha => hV a (sab_gW ha).1))
    have hRh := wRS hh (show hh < 11 by omega)
    obtain ⟨rh1, rh2, -⟩ := wrow _ hRh
    have rh2 : V ((GWd b).ka (ρ hh)) = some (aQ g 5 10 (fun j => some ((GWd b).ga (ρ hh) j))) := rh2
    have hct := ((gst_W b X).2.2.2.2.1 _ hRh (S.c x + j) (show S.c x + j < 10 by omega)).1.1
    have hcin : ∀ e, e < S.c x + j → (GWd b).ga (ρ hh) e ≠ (GWd b).ga (ρ hh) (S.c x + j) := fun e he q => by have := ((gst_W b X).2.2.2.2.2.1 _ _ _ _ hRh hRh (show e < 10 by omega) (show S.c x + j < 10 by omega) q).2; omega
    obtain ⟨nt, Ft, hWt⟩ := hw0.raw hct
    have hcj := ((gst_W b X).2.2.2.2.1 _ hRh j (show j < 10 by omega)).1.1
    have hne : (GWd b).ga (ρ hh) (S.c x + j) ≠ (GWd b).ga (ρ hh) j := fun q => by have := ((gst_W b X).2.2.2.2.2.1 _ _ _ _ hRh hRh (show S.c x + j < 10 by omega) (show j < 10 by omega) q).2; omega
    have hzj : Z ((GWd b).ga (ρ hh) j) = (BM (S.N x) (S.N y) (S.r x) (S.c x)) (i) j := hru.1 j (Nat.zero_le _) (by omega)
    refine aw_iload dX5_both_82 (by rfl) ?_
    refine aw_iload dX5_both_84 (by rfl) ?_
    refine aw_icmp_geZ (tgt := 117) dX5_both_86 (by decide) (by omega) (by omega) (fun hc_86 => ?_) (fun hc_86 => ?_)
    · exact absurd hc_86 (by omega)
    · refine aw_aload dX5_both_89 (by rfl) (Or.inr ⟨_, rfl⟩) ?_
      refine aw_get fX5_151 dX5_both_91 rh1 (by rfl) ?_
      refine aw_iload dX5_both_94 (by rfl) ?_
      refine aw_iload dX5_both_96 (by rfl) ?_
      refine aw_iaddZ dX5_both_98 ?_
      refine aw_aaldZ (t0 := 5) (S.c x + j) (by rfl) dX5_both_99 rh2 (by omega) (by omega) (by omega) ?_
      refine aw_aload dX5_both_100 (by rfl) (Or.inr ⟨_, rfl⟩) ?_
      refine aw_get fX5_151 dX5_both_102 rh1 (by rfl) ?_
      refine aw_iload dX5_both_105 (by rfl) ?_
      refine aw_aaldZ (t0 := 5) (j) (by rfl) dX5_both_107 rh2 (by omega) (by omega) (by omega) ?_
      refine aw_callv vX5_192 dX5_both_108 hWt.1 (w_copy (d + 4) hw0 hct hcj hne (Sm.u156 (by rw [hzj]; exact sm_small (by have := bm_ab hOk hx hy hcc (i) j (by omega) (by omega); omega)))) (by rfl) (by rfl) (by omega) (Nat.le_of_ble_eq_true rfl) ?_
      rintro _ V2 sz2 mc2 ms2 ⟨rfl, P2, L2, hs2⟩ -
      refine WE.stp (WSE.of hs2) ?_
      refine aw_iincZ dX5_both_111 (by rfl) (by decide) ?_
      refine aw_goto (tgt := 82) dX5_both_114 (by decide) ?_
      rw [show ((j : Int) + 1) = ((j + 1 : Nat) : Int) by omega]
      refine aw_pk [8, 7, 6, 5, 3, 4, 0] (by rfl) ?_
      exact IH (j + 1) (by omega) hs2.1 (fun a ha => (hs2.2.2.1 a ha).trans (hV a ha)) (hru.up (z := Z ((GWd b).ga (ρ hh) j)) (Nat.zero_le _) hcin (by rw [hzj]; unfold BM; rw [if_pos (by omega), if_pos (by omega), if_pos (by omega), if_neg (by omega), show S.c x + j - S.c x = j by omega]))
set_option maxRecDepth 20000 in
theorem bt_out1 (d : Nat) {g : GX} {b : Nat} {X : Nat → Prop} {S : TSt} {A : ASt} {x y : Nat} {QR : Option Value → TSt → ASt → Prop} (hx : x < 12) (hy : y < 12) (hcc : S.c x = S.c y) (hKK : ∀ {V : AH} {sz : Nat} {Z : Nat → Int} {P L : Nat → Nat} {hh : Nat} {ld : Nat → Int} {l ρ : Nat → Nat}, WG g (wsB b) (SAB b X) V sz Z P L → CX g b X V Z S A → GD g V (b + 159 + 1) (GWd b) hh (S.c x + S.c x) ld ρ → (∀ i, i < hh → ld i = (l i : Int)) → Stair (AM (GWd b) Z ρ) hh (S.c x + S.c x) l → SpEq (BM (S.N x) (S.N y) (S.r x) (S.c x)) (S.r x) (AM (GWd b) Z ρ) hh (S.c x + S.c x) → hh ≤ S.r x → AW g mX5_both (d + 8) 130 [(5, .int (iZ (S.c x))), (3, .ref (b + 647 + 3 * x)), (4, .ref (b + 647 + 3 * y)), (0, .ref b)] [] V sz (CE g b X V sz L QR)) : ∀ (f i : Nat), i + f = S.r x → ∀ {V : AH} {sz : Nat} {Z : Nat → Int} {P L : Nat → Nat} {hh : Nat} {ld : Nat → Int} {l ρ : Nat → Nat}, WG g (wsB b) (SAB b X) V sz Z P L → CX g b X V Z S A → GD g V (b + 159 + 1) (GWd b) hh (S.c x + S.c x) ld ρ → (∀ i, i < hh → ld i = (l i : Int)) → Stair (AM (GWd b) Z ρ) hh (S.c x + S.c x) l → SpEq (BM (S.N x) (S.N y) (S.r x) (S.c x)) (i) (AM (GWd b) Z ρ) hh (S.c x + S.c x) → hh ≤ i → AW g mX5_both (d + 8) 44 [(6, .int (iZ i)), (5, .int (iZ (S.c x))), (3, .ref (b + 647 + 3 * x)), (4, .ref (b + 647 + 3 * y)), (0, .ref b)] [] V sz (CE g b X V sz L QR)
  | 0, i, hf, V, sz, Z, P, L, hh, ld, l, ρ, hw0, h, hG, hld, hst, hsp, hhR => by
    obtain rfl : i = S.r x := by omega
    have hb := h.1.1
    obtain ⟨hTb, hOk, -⟩ := h.2
    obtain ⟨q1, q3, -, qx, -⟩ := hOk x hx
    obtain ⟨q2, q4, -, qy, -⟩ := hOk y hy
    obtain ⟨x1, x2, x3⟩ := id (hTb x hx)
    obtain ⟨y1, y2, y3⟩ := id (hTb y hy)
    have hle := hst.1.le_w
    have wgd : V (b + 159) = some (grO (b + 159 + 21) (b + 159 + 20) (b + 159 + 1) (b + 159 + 16) (b + 159 + 18) hh (S.c x + S.c x : Nat)) := hG.1
    refine aw_iload dX5_both_44 (by rfl) ?_
    refine aw_aload_n dX5_both_46 (by rfl) (Or.inr ⟨_, rfl⟩) ?_
    refine aw_get fX5_96 dX5_both_47 x1 (by rfl) ?_
    refine aw_icmp_geZ (tgt := 130) dX5_both_50 (by decide) (by omega) (by omega) (fun hc_50 => ?_) (fun hc_50 => ?_)
    · refine aw_pk [5, 3, 4, 0] (by rfl) ?_
      exact hKK hw0 h hG hld hst hsp hhR
    · exact absurd hc_50 (by omega)
  | f + 1, i, hf, V, sz, Z, P, L, hh, ld, l, ρ, hw0, h, hG, hld, hst, hsp, hhR => by
    have IH := fun i hi => @bt_out1 d g b X S A x y QR hx hy hcc hKK f i hi
    have hb := h.1.1
    obtain ⟨hTb, hOk, -⟩ := h.2
    obtain ⟨q1, q3, -, qx, -⟩ := hOk x hx
    obtain ⟨q2, q4, -, qy, -⟩ := hOk y hy
    obtain ⟨x1, x2, x3⟩ := id (hTb x hx)
    obtain ⟨y1, y2, y3⟩ := id (hTb y hy)
    have hle := hst.1.le_w
    have wgd : V (b + 159) = some (grO (b + 159 + 21) (b + 159 + 20) (b + 159 + 1) (b + 159 + 16) (b + 159 + 18) hh (S.c x + S.c x : Nat)) := hG.1
    obtain ⟨-, wra, -, wrow, wRS, winj⟩ := id hG
    have wra : V (b + 159 + 21) = some (aQ g 4 11 (fun i => some (ρ i))) := wra
    have hRh := wRS hh (show hh < 11 by omega)
    have hrh := wrow _ hRh
    have hrh : RowV g V (ρ hh) ((GWd b).ka (ρ hh)) 10 ((GWd b).ga (ρ hh)) := hrh
    refine aw_iload dX5_both_44 (by rfl) ?_
    refine aw_aload_n dX5_both_46 (by rfl) (Or.inr ⟨_, rfl⟩) ?_
    refine aw_get fX5_96 dX5_both_47 x1 (by rfl) ?_
    refine aw_icmp_geZ (tgt := 130) dX5_both_50 (by decide) (by omega) (by omega) (fun hc_50 => ?_) (fun hc_50 => ?_)
    · exact absurd hc_50 (by omega)
    · refine aw_aload_n dX5_both_53 (by rfl) (Or.inr ⟨_, rfl⟩) ?_
      refine aw_get fX5_35 dX5_both_54 hb (by rfl) ?_
      refine aw_get fX5_141 dX5_both_57 wgd (by rfl) ?_
      refine aw_aload_n dX5_both_60 (by rfl) (Or.inr ⟨_, rfl⟩) ?_
      refine aw_get fX5_35 dX5_both_61 hb (by rfl) ?_
      refine aw_get fX5_111 dX5_both_64 wgd (by rfl) ?_
      refine aw_aaldZ (t0 := 4) (hh) (by rfl) dX5_both_67 wra (by omega) (by omega) (by omega) ?_
      refine aw_astore dX5_both_68 (by decide) (Or.inr ⟨_, rfl⟩) ?_
      refine aw_aload dX5_both_70 (by rfl) (Or.inr ⟨_, rfl⟩) ?_
      refine aw_aload_n dX5_both_72 (by rfl) (Or.inr ⟨_, rfl⟩) ?_
      refine aw_iload dX5_both_73 (by rfl) ?_
      refine aw_iconstZ dX5_both_75 ?_
      refine aw_callv vX5_144 dX5_both_76 hrh.1 (w_read (i := i) (f := 1) (d + 5) hw0 hrh x1 x2 qx (Or.inl rfl) (by omega) (fun j hj => ((gst_W b X).2.2.2.2.1 _ hRh j hj).1.1) (fun a e ha he hne q => hne ((gst_W b X).2.2.2.2.2.1 _ _ _ _ hRh hRh ha he q).2) ((gst_W b X).2.2.2.1 _ hRh).1 ((gst_W b X).2.2.2.1 _ hRh).2.1 (tb_sab hx).1 (tb_sab hx).2.1 ⟨show _ ≤ 10 by omega, by omega⟩) (by rfl) (by rfl) (by omega) (Nat.le_of_ble_eq_true rfl) ?_
      rintro _ V1 sz1 mc1 ms1 ⟨Z1, P1, L1, ⟨rfl, hru1⟩, hs1⟩ -
      refine WE.stp (hs1.weak (fun _ q => q.elim)) ?_
      have hkv1 : ∀ a, SAB b X a → V1 a = V a := fun a ha => hs1.2.2.1 a ha (fun q => q)
      have hru1 : RU Z Z1 ((GWd b).ga (ρ hh)) 0 (S.c x + 0) ((BM (S.N x) (S.N y) (S.r x) (S.c x)) (i)) E0 := by
        have := hru1.cong (G' := (BM (S.N x) (S.N y) (S.r x) (S.c x)) (i)) (fun j _ hj => by
          show 1 * S.N x (5 * i + j) = _
          unfold BM
          rw [if_pos (show i < S.r x by omega), if_pos hj, Int.one_mul])
        exact this
      refine aw_iconstZ dX5_both_79 ?_
      refine aw_istore dX5_both_80 (by decide) ?_
      refine aw_pk [8, 7, 6, 5, 3, 4, 0] (by rfl) ?_
      refine bt_in1 d hx hy hcc (A := A) (i := i) (hh := hh) (V1 := V) (Z1 := Z) hOk (by omega) hG (by omega) (fun {V2 sz2 Z2 P2 L2} hw2 hV2 hru2 => ?_) (S.c x) 0 (by omega) hs1.1 hkv1 hru1
      have hk2 : ∀ a, SAB b X a → V2 a = V a := hV2
      have hNF1 : NF (GWd b) Z Z2 := fun q h1 h2 h3 => hru2.2 q (fun z => z) (fun e _ he => h3 _ hRh e (show e < 10 by omega))
      have ho2 : ∀ q, q < b + 159 ∨ DK b q → Z2 q = Z q := fun q hq => hru2.2 q (fun z => z) (fun e _ he => by have := am_W hG (i := hh) (j := e) (by omega) (by omega); omega)
      have h2' := h.zs hk2 ho2
      have hb2 := h2'.1.1
      have hG2 : GD g V2 (b + 159 + 1) (GWd b) hh (S.c x + S.c x) ld ρ := hG.kept2 (fun a ha => hk2 a (sab_gW ha).1)
      have wgd2 : V2 (b + 159) = some (grO (b + 159 + 21) (b + 159 + 20) (b + 159 + 1) (b + 159 + 16) (b + 159 + 18) hh (S.c x + S.c x : Nat)) := hG2.1
      have hot : ∀ a, a < 11 → a ≠ hh → ∀ j, j < 10 → Z2 ((GWd b).ga (ρ a) j) = Z ((GWd b).ga (ρ a) j) := fun a ha hai j hj => hru2.2 _ (fun q => q) (fun e _ he q => winj a hh ha (show hh < 11 by omega) hai ((gst_W b X).2.2.2.2.2.1 _ _ _ _ (wRS a ha) hRh hj (show e < 10 by omega) q).1)
      have hrw : ∀ j, j < (S.c x + S.c x) → Z2 ((GWd b).ga (ρ hh) j) = (BM (S.N x) (S.N y) (S.r x) (S.c x)) (i) j := fun j hj => hru2.1 j (Nat.zero_le _) hj
      have hst1 : Stair (AM (GWd b) Z2 ρ) hh (S.c x + S.c x) l := hst.cong (fun a ha j hj => hot a (by omega) (by omega) j (by omega))
      have hsp1 : SpEq (BM (S.N x) (S.N y) (S.r x) (S.c x)) (i) (AM (GWd b) Z2 ρ) hh (S.c x + S.c x) := hsp.tr (SpEq.cong (fun a ha j hj => (hot a (by omega) (by omega) j (by omega)).symm))
      have hsp2 : SpEq (BM (S.N x) (S.N y) (S.r x) (S.c x)) (i + 1) (AM (GWd b) Z2 ρ) (hh + 1) (S.c x + S.c x) := hsp1.push (fun _ _ _ _ => rfl) (fun _ _ _ _ => rfl) (fun j hj => (hrw j hj).symm)
      have hTb1 : ∀ k j, k < i + 1 → j < (S.c x + S.c x) → ab ((BM (S.N x) (S.N y) (S.r x) (S.c x)) k j) ≤ 1000 := fun k j hk hj => bm_ab hOk hx hy hcc k j (by omega) hj
      refine aw_aload_n dX5_both_117 (by rfl) (Or.inr ⟨_, rfl⟩) ?_
      refine aw_get fX5_35 dX5_both_118 hb2 (by rfl) ?_
      refine aw_callv vX5_200 dX5_both_121 wgd2 (w_takeIn g (d + 1) (D := DG (b + 159)) (G := GWd b) (gso_W b X) (show hh < 11 by omega) (show S.c x + S.c x < 11 by omega) (show S.c x + S.c x ≤ 10 by omega) hst1 ((LB.mono0 (n := i + 1) (by omega) hTb1 (by omega)).eq hsp1) ((LB.mono0 (n := i + 1) (by omega) hTb1 (Nat.le_refl _)).eq hsp2) (KB.one (by omega)) (c := 1000) (by omega) (fun j hj => by show ab (Z2 _) ≤ _; rw [hrw j hj]; exact hTb1 (i) j (by omega) hj) (sm_t (by omega) (by omega)) hld hw2 h2'.2.2.2.1.2.1 hG2) (by rfl) (by rfl) (by omega) (Nat.le_of_ble_eq_true rfl) ?_
      rintro _ V3 sz3 mc3 ms3 ⟨Z3, P3, L3, ⟨rfl, h3, ld3, l3, ρ3, hG3, hld3, hst3, hsp3, hNF3, hh3⟩, hs3⟩ -
      refine WE.stp (hs3.weak (fun a q => by have := eg_W q; exact ⟨by omega, by omega⟩)) ?_
      have hc3 : Chg b X (b + 159) (b + 423) V2 Z2 V3 Z3 := chg_g (by omega) (by omega) (fun a ha => by omega) hs3 hNF3
      have h3' := h2'.wide rfl rfl hc3 ⟨h3, _, ld3, ρ3, hG3⟩
      refine aw_iincZ dX5_both_124 (by rfl) (by decide) ?_
      refine aw_goto (tgt := 44) dX5_both_127 (by decide) ?_
      rw [show ((i : Int) + 1) = ((i + 1 : Nat) : Int) by omega]
      refine aw_pk [6, 5, 3, 4, 0] (by rfl) ?_
      exact IH (i + 1) (by omega) hs3.1 h3' hG3 hld3 hst3 (hsp2.tr hsp3) (by omega)
set_option maxRecDepth 20000 in
theorem bt_in2 (d : Nat) {g : GX} {b : Nat} {X : Nat → Prop} {S : TSt} {A : ASt} {x y : Nat} {QR : Option Value → TSt → ASt → Prop} (hx : x < 12) (hy : y < 12) (hcc : S.c x = S.c y) {i hh : Nat} {V1 : AH} {Z1 : Nat → Int} {ld : Nat → Int} {ρ : Nat → Nat} (hOk : TOK S) (hi : i < S.r y) (hG1 : GD g V1 (b + 159 + 1) (GWd b) hh (S.c x + S.c x) ld ρ) (hhh : hh < 11) (hKK : ∀ {V : AH} {sz : Nat} {Z : Nat → Int} {P L : Nat → Nat}, WG g (wsB b) (SAB b X) V sz Z P L → (∀ a, SAB b X a → V a = V1 a) → RU Z1 Z ((GWd b).ga (ρ hh)) 0 (S.c x + S.c x) ((BM (S.N x) (S.N y) (S.r x) (S.c x)) (S.r x + i)) E0 → AW g mX5_both (d + 8) 201 [(6, .int (iZ i)), (5, .int (iZ (S.c x))), (3, .ref (b + 647 + 3 * x)), (4, .ref (b + 647 + 3 * y)), (0, .ref b)] [] V sz (CE g b X V sz L QR)) : ∀ (f j : Nat), j + f = S.c x → ∀ {V : AH} {sz : Nat} {Z : Nat → Int} {P L : Nat → Nat}, WG g (wsB b) (SAB b X) V sz Z P L → (∀ a, SAB b X a → V a = V1 a) → RU Z1 Z ((GWd b).ga (ρ hh)) 0 (S.c x + j) ((BM (S.N x) (S.N y) (S.r x) (S.c x)) (S.r x + i)) E0 → AW g mX5_both (d + 8) 173 [(8, .int (iZ j)), (7, .ref (ρ hh)), (6, .int (iZ i)), (5, .int (iZ (S.c x))), (3, .ref (b + 647 + 3 * x)), (4, .ref (b + 647 + 3 * y)), (0, .ref b)] [] V sz (CE g b X V sz L QR)
  | 0, j, hf, V, sz, Z, P, L, hw0, hV, hru => by
    obtain rfl : j = S.c x := by omega
    obtain ⟨q1, q3, -⟩ := hOk x hx
    obtain ⟨q2, q4, -⟩ := hOk y hy
    refine aw_iload dX5_both_173 (by rfl) ?_
    refine aw_iload dX5_both_175 (by rfl) ?_
    refine aw_icmp_geZ (tgt := 201) dX5_both_177 (by decide) (by omega) (by omega) (fun hc_177 => ?_) (fun hc_177 => ?_)
    · refine aw_pk [6, 5, 3, 4, 0] (by rfl) ?_
      exact hKK hw0 hV hru
    · exact absurd hc_177 (by omega)
  | f + 1, j, hf, V, sz, Z, P, L, hw0, hV, hru => by
    have IH := fun j hj => @bt_in2 d g b X S A x y QR hx hy hcc i hh V1 Z1 ld ρ hOk hi hG1 hhh hKK f j hj
    obtain ⟨q1, q3, -⟩ := hOk x hx
    obtain ⟨q2, q4, -⟩ := hOk y hy
    obtain ⟨-, wra, -, wrow, wRS, winj⟩ := id (hG1.kept2 (V' := V) (fun a ha => hV a (sab_gW ha).1))
    have hRh := wRS hh (show hh < 11 by omega)
    obtain ⟨rh1, rh2, -⟩ := wrow _ hRh
    have rh2 : V ((GWd b).ka (ρ hh)) = some (aQ g 5 10 (fun j => some ((GWd b).ga (ρ hh) j))) := rh2
    have hct := ((gst_W b X).2.2.2.2.1 _ hRh (S.c x + j) (show S.c x + j < 10 by omega)).1.1
    have hcin : ∀ e, e < S.c x + j → (GWd b).ga (ρ hh) e ≠ (GWd b).ga (ρ hh) (S.c x + j) := fun e he q => by have := ((gst_W b X).2.2.2.2.2.1 _ _ _ _ hRh hRh (show e < 10 by omega) (show S.c x + j < 10 by omega) q).2; omega
    obtain ⟨nt, Ft, hWt⟩ := hw0.raw hct
    refine aw_iload dX5_both_173 (by rfl) ?_
    refine aw_iload dX5_both_175 (by rfl) ?_
    refine aw_icmp_geZ (tgt := 201) dX5_both_177 (by decide) (by omega) (by omega) (fun hc_177 => ?_) (fun hc_177 => ?_)
    · exact absurd hc_177 (by omega)
    · refine aw_aload dX5_both_180 (by rfl) (Or.inr ⟨_, rfl⟩) ?_
      refine aw_get fX5_151 dX5_both_182 rh1 (by rfl) ?_
      refine aw_iload dX5_both_185 (by rfl) ?_
      refine aw_iload dX5_both_187 (by rfl) ?_
      refine aw_iaddZ dX5_both_189 ?_
      refine aw_aaldZ (t0 := 5) (S.c x + j) (by rfl) dX5_both_190 rh2 (by omega) (by omega) (by omega) ?_
      refine aw_lconstZ (z := 0) dX5_both_191 (by decide) ?_
      refine aw_callv vX5_159 dX5_both_192 hWt.1 (w_put (d + 6) (z := 0) hw0 hct (by omega)) (by rfl) (by rfl) (by omega) (Nat.le_of_ble_eq_true rfl) ?_
      rintro _ V2 sz2 mc2 ms2 ⟨rfl, P2, L2, hs2⟩ -
      refine WE.stp (WSE.of hs2) ?_
      refine aw_iincZ dX5_both_195 (by rfl) (by decide) ?_
      refine aw_goto (tgt := 173) dX5_both_198 (by decide) ?_
      rw [show ((j : Int) + 1) = ((j + 1 : Nat) : Int) by omega]
      refine aw_pk [8, 7, 6, 5, 3, 4, 0] (by rfl) ?_
      exact IH (j + 1) (by omega) hs2.1 (fun a ha => (hs2.2.2.1 a ha).trans (hV a ha)) (hru.up (z := 0) (Nat.zero_le _) hcin (by unfold BM; rw [if_neg (by omega), if_neg (by omega)]))
set_option maxRecDepth 20000 in
theorem bt_out2 (d : Nat) {g : GX} {b : Nat} {X : Nat → Prop} {S : TSt} {A : ASt} {x y : Nat} {QR : Option Value → TSt → ASt → Prop} (hx : x < 12) (hy : y < 12) (hcc : S.c x = S.c y) (hKK : ∀ {V : AH} {sz : Nat} {Z : Nat → Int} {P L : Nat → Nat} {hh : Nat} {ld : Nat → Int} {l ρ : Nat → Nat}, WG g (wsB b) (SAB b X) V sz Z P L → CX g b X V Z S A → GD g V (b + 159 + 1) (GWd b) hh (S.c x + S.c x) ld ρ → (∀ i, i < hh → ld i = (l i : Int)) → Stair (AM (GWd b) Z ρ) hh (S.c x + S.c x) l → SpEq (BM (S.N x) (S.N y) (S.r x) (S.c x)) (S.r x + S.r y) (AM (GWd b) Z ρ) hh (S.c x + S.c x) → hh ≤ S.r x + S.r y → AW g mX5_both (d + 8) 214 [(5, .int (iZ (S.c x))), (3, .ref (b + 647 + 3 * x)), (4, .ref (b + 647 + 3 * y)), (0, .ref b)] [] V sz (CE g b X V sz L QR)) : ∀ (f i : Nat), i + f = S.r y → ∀ {V : AH} {sz : Nat} {Z : Nat → Int} {P L : Nat → Nat} {hh : Nat} {ld : Nat → Int} {l ρ : Nat → Nat}, WG g (wsB b) (SAB b X) V sz Z P L → CX g b X V Z S A → GD g V (b + 159 + 1) (GWd b) hh (S.c x + S.c x) ld ρ → (∀ i, i < hh → ld i = (l i : Int)) → Stair (AM (GWd b) Z ρ) hh (S.c x + S.c x) l → SpEq (BM (S.N x) (S.N y) (S.r x) (S.c x)) (S.r x + i) (AM (GWd b) Z ρ) hh (S.c x + S.c x) → hh ≤ S.r x + i → AW g mX5_both (d + 8) 133 [(6, .int (iZ i)), (5, .int (iZ (S.c x))), (3, .ref (b + 647 + 3 * x)), (4, .ref (b + 647 + 3 * y)), (0, .ref b)] [] V sz (CE g b X V sz L QR)
  | 0, i, hf, V, sz, Z, P, L, hh, ld, l, ρ, hw0, h, hG, hld, hst, hsp, hhR => by
    obtain rfl : i = S.r y := by omega
    have hb := h.1.1
    obtain ⟨hTb, hOk, -⟩ := h.2
    obtain ⟨q1, q3, -, qx, -⟩ := hOk x hx
    obtain ⟨q2, q4, -, qy, -⟩ := hOk y hy
    obtain ⟨x1, x2, x3⟩ := id (hTb x hx)
    obtain ⟨y1, y2, y3⟩ := id (hTb y hy)
    have hle := hst.1.le_w
    have wgd : V (b + 159) = some (grO (b + 159 + 21) (b + 159 + 20) (b + 159 + 1) (b + 159 + 16) (b + 159 + 18) hh (S.c x + S.c x : Nat)) := hG.1
    refine aw_iload dX5_both_133 (by rfl) ?_
    refine aw_aload dX5_both_135 (by rfl) (Or.inr ⟨_, rfl⟩) ?_
    refine aw_get fX5_96 dX5_both_137 y1 (by rfl) ?_
    refine aw_icmp_geZ (tgt := 214) dX5_both_140 (by decide) (by omega) (by omega) (fun hc_140 => ?_) (fun hc_140 => ?_)
    · refine aw_pk [5, 3, 4, 0] (by rfl) ?_
      exact hKK hw0 h hG hld hst hsp hhR
    · exact absurd hc_140 (by omega)
  | f + 1, i, hf, V, sz, Z, P, L, hh, ld, l, ρ, hw0, h, hG, hld, hst, hsp, hhR => by
    have IH := fun i hi => @bt_out2 d g b X S A x y QR hx hy hcc hKK f i hi
    have hb := h.1.1
    obtain ⟨hTb, hOk, -⟩ := h.2
    obtain ⟨q1, q3, -, qx, -⟩ := hOk x hx
    obtain ⟨q2, q4, -, qy, -⟩ := hOk y hy
    obtain ⟨x1, x2, x3⟩ := id (hTb x hx)
    obtain ⟨y1, y2, y3⟩ := id (hTb y hy)
    have hle := hst.1.le_w
    have wgd : V (b + 159) = some (grO (b + 159 + 21) (b + 159 + 20) (b + 159 + 1) (b + 159 + 16) (b + 159 + 18) hh (S.c x + S.c x : Nat)) := hG.1
    obtain ⟨-, wra, -, wrow, wRS, winj⟩ := id hG
    have wra : V (b + 159 + 21) = some (aQ g 4 11 (fun i => some (ρ i))) := wra
    have hRh := wRS hh (show hh < 11 by omega)
    have hrh := wrow _ hRh
    have hrh : RowV g V (ρ hh) ((GWd b).ka (ρ hh)) 10 ((GWd b).ga (ρ hh)) := hrh
    refine aw_iload dX5_both_133 (by rfl) ?_
    refine aw_aload dX5_both_135 (by rfl) (Or.inr ⟨_, rfl⟩) ?_
    refine aw_get fX5_96 dX5_both_137 y1 (by rfl) ?_
    refine aw_icmp_geZ (tgt := 214) dX5_both_140 (by decide) (by omega) (by omega) (fun hc_140 => ?_) (fun hc_140 => ?_)
    · exact absurd hc_140 (by omega)
    · refine aw_aload_n dX5_both_143 (by rfl) (Or.inr ⟨_, rfl⟩) ?_
      refine aw_get fX5_35 dX5_both_144 hb (by rfl) ?_
      refine aw_get fX5_141 dX5_both_147 wgd (by rfl) ?_
      refine aw_aload_n dX5_both_150 (by rfl) (Or.inr ⟨_, rfl⟩) ?_
      refine aw_get fX5_35 dX5_both_151 hb (by rfl) ?_
      refine aw_get fX5_111 dX5_both_154 wgd (by rfl) ?_
      refine aw_aaldZ (t0 := 4) (hh) (by rfl) dX5_both_157 wra (by omega) (by omega) (by omega) ?_
      refine aw_astore dX5_both_158 (by decide) (Or.inr ⟨_, rfl⟩) ?_
      refine aw_aload dX5_both_160 (by rfl) (Or.inr ⟨_, rfl⟩) ?_
      refine aw_aload dX5_both_162 (by rfl) (Or.inr ⟨_, rfl⟩) ?_
      refine aw_iload dX5_both_164 (by rfl) ?_
      refine aw_iconstZ dX5_both_166 ?_
      refine aw_callv vX5_144 dX5_both_167 hrh.1 (w_read (i := i) (f := 1) (d + 5) hw0 hrh y1 y2 qy (Or.inl rfl) (by omega) (fun j hj => ((gst_W b X).2.2.2.2.1 _ hRh j hj).1.1) (fun a e ha he hne q => hne ((gst_W b X).2.2.2.2.2.1 _ _ _ _ hRh hRh ha he q).2) ((gst_W b X).2.2.2.1 _ hRh).1 ((gst_W b X).2.2.2.1 _ hRh).2.1 (tb_sab hy).1 (tb_sab hy).2.1 ⟨show _ ≤ 10 by omega, by omega⟩) (by rfl) (by rfl) (by omega) (Nat.le_of_ble_eq_true rfl) ?_
      rintro _ V1 sz1 mc1 ms1 ⟨Z1, P1, L1, ⟨rfl, hru1⟩, hs1⟩ -
      refine WE.stp (hs1.weak (fun _ q => q.elim)) ?_
      have hkv1 : ∀ a, SAB b X a → V1 a = V a := fun a ha => hs1.2.2.1 a ha (fun q => q)
      have hru1 : RU Z Z1 ((GWd b).ga (ρ hh)) 0 (S.c x + 0) ((BM (S.N x) (S.N y) (S.r x) (S.c x)) (S.r x + i)) E0 := by
        have := hru1.cong (G' := (BM (S.N x) (S.N y) (S.r x) (S.c x)) (S.r x + i)) (fun j _ hj => by
          show 1 * S.N y (5 * i + j) = _
          unfold BM
          rw [if_neg (show ¬ S.r x + i < S.r x by omega), if_pos (show j < S.c x by omega), show S.r x + i - S.r x = i by omega, Int.one_mul])
        rw [← hcc] at this; exact this
      refine aw_iconstZ dX5_both_170 ?_
      refine aw_istore dX5_both_171 (by decide) ?_
      refine aw_pk [8, 7, 6, 5, 3, 4, 0] (by rfl) ?_
      refine bt_in2 d hx hy hcc (A := A) (i := i) (hh := hh) (V1 := V) (Z1 := Z) hOk (by omega) hG (by omega) (fun {V2 sz2 Z2 P2 L2} hw2 hV2 hru2 => ?_) (S.c x) 0 (by omega) hs1.1 hkv1 hru1
      have hk2 : ∀ a, SAB b X a → V2 a = V a := hV2
      have hNF1 : NF (GWd b) Z Z2 := fun q h1 h2 h3 => hru2.2 q (fun z => z) (fun e _ he => h3 _ hRh e (show e < 10 by omega))
      have ho2 : ∀ q, q < b + 159 ∨ DK b q → Z2 q = Z q := fun q hq => hru2.2 q (fun z => z) (fun e _ he => by have := am_W hG (i := hh) (j := e) (by omega) (by omega); omega)
      have h2' := h.zs hk2 ho2
      have hb2 := h2'.1.1
      have hG2 : GD g V2 (b + 159 + 1) (GWd b) hh (S.c x + S.c x) ld ρ := hG.kept2 (fun a ha => hk2 a (sab_gW ha).1)
      have wgd2 : V2 (b + 159) = some (grO (b + 159 + 21) (b + 159 + 20) (b + 159 + 1) (b + 159 + 16) (b + 159 + 18) hh (S.c x + S.c x : Nat)) := hG2.1
      have hot : ∀ a, a < 11 → a ≠ hh → ∀ j, j < 10 → Z2 ((GWd b).ga (ρ a) j) = Z ((GWd b).ga (ρ a) j) := fun a ha hai j hj => hru2.2 _ (fun q => q) (fun e _ he q => winj a hh ha (show hh < 11 by omega) hai ((gst_W b X).2.2.2.2.2.1 _ _ _ _ (wRS a ha) hRh hj (show e < 10 by omega) q).1)
      have hrw : ∀ j, j < (S.c x + S.c x) → Z2 ((GWd b).ga (ρ hh) j) = (BM (S.N x) (S.N y) (S.r x) (S.c x)) (S.r x + i) j := fun j hj => hru2.1 j (Nat.zero_le _) hj
      have hst1 : Stair (AM (GWd b) Z2 ρ) hh (S.c x + S.c x) l := hst.cong (fun a ha j hj => hot a (by omega) (by omega) j (by omega))
      have hsp1 : SpEq (BM (S.N x) (S.N y) (S.r x) (S.c x)) (S.r x + i) (AM (GWd b) Z2 ρ) hh (S.c x + S.c x) := hsp.tr (SpEq.cong (fun a ha j hj => (hot a (by omega) (by omega) j (by omega)).symm))
      have hsp2 : SpEq (BM (S.N x) (S.N y) (S.r x) (S.c x)) (S.r x + i + 1) (AM (GWd b) Z2 ρ) (hh + 1) (S.c x + S.c x) := hsp1.push (fun _ _ _ _ => rfl) (fun _ _ _ _ => rfl) (fun j hj => (hrw j hj).symm)
      have hTb1 : ∀ k j, k < S.r x + i + 1 → j < (S.c x + S.c x) → ab ((BM (S.N x) (S.N y) (S.r x) (S.c x)) k j) ≤ 1000 := fun k j hk hj => bm_ab hOk hx hy hcc k j (by omega) hj
      refine aw_aload_n dX5_both_201 (by rfl) (Or.inr ⟨_, rfl⟩) ?_
      refine aw_get fX5_35 dX5_both_202 hb2 (by rfl) ?_
      refine aw_callv vX5_200 dX5_both_205 wgd2 (w_takeIn g (d + 1) (D := DG (b + 159)) (G := GWd b) (gso_W b X) (show hh < 11 by omega) (show S.c x + S.c x < 11 by omega) (show S.c x + S.c x ≤ 10 by omega) hst1 ((LB.mono0 (n := S.r x + i + 1) (by omega) hTb1 (by omega)).eq hsp1) ((LB.mono0 (n := S.r x + i + 1) (by omega) hTb1 (Nat.le_refl _)).eq hsp2) (KB.one (by omega)) (c := 1000) (by omega) (fun j hj => by show ab (Z2 _) ≤ _; rw [hrw j hj]; exact hTb1 (S.r x + i) j (by omega) hj) (sm_t (by omega) (by omega)) hld hw2 h2'.2.2.2.1.2.1 hG2) (by rfl) (by rfl) (by omega) (Nat.le_of_ble_eq_true rfl) ?_
      rintro _ V3 sz3 mc3 ms3 ⟨Z3, P3, L3, ⟨rfl, h3, ld3, l3, ρ3, hG3, hld3, hst3, hsp3, hNF3, hh3⟩, hs3⟩ -
      refine WE.stp (hs3.weak (fun a q => by have := eg_W q; exact ⟨by omega, by omega⟩)) ?_
      have hc3 : Chg b X (b + 159) (b + 423) V2 Z2 V3 Z3 := chg_g (by omega) (by omega) (fun a ha => by omega) hs3 hNF3
      have h3' := h2'.wide rfl rfl hc3 ⟨h3, _, ld3, ρ3, hG3⟩
      refine aw_iincZ dX5_both_208 (by rfl) (by decide) ?_
      refine aw_goto (tgt := 133) dX5_both_211 (by decide) ?_
      rw [show ((i : Int) + 1) = ((i + 1 : Nat) : Int) by omega]
      refine aw_pk [6, 5, 3, 4, 0] (by rfl) ?_
      exact IH (i + 1) (by omega) hs3.1 h3' hG3 hld3 hst3 (hsp2.tr hsp3) (by omega)
set_option maxRecDepth 20000 in
theorem c_both {g : GX} {b : Nat} {X : Nat → Prop} {V : AH} {sz : Nat} {Z : Nat → Int} {S : TSt} {A : ASt} (d : Nat) {t u : Int} {P L : Nat → Nat} (hw0 : WG g (wsB b) (SAB b X) V sz Z P L) (h : CX g b X V Z S A) (ht : R32 t) (hu : R32 u) : AMet g mX5_both (d + 8) [.ref b, .int (iZ t), .int (iZ u)] V sz (CE g b X V sz L (AlkR S A t u (-1) (BthR S))) := by
  obtain ⟨⟨hb, hb1⟩, hTb, hOk, -⟩ := id h
  obtain ⟨v, hv⟩ := FindV.ex S b t
  obtain ⟨v2, hv2⟩ := FindV.ex S b u
  rcases id hv with ⟨x, hx, rfl, hrx, rfl⟩ | ⟨hno, rfl⟩
  · rcases id hv2 with ⟨y, hy, rfl, hry, rfl⟩ | ⟨hno2, rfl⟩
    · by_cases hcc : S.c x = S.c y
      · skip
        obtain ⟨q1, q3, -⟩ := hOk x hx
        obtain ⟨q2, q4, -⟩ := hOk y hy
        obtain ⟨x1, x2, x3⟩ := id (hTb x hx)
        obtain ⟨h0, w0, ld0, ρ0, hG0⟩ := h.2.2.2.2.2.2.1
        have hgd0 : V (b + 159) = _ := hG0.1
        refine AMet.of rfl rfl (Nat.le_of_ble_eq_true rfl) ?_
        show AW g mX5_both (d + 8) 0 [(0, .ref b), (1, .int (iZ x)), (2, .int (iZ y))] [] V sz _
        refine aw_aload_n dX5_both_0 (by rfl) (Or.inr ⟨_, rfl⟩) ?_
        refine aw_iload_n dX5_both_1 (by rfl) ?_
        refine aw_callv vX5_72 dX5_both_2 hb (t_find (d + 6) h ht hv) (by rfl) (by rfl) (by omega) (Nat.le_of_ble_eq_true rfl) ?_
        rintro _ _ _ _ _ ⟨rfl, rfl, rfl, rfl, rfl⟩ -
        refine q0 ?_
        refine aw_astore_n dX5_both_5 (by decide) (Or.inr ⟨_, rfl⟩) ?_
        refine aw_aload_n dX5_both_6 (by rfl) (Or.inr ⟨_, rfl⟩) ?_
        refine aw_iload_n dX5_both_7 (by rfl) ?_
        refine aw_callv vX5_72 dX5_both_8 hb (t_find (d + 6) h hu hv2) (by rfl) (by rfl) (by omega) (Nat.le_of_ble_eq_true rfl) ?_
        rintro _ _ _ _ _ ⟨rfl, rfl, rfl, rfl, rfl⟩ -
        refine q0 ?_
        refine aw_astore dX5_both_11 (by decide) (Or.inr ⟨_, rfl⟩) ?_
        refine aw_aload_n dX5_both_13 (by rfl) (Or.inr ⟨_, rfl⟩) ?_
        refine aw_aload dX5_both_14 (by rfl) (Or.inr ⟨_, rfl⟩) ?_
        refine aw_calls sX5_137 dX5_both_16 (t_areAlike (d + 6 + 1) (q := 1) h hv hv2 (Or.inl ⟨rfl, x, y, hx, hy, rfl, rfl, hrx, hry, hcc⟩)) (by rfl) (by rfl) (by omega) (Nat.le_of_ble_eq_true rfl) ?_
        rintro _ _ _ _ _ ⟨rfl, rfl, rfl, rfl, rfl⟩ -
        refine q0 ?_
        refine aw_if_neZ (tgt := 24) dX5_both_19 (by decide) (by decide) (fun hc_19 => ?_) (fun hc_19 => ?_)
        · refine aw_aload_n dX5_both_24 (by rfl) (Or.inr ⟨_, rfl⟩) ?_
          refine aw_get fX5_79 dX5_both_25 x1 (by rfl) ?_
          refine aw_istore dX5_both_28 (by decide) ?_
          refine aw_aload_n dX5_both_30 (by rfl) (Or.inr ⟨_, rfl⟩) ?_
          refine aw_get fX5_35 dX5_both_31 hb (by rfl) ?_
          refine aw_iconstZ dX5_both_34 ?_
          refine aw_iload dX5_both_35 (by rfl) ?_
          refine aw_imulZ dX5_both_37 ?_
          refine aw_topi (y := ((S.c x + S.c x : Nat) : Int)) (by omega) ?_
          refine aw_callv vX5_203 dX5_both_38 hgd0 (t_gbegin g (d + 7) (w' := S.c x + S.c x) hG0) (by rfl) (by rfl) (by omega) (Nat.le_of_ble_eq_true rfl) ?_
          rintro _ _ _ _ _ ⟨rfl, rfl, rfl, rfl, rfl⟩ -
          refine q0 ?_
          refine WE.stp0 (WSE.sto hw0 (sab_gW (Or.inl rfl)).1 (⟨by show b ≤ b + 159; omega, by show b + 159 < b + 683; omega⟩ : EB b ((GWd b).gd))) ?_
          have hw1 := hw0.sto (e := grO (GWd b).ra (GWd b).la ((GWd b).gd + 1) (GWd b).fa (GWd b).pr (0 : Nat) (S.c x + S.c x : Nat)) (sab_gW (b := b) (X := X) (Or.inl rfl)).1
          have hG1 := hG0.begin (D := DG (b + 159)) (gso_W b X) 0 (S.c x + S.c x)
          have hV1 : ∀ a, a ≠ b + 159 → AHu V (GWd b).gd (grO (GWd b).ra (GWd b).la ((GWd b).gd + 1) (GWd b).fa (GWd b).pr (0 : Nat) (S.c x + S.c x : Nat)) a = V a := fun a ha => AHu_ne ha
          have hcx1 := h.wide (V' := AHu V (GWd b).gd (grO (GWd b).ra (GWd b).la ((GWd b).gd + 1) (GWd b).fa (GWd b).pr (0 : Nat) (S.c x + S.c x : Nat))) (Z' := Z) rfl rfl ⟨fun a _ hn => hV1 a (by omega), fun _ _ => rfl⟩ ⟨0, _, ld0, ρ0, hG1⟩
          refine aw_iconstZ dX5_both_41 ?_
          refine aw_istore dX5_both_42 (by decide) ?_
          refine aw_pk [6, 5, 3, 4, 0] (by rfl) ?_
          refine bt_out1 d hx hy hcc (fun {V2 sz2 Z2 P2 L2 h2 ld2 l2 ρ2} hw2 hcx2 hG2 hld2 hst2 hsp2 hhR2 => ?_) (S.r x) 0 (by omega) hw1 hcx1 hG1 (l := fun _ => 0) (fun i hi => absurd hi (by omega)) Stair.nil SpEq.nil (Nat.le_refl _)
          refine aw_iconstZ dX5_both_130 ?_
          refine aw_istore dX5_both_131 (by decide) ?_
          refine aw_pk [6, 5, 3, 4, 0] (by rfl) ?_
          refine bt_out2 d hx hy hcc (fun {V3 sz3 Z3 P3 L3 h3 ld3 l3 ρ3} hw3 hcx3 hG3 hld3 hst3 hsp3 hhR3 => ?_) (S.r y) 0 (by omega) hw2 hcx2 hG2 hld2 hst2 hsp2 hhR2
          have hb3 := hcx3.1.1
          have wgd3 : V3 (b + 159) = some (grO (b + 159 + 21) (b + 159 + 20) (b + 159 + 1) (b + 159 + 16) (b + 159 + 18) h3 (S.c x + S.c x : Nat)) := hG3.1
          have hle3 := hst3.1.le_w
          obtain ⟨tt, ht3⟩ := rb_ex l3 (S.c x) h3
          obtain ⟨k1, k2⟩ := split_of hst3 ht3
          obtain ⟨ldT, ρT, hGT, -⟩ := id hcx3.2.2.2.2.1
          have hAo := hcx3.2.2.2.2.2.1
          have htt := ht3.1
          have hkh := k1.1.le_w
          have hsm3 : ∀ i j, i < h3 → j < S.c x + S.c x → Sm (AM (GWd b) Z3 ρ3 i j) := fun i j hi hj => sm_kb (by omega) (hst3.bd ((lb_of (by omega) (bm_ab hOk hx hy hcc)).eq hsp3) hi hj)
          refine aw_aload_n dX5_both_214 (by rfl) (Or.inr ⟨_, rfl⟩) ?_
          refine aw_aload_n dX5_both_215 (by rfl) (Or.inr ⟨_, rfl⟩) ?_
          refine aw_get fX5_35 dX5_both_216 hb3 (by rfl) ?_
          refine aw_aload_n dX5_both_219 (by rfl) (Or.inr ⟨_, rfl⟩) ?_
          refine aw_get fX5_35 dX5_both_220 hb3 (by rfl) ?_
          refine aw_iload dX5_both_223 (by rfl) ?_
          refine aw_callv vX5_178 dX5_both_225 wgd3 (t_rowsLeadingBefore g (d + 7) (t := tt) (col := S.c x) hG3 ⟨show h3 ≤ 11 by omega, show (11 : Nat) < 100 by omega, by omega, by omega⟩ hld3 (fun i hi => (hst3.1.1 i hi).1) ht3) (by rfl) (by rfl) (by omega) (Nat.le_of_ble_eq_true rfl) ?_
          rintro _ _ _ _ _ ⟨rfl, rfl, rfl, rfl, rfl⟩ -
          refine q0 ?_
          refine aw_iload dX5_both_228 (by rfl) ?_
          refine aw_callv vX5_163 dX5_both_230 hb3 (t_tellRows (d + 3) (fr := tt) (fc := S.c x) hcx3 hGT hG3 (by omega) hsm3 hAo hw3) (by rfl) (by rfl) (by omega) (Nat.le_of_ble_eq_true rfl) ?_
          rintro _ V5 sz5 mc5 ms5 ⟨Z5, P5, L5, ⟨S5, A5, hcx5, e5, rfl, hAI⟩, hs5⟩ -
          refine WE.stp hs5 ?_
          rw [e5] at hcx5
          refine aw_iret dX5_both_233 rfl (by rfl) ?_
          refine WE.ret hs5.1 ⟨_, _, hcx5, rfl, Or.inl ⟨x, y, hx, hy, rfl, rfl, hrx, hry, hcc, h3 - tt, _, _, k1, fun v => ?_, rfl, by have := hAI; rw [show S.c x + S.c x - S.c x = S.c x by omega] at this; exact this⟩⟩
          rw [k2 v, ← hsp3 _]
          exact bm_span
        · exact absurd hc_19 (by decide)
      · have hal : ¬ (∃ n m : Nat, n < 12 ∧ m < 12 ∧ ((x : Nat) : Int) = (n : Int) ∧ ((y : Nat) : Int) = (m : Int) ∧ 0 < S.r n ∧ 0 < S.r m ∧ S.c n = S.c m) := fun ⟨n, k, _, _, e1, e2, _, _, e3⟩ => by
          obtain rfl : x = n := by omega
          obtain rfl : y = k := by omega
          exact hcc e3
        refine AMet.of rfl rfl (Nat.le_of_ble_eq_true rfl) ?_
        show AW g mX5_both (d + 8) 0 [(0, .ref b), (1, .int (iZ x)), (2, .int (iZ y))] [] V sz _
        refine aw_aload_n dX5_both_0 (by rfl) (Or.inr ⟨_, rfl⟩) ?_
        refine aw_iload_n dX5_both_1 (by rfl) ?_
        refine aw_callv vX5_72 dX5_both_2 hb (t_find (d + 6) h ht hv) (by rfl) (by rfl) (by omega) (Nat.le_of_ble_eq_true rfl) ?_
        rintro _ _ _ _ _ ⟨rfl, rfl, rfl, rfl, rfl⟩ -
        refine q0 ?_
        refine aw_astore_n dX5_both_5 (by decide) (Or.inr ⟨_, rfl⟩) ?_
        refine aw_aload_n dX5_both_6 (by rfl) (Or.inr ⟨_, rfl⟩) ?_
        refine aw_iload_n dX5_both_7 (by rfl) ?_
        refine aw_callv vX5_72 dX5_both_8 hb (t_find (d + 6) h hu hv2) (by rfl) (by rfl) (by omega) (Nat.le_of_ble_eq_true rfl) ?_
        rintro _ _ _ _ _ ⟨rfl, rfl, rfl, rfl, rfl⟩ -
        refine q0 ?_
        refine aw_astore dX5_both_11 (by decide) (Or.inr ⟨_, rfl⟩) ?_
        refine aw_aload_n dX5_both_13 (by rfl) (Or.inr ⟨_, rfl⟩) ?_
        refine aw_aload dX5_both_14 (by rfl) (Or.inr ⟨_, rfl⟩) ?_
        refine aw_calls sX5_137 dX5_both_16 (t_areAlike (d + 6 + 1) (q := 0) h hv hv2 (Or.inr ⟨rfl, hal⟩)) (by rfl) (by rfl) (by omega) (Nat.le_of_ble_eq_true rfl) ?_
        rintro _ _ _ _ _ ⟨rfl, rfl, rfl, rfl, rfl⟩ -
        refine q0 ?_
        refine aw_if_neZ (tgt := 24) dX5_both_19 (by decide) (by decide) (fun hc_19 => ?_) (fun hc_19 => ?_)
        · exact absurd rfl hc_19
        · refine aw_iconstZ dX5_both_22 ?_
          refine aw_iret dX5_both_23 rfl (by rfl) ?_
          exact WE.ret hw0 ⟨S, A, h, rfl, Or.inr ⟨hal, rfl, rfl⟩⟩
    · have hal : ¬ (∃ n m : Nat, n < 12 ∧ m < 12 ∧ ((x : Nat) : Int) = (n : Int) ∧ u = (m : Int) ∧ 0 < S.r n ∧ 0 < S.r m ∧ S.c n = S.c m) := fun ⟨n, k, _, hk, e1, e2, _, hk2, e3⟩ => by
        have := hno2 k hk e2
        omega
      refine AMet.of rfl rfl (Nat.le_of_ble_eq_true rfl) ?_
      show AW g mX5_both (d + 8) 0 [(0, .ref b), (1, .int (iZ x)), (2, .int (iZ u))] [] V sz _
      refine aw_aload_n dX5_both_0 (by rfl) (Or.inr ⟨_, rfl⟩) ?_
      refine aw_iload_n dX5_both_1 (by rfl) ?_
      refine aw_callv vX5_72 dX5_both_2 hb (t_find (d + 6) h ht hv) (by rfl) (by rfl) (by omega) (Nat.le_of_ble_eq_true rfl) ?_
      rintro _ _ _ _ _ ⟨rfl, rfl, rfl, rfl, rfl⟩ -
      refine q0 ?_
      refine aw_astore_n dX5_both_5 (by decide) (Or.inr ⟨_, rfl⟩) ?_
      refine aw_aload_n dX5_both_6 (by rfl) (Or.inr ⟨_, rfl⟩) ?_
      refine aw_iload_n dX5_both_7 (by rfl) ?_
      refine aw_callv vX5_72 dX5_both_8 hb (t_find (d + 6) h hu hv2) (by rfl) (by rfl) (by omega) (Nat.le_of_ble_eq_true rfl) ?_
      rintro _ _ _ _ _ ⟨rfl, rfl, rfl, rfl, rfl⟩ -
      refine q0 ?_
      refine aw_astore dX5_both_11 (by decide) (Or.inl rfl) ?_
      refine aw_aload_n dX5_both_13 (by rfl) (Or.inr ⟨_, rfl⟩) ?_
      refine aw_aload dX5_both_14 (by rfl) (Or.inl rfl) ?_
      refine aw_calls sX5_137 dX5_both_16 (t_areAlike (d + 6 + 1) (q := 0) h hv hv2 (Or.inr ⟨rfl, hal⟩)) (by rfl) (by rfl) (by omega) (Nat.le_of_ble_eq_true rfl) ?_
      rintro _ _ _ _ _ ⟨rfl, rfl, rfl, rfl, rfl⟩ -
      refine q0 ?_
      refine aw_if_neZ (tgt := 24) dX5_both_19 (by decide) (by decide) (fun hc_19 => ?_) (fun hc_19 => ?_)
      · exact absurd rfl hc_19
      · refine aw_iconstZ dX5_both_22 ?_
        refine aw_iret dX5_both_23 rfl (by rfl) ?_
        exact WE.ret hw0 ⟨S, A, h, rfl, Or.inr ⟨hal, rfl, rfl⟩⟩
  · have hal : ¬ (∃ n m : Nat, n < 12 ∧ m < 12 ∧ t = (n : Int) ∧ u = (m : Int) ∧ 0 < S.r n ∧ 0 < S.r m ∧ S.c n = S.c m) := fun ⟨n, k, hk, _, e1, e2, hk2, _, e3⟩ => by
      have := hno n hk e1
      omega
    rcases id hv2 with ⟨y, hy, rfl, hry, rfl⟩ | ⟨hno2, rfl⟩
    · skip
      refine AMet.of rfl rfl (Nat.le_of_ble_eq_true rfl) ?_
      show AW g mX5_both (d + 8) 0 [(0, .ref b), (1, .int (iZ t)), (2, .int (iZ y))] [] V sz _
      refine aw_aload_n dX5_both_0 (by rfl) (Or.inr ⟨_, rfl⟩) ?_
      refine aw_iload_n dX5_both_1 (by rfl) ?_
      refine aw_callv vX5_72 dX5_both_2 hb (t_find (d + 6) h ht hv) (by rfl) (by rfl) (by omega) (Nat.le_of_ble_eq_true rfl) ?_
      rintro _ _ _ _ _ ⟨rfl, rfl, rfl, rfl, rfl⟩ -
      refine q0 ?_
      refine aw_astore_n dX5_both_5 (by decide) (Or.inl rfl) ?_
      refine aw_aload_n dX5_both_6 (by rfl) (Or.inr ⟨_, rfl⟩) ?_
      refine aw_iload_n dX5_both_7 (by rfl) ?_
      refine aw_callv vX5_72 dX5_both_8 hb (t_find (d + 6) h hu hv2) (by rfl) (by rfl) (by omega) (Nat.le_of_ble_eq_true rfl) ?_
      rintro _ _ _ _ _ ⟨rfl, rfl, rfl, rfl, rfl⟩ -
      refine q0 ?_
      refine aw_astore dX5_both_11 (by decide) (Or.inr ⟨_, rfl⟩) ?_
      refine aw_aload_n dX5_both_13 (by rfl) (Or.inl rfl) ?_
      refine aw_aload dX5_both_14 (by rfl) (Or.inr ⟨_, rfl⟩) ?_
      refine aw_calls sX5_137 dX5_both_16 (t_areAlike (d + 6 + 1) (q := 0) h hv hv2 (Or.inr ⟨rfl, hal⟩)) (by rfl) (by rfl) (by omega) (Nat.le_of_ble_eq_true rfl) ?_
      rintro _ _ _ _ _ ⟨rfl, rfl, rfl, rfl, rfl⟩ -
      refine q0 ?_
      refine aw_if_neZ (tgt := 24) dX5_both_19 (by decide) (by decide) (fun hc_19 => ?_) (fun hc_19 => ?_)
      · exact absurd rfl hc_19
      · refine aw_iconstZ dX5_both_22 ?_
        refine aw_iret dX5_both_23 rfl (by rfl) ?_
        exact WE.ret hw0 ⟨S, A, h, rfl, Or.inr ⟨hal, rfl, rfl⟩⟩
    · skip
      refine AMet.of rfl rfl (Nat.le_of_ble_eq_true rfl) ?_
      show AW g mX5_both (d + 8) 0 [(0, .ref b), (1, .int (iZ t)), (2, .int (iZ u))] [] V sz _
      refine aw_aload_n dX5_both_0 (by rfl) (Or.inr ⟨_, rfl⟩) ?_
      refine aw_iload_n dX5_both_1 (by rfl) ?_
      refine aw_callv vX5_72 dX5_both_2 hb (t_find (d + 6) h ht hv) (by rfl) (by rfl) (by omega) (Nat.le_of_ble_eq_true rfl) ?_
      rintro _ _ _ _ _ ⟨rfl, rfl, rfl, rfl, rfl⟩ -
      refine q0 ?_
      refine aw_astore_n dX5_both_5 (by decide) (Or.inl rfl) ?_
      refine aw_aload_n dX5_both_6 (by rfl) (Or.inr ⟨_, rfl⟩) ?_
      refine aw_iload_n dX5_both_7 (by rfl) ?_
      refine aw_callv vX5_72 dX5_both_8 hb (t_find (d + 6) h hu hv2) (by rfl) (by rfl) (by omega) (Nat.le_of_ble_eq_true rfl) ?_
      rintro _ _ _ _ _ ⟨rfl, rfl, rfl, rfl, rfl⟩ -
      refine q0 ?_
      refine aw_astore dX5_both_11 (by decide) (Or.inl rfl) ?_
      refine aw_aload_n dX5_both_13 (by rfl) (Or.inl rfl) ?_
      refine aw_aload dX5_both_14 (by rfl) (Or.inl rfl) ?_
      refine aw_calls sX5_137 dX5_both_16 (t_areAlike (d + 6 + 1) (q := 0) h hv hv2 (Or.inr ⟨rfl, hal⟩)) (by rfl) (by rfl) (by omega) (Nat.le_of_ble_eq_true rfl) ?_
      rintro _ _ _ _ _ ⟨rfl, rfl, rfl, rfl, rfl⟩ -
      refine q0 ?_
      refine aw_if_neZ (tgt := 24) dX5_both_19 (by decide) (by decide) (fun hc_19 => ?_) (fun hc_19 => ?_)
      · exact absurd rfl hc_19
      · refine aw_iconstZ dX5_both_22 ?_
        refine aw_iret dX5_both_23 rfl (by rfl) ?_
        exact WE.ret hw0 ⟨S, A, h, rfl, Or.inr ⟨hal, rfl, rfl⟩⟩
