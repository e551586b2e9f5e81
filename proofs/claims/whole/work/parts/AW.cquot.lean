/-! ===== the class: quotient ===== -/
theorem sgq_z (f : Nat → Int) : ∀ n, Sg (fun e => 0 * f e) n = 0 := fun n => Sg_zero (fun i _ => Int.zero_mul _)
theorem sgq_ex (u : Nat → Int) (C : Mat) (D : Nat → Int) (n : Nat) : ∀ m : Nat, Sg (fun k => u k * Sg (fun e => C k e * D e) n) m = Sg (fun e => Sg (fun k => u k * C k e) m * D e) n
  | 0 => (sgq_z D n).symm
  | m + 1 => by
    show Sg (fun k => u k * Sg (fun e => C k e * D e) n) m + u m * Sg (fun e => C m e * D e) n = Sg (fun e => (Sg (fun k => u k * C k e) m + u m * C m e) * D e) n
    rw [sgq_ex u C D n m]
    have h := Sg_lin (fun e => Sg (fun k => u k * C k e) m * D e) (fun e => C m e * D e) 1 (u m) n
    rw [Int.one_mul] at h
    rw [← h]
    exact Sg_congr (fun e _ => by rw [Int.one_mul, Int.add_mul, Int.mul_assoc])
theorem dvt_mul {C B D : Mat} {k n m w : Nat} {d : Int} (hC : ∀ i j, i < n → j < w → B i j = Sg (fun e => C i e * D e j) m) (h : DVT k C n m d) : DVT k B n w d := DVT.T.mpr ((DVT.T.mp h).span (fun j hj => ⟨fun e => D e j, fun i hi => by
  show B i j = Sg (fun e => D e j * C i e) m
  rw [hC i j hi hj]
  exact Sg_congr (fun e _ => Int.mul_comm _ _)⟩))
theorem kb_cbq : ∀ w : Fin 6, KB w 31000 ≤ CBd := by unfold CBd; decide +kernel
theorem fac_cbq : ∀ h : Fin 6, fac h * 31000 ^ (h : Nat) ≤ CBd := by unfold CBd; decide +kernel
theorem quo_main {T : Mat} {r w h1 h2 ht : Nat} {l1 l2 lq : Nat → Nat} {B1 B2 C Q : Mat} (s1 : Stair B1 h1 w l1) (e1 : SpEq T r B1 h1 w) (hT : ∀ i j, i < r → j < w → ab (T i j) ≤ 1000) (s2 : Stair B2 h2 w l2) (hC : ∀ i j, i < h1 → j < w → B1 i j = Sg (fun e => C i e * B2 e j) h2) (sq : Stair Q ht h2 lq) (eq : SpEq C h1 Q ht h2) (hle : ht ≤ h1) (h15 : h1 ≤ 5) (h25 : h2 ≤ 5) : ht = h1 ∧ (∀ i j, i < ht → j < h2 → ab (Q i j) ≤ CBd) ∧ MnB Q ht h2 := by
  have hU : ∀ i, ∃ u : Nat → Int, i < r → ∀ j, j < w → T i j = Sg (fun k => u k * B1 k j) h1 := fun i => by
    by_cases hi : i < r
    · obtain ⟨u, hu⟩ := (e1 (T i)).mp (Span.row hi)
      exact ⟨u, fun _ => hu⟩
    · exact ⟨fun _ => 0, fun z => absurd z hi⟩
  obtain ⟨C0, hC0⟩ : ∃ C0 : Mat, C0 = fun i e => Sg (fun k => (hU i).choose k * C k e) h1 := ⟨_, rfl⟩
  have hC0e : ∀ i e, C0 i e = Sg (fun k => (hU i).choose k * C k e) h1 := fun i e => by rw [hC0]
  have hT0 : ∀ i, i < r → ∀ j, j < w → T i j = Sg (fun e => C0 i e * B2 e j) h2 := fun i hi j hj => by
    rw [(hU i).choose_spec hi j hj, Sg_congr (h := fun k => (hU i).choose k * Sg (fun e => C k e * B2 e j) h2) (fun k hk => by rw [hC k j hk hj]), sgq_ex]
    exact Sg_congr (fun e _ => by rw [hC0e])
  have a1 : ∀ i, i < r → Span C h1 h2 (C0 i) := fun i hi => ⟨(hU i).choose, fun e _ => hC0e i e⟩
  have a2 : ∀ k, k < h1 → Span C0 r h2 (C k) := fun k hk => by
    obtain ⟨v, hv⟩ := (e1 (B1 k)).mpr (Span.row hk)
    refine ⟨v, fun e he => ?_⟩
    have hz := ech_coef s2.1 (c := fun e => C k e - Sg (fun i => v i * C0 i e) r) (v := fun _ => 0) (fun j hj => by
      have b1 := hC k j hk hj
      have b2 := hv j hj
      rw [Sg_congr (h := fun i => v i * Sg (fun e => C0 i e * B2 e j) h2) (fun i hi => by rw [hT0 i hi j hj]), sgq_ex] at b2
      have b3 := Sg_lin (fun e => C k e * B2 e j) (fun e => Sg (fun i => v i * C0 i e) r * B2 e j) 1 (-1) h2
      rw [← b1, ← b2] at b3
      show (0 : Int) = Sg (fun e => (C k e - Sg (fun i => v i * C0 i e) r) * B2 e j) h2
      rw [Sg_congr (h := fun e => 1 * (C k e * B2 e j) + -1 * (Sg (fun i => v i * C0 i e) r * B2 e j)) (fun e _ => by rw [Int.sub_mul]; omega), b3]
      omega) h2 (Nat.le_refl _) (fun _ _ => rfl) e he
    have hz : C k e - Sg (fun i => v i * C0 i e) r = 0 := hz
    omega
  have hCC : SpEq C0 r C h1 h2 := SpEq.of a1 a2
  have hb : ∀ i e, i < r → e < h2 → ab (C0 i e) ≤ 31000 := fun i e hi he => by
    have h3 := mul_bd s2 (b := T i) (m := C0 i) (X := 1000) (fun j hj => hT0 i hi j hj) (fun j hj => hT i j hi hj) (by omega) (e + 1) (by omega)
    have h4 := two_le (show e + 1 ≤ 5 by omega)
    have h5 : (2 : Int) ^ 5 = 32 := by decide
    have h6 : Sg (fun i_1 => ab (C0 i i_1)) (e + 1) = Sg (fun i_1 => ab (C0 i i_1)) e + ab (C0 i e) := rfl
    have h7 : 0 ≤ Sg (fun i_1 => ab (C0 i i_1)) e := Sg_nn (fun i _ => ab0 _)
    omega
  have hht : ht = h1 := by
    by_cases q : ht < h1
    · exact absurd (dvt_mul hC ((DVT.eq eq).mpr (DVT.void q))) (ech_not0 s1.1)
    · omega
  subst hht
  have hs0 := hCC.tr eq
  exact ⟨rfl, fun i j hi hj => Int.le_trans (sq.bd ((lb_of (by omega) hb).eq hs0) hi hj) (kb_cbq ⟨h2, by omega⟩), mnb_of sq.1 hs0 (by omega) hb (fac_cbq ⟨ht, by omega⟩)⟩
def QuoR (S : TSt) (A : ASt) (x y : Nat) (q : Option Value) (A' : ASt) : Prop := (some (.int (iZ (-2))) = q ∧ ¬ WinP S x y ∧ A' = A) ∨ (WinP S x y ∧ ∃ (h1 h2 : Nat) (l1 l2 : Nat → Nat) (B1 B2 C : Mat) (dd M : Nat → Int), StT S x h1 l1 B1 ∧ StT S y h2 l2 B2 ∧ (∀ i j, i < h1 → j < S.c x → B1 i j = Sg (fun e => C i e * B2 e j) h2) ∧ (∀ a, a < h1 → 0 < dd a) ∧ (∀ k, k ≤ h1 → GcP k C h1 h2 (Pd dd k)) ∧ some (.int (iZ (10 * ((h2 : Int) - (h1 : Int)) + (szc 0 dd h1 : Int)))) = q ∧ (∀ a, a < h1 → dd a ≠ 1 → M (szc 0 dd a) = dd a) ∧ AIs A' (if szc 0 dd h1 = 0 then 0 else 1) (szc 0 dd h1) (fun _ j => M j))
theorem sm_qot : ∀ w : Fin 6, ∀ n : Fin 6, ((2 * (KB w 1000 * (1 + KB w 1000) ^ (n : Nat))).natAbs : Int) < 2147483648 ^ 150 := by decide +kernel
theorem kb_31 : ∀ w : Fin 6, KB w 1000 * 31 ≤ CBd := by unfold CBd; decide +kernel
abbrev mX5_quotient : MI := (yX5_quotient, cX5_quotient, 7, (some FieldType.int), noX)
theorem dX5_quotient_0 : decode cX5_quotient 0 = .ok (.aload_n 0, 1) := by decide +kernel
theorem dX5_quotient_1 : decode cX5_quotient 1 = .ok (.iload_n 1, 1) := by decide +kernel
theorem dX5_quotient_2 : decode cX5_quotient 2 = .ok (.invokevirtual 72, 3) := by decide +kernel
theorem dX5_quotient_5 : decode cX5_quotient 5 = .ok (.astore_n 3, 1) := by decide +kernel
theorem dX5_quotient_6 : decode cX5_quotient 6 = .ok (.aload_n 0, 1) := by decide +kernel
theorem dX5_quotient_7 : decode cX5_quotient 7 = .ok (.iload_n 2, 1) := by decide +kernel
theorem dX5_quotient_8 : decode cX5_quotient 8 = .ok (.invokevirtual 72, 3) := by decide +kernel
theorem dX5_quotient_11 : decode cX5_quotient 11 = .ok (.astore 4, 2) := by decide +kernel
theorem dX5_quotient_13 : decode cX5_quotient 13 = .ok (.aload_n 3, 1) := by decide +kernel
theorem dX5_quotient_14 : decode cX5_quotient 14 = .ok (.aload 4, 2) := by decide +kernel
theorem dX5_quotient_16 : decode cX5_quotient 16 = .ok (.invokestatic 137, 3) := by decide +kernel
theorem dX5_quotient_19 : decode cX5_quotient 19 = .ok (.ifCond .ne 5, 3) := by decide +kernel
theorem dX5_quotient_22 : decode cX5_quotient 22 = .ok (.iconst (-1), 1) := by decide +kernel
theorem dX5_quotient_23 : decode cX5_quotient 23 = .ok (.ireturn, 1) := by decide +kernel
theorem dX5_quotient_24 : decode cX5_quotient 24 = .ok (.aload_n 0, 1) := by decide +kernel
theorem dX5_quotient_25 : decode cX5_quotient 25 = .ok (.getfield 35, 3) := by decide +kernel
theorem dX5_quotient_28 : decode cX5_quotient 28 = .ok (.aload_n 3, 1) := by decide +kernel
theorem dX5_quotient_29 : decode cX5_quotient 29 = .ok (.invokevirtual 103, 3) := by decide +kernel
theorem dX5_quotient_32 : decode cX5_quotient 32 = .ok (.aload_n 0, 1) := by decide +kernel
theorem dX5_quotient_33 : decode cX5_quotient 33 = .ok (.getfield 38, 3) := by decide +kernel
theorem dX5_quotient_36 : decode cX5_quotient 36 = .ok (.aload 4, 2) := by decide +kernel
theorem dX5_quotient_38 : decode cX5_quotient 38 = .ok (.invokevirtual 103, 3) := by decide +kernel
theorem dX5_quotient_41 : decode cX5_quotient 41 = .ok (.aload_n 0, 1) := by decide +kernel
theorem dX5_quotient_42 : decode cX5_quotient 42 = .ok (.getfield 38, 3) := by decide +kernel
theorem dX5_quotient_45 : decode cX5_quotient 45 = .ok (.getfield 111, 3) := by decide +kernel
theorem dX5_quotient_48 : decode cX5_quotient 48 = .ok (.aload_n 0, 1) := by decide +kernel
theorem dX5_quotient_49 : decode cX5_quotient 49 = .ok (.getfield 35, 3) := by decide +kernel
theorem dX5_quotient_52 : decode cX5_quotient 52 = .ok (.getfield 111, 3) := by decide +kernel
theorem dX5_quotient_55 : decode cX5_quotient 55 = .ok (.isub, 1) := by decide +kernel
theorem dX5_quotient_56 : decode cX5_quotient 56 = .ok (.istore 5, 2) := by decide +kernel
theorem dX5_quotient_58 : decode cX5_quotient 58 = .ok (.aload_n 0, 1) := by decide +kernel
theorem dX5_quotient_59 : decode cX5_quotient 59 = .ok (.getfield 41, 3) := by decide +kernel
theorem dX5_quotient_62 : decode cX5_quotient 62 = .ok (.aload_n 0, 1) := by decide +kernel
theorem dX5_quotient_63 : decode cX5_quotient 63 = .ok (.getfield 38, 3) := by decide +kernel
theorem dX5_quotient_66 : decode cX5_quotient 66 = .ok (.getfield 111, 3) := by decide +kernel
theorem dX5_quotient_69 : decode cX5_quotient 69 = .ok (.invokevirtual 203, 3) := by decide +kernel
theorem dX5_quotient_72 : decode cX5_quotient 72 = .ok (.iconst 0, 1) := by decide +kernel
theorem dX5_quotient_73 : decode cX5_quotient 73 = .ok (.istore 6, 2) := by decide +kernel
theorem dX5_quotient_75 : decode cX5_quotient 75 = .ok (.iload 6, 2) := by decide +kernel
theorem dX5_quotient_77 : decode cX5_quotient 77 = .ok (.aload_n 0, 1) := by decide +kernel
theorem dX5_quotient_78 : decode cX5_quotient 78 = .ok (.getfield 35, 3) := by decide +kernel
theorem dX5_quotient_81 : decode cX5_quotient 81 = .ok (.getfield 111, 3) := by decide +kernel
theorem dX5_quotient_84 : decode cX5_quotient 84 = .ok (.if_icmp .ge 80, 3) := by decide +kernel
theorem dX5_quotient_87 : decode cX5_quotient 87 = .ok (.aload_n 0, 1) := by decide +kernel
theorem dX5_quotient_88 : decode cX5_quotient 88 = .ok (.getfield 49, 3) := by decide +kernel
theorem dX5_quotient_91 : decode cX5_quotient 91 = .ok (.aload_n 0, 1) := by decide +kernel
theorem dX5_quotient_92 : decode cX5_quotient 92 = .ok (.getfield 35, 3) := by decide +kernel
theorem dX5_quotient_95 : decode cX5_quotient 95 = .ok (.getfield 141, 3) := by decide +kernel
theorem dX5_quotient_98 : decode cX5_quotient 98 = .ok (.iload 6, 2) := by decide +kernel
theorem dX5_quotient_100 : decode cX5_quotient 100 = .ok (.aaload, 1) := by decide +kernel
theorem dX5_quotient_101 : decode cX5_quotient 101 = .ok (.aload_n 0, 1) := by decide +kernel
theorem dX5_quotient_102 : decode cX5_quotient 102 = .ok (.getfield 35, 3) := by decide +kernel
theorem dX5_quotient_105 : decode cX5_quotient 105 = .ok (.getfield 114, 3) := by decide +kernel
theorem dX5_quotient_108 : decode cX5_quotient 108 = .ok (.invokevirtual 216, 3) := by decide +kernel
theorem dX5_quotient_111 : decode cX5_quotient 111 = .ok (.aload_n 0, 1) := by decide +kernel
theorem dX5_quotient_112 : decode cX5_quotient 112 = .ok (.getfield 38, 3) := by decide +kernel
theorem dX5_quotient_115 : decode cX5_quotient 115 = .ok (.aload_n 0, 1) := by decide +kernel
theorem dX5_quotient_116 : decode cX5_quotient 116 = .ok (.getfield 49, 3) := by decide +kernel
theorem dX5_quotient_119 : decode cX5_quotient 119 = .ok (.iconst 0, 1) := by decide +kernel
theorem dX5_quotient_120 : decode cX5_quotient 120 = .ok (.aload_n 0, 1) := by decide +kernel
theorem dX5_quotient_121 : decode cX5_quotient 121 = .ok (.getfield 38, 3) := by decide +kernel
theorem dX5_quotient_124 : decode cX5_quotient 124 = .ok (.getfield 111, 3) := by decide +kernel
theorem dX5_quotient_127 : decode cX5_quotient 127 = .ok (.aload_n 0, 1) := by decide +kernel
theorem dX5_quotient_128 : decode cX5_quotient 128 = .ok (.getfield 41, 3) := by decide +kernel
theorem dX5_quotient_131 : decode cX5_quotient 131 = .ok (.getfield 141, 3) := by decide +kernel
theorem dX5_quotient_134 : decode cX5_quotient 134 = .ok (.aload_n 0, 1) := by decide +kernel
theorem dX5_quotient_135 : decode cX5_quotient 135 = .ok (.getfield 41, 3) := by decide +kernel
theorem dX5_quotient_138 : decode cX5_quotient 138 = .ok (.getfield 111, 3) := by decide +kernel
theorem dX5_quotient_141 : decode cX5_quotient 141 = .ok (.aaload, 1) := by decide +kernel
theorem dX5_quotient_142 : decode cX5_quotient 142 = .ok (.invokevirtual 185, 3) := by decide +kernel
theorem dX5_quotient_145 : decode cX5_quotient 145 = .ok (.ifCond .ne 6, 3) := by decide +kernel
theorem dX5_quotient_148 : decode cX5_quotient 148 = .ok (.bipush (-2), 2) := by decide +kernel
theorem dX5_quotient_150 : decode cX5_quotient 150 = .ok (.ireturn, 1) := by decide +kernel
theorem dX5_quotient_151 : decode cX5_quotient 151 = .ok (.aload_n 0, 1) := by decide +kernel
theorem dX5_quotient_152 : decode cX5_quotient 152 = .ok (.getfield 41, 3) := by decide +kernel
theorem dX5_quotient_155 : decode cX5_quotient 155 = .ok (.invokevirtual 200, 3) := by decide +kernel
theorem dX5_quotient_158 : decode cX5_quotient 158 = .ok (.iinc 6 1, 3) := by decide +kernel
theorem dX5_quotient_161 : decode cX5_quotient 161 = .ok (.goto (-86), 3) := by decide +kernel
theorem dX5_quotient_164 : decode cX5_quotient 164 = .ok (.bipush 10, 2) := by decide +kernel
theorem dX5_quotient_166 : decode cX5_quotient 166 = .ok (.iload 5, 2) := by decide +kernel
theorem dX5_quotient_168 : decode cX5_quotient 168 = .ok (.imul, 1) := by decide +kernel
theorem dX5_quotient_169 : decode cX5_quotient 169 = .ok (.aload_n 0, 1) := by decide +kernel
theorem dX5_quotient_170 : decode cX5_quotient 170 = .ok (.aload_n 0, 1) := by decide +kernel
theorem dX5_quotient_171 : decode cX5_quotient 171 = .ok (.getfield 41, 3) := by decide +kernel
theorem dX5_quotient_174 : decode cX5_quotient 174 = .ok (.aload_n 0, 1) := by decide +kernel
theorem dX5_quotient_175 : decode cX5_quotient 175 = .ok (.getfield 38, 3) := by decide +kernel
theorem dX5_quotient_178 : decode cX5_quotient 178 = .ok (.invokestatic 167, 3) := by decide +kernel
theorem dX5_quotient_181 : decode cX5_quotient 181 = .ok (.iconst 0, 1) := by decide +kernel
theorem dX5_quotient_182 : decode cX5_quotient 182 = .ok (.invokevirtual 171, 3) := by decide +kernel
theorem dX5_quotient_185 : decode cX5_quotient 185 = .ok (.iadd, 1) := by decide +kernel
theorem dX5_quotient_186 : decode cX5_quotient 186 = .ok (.ireturn, 1) := by decide +kernel
set_option maxRecDepth 20000 in
theorem qo_75 (d : Nat) {fr : Int} {g : GX} {b : Nat} {X : Nat → Prop} {S : TSt} {A : ASt} {x y h1 h2 : Nat} {ld1 ld2 : Nat → Int} {l1 l2 ρ1 ρ2 : Nat → Nat} {B1 B2 : Mat} {QR : Option Value → TSt → ASt → Prop} (hx : x < 12) (hy : y < 12) (hcc : S.c x = S.c y) (s1 : Stair B1 h1 (S.c x) l1) (e1 : SpEq (TM (S.N x)) (S.r x) B1 h1 (S.c x)) (s2 : Stair B2 h2 (S.c y) l2) (e2 : SpEq (TM (S.N y)) (S.r y) B2 h2 (S.c y)) (hQno : ¬ WinP S x y → QR (some (.int (iZ (-2)))) S A) (hKK : ∀ {V : AH} {sz : Nat} {Z : Nat → Int} {P L : Nat → Nat} {ht : Nat} {ldt : Nat → Int} {lt ρt : Nat → Nat} {C : Mat}, WG g (wsB b) (SAB b X) V sz Z P L → CX g b X V Z S A → GSp g b V Z (GWd b) (TM (S.N x)) (S.r x) (S.c x) h1 ld1 l1 ρ1 → GSp g b V Z (GSc b) (TM (S.N y)) (S.r y) (S.c y) h2 ld2 l2 ρ2 → (∀ i j, i < h1 → j < S.c x → AM (GWd b) Z ρ1 i j = B1 i j) → (∀ i j, i < h2 → j < S.c y → AM (GSc b) Z ρ2 i j = B2 i j) → GD g V (b + 517 + 1) (GTh b) ht h2 ldt ρt → (∀ i, i < ht → ldt i = (lt i : Int)) → Stair (AM (GTh b) Z ρt) ht h2 lt → SpEq C h1 (AM (GTh b) Z ρt) ht h2 → ht ≤ h1 → (∀ i j, i < h1 → j < S.c x → B1 i j = Sg (fun e => C i e * B2 e j) h2) → (∀ i e, i < h1 → e < h2 → ab (C i e) ≤ CBd) → AW g mX5_quotient (d + 8) 164 [(5, .int (iZ fr)), (0, .ref b)] [] V sz (CE g b X V sz L QR)) : ∀ (f k : Nat), k + f = h1 → ∀ {V : AH} {sz : Nat} {Z : Nat → Int} {P L : Nat → Nat} {ht : Nat} {ldt : Nat → Int} {lt ρt : Nat → Nat} {C : Mat}, WG g (wsB b) (SAB b X) V sz Z P L → CX g b X V Z S A → GSp g b V Z (GWd b) (TM (S.N x)) (S.r x) (S.c x) h1 ld1 l1 ρ1 → GSp g b V Z (GSc b) (TM (S.N y)) (S.r y) (S.c y) h2 ld2 l2 ρ2 → (∀ i j, i < h1 → j < S.c x → AM (GWd b) Z ρ1 i j = B1 i j) → (∀ i j, i < h2 → j < S.c y → AM (GSc b) Z ρ2 i j = B2 i j) → GD g V (b + 517 + 1) (GTh b) ht h2 ldt ρt → (∀ i, i < ht → ldt i = (lt i : Int)) → Stair (AM (GTh b) Z ρt) ht h2 lt → SpEq C k (AM (GTh b) Z ρt) ht h2 → ht ≤ k → (∀ i j, i < k → j < S.c x → B1 i j = Sg (fun e => C i e * B2 e j) h2) → (∀ i e, i < k → e < h2 → ab (C i e) ≤ CBd) → AW g mX5_quotient (d + 8) 75 [(6, .int (iZ k)), (5, .int (iZ fr)), (0, .ref b)] [] V sz (CE g b X V sz L QR)
  | 0, k, hf, V, sz, Z, P, L, ht, ldt, lt, ρt, C, hw0, h, hg1, hg2, hA1, hA2, hT, hld, hst, hsp, hhk, hC, hCb => by
    obtain rfl : h1 = k := by omega
    have hb := h.1.1
    obtain ⟨hTb, hOk, -⟩ := h.2
    obtain ⟨q1, q3, -⟩ := hOk x hx
    obtain ⟨q2, q4, -⟩ := hOk y hy
    have hle1 := s1.1.le_w
    have hle2 := s2.1.le_w
    have wgd : V (b + 159) = some (grO (b + 159 + 21) (b + 159 + 20) (b + 159 + 1) (b + 159 + 16) (b + 159 + 18) h1 (S.c x)) := hg1.1.1
    have sgd : V (b + 423) = some (grO (b + 423 + 21) (b + 423 + 20) (b + 423 + 1) (b + 423 + 16) (b + 423 + 18) h2 (S.c y)) := hg2.1.1
    have tgd : V (b + 517) = some (grO (b + 517 + 21) (b + 517 + 20) (b + 517 + 1) (b + 517 + 16) (b + 517 + 18) ht h2) := hT.1
    refine aw_iload dX5_quotient_75 (by rfl) ?_
    refine aw_aload_n dX5_quotient_77 (by rfl) (Or.inr ⟨_, rfl⟩) ?_
    refine aw_get fX5_35 dX5_quotient_78 hb (by rfl) ?_
    refine aw_get fX5_111 dX5_quotient_81 wgd (by rfl) ?_
    refine aw_icmp_geZ (tgt := 164) dX5_quotient_84 (by decide) (by omega) (by omega) (fun hc_84 => ?_) (fun hc_84 => ?_)
    · refine aw_pk [5, 0] (by rfl) ?_
      exact hKK hw0 h hg1 hg2 hA1 hA2 hT hld hst hsp hhk hC hCb
    · exact absurd hc_84 (by omega)
  | f + 1, k, hf, V, sz, Z, P, L, ht, ldt, lt, ρt, C, hw0, h, hg1, hg2, hA1, hA2, hT, hld, hst, hsp, hhk, hC, hCb => by
    have IH := fun k hk => @qo_75 d fr g b X S A x y h1 h2 ld1 ld2 l1 l2 ρ1 ρ2 B1 B2 QR hx hy hcc s1 e1 s2 e2 hQno hKK f k hk
    have hb := h.1.1
    obtain ⟨hTb, hOk, -⟩ := h.2
    obtain ⟨q1, q3, -⟩ := hOk x hx
    obtain ⟨q2, q4, -⟩ := hOk y hy
    have hle1 := s1.1.le_w
    have hle2 := s2.1.le_w
    have wgd : V (b + 159) = some (grO (b + 159 + 21) (b + 159 + 20) (b + 159 + 1) (b + 159 + 16) (b + 159 + 18) h1 (S.c x)) := hg1.1.1
    have sgd : V (b + 423) = some (grO (b + 423 + 21) (b + 423 + 20) (b + 423 + 1) (b + 423 + 16) (b + 423 + 18) h2 (S.c y)) := hg2.1.1
    have tgd : V (b + 517) = some (grO (b + 517 + 21) (b + 517 + 20) (b + 517 + 1) (b + 517 + 16) (b + 517 + 18) ht h2) := hT.1
    obtain ⟨wgd0, wra, -, wrow, wRS, winj⟩ := id hg1.1
    have wra : V (b + 159 + 21) = some (aQ g 4 11 (fun i => some (ρ1 i))) := wra
    have hRw := wRS k (show k < 11 by omega)
    have hrw0 := wrow _ hRw
    have hrw0 : RowV g V (ρ1 k) ((GWd b).ka (ρ1 k)) 10 ((GWd b).ga (ρ1 k)) := hrw0
    have hAs := h.2.2.2.2.2.2.2.2.2.1
    refine aw_iload dX5_quotient_75 (by rfl) ?_
    refine aw_aload_n dX5_quotient_77 (by rfl) (Or.inr ⟨_, rfl⟩) ?_
    refine aw_get fX5_35 dX5_quotient_78 hb (by rfl) ?_
    refine aw_get fX5_111 dX5_quotient_81 wgd (by rfl) ?_
    refine aw_icmp_geZ (tgt := 164) dX5_quotient_84 (by decide) (by omega) (by omega) (fun hc_84 => ?_) (fun hc_84 => ?_)
    · exact absurd hc_84 (by omega)
    · refine aw_aload_n dX5_quotient_87 (by rfl) (Or.inr ⟨_, rfl⟩) ?_
      refine aw_get fX5_49 dX5_quotient_88 hb (by rfl) ?_
      refine aw_aload_n dX5_quotient_91 (by rfl) (Or.inr ⟨_, rfl⟩) ?_
      refine aw_get fX5_35 dX5_quotient_92 hb (by rfl) ?_
      refine aw_get fX5_141 dX5_quotient_95 wgd (by rfl) ?_
      refine aw_iload dX5_quotient_98 (by rfl) ?_
      refine aw_aaldZ (t0 := 4) (k) (by rfl) dX5_quotient_100 wra (by omega) (by omega) (by omega) ?_
      refine aw_aload_n dX5_quotient_101 (by rfl) (Or.inr ⟨_, rfl⟩) ?_
      refine aw_get fX5_35 dX5_quotient_102 hb (by rfl) ?_
      refine aw_get fX5_114 dX5_quotient_105 wgd (by rfl) ?_
      refine aw_callv vX5_216 dX5_quotient_108 hAs.1 (w_copyOf (d + 3) (w := S.c x) hw0 hAs hrw0 (fun j hj => (us_as hj).1) (fun j hj => ((gst_W b X).2.2.2.2.1 _ hRw j hj).1.1) (fun i j _ _ hne => by show b + 613 + 2 * i ≠ b + 613 + 2 * j; omega) (fun i j _ hj => by have := am_W hg1.1 (i := k) (j := j) (by omega) hj; show b + 613 + 2 * i ≠ _; omega) (sab_r (by omega)) (sab_r (by omega)) ((gst_W b X).2.2.2.1 _ hRw).1 ((gst_W b X).2.2.2.1 _ hRw).2.1 ⟨by omega, by omega⟩ (fun j hj => (hg1.sm (by omega) (hOk.tb hx)).2 k j (by omega) hj)) (by rfl) (by rfl) (by omega) (Nat.le_of_ble_eq_true rfl) ?_
      rintro _ V1 sz1 mc1 ms1 ⟨Z1, P1, L1, ⟨rfl, hru⟩, hs1⟩ -
      refine WE.stp (hs1.weak (fun a z => z.elim)) ?_
      have hk1 : ∀ a, SAB b X a → V1 a = V a := fun a ha => hs1.2.2.1 a ha (fun z => z)
      have ho1 : ∀ q, q < b + 613 → Z1 q = Z q := fun q hq => hru.2 q (fun z => z) (fun j _ _ => by show q ≠ b + 613 + 2 * j; omega)
      have hr1 : ∀ j, j < S.c x → Z1 (b + 613 + 2 * j) = B1 k j := fun j hj => (hru.1 j (Nat.zero_le _) hj).trans (hA1 k j (by omega) hj)
      have h1' := h.zs hk1 (fun q hq => ho1 q (by omega))
      have hb1 := h1'.1.1
      have hg21 : GSp g b V1 Z1 (GSc b) (TM (S.N y)) (S.r y) (S.c y) h2 ld2 l2 ρ2 := hg2.keep (hg2.1.kept2 (fun a ha => hk1 a (sab_gS ha).1)) (fun i j hi hj => by have := am_S hg2.1 (i := i) (j := j) (by omega) (by omega); exact ho1 _ (by omega))
      have hT1 : GD g V1 (b + 517 + 1) (GTh b) ht h2 ldt ρt := hT.kept2 (fun a ha => hk1 a (sab_gH ha).1)
      have sgd1 : V1 (b + 423) = some (grO (b + 423 + 21) (b + 423 + 20) (b + 423 + 1) (b + 423 + 16) (b + 423 + 18) h2 (S.c y)) := hg21.1.1
      obtain ⟨tgd1, tra1, -, trow1, tRS1, tinj1⟩ := id hT1
      have tgd1 : V1 (b + 517) = some (grO (b + 517 + 21) (b + 517 + 20) (b + 517 + 1) (b + 517 + 16) (b + 517 + 18) ht h2) := tgd1
      have tra1 : V1 (b + 517 + 21) = some (aQ g 4 6 (fun i => some (ρt i))) := tra1
      have hRt := tRS1 ht (show ht < 6 by omega)
      have hrt := trow1 _ hRt
      have hrt : RowV g V1 (ρt ht) ((GTh b).ka (ρt ht)) 5 ((GTh b).ga (ρt ht)) := hrt
      have hAs1 := h1'.2.2.2.2.2.2.2.2.2.1
      have hKb := (hg21.sm (by omega) (hOk.tb hy)).1
      have hA21 : ∀ i j, i < h2 → j < S.c y → AM (GSc b) Z1 ρ2 i j = B2 i j := fun i j hi hj => by have := am_S hg2.1 (i := i) (j := j) (by omega) (by omega); exact (ho1 _ (by omega)).trans (hA2 i j hi hj)
      have hpS : (GSc b).pr = b + 441 := rfl
      have hKW := (hg1.sm (by omega) (hOk.tb hx)).1
      refine aw_aload_n dX5_quotient_111 (by rfl) (Or.inr ⟨_, rfl⟩) ?_
      refine aw_get fX5_38 dX5_quotient_112 hb1 (by rfl) ?_
      refine aw_aload_n dX5_quotient_115 (by rfl) (Or.inr ⟨_, rfl⟩) ?_
      refine aw_get fX5_49 dX5_quotient_116 hb1 (by rfl) ?_
      refine aw_iconstZ dX5_quotient_119 ?_
      refine aw_aload_n dX5_quotient_120 (by rfl) (Or.inr ⟨_, rfl⟩) ?_
      refine aw_get fX5_38 dX5_quotient_121 hb1 (by rfl) ?_
      refine aw_get fX5_111 dX5_quotient_124 sgd1 (by rfl) ?_
      refine aw_aload_n dX5_quotient_127 (by rfl) (Or.inr ⟨_, rfl⟩) ?_
      refine aw_get fX5_41 dX5_quotient_128 hb1 (by rfl) ?_
      refine aw_get fX5_141 dX5_quotient_131 tgd1 (by rfl) ?_
      refine aw_aload_n dX5_quotient_134 (by rfl) (Or.inr ⟨_, rfl⟩) ?_
      refine aw_get fX5_41 dX5_quotient_135 hb1 (by rfl) ?_
      refine aw_get fX5_111 dX5_quotient_138 tgd1 (by rfl) ?_
      refine aw_aaldZ (t0 := 4) (ht) (by rfl) dX5_quotient_141 tra1 (by omega) (by omega) (by omega) ?_
      refine aw_callv vX5_185 dX5_quotient_142 sgd1 (w_takeOff g (d + 2) (D := DG (b + 423)) (G := GSc b) (K := KB (S.c y) 1000) (C := KB (S.c x) 1000) (fr := 0) (to := h2) (gso_S b X) hg21.1 (show h2 ≤ 6 by omega) (show S.c y ≤ 5 by omega) (show S.c y ≤ 10 by omega) ⟨by omega, by omega, show h2 ≤ 0 + 5 by omega⟩ hg21.2.1 hg21.2.2.1 (KB.one (by omega)) (KB.one (by omega)) hKb (fun j hj => by show ab (Z1 (b + 613 + 2 * j)) ≤ _; rw [hr1 j (by omega), ← hA1 k j (by omega) (by omega)]; exact hKW k j (by omega) (by omega)) (by rw [hcc]; exact sm_qot ⟨S.c y, by omega⟩ ⟨h2 - 0, by omega⟩) hAs1 hrt ⟨sab_r (by omega), sab_r (by omega), ((gst_H b X).2.2.2.1 _ hRt).1, ((gst_H b X).2.2.2.1 _ hRt).2.1⟩ (fun j hj => ⟨us_asG (by omega) hj, by show b + 613 + 2 * j ≠ (GSc b).pr; rw [hpS]; omega, fun rr hrr i hi => by have h3 := gl_cell (t0 := b + 423) (mr := 6) (mc := 5) hrr hi; have e : (GSc b).ga rr i = (GL (b + 423) 6 5).ga rr i := rfl; show b + 613 + 2 * j ≠ _; omega, fun i hi => by have := am_H hT1 (i := ht) (j := i) (by omega) hi; show b + 613 + 2 * j ≠ _; omega⟩) (fun j hj => ⟨⟨((gst_H b X).2.2.2.2.1 _ hRt j hj).1.1, by have := am_H hT1 (i := ht) (j := j) (by omega) hj; show (GTh b).ga (ρt ht) j ≠ b + 423 + 2; omega, by have := am_H hT1 (i := ht) (j := j) (by omega) hj; show (GTh b).ga (ρt ht) j ≠ b + 423 + 4; omega, by have := am_H hT1 (i := ht) (j := j) (by omega) hj; show (GTh b).ga (ρt ht) j ≠ b + 423 + 6; omega⟩, ((dj_HS b).1 _ hRt j hj).2.1, ((dj_HS b).1 _ hRt j hj).2.2⟩) (fun i j _ _ hne => by show b + 613 + 2 * i ≠ b + 613 + 2 * j; omega) (fun i j hi hj hne q => hne ((gst_H b X).2.2.2.2.2.1 _ _ _ _ hRt hRt hi hj q).2) hs1.1 h1'.2.2.2.1.2.2.1 (fun _ _ => rfl)) (by rfl) (by rfl) (by omega) (Nat.le_of_ble_eq_true rfl) ?_
      rintro _ V2 sz2 mc2 ms2 ⟨Z2, P2, L2, ⟨qq, hTK, hres⟩, hs2⟩ -
      refine WE.stp (hs2.weak (fun a z => z.elim)) ?_
      obtain ⟨k1, k2, -, k4⟩ := hTK
      have hk2 : ∀ a, SAB b X a → V2 a = V1 a := fun a ha => hs2.2.2.1 a ha (fun z => z)
      have ho2 : ∀ q, q < b + 541 → q ≠ b + 441 → Z2 q = Z1 q := fun q hq hne => k4 q (by rw [hpS]; exact hne) (fun j _ => by show q ≠ b + 613 + 2 * j; omega) (fun t ht2 => by have := am_H hT1 (i := ht) (j := t) (by omega) (by omega); show q ≠ (GTh b).ga (ρt ht) t; omega)
      have h2' := h1'.zs hk2 (fun q hq => ho2 q (by omega) (by omega))
      have hb2 := h2'.1.1
      have hrow : ∀ j, j < S.c y → Z2 (b + 613 + 2 * j) = B1 k j - Sg (fun t => qq t * B2 t j) h2 := fun j hj => by
        have h5 := k1 j hj
        rw [Nat.sub_zero] at h5
        refine h5.trans ?_
        rw [hr1 j (by omega)]
        congr 1
        exact Sg_congr (fun t ht2 => by rw [Nat.zero_add, hA21 t j ht2 hj])
      have hin : Span B2 h2 (S.c y) (B1 k) ↔ ∀ j, j < S.c y → Z2 (b + 613 + 2 * j) = 0 := off_in s2 (v' := fun j => Z2 (b + 613 + 2 * j)) (q := qq) hrow (fun e he => by
        have h5 := (k2 e (by omega)).2
        rw [Nat.zero_add, hA21 e _ he (s2.1.1 e he).1] at h5
        exact h5)
      rcases hres with ⟨hz, rfl⟩ | ⟨hz, rfl⟩
      · refine aw_if_neZ (tgt := 151) dX5_quotient_145 (by decide) (by decide) (fun _ => ?_) (fun h => absurd h (by decide))
        have hBk : ∀ j, j < S.c x → B1 k j = Sg (fun e => qq e * B2 e j) h2 := fun j hj => by
          have h5 := hrow j (by omega)
          rw [hz j (by omega)] at h5
          omega
        have hqb : ∀ e, e < h2 → ab (qq e) ≤ CBd := fun e he => by
          have h3 := mul_bd s2 (b := B1 k) (m := qq) (X := KB (S.c x) 1000) (fun j hj => hBk j (by omega)) (fun j hj => by rw [← hA1 k j (by omega) (by omega)]; exact hKW k j (by omega) (by omega)) (by have := KB.one (w := S.c x) (b := 1000) (by omega); omega) (e + 1) (by omega)
          have h4 := two_le (show e + 1 ≤ 5 by omega)
          have h5 : (2 : Int) ^ 5 = 32 := by decide
          have h6 : Sg (fun i => ab (qq i)) (e + 1) = Sg (fun i => ab (qq i)) e + ab (qq e) := rfl
          have h7 : 0 ≤ Sg (fun i => ab (qq i)) e := Sg_nn (fun i _ => ab0 _)
          have h8 := Int.mul_le_mul_of_nonneg_left (show (2 : Int) ^ (e + 1) - 1 ≤ 31 by omega) (show 0 ≤ KB (S.c x) 1000 by have := KB.one (w := S.c x) (b := 1000) (by omega); omega)
          have h9 := kb_31 ⟨S.c x, by omega⟩
          have h9 : KB (S.c x) 1000 * 31 ≤ CBd := h9
          omega
        have hT2 : GD g V2 (b + 517 + 1) (GTh b) ht h2 ldt ρt := hT1.kept2 (fun a ha => hk2 a (sab_gH ha).1)
        have tgd2 : V2 (b + 517) = some (grO (b + 517 + 21) (b + 517 + 20) (b + 517 + 1) (b + 517 + 16) (b + 517 + 18) ht h2) := hT2.1
        have hot : ∀ a, a < 6 → a ≠ ht → ∀ c, c < 5 → Z2 ((GTh b).ga (ρt a) c) = Z ((GTh b).ga (ρt a) c) := fun a ha hai c hc => by
          have hc2 := am_H hT1 (i := a) (j := c) ha hc
          refine (k4 _ (by rw [hpS]; omega) (fun j _ => by show _ ≠ b + 613 + 2 * j; omega) (fun t ht2 q => ?_)).trans (hru.2 _ (fun z => z) (fun j _ _ => by show _ ≠ b + 613 + 2 * j; omega))
          exact tinj1 a ht ha (show ht < 6 by omega) hai ((gst_H b X).2.2.2.2.2.1 _ _ _ _ (tRS1 a ha) hRt hc (show t < 5 by omega) q).1
        have hrw : ∀ e, e < h2 → Z2 ((GTh b).ga (ρt ht) e) = qq e := fun e he => (k2 e (by omega)).1
        have hst2 : Stair (AM (GTh b) Z2 ρt) ht h2 lt := hst.cong (fun a ha c hc => hot a (by omega) (by omega) c (by omega))
        obtain ⟨C2, hC2⟩ : ∃ C2 : Mat, C2 = upF C k qq := ⟨_, rfl⟩
        have hC2o : ∀ i, i < k → C2 i = C i := fun i hi => by rw [hC2, upF_ne _ _ (by omega)]
        have hC2k : C2 k = qq := by rw [hC2, upF_self]
        have hsp1 : SpEq C2 k (AM (GTh b) Z2 ρt) ht h2 := (SpEq.cong (fun a ha c hc => by rw [hC2o a ha])).tr (hsp.tr (SpEq.cong (fun a ha c hc => (hot a (by omega) (by omega) c (by omega)).symm)))
        have hsp2 : SpEq C2 (k + 1) (AM (GTh b) Z2 ρt) (ht + 1) h2 := hsp1.push (fun _ _ _ _ => rfl) (fun _ _ _ _ => rfl) (fun c hc => by rw [hC2k]; exact (hrw c hc).symm)
        have hEb : ∀ i e, i < k + 1 → e < h2 → ab (C2 i e) ≤ CBd := fun i e hi he => by
          by_cases q : i = k
          · rw [q, hC2k]; exact hqb e he
          · rw [hC2o i (by omega)]; exact hCb i e (by omega) he
        have hCn : ∀ i j, i < k + 1 → j < S.c x → B1 i j = Sg (fun e => C2 i e * B2 e j) h2 := fun i j hi hj => by
          by_cases q : i = k
          · rw [q, hC2k]; exact hBk j hj
          · rw [hC2o i (by omega)]; exact hC i j (by omega) hj
        refine aw_aload_n dX5_quotient_151 (by rfl) (Or.inr ⟨_, rfl⟩) ?_
        refine aw_get fX5_41 dX5_quotient_152 hb2 (by rfl) ?_
        refine aw_callv vX5_200 dX5_quotient_155 tgd2 (w_takeIn g (d + 1) (D := DG (b + 517)) (G := GTh b) (gso_H b X) (show ht < 6 by omega) (show h2 < 6 by omega) (show h2 ≤ 5 by omega) hst2 ((LB.mono0 (n := k + 1) cbd_pos hEb (by omega)).eq hsp1) ((LB.mono0 (n := k + 1) cbd_pos hEb (Nat.le_refl _)).eq hsp2) (KB.one cbd_pos) (c := CBd) cbd_pos (fun c hc => by show ab (Z2 _) ≤ _; rw [hrw c hc]; exact hqb c hc) (sm_dg (by omega) (by omega)) hld hs2.1 h2'.2.2.2.1.2.2.2 hT2) (by rfl) (by rfl) (by omega) (Nat.le_of_ble_eq_true rfl) ?_
        rintro _ V3 sz3 mc3 ms3 ⟨Z3, P3, L3, ⟨rfl, h3, ld3, l3, ρ3, hG3, hld3, hst3, hsp3, hNF3, hh3⟩, hs3⟩ -
        refine WE.stp (hs3.weak (fun a q => by have := eg_H q; exact ⟨by omega, by omega⟩)) ?_
        have hc3 : Chg b X (b + 517) (b + 611) V2 Z2 V3 Z3 := chg_g (by omega) (by omega) (fun a ha => by omega) hs3 hNF3
        have h3' := h2'.third rfl rfl hc3 ⟨h3, _, ld3, ρ3, hG3⟩
        have hV3 : ∀ a, SAB b X a → ¬ (b + 517 ≤ a ∧ a < b + 611) → V3 a = V a := fun a ha hn => (hc3.1 a ha (Or.inl hn)).trans ((hk2 a ha).trans (hk1 a ha))
        have hZ3 : ∀ q, q < b + 517 → q ≠ b + 441 → Z3 q = Z q := fun q hq hne => (hc3.2 q (by omega)).trans ((ho2 q (by omega) hne).trans (ho1 q (by omega)))
        have hW3 : ∀ i j, i < h1 → j < S.c x → AM (GWd b) Z3 ρ1 i j = AM (GWd b) Z ρ1 i j := fun i j hi hj => by have := am_W hg1.1 (i := i) (j := j) (by omega) (by omega); exact hZ3 _ (by omega) (by omega)
        have hS3 : ∀ i j, i < h2 → j < S.c y → AM (GSc b) Z3 ρ2 i j = AM (GSc b) Z ρ2 i j := fun i j hi hj => by have := am_S hg2.1 (i := i) (j := j) (by omega) (by omega); exact hZ3 _ (by omega) (by omega)
        refine aw_iincZ dX5_quotient_158 (by rfl) (by decide) ?_
        refine aw_goto (tgt := 75) dX5_quotient_161 (by decide) ?_
        rw [show ((k : Int) + 1) = ((k + 1 : Nat) : Int) by omega]
        refine aw_pk [6, 5, 0] (by rfl) ?_
        exact IH (k + 1) (by omega) hs3.1 h3' (hg1.keep (hg1.1.kept2 (fun a ha => hV3 a (sab_gW ha).1 (by have := (sab_gW (X := X) ha).2; omega))) hW3) (hg2.keep (hg2.1.kept2 (fun a ha => hV3 a (sab_gS ha).1 (by have := (sab_gS (X := X) ha).2; omega))) hS3) (fun i j hi hj => (hW3 i j hi hj).trans (hA1 i j hi hj)) (fun i j hi hj => (hS3 i j hi hj).trans (hA2 i j hi hj)) hG3 hld3 hst3 (hsp2.tr hsp3) (by omega) hCn hEb
      · refine aw_if_neZ (tgt := 151) dX5_quotient_145 (by decide) (by decide) (fun h => absurd rfl h) (fun _ => ?_)
        refine aw_bipushZ dX5_quotient_148 (by decide) ?_
        refine aw_iret dX5_quotient_150 rfl (by rfl) ?_
        exact WE.ret hs2.1 ⟨S, A, h2', hQno (fun hW => hz (hin.mp ((e2 _).mp (span_sub (fun i hi => hW i hi) (hcc ▸ (e1 _).mpr (Span.row (show k < h1 by omega)))))))⟩
