/-! ===== add, times ===== -/
abbrev mX5_add : MI := (yX5_add, cX5_add, 11, (some FieldType.boolean), noX)
theorem dX5_add_0 : decode cX5_add 0 = .ok (.aload_n 0, 1) := by decide +kernel
theorem dX5_add_1 : decode cX5_add 1 = .ok (.iload_n 1, 1) := by decide +kernel
theorem dX5_add_2 : decode cX5_add 2 = .ok (.invokevirtual 72, 3) := by decide +kernel
theorem dX5_add_5 : decode cX5_add 5 = .ok (.astore 5, 2) := by decide +kernel
theorem dX5_add_7 : decode cX5_add 7 = .ok (.aload_n 0, 1) := by decide +kernel
theorem dX5_add_8 : decode cX5_add 8 = .ok (.iload_n 2, 1) := by decide +kernel
theorem dX5_add_9 : decode cX5_add 9 = .ok (.invokevirtual 72, 3) := by decide +kernel
theorem dX5_add_12 : decode cX5_add 12 = .ok (.astore 6, 2) := by decide +kernel
theorem dX5_add_14 : decode cX5_add 14 = .ok (.aload 5, 2) := by decide +kernel
theorem dX5_add_16 : decode cX5_add 16 = .ok (.ifnull 42, 3) := by decide +kernel
theorem dX5_add_19 : decode cX5_add 19 = .ok (.aload 6, 2) := by decide +kernel
theorem dX5_add_21 : decode cX5_add 21 = .ok (.ifnull 37, 3) := by decide +kernel
theorem dX5_add_24 : decode cX5_add 24 = .ok (.iload 4, 2) := by decide +kernel
theorem dX5_add_26 : decode cX5_add 26 = .ok (.invokestatic 65, 3) := by decide +kernel
theorem dX5_add_29 : decode cX5_add 29 = .ok (.ifCond .eq 29, 3) := by decide +kernel
theorem dX5_add_32 : decode cX5_add 32 = .ok (.aload 5, 2) := by decide +kernel
theorem dX5_add_34 : decode cX5_add 34 = .ok (.getfield 96, 3) := by decide +kernel
theorem dX5_add_37 : decode cX5_add 37 = .ok (.aload 6, 2) := by decide +kernel
theorem dX5_add_39 : decode cX5_add 39 = .ok (.getfield 96, 3) := by decide +kernel
theorem dX5_add_42 : decode cX5_add 42 = .ok (.if_icmp .ne 16, 3) := by decide +kernel
theorem dX5_add_45 : decode cX5_add 45 = .ok (.aload 5, 2) := by decide +kernel
theorem dX5_add_47 : decode cX5_add 47 = .ok (.getfield 79, 3) := by decide +kernel
theorem dX5_add_50 : decode cX5_add 50 = .ok (.aload 6, 2) := by decide +kernel
theorem dX5_add_52 : decode cX5_add 52 = .ok (.getfield 79, 3) := by decide +kernel
theorem dX5_add_55 : decode cX5_add 55 = .ok (.if_icmp .eq 5, 3) := by decide +kernel
theorem dX5_add_58 : decode cX5_add 58 = .ok (.iconst 0, 1) := by decide +kernel
theorem dX5_add_59 : decode cX5_add 59 = .ok (.ireturn, 1) := by decide +kernel
theorem dX5_add_60 : decode cX5_add 60 = .ok (.iconst 0, 1) := by decide +kernel
theorem dX5_add_61 : decode cX5_add 61 = .ok (.istore 7, 2) := by decide +kernel
theorem dX5_add_63 : decode cX5_add 63 = .ok (.iconst 0, 1) := by decide +kernel
theorem dX5_add_64 : decode cX5_add 64 = .ok (.istore 8, 2) := by decide +kernel
theorem dX5_add_66 : decode cX5_add 66 = .ok (.iload 8, 2) := by decide +kernel
theorem dX5_add_68 : decode cX5_add 68 = .ok (.aload 5, 2) := by decide +kernel
theorem dX5_add_70 : decode cX5_add 70 = .ok (.getfield 96, 3) := by decide +kernel
theorem dX5_add_73 : decode cX5_add 73 = .ok (.if_icmp .ge 79, 3) := by decide +kernel
theorem dX5_add_76 : decode cX5_add 76 = .ok (.iconst 0, 1) := by decide +kernel
theorem dX5_add_77 : decode cX5_add 77 = .ok (.istore 9, 2) := by decide +kernel
theorem dX5_add_79 : decode cX5_add 79 = .ok (.iload 9, 2) := by decide +kernel
theorem dX5_add_81 : decode cX5_add 81 = .ok (.aload 5, 2) := by decide +kernel
theorem dX5_add_83 : decode cX5_add 83 = .ok (.getfield 79, 3) := by decide +kernel
theorem dX5_add_86 : decode cX5_add 86 = .ok (.if_icmp .ge 60, 3) := by decide +kernel
theorem dX5_add_89 : decode cX5_add 89 = .ok (.aload 6, 2) := by decide +kernel
theorem dX5_add_91 : decode cX5_add 91 = .ok (.getfield 86, 3) := by decide +kernel
theorem dX5_add_94 : decode cX5_add 94 = .ok (.iload 8, 2) := by decide +kernel
theorem dX5_add_96 : decode cX5_add 96 = .ok (.iconst 5, 1) := by decide +kernel
theorem dX5_add_97 : decode cX5_add 97 = .ok (.imul, 1) := by decide +kernel
theorem dX5_add_98 : decode cX5_add 98 = .ok (.iload 9, 2) := by decide +kernel
theorem dX5_add_100 : decode cX5_add 100 = .ok (.iadd, 1) := by decide +kernel
theorem dX5_add_101 : decode cX5_add 101 = .ok (.iaload, 1) := by decide +kernel
theorem dX5_add_102 : decode cX5_add 102 = .ok (.istore 10, 2) := by decide +kernel
theorem dX5_add_104 : decode cX5_add 104 = .ok (.aload_n 0, 1) := by decide +kernel
theorem dX5_add_105 : decode cX5_add 105 = .ok (.getfield 56, 3) := by decide +kernel
theorem dX5_add_108 : decode cX5_add 108 = .ok (.iload 7, 2) := by decide +kernel
theorem dX5_add_110 : decode cX5_add 110 = .ok (.aload 5, 2) := by decide +kernel
theorem dX5_add_112 : decode cX5_add 112 = .ok (.getfield 86, 3) := by decide +kernel
theorem dX5_add_115 : decode cX5_add 115 = .ok (.iload 8, 2) := by decide +kernel
theorem dX5_add_117 : decode cX5_add 117 = .ok (.iconst 5, 1) := by decide +kernel
theorem dX5_add_118 : decode cX5_add 118 = .ok (.imul, 1) := by decide +kernel
theorem dX5_add_119 : decode cX5_add 119 = .ok (.iload 9, 2) := by decide +kernel
theorem dX5_add_121 : decode cX5_add 121 = .ok (.iadd, 1) := by decide +kernel
theorem dX5_add_122 : decode cX5_add 122 = .ok (.iaload, 1) := by decide +kernel
theorem dX5_add_123 : decode cX5_add 123 = .ok (.iload_n 3, 1) := by decide +kernel
theorem dX5_add_124 : decode cX5_add 124 = .ok (.ifCond .eq 9, 3) := by decide +kernel
theorem dX5_add_127 : decode cX5_add 127 = .ok (.iload 10, 2) := by decide +kernel
theorem dX5_add_129 : decode cX5_add 129 = .ok (.ineg, 1) := by decide +kernel
theorem dX5_add_130 : decode cX5_add 130 = .ok (.goto 5, 3) := by decide +kernel
theorem dX5_add_133 : decode cX5_add 133 = .ok (.iload 10, 2) := by decide +kernel
theorem dX5_add_135 : decode cX5_add 135 = .ok (.iadd, 1) := by decide +kernel
theorem dX5_add_136 : decode cX5_add 136 = .ok (.iastore, 1) := by decide +kernel
theorem dX5_add_137 : decode cX5_add 137 = .ok (.iinc 7 1, 3) := by decide +kernel
theorem dX5_add_140 : decode cX5_add 140 = .ok (.iinc 9 1, 3) := by decide +kernel
theorem dX5_add_143 : decode cX5_add 143 = .ok (.goto (-64), 3) := by decide +kernel
theorem dX5_add_146 : decode cX5_add 146 = .ok (.iinc 8 1, 3) := by decide +kernel
theorem dX5_add_149 : decode cX5_add 149 = .ok (.goto (-83), 3) := by decide +kernel
theorem dX5_add_152 : decode cX5_add 152 = .ok (.aload_n 0, 1) := by decide +kernel
theorem dX5_add_153 : decode cX5_add 153 = .ok (.iload 4, 2) := by decide +kernel
theorem dX5_add_155 : decode cX5_add 155 = .ok (.aload 5, 2) := by decide +kernel
theorem dX5_add_157 : decode cX5_add 157 = .ok (.getfield 96, 3) := by decide +kernel
theorem dX5_add_160 : decode cX5_add 160 = .ok (.aload 5, 2) := by decide +kernel
theorem dX5_add_162 : decode cX5_add 162 = .ok (.getfield 79, 3) := by decide +kernel
theorem dX5_add_165 : decode cX5_add 165 = .ok (.invokevirtual 133, 3) := by decide +kernel
theorem dX5_add_168 : decode cX5_add 168 = .ok (.ireturn, 1) := by decide +kernel
theorem ad_in (d : Nat) {g : GX} {b : Nat} {X : Nat → Prop} {Z : Nat → Int} {S : TSt} {A : ASt} {a e to : Nat} {lz : Int} (ha : a < 12 ∧ 0 < S.r a) (he : e < 12 ∧ 0 < S.r e) (hto : to < 12) (hre : S.r a = S.r e) (hce : S.c a = S.c e) (hlz : lz = 0 ∨ lz = 1) {i : Nat} (hi : i < S.r a) {n0 : Nat} (hn0 : n0 = i * (S.c a) + S.c a) (hKK : ∀ {V : AH} {sz : Nat} {P L : Nat → Nat} {F : Nat → Int}, WG g (wsB b) (SAB b X) V sz Z P L → CX g b X V Z S A → V (b + 645) = some (aIz g 25 F) → FLd F (S.c a) (fun i j => S.N a (5 * i + j) + (if lz = 0 then S.N e (5 * i + j) else - S.N e (5 * i + j))) (i * (S.c a) + S.c a) → (∀ k, k < n0 → R32 (F k)) → AW g mX5_add (d + 3) 146 [(8, .int (iZ i)), (7, .int (iZ n0)), (5, .ref (b + 647 + 3 * a)), (6, .ref (b + 647 + 3 * e)), (0, .ref b), (3, .int (iZ lz)), (4, .int (iZ to))] [] V sz (CE g b X V sz L (RK S A to (S.r a) (S.c a) (fun i j => S.N a (5 * i + j) + (if lz = 0 then S.N e (5 * i + j) else - S.N e (5 * i + j)))))) : ∀ (x j n : Nat), j + x = S.c a → n = i * (S.c a) + j → ∀ {V : AH} {sz : Nat} {P L : Nat → Nat} {F : Nat → Int}, WG g (wsB b) (SAB b X) V sz Z P L → CX g b X V Z S A → V (b + 645) = some (aIz g 25 F) → FLd F (S.c a) (fun i j => S.N a (5 * i + j) + (if lz = 0 then S.N e (5 * i + j) else - S.N e (5 * i + j))) n → (∀ k, k < n → R32 (F k)) → AW g mX5_add (d + 3) 79 [(9, .int (iZ j)), (8, .int (iZ i)), (7, .int (iZ n)), (5, .ref (b + 647 + 3 * a)), (6, .ref (b + 647 + 3 * e)), (0, .ref b), (3, .int (iZ lz)), (4, .int (iZ to))] [] V sz (CE g b X V sz L (RK S A to (S.r a) (S.c a) (fun i j => S.N a (5 * i + j) + (if lz = 0 then S.N e (5 * i + j) else - S.N e (5 * i + j)))))
  | 0, j, n, hx, hn, V, sz, P, L, F, hw0, h, hMd, hF, hFr => by
    obtain rfl : n = n0 := by omega
    obtain ⟨⟨hb, hb1⟩, hTb, hOk, -⟩ := id h
    obtain ⟨hT1, hT2, hT3, -⟩ := hTb a ha.1
    obtain ⟨hr5, hc5, hrc1, hNr, -⟩ := hOk a ha.1
    obtain ⟨hE1, hE2, hE3, -⟩ := hTb e he.1
    have hNr2 := (hOk e he.1).2.2.2.1
    refine aw_iload dX5_add_79 (by rfl) ?_
    refine aw_aload dX5_add_81 (by rfl) (Or.inr ⟨_, rfl⟩) ?_
    refine aw_get fX5_79 dX5_add_83 (by assumption) (by rfl) ?_
    refine aw_icmp_geZ (tgt := 146) dX5_add_86 (by decide) (by omega) (by omega) (fun hc_86 => ?_) (fun hc_86 => ?_)
    · exact aw_pk [8, 7, 5, 6, 0, 3, 4] (by rfl) (hKK hw0 h hMd (by rw [show i * (S.c a) + S.c a = n by omega]; exact hF) (fun k hk => hFr k (by omega)))
    · exact absurd hc_86 (by omega)
  | x + 1, j, n, hx, hn, V, sz, P, L, F, hw0, h, hMd, hF, hFr => by
    have IH := fun j n hj hn => @ad_in d g b X Z S A a e to lz ha he hto hre hce hlz i hi n0 hn0 hKK x j n hj hn
    clear hKK
    obtain ⟨⟨hb, hb1⟩, hTb, hOk, -⟩ := id h
    obtain ⟨hT1, hT2, hT3, -⟩ := hTb a ha.1
    obtain ⟨hr5, hc5, hrc1, hNr, -⟩ := hOk a ha.1
    obtain ⟨hE1, hE2, hE3, -⟩ := hTb e he.1
    have hNr2 := (hOk e he.1).2.2.2.1
    refine aw_iload dX5_add_79 (by rfl) ?_
    refine aw_aload dX5_add_81 (by rfl) (Or.inr ⟨_, rfl⟩) ?_
    refine aw_get fX5_79 dX5_add_83 (by assumption) (by rfl) ?_
    refine aw_icmp_geZ (tgt := 146) dX5_add_86 (by decide) (by omega) (by omega) (fun hc_86 => ?_) (fun hc_86 => ?_)
    · exact absurd hc_86 (by omega)
    · have hidx := idx_lt (rn := 5) hc5 (show i < 5 by omega) (show j < S.c a by omega)
      refine aw_aload dX5_add_89 (by rfl) (Or.inr ⟨_, rfl⟩) ?_
      refine aw_get fX5_86 dX5_add_91 (by assumption) (by rfl) ?_
      refine aw_iload dX5_add_94 (by rfl) ?_
      refine aw_iconstZ dX5_add_96 ?_
      refine aw_imulZ dX5_add_97 ?_
      refine aw_iload dX5_add_98 (by rfl) ?_
      refine aw_iaddZ dX5_add_100 ?_
      refine aw_ialdZ (5 * i + j) dX5_add_101 (by assumption) (by omega) (by omega) (by omega) ?_
      refine aw_istore dX5_add_102 (by decide) ?_
      refine aw_aload_n dX5_add_104 (by rfl) (Or.inr ⟨_, rfl⟩) ?_
      refine aw_get fX5_56 dX5_add_105 (by assumption) (by rfl) ?_
      refine aw_iload dX5_add_108 (by rfl) ?_
      refine aw_aload dX5_add_110 (by rfl) (Or.inr ⟨_, rfl⟩) ?_
      refine aw_get fX5_86 dX5_add_112 (by assumption) (by rfl) ?_
      refine aw_iload dX5_add_115 (by rfl) ?_
      refine aw_iconstZ dX5_add_117 ?_
      refine aw_imulZ dX5_add_118 ?_
      refine aw_iload dX5_add_119 (by rfl) ?_
      refine aw_iaddZ dX5_add_121 ?_
      refine aw_ialdZ (5 * i + j) dX5_add_122 (by assumption) (by omega) (by omega) (by omega) ?_
      refine aw_iload_n dX5_add_123 (by rfl) ?_
      refine aw_if_eqZ (tgt := 133) dX5_add_124 (by decide) (by omega) (fun hc_124 => ?_) (fun hc_124 => ?_)
      · refine aw_iload dX5_add_133 (by rfl) ?_
        refine aw_iaddZ dX5_add_135 ?_
        refine aw_topi (y := S.N a (5 * i + j) + (if lz = 0 then S.N e (5 * i + j) else - S.N e (5 * i + j))) (by first | (rw [if_pos hc_124]; done) | (rw [if_neg hc_124]; done)) ?_
        refine aw_iastZ (i * S.c a + j) dX5_add_136 (by assumption) (by omega) (by omega) (by omega) ?_
        refine WE.stp0 (WSE.sto hw0 (sab_t (by omega)) (by unfold EB; omega)) ?_
        have hw1 := hw0.sto (e := aIz g 25 (upF F (i * S.c a + j) (S.N a (5 * i + j) + (if lz = 0 then S.N e (5 * i + j) else - S.N e (5 * i + j))))) (sab_t (X := X) (show b + 645 ≤ b + 645 ∧ b + 645 < b + 683 by omega))
        have h1 : CX g b X (AHu V (b + 645) (aIz g 25 (upF F (i * S.c a + j) (S.N a (5 * i + j) + (if lz = 0 then S.N e (5 * i + j) else - S.N e (5 * i + j)))))) Z S A := h.made rfl rfl ⟨fun q _ hn => AHu_ne (by omega), fun _ _ => rfl⟩ ⟨_, AHu_self _ _ _⟩
        refine aw_iincZ dX5_add_137 (by rfl) (by decide) ?_
        refine aw_iincZ dX5_add_140 (by rfl) (by decide) ?_
        refine aw_goto (tgt := 79) dX5_add_143 (by decide) ?_
        rw [show ((j : Int) + 1) = ((j + 1 : Nat) : Int) by omega, show ((n : Int) + 1) = ((n + 1 : Nat) : Int) by omega]
        refine aw_pk [9, 8, 7, 5, 6, 0, 3, 4] (by rfl) ?_
        exact IH (j + 1) (n + 1) (by omega) (by omega) hw1 h1 (AHu_self _ _ _) (by have := hF; rw [hn] at this; rw [hn]; exact this.step (by omega)) (fun k hk => by unfold upF; split; (have := hNr (5 * i + j) (by omega); have := hNr2 (5 * i + j) (by omega); first | omega | (split <;> omega)); exact hFr k (by omega))
      · refine aw_iload dX5_add_127 (by rfl) ?_
        refine aw_inegZ dX5_add_129 ?_
        refine aw_goto (tgt := 135) dX5_add_130 (by decide) ?_
        refine aw_iaddZ dX5_add_135 ?_
        refine aw_topi (y := S.N a (5 * i + j) + (if lz = 0 then S.N e (5 * i + j) else - S.N e (5 * i + j))) (by first | (rw [if_pos hc_124]; done) | (rw [if_neg hc_124]; done)) ?_
        refine aw_iastZ (i * S.c a + j) dX5_add_136 (by assumption) (by omega) (by omega) (by omega) ?_
        refine WE.stp0 (WSE.sto hw0 (sab_t (by omega)) (by unfold EB; omega)) ?_
        have hw1 := hw0.sto (e := aIz g 25 (upF F (i * S.c a + j) (S.N a (5 * i + j) + (if lz = 0 then S.N e (5 * i + j) else - S.N e (5 * i + j))))) (sab_t (X := X) (show b + 645 ≤ b + 645 ∧ b + 645 < b + 683 by omega))
        have h1 : CX g b X (AHu V (b + 645) (aIz g 25 (upF F (i * S.c a + j) (S.N a (5 * i + j) + (if lz = 0 then S.N e (5 * i + j) else - S.N e (5 * i + j)))))) Z S A := h.made rfl rfl ⟨fun q _ hn => AHu_ne (by omega), fun _ _ => rfl⟩ ⟨_, AHu_self _ _ _⟩
        refine aw_iincZ dX5_add_137 (by rfl) (by decide) ?_
        refine aw_iincZ dX5_add_140 (by rfl) (by decide) ?_
        refine aw_goto (tgt := 79) dX5_add_143 (by decide) ?_
        rw [show ((j : Int) + 1) = ((j + 1 : Nat) : Int) by omega, show ((n : Int) + 1) = ((n + 1 : Nat) : Int) by omega]
        refine aw_pk [9, 8, 7, 5, 6, 0, 3, 4] (by rfl) ?_
        exact IH (j + 1) (n + 1) (by omega) (by omega) hw1 h1 (AHu_self _ _ _) (by have := hF; rw [hn] at this; rw [hn]; exact this.step (by omega)) (fun k hk => by unfold upF; split; (have := hNr (5 * i + j) (by omega); have := hNr2 (5 * i + j) (by omega); first | omega | (split <;> omega)); exact hFr k (by omega))
theorem ad_out (d : Nat) {g : GX} {b : Nat} {X : Nat → Prop} {Z : Nat → Int} {S : TSt} {A : ASt} {a e to : Nat} {lz : Int} (ha : a < 12 ∧ 0 < S.r a) (he : e < 12 ∧ 0 < S.r e) (hto : to < 12) (hre : S.r a = S.r e) (hce : S.c a = S.c e) (hlz : lz = 0 ∨ lz = 1) : ∀ (x i n : Nat), i + x = S.r a → n = i * (S.c a) → ∀ {V : AH} {sz : Nat} {P L : Nat → Nat} {F : Nat → Int}, WG g (wsB b) (SAB b X) V sz Z P L → CX g b X V Z S A → V (b + 645) = some (aIz g 25 F) → FLd F (S.c a) (fun i j => S.N a (5 * i + j) + (if lz = 0 then S.N e (5 * i + j) else - S.N e (5 * i + j))) n → (∀ k, k < n → R32 (F k)) → AW g mX5_add (d + 3) 66 [(8, .int (iZ i)), (7, .int (iZ n)), (5, .ref (b + 647 + 3 * a)), (6, .ref (b + 647 + 3 * e)), (0, .ref b), (3, .int (iZ lz)), (4, .int (iZ to))] [] V sz (CE g b X V sz L (RK S A to (S.r a) (S.c a) (fun i j => S.N a (5 * i + j) + (if lz = 0 then S.N e (5 * i + j) else - S.N e (5 * i + j)))))
  | 0, i, n, hx, hn, V, sz, P, L, F, hw0, h, hMd, hF, hFr => by
    obtain ⟨⟨hb, hb1⟩, hTb, hOk, -⟩ := id h
    obtain ⟨hT1, hT2, hT3, -⟩ := hTb a ha.1
    obtain ⟨hr5, hc5, hrc1, hNr, -⟩ := hOk a ha.1
    obtain ⟨hE1, hE2, hE3, -⟩ := hTb e he.1
    have hNr2 := (hOk e he.1).2.2.2.1
    have END : FLd F (S.c a) (fun i j => S.N a (5 * i + j) + (if lz = 0 then S.N e (5 * i + j) else - S.N e (5 * i + j))) (S.r a * S.c a) → (∀ k, k < S.r a * S.c a → R32 (F k)) → AW g mX5_add (d + 3) 152 [(8, .int (iZ i)), (7, .int (iZ n)), (5, .ref (b + 647 + 3 * a)), (6, .ref (b + 647 + 3 * e)), (0, .ref b), (3, .int (iZ lz)), (4, .int (iZ to))] [] V sz (CE g b X V sz L (RK S A to (S.r a) (S.c a) (fun i j => S.N a (5 * i + j) + (if lz = 0 then S.N e (5 * i + j) else - S.N e (5 * i + j))))) := fun hF hFr => by
      by_cases hv : okV (S.r a) (S.c a) (fun i j => S.N a (5 * i + j) + (if lz = 0 then S.N e (5 * i + j) else - S.N e (5 * i + j)))
      · skip
        refine aw_aload_n dX5_add_152 (by rfl) (Or.inr ⟨_, rfl⟩) ?_
        refine aw_iload dX5_add_153 (by rfl) ?_
        refine aw_aload dX5_add_155 (by rfl) (Or.inr ⟨_, rfl⟩) ?_
        refine aw_get fX5_96 dX5_add_157 (by assumption) (by rfl) ?_
        refine aw_aload dX5_add_160 (by rfl) (Or.inr ⟨_, rfl⟩) ?_
        refine aw_get fX5_79 dX5_add_162 (by assumption) (by rfl) ?_
        refine aw_callv vX5_133 dX5_add_165 hb (t_keepYes g d (to := to) (rn := S.r a) (cn := S.c a) hto (by omega) hb hb1 hMd (hTb to hto) (hOk to hto).2.2.2.2.1 ((okV.all hF).mp hv)) (by rfl) (by rfl) (by omega) (Nat.le_of_ble_eq_true rfl) ?_
        rintro _ V1 _ _ _ ⟨rfl, rfl, rfl, hE, rfl, N, H, hT, hK⟩ -
        refine WE.stp (wse_tb hw0 hto hE) ?_
        have hf := km_fin (S := S) (to := to) hOk (by omega) hK hF hv
        refine aw_iret dX5_add_168 rfl (nar01 (Or.inr rfl)) ?_
        exact WE.ret (wse_tb hw0 hto hE).1 ⟨_, _, h.table1 hto hE hT hf.1, rfl, Or.inl ⟨hv, rfl, hf.2⟩⟩
      · skip
        refine aw_aload_n dX5_add_152 (by rfl) (Or.inr ⟨_, rfl⟩) ?_
        refine aw_iload dX5_add_153 (by rfl) ?_
        refine aw_aload dX5_add_155 (by rfl) (Or.inr ⟨_, rfl⟩) ?_
        refine aw_get fX5_96 dX5_add_157 (by assumption) (by rfl) ?_
        refine aw_aload dX5_add_160 (by rfl) (Or.inr ⟨_, rfl⟩) ?_
        refine aw_get fX5_79 dX5_add_162 (by assumption) (by rfl) ?_
        refine aw_callv vX5_133 dX5_add_165 hb (t_keepNo g d (to := to) (rn := S.r a) (cn := S.c a) hto (by omega) hb hMd hFr (fun q => hv ((okV.all hF).mpr q))) (by rfl) (by rfl) (by omega) (Nat.le_of_ble_eq_true rfl) ?_
        rintro _ _ _ _ _ ⟨rfl, rfl, rfl, rfl, rfl⟩ -
        refine q0 ?_
        refine aw_iret dX5_add_168 rfl (nar01 (Or.inl rfl)) ?_
        exact WE.ret hw0 ⟨S, A, h, rfl, Or.inr ⟨hv, rfl, rfl⟩⟩
    refine aw_iload dX5_add_66 (by rfl) ?_
    refine aw_aload dX5_add_68 (by rfl) (Or.inr ⟨_, rfl⟩) ?_
    refine aw_get fX5_96 dX5_add_70 (by assumption) (by rfl) ?_
    refine aw_icmp_geZ (tgt := 152) dX5_add_73 (by decide) (by omega) (by omega) (fun hc_73 => ?_) (fun hc_73 => ?_)
    · obtain rfl : i = S.r a := by omega
      rw [hn] at hF hFr
      exact END hF hFr
    · exact absurd hc_73 (by omega)
  | x + 1, i, n, hx, hn, V, sz, P, L, F, hw0, h, hMd, hF, hFr => by
    have IH := fun i n hi hn => @ad_out d g b X Z S A a e to lz ha he hto hre hce hlz x i n hi hn
    have IN := @ad_in d g b X Z S A a e to lz ha he hto hre hce hlz i (by omega) (i * (S.c a) + S.c a) rfl (fun {V sz P L F} hw0 h hMd hF hFr => by
      obtain ⟨n, hn⟩ : ∃ n, n = i * (S.c a) + S.c a := ⟨_, rfl⟩
      rw [← hn] at hFr ⊢
      obtain ⟨⟨hb, hb1⟩, hTb, hOk, -⟩ := id h
      obtain ⟨hT1, hT2, hT3, -⟩ := hTb a ha.1
      obtain ⟨hr5, hc5, hrc1, hNr, -⟩ := hOk a ha.1
      obtain ⟨hE1, hE2, hE3, -⟩ := hTb e he.1
      have hNr2 := (hOk e he.1).2.2.2.1
      refine aw_iincZ dX5_add_146 (by rfl) (by decide) ?_
      refine aw_goto (tgt := 66) dX5_add_149 (by decide) ?_
      rw [show ((i : Int) + 1) = ((i + 1 : Nat) : Int) by omega]
      refine aw_pk [8, 7, 5, 6, 0, 3, 4] (by rfl) ?_
      exact IH (i + 1) n (by omega) (by rw [Nat.add_mul]; omega) hw0 h hMd (by have := hF; rw [show i * (S.c a) + S.c a = n by omega] at this; exact this) (fun k hk => hFr k (by omega)))
    clear IH
    obtain ⟨⟨hb, hb1⟩, hTb, hOk, -⟩ := id h
    obtain ⟨hT1, hT2, hT3, -⟩ := hTb a ha.1
    obtain ⟨hr5, hc5, hrc1, hNr, -⟩ := hOk a ha.1
    obtain ⟨hE1, hE2, hE3, -⟩ := hTb e he.1
    have hNr2 := (hOk e he.1).2.2.2.1
    refine aw_iload dX5_add_66 (by rfl) ?_
    refine aw_aload dX5_add_68 (by rfl) (Or.inr ⟨_, rfl⟩) ?_
    refine aw_get fX5_96 dX5_add_70 (by assumption) (by rfl) ?_
    refine aw_icmp_geZ (tgt := 152) dX5_add_73 (by decide) (by omega) (by omega) (fun hc_73 => ?_) (fun hc_73 => ?_)
    · exact absurd hc_73 (by omega)
    · refine aw_iconstZ dX5_add_76 ?_
      refine aw_istore dX5_add_77 (by decide) ?_
      refine aw_pk [9, 8, 7, 5, 6, 0, 3, 4] (by rfl) ?_
      exact IN (S.c a) 0 n (by omega) (by omega) hw0 h hMd hF hFr
abbrev mX5_times : MI := (yX5_times, cX5_times, 11, (some FieldType.boolean), noX)
theorem dX5_times_0 : decode cX5_times 0 = .ok (.aload_n 0, 1) := by decide +kernel
theorem dX5_times_1 : decode cX5_times 1 = .ok (.iload_n 1, 1) := by decide +kernel
theorem dX5_times_2 : decode cX5_times 2 = .ok (.invokevirtual 72, 3) := by decide +kernel
theorem dX5_times_5 : decode cX5_times 5 = .ok (.astore 4, 2) := by decide +kernel
theorem dX5_times_7 : decode cX5_times 7 = .ok (.aload_n 0, 1) := by decide +kernel
theorem dX5_times_8 : decode cX5_times 8 = .ok (.iload_n 2, 1) := by decide +kernel
theorem dX5_times_9 : decode cX5_times 9 = .ok (.invokevirtual 72, 3) := by decide +kernel
theorem dX5_times_12 : decode cX5_times 12 = .ok (.astore 5, 2) := by decide +kernel
theorem dX5_times_14 : decode cX5_times 14 = .ok (.aload 4, 2) := by decide +kernel
theorem dX5_times_16 : decode cX5_times 16 = .ok (.ifnull 28, 3) := by decide +kernel
theorem dX5_times_19 : decode cX5_times 19 = .ok (.aload 5, 2) := by decide +kernel
theorem dX5_times_21 : decode cX5_times 21 = .ok (.ifnull 23, 3) := by decide +kernel
theorem dX5_times_24 : decode cX5_times 24 = .ok (.iload_n 3, 1) := by decide +kernel
theorem dX5_times_25 : decode cX5_times 25 = .ok (.invokestatic 65, 3) := by decide +kernel
theorem dX5_times_28 : decode cX5_times 28 = .ok (.ifCond .eq 16, 3) := by decide +kernel
theorem dX5_times_31 : decode cX5_times 31 = .ok (.aload 4, 2) := by decide +kernel
theorem dX5_times_33 : decode cX5_times 33 = .ok (.getfield 79, 3) := by decide +kernel
theorem dX5_times_36 : decode cX5_times 36 = .ok (.aload 5, 2) := by decide +kernel
theorem dX5_times_38 : decode cX5_times 38 = .ok (.getfield 96, 3) := by decide +kernel
theorem dX5_times_41 : decode cX5_times 41 = .ok (.if_icmp .eq 5, 3) := by decide +kernel
theorem dX5_times_44 : decode cX5_times 44 = .ok (.iconst 0, 1) := by decide +kernel
theorem dX5_times_45 : decode cX5_times 45 = .ok (.ireturn, 1) := by decide +kernel
theorem dX5_times_46 : decode cX5_times 46 = .ok (.iconst 0, 1) := by decide +kernel
theorem dX5_times_47 : decode cX5_times 47 = .ok (.istore 6, 2) := by decide +kernel
theorem dX5_times_49 : decode cX5_times 49 = .ok (.iconst 0, 1) := by decide +kernel
theorem dX5_times_50 : decode cX5_times 50 = .ok (.istore 7, 2) := by decide +kernel
theorem dX5_times_52 : decode cX5_times 52 = .ok (.iload 7, 2) := by decide +kernel
theorem dX5_times_54 : decode cX5_times 54 = .ok (.aload 4, 2) := by decide +kernel
theorem dX5_times_56 : decode cX5_times 56 = .ok (.getfield 96, 3) := by decide +kernel
theorem dX5_times_59 : decode cX5_times 59 = .ok (.if_icmp .ge 94, 3) := by decide +kernel
theorem dX5_times_62 : decode cX5_times 62 = .ok (.iconst 0, 1) := by decide +kernel
theorem dX5_times_63 : decode cX5_times 63 = .ok (.istore 8, 2) := by decide +kernel
theorem dX5_times_65 : decode cX5_times 65 = .ok (.iload 8, 2) := by decide +kernel
theorem dX5_times_67 : decode cX5_times 67 = .ok (.aload 5, 2) := by decide +kernel
theorem dX5_times_69 : decode cX5_times 69 = .ok (.getfield 79, 3) := by decide +kernel
theorem dX5_times_72 : decode cX5_times 72 = .ok (.if_icmp .ge 75, 3) := by decide +kernel
theorem dX5_times_75 : decode cX5_times 75 = .ok (.iconst 0, 1) := by decide +kernel
theorem dX5_times_76 : decode cX5_times 76 = .ok (.istore 9, 2) := by decide +kernel
theorem dX5_times_78 : decode cX5_times 78 = .ok (.iconst 0, 1) := by decide +kernel
theorem dX5_times_79 : decode cX5_times 79 = .ok (.istore 10, 2) := by decide +kernel
theorem dX5_times_81 : decode cX5_times 81 = .ok (.iload 10, 2) := by decide +kernel
theorem dX5_times_83 : decode cX5_times 83 = .ok (.aload 5, 2) := by decide +kernel
theorem dX5_times_85 : decode cX5_times 85 = .ok (.getfield 96, 3) := by decide +kernel
theorem dX5_times_88 : decode cX5_times 88 = .ok (.if_icmp .ge 41, 3) := by decide +kernel
theorem dX5_times_91 : decode cX5_times 91 = .ok (.iload 9, 2) := by decide +kernel
theorem dX5_times_93 : decode cX5_times 93 = .ok (.aload 4, 2) := by decide +kernel
theorem dX5_times_95 : decode cX5_times 95 = .ok (.getfield 86, 3) := by decide +kernel
theorem dX5_times_98 : decode cX5_times 98 = .ok (.iload 7, 2) := by decide +kernel
theorem dX5_times_100 : decode cX5_times 100 = .ok (.iconst 5, 1) := by decide +kernel
theorem dX5_times_101 : decode cX5_times 101 = .ok (.imul, 1) := by decide +kernel
theorem dX5_times_102 : decode cX5_times 102 = .ok (.iload 10, 2) := by decide +kernel
theorem dX5_times_104 : decode cX5_times 104 = .ok (.iadd, 1) := by decide +kernel
theorem dX5_times_105 : decode cX5_times 105 = .ok (.iaload, 1) := by decide +kernel
theorem dX5_times_106 : decode cX5_times 106 = .ok (.aload 5, 2) := by decide +kernel
theorem dX5_times_108 : decode cX5_times 108 = .ok (.getfield 86, 3) := by decide +kernel
theorem dX5_times_111 : decode cX5_times 111 = .ok (.iload 10, 2) := by decide +kernel
theorem dX5_times_113 : decode cX5_times 113 = .ok (.iconst 5, 1) := by decide +kernel
theorem dX5_times_114 : decode cX5_times 114 = .ok (.imul, 1) := by decide +kernel
theorem dX5_times_115 : decode cX5_times 115 = .ok (.iload 8, 2) := by decide +kernel
theorem dX5_times_117 : decode cX5_times 117 = .ok (.iadd, 1) := by decide +kernel
theorem dX5_times_118 : decode cX5_times 118 = .ok (.iaload, 1) := by decide +kernel
theorem dX5_times_119 : decode cX5_times 119 = .ok (.imul, 1) := by decide +kernel
theorem dX5_times_120 : decode cX5_times 120 = .ok (.iadd, 1) := by decide +kernel
theorem dX5_times_121 : decode cX5_times 121 = .ok (.istore 9, 2) := by decide +kernel
theorem dX5_times_123 : decode cX5_times 123 = .ok (.iinc 10 1, 3) := by decide +kernel
theorem dX5_times_126 : decode cX5_times 126 = .ok (.goto (-45), 3) := by decide +kernel
theorem dX5_times_129 : decode cX5_times 129 = .ok (.aload_n 0, 1) := by decide +kernel
theorem dX5_times_130 : decode cX5_times 130 = .ok (.getfield 56, 3) := by decide +kernel
theorem dX5_times_133 : decode cX5_times 133 = .ok (.iload 6, 2) := by decide +kernel
theorem dX5_times_135 : decode cX5_times 135 = .ok (.iload 9, 2) := by decide +kernel
theorem dX5_times_137 : decode cX5_times 137 = .ok (.iastore, 1) := by decide +kernel
theorem dX5_times_138 : decode cX5_times 138 = .ok (.iinc 6 1, 3) := by decide +kernel
theorem dX5_times_141 : decode cX5_times 141 = .ok (.iinc 8 1, 3) := by decide +kernel
theorem dX5_times_144 : decode cX5_times 144 = .ok (.goto (-79), 3) := by decide +kernel
theorem dX5_times_147 : decode cX5_times 147 = .ok (.iinc 7 1, 3) := by decide +kernel
theorem dX5_times_150 : decode cX5_times 150 = .ok (.goto (-98), 3) := by decide +kernel
theorem dX5_times_153 : decode cX5_times 153 = .ok (.aload_n 0, 1) := by decide +kernel
theorem dX5_times_154 : decode cX5_times 154 = .ok (.iload_n 3, 1) := by decide +kernel
theorem dX5_times_155 : decode cX5_times 155 = .ok (.aload 4, 2) := by decide +kernel
theorem dX5_times_157 : decode cX5_times 157 = .ok (.getfield 96, 3) := by decide +kernel
theorem dX5_times_160 : decode cX5_times 160 = .ok (.aload 5, 2) := by decide +kernel
theorem dX5_times_162 : decode cX5_times 162 = .ok (.getfield 79, 3) := by decide +kernel
theorem dX5_times_165 : decode cX5_times 165 = .ok (.invokevirtual 133, 3) := by decide +kernel
theorem dX5_times_168 : decode cX5_times 168 = .ok (.ireturn, 1) := by decide +kernel
theorem tm_ab {x y : Int} (hx : -1000 ≤ x ∧ x ≤ 1000) (hy : -1000 ≤ y ∧ y ≤ 1000) : ab (x * y) ≤ 1000000 := by
  rw [ab_mul]
  have h1 : ab x ≤ 1000 := by unfold ab; omega
  have h2 : ab y ≤ 1000 := by unfold ab; omega
  have : ab x * ab y ≤ 1000 * 1000 := Int.mul_le_mul h1 h2 (ab0 _) (by omega)
  omega
theorem tm_sum {g : GX} {b : Nat} {V : AH} {sz : Nat} {S : TSt} {Q : AQ} (d : Nat) {a e i j n to : Nat} (ha : a < 12 ∧ 0 < S.r a) (he : e < 12 ∧ 0 < S.r e) (hae : S.c a = S.r e) (hOk : TOK S) (hTb : ∀ t, t < 12 → TbV g V (b + 647 + 3 * t) (b + 647 + 3 * t + 1) (b + 647 + 3 * t + 2) (S.r t) (S.c t) (S.N t) (S.H t)) (hi : i < 5) (hj : j < 5) (TL : AW g mX5_times (d + 3) 129 [(10, .int (iZ (S.r e))), (9, .int (iZ (Sg (fun k => S.N a (5 * i + k) * S.N e (5 * k + j)) (S.r e)))), (8, .int (iZ j)), (7, .int (iZ i)), (6, .int (iZ n)), (4, .ref (b + 647 + 3 * a)), (5, .ref (b + 647 + 3 * e)), (0, .ref b), (3, .int (iZ to))] [] V sz Q) : ∀ (x k : Nat), k + x = S.r e → AW g mX5_times (d + 3) 81 [(10, .int (iZ k)), (9, .int (iZ (Sg (fun k => S.N a (5 * i + k) * S.N e (5 * k + j)) k))), (8, .int (iZ j)), (7, .int (iZ i)), (6, .int (iZ n)), (4, .ref (b + 647 + 3 * a)), (5, .ref (b + 647 + 3 * e)), (0, .ref b), (3, .int (iZ to))] [] V sz Q
  | 0, k, hx => by
    obtain ⟨hE1, hE2, hE3, -⟩ := hTb e he.1
    have hr5 := (hOk e he.1).1
    refine aw_iload dX5_times_81 (by rfl) ?_
    refine aw_aload dX5_times_83 (by rfl) (Or.inr ⟨_, rfl⟩) ?_
    refine aw_get fX5_96 dX5_times_85 (by assumption) (by rfl) ?_
    refine aw_icmp_geZ (tgt := 129) dX5_times_88 (by decide) (by omega) (by omega) (fun hc_88 => ?_) (fun hc_88 => ?_)
    · obtain rfl : k = S.r e := by omega
      exact TL
    · exact absurd hc_88 (by omega)
  | x + 1, k, hx => by
    have IH := fun k hk => tm_sum d ha he hae hOk hTb hi hj TL x k hk
    obtain ⟨hT1, hT2, hT3, -⟩ := hTb a ha.1
    obtain ⟨hE1, hE2, hE3, -⟩ := hTb e he.1
    have hr5 := (hOk e he.1).1
    refine aw_iload dX5_times_81 (by rfl) ?_
    refine aw_aload dX5_times_83 (by rfl) (Or.inr ⟨_, rfl⟩) ?_
    refine aw_get fX5_96 dX5_times_85 (by assumption) (by rfl) ?_
    refine aw_icmp_geZ (tgt := 129) dX5_times_88 (by decide) (by omega) (by omega) (fun hc_88 => ?_) (fun hc_88 => ?_)
    · exact absurd hc_88 (by omega)
    · refine aw_iload dX5_times_91 (by rfl) ?_
      refine aw_aload dX5_times_93 (by rfl) (Or.inr ⟨_, rfl⟩) ?_
      refine aw_get fX5_86 dX5_times_95 (by assumption) (by rfl) ?_
      refine aw_iload dX5_times_98 (by rfl) ?_
      refine aw_iconstZ dX5_times_100 ?_
      refine aw_imulZ dX5_times_101 ?_
      refine aw_iload dX5_times_102 (by rfl) ?_
      refine aw_iaddZ dX5_times_104 ?_
      refine aw_ialdZ (5 * i + k) dX5_times_105 (by assumption) (by omega) (by omega) (by omega) ?_
      refine aw_aload dX5_times_106 (by rfl) (Or.inr ⟨_, rfl⟩) ?_
      refine aw_get fX5_86 dX5_times_108 (by assumption) (by rfl) ?_
      refine aw_iload dX5_times_111 (by rfl) ?_
      refine aw_iconstZ dX5_times_113 ?_
      refine aw_imulZ dX5_times_114 ?_
      refine aw_iload dX5_times_115 (by rfl) ?_
      refine aw_iaddZ dX5_times_117 ?_
      refine aw_ialdZ (5 * k + j) dX5_times_118 (by assumption) (by omega) (by omega) (by omega) ?_
      refine aw_imulZ dX5_times_119 ?_
      refine aw_iaddZ dX5_times_120 ?_
      refine aw_istore dX5_times_121 (by decide) ?_
      refine aw_iincZ dX5_times_123 (by rfl) (by decide) ?_
      refine aw_goto (tgt := 81) dX5_times_126 (by decide) ?_
      rw [show ((k : Int) + 1) = ((k + 1 : Nat) : Int) by omega]
      refine aw_pk [10, 9, 8, 7, 6, 4, 5, 0, 3] (by rfl) ?_
      exact IH (k + 1) (by omega)
theorem tm_in (d : Nat) {g : GX} {b : Nat} {X : Nat → Prop} {Z : Nat → Int} {S : TSt} {A : ASt} {a e to : Nat} (ha : a < 12 ∧ 0 < S.r a) (he : e < 12 ∧ 0 < S.r e) (hto : to < 12) (hae : S.c a = S.r e) {i : Nat} (hi : i < S.r a) {n0 : Nat} (hn0 : n0 = i * (S.c e) + S.c e) (hKK : ∀ {V : AH} {sz : Nat} {P L : Nat → Nat} {F : Nat → Int}, WG g (wsB b) (SAB b X) V sz Z P L → CX g b X V Z S A → V (b + 645) = some (aIz g 25 F) → FLd F (S.c e) (fun i j => Sg (fun k => S.N a (5 * i + k) * S.N e (5 * k + j)) (S.r e)) (i * (S.c e) + S.c e) → (∀ k, k < n0 → R32 (F k)) → AW g mX5_times (d + 3) 147 [(7, .int (iZ i)), (6, .int (iZ n0)), (4, .ref (b + 647 + 3 * a)), (5, .ref (b + 647 + 3 * e)), (0, .ref b), (3, .int (iZ to))] [] V sz (CE g b X V sz L (RK S A to (S.r a) (S.c e) (fun i j => Sg (fun k => S.N a (5 * i + k) * S.N e (5 * k + j)) (S.r e))))) : ∀ (x j n : Nat), j + x = S.c e → n = i * (S.c e) + j → ∀ {V : AH} {sz : Nat} {P L : Nat → Nat} {F : Nat → Int}, WG g (wsB b) (SAB b X) V sz Z P L → CX g b X V Z S A → V (b + 645) = some (aIz g 25 F) → FLd F (S.c e) (fun i j => Sg (fun k => S.N a (5 * i + k) * S.N e (5 * k + j)) (S.r e)) n → (∀ k, k < n → R32 (F k)) → AW g mX5_times (d + 3) 65 [(8, .int (iZ j)), (7, .int (iZ i)), (6, .int (iZ n)), (4, .ref (b + 647 + 3 * a)), (5, .ref (b + 647 + 3 * e)), (0, .ref b), (3, .int (iZ to))] [] V sz (CE g b X V sz L (RK S A to (S.r a) (S.c e) (fun i j => Sg (fun k => S.N a (5 * i + k) * S.N e (5 * k + j)) (S.r e))))
  | 0, j, n, hx, hn, V, sz, P, L, F, hw0, h, hMd, hF, hFr => by
    obtain rfl : n = n0 := by omega
    obtain ⟨⟨hb, hb1⟩, hTb, hOk, -⟩ := id h
    obtain ⟨hT1, hT2, hT3, -⟩ := hTb a ha.1
    obtain ⟨hr5, hc5, hrc1, hNr, -⟩ := hOk a ha.1
    obtain ⟨hE1, hE2, hE3, -⟩ := hTb e he.1
    obtain ⟨hr5e, hc5e, hrc1e, hNr2, -⟩ := hOk e he.1
    refine aw_iload dX5_times_65 (by rfl) ?_
    refine aw_aload dX5_times_67 (by rfl) (Or.inr ⟨_, rfl⟩) ?_
    refine aw_get fX5_79 dX5_times_69 (by assumption) (by rfl) ?_
    refine aw_icmp_geZ (tgt := 147) dX5_times_72 (by decide) (by omega) (by omega) (fun hc_72 => ?_) (fun hc_72 => ?_)
    · exact aw_pk [7, 6, 4, 5, 0, 3] (by rfl) (hKK hw0 h hMd (by rw [show i * (S.c e) + S.c e = n by omega]; exact hF) (fun k hk => hFr k (by omega)))
    · exact absurd hc_72 (by omega)
  | x + 1, j, n, hx, hn, V, sz, P, L, F, hw0, h, hMd, hF, hFr => by
    have IH := fun j n hj hn => @tm_in d g b X Z S A a e to ha he hto hae i hi n0 hn0 hKK x j n hj hn
    clear hKK
    obtain ⟨⟨hb, hb1⟩, hTb, hOk, -⟩ := id h
    obtain ⟨hT1, hT2, hT3, -⟩ := hTb a ha.1
    obtain ⟨hr5, hc5, hrc1, hNr, -⟩ := hOk a ha.1
    obtain ⟨hE1, hE2, hE3, -⟩ := hTb e he.1
    obtain ⟨hr5e, hc5e, hrc1e, hNr2, -⟩ := hOk e he.1
    have TL : AW g mX5_times (d + 3) 129 [(10, .int (iZ (S.r e))), (9, .int (iZ (Sg (fun k => S.N a (5 * i + k) * S.N e (5 * k + j)) (S.r e)))), (8, .int (iZ j)), (7, .int (iZ i)), (6, .int (iZ n)), (4, .ref (b + 647 + 3 * a)), (5, .ref (b + 647 + 3 * e)), (0, .ref b), (3, .int (iZ to))] [] V sz (CE g b X V sz L (RK S A to (S.r a) (S.c e) (fun i j => Sg (fun k => S.N a (5 * i + k) * S.N e (5 * k + j)) (S.r e)))) := by
      have hidx := idx_lt (rn := 5) hc5e (show i < 5 by omega) (show j < S.c e by omega)
      refine aw_aload_n dX5_times_129 (by rfl) (Or.inr ⟨_, rfl⟩) ?_
      refine aw_get fX5_56 dX5_times_130 (by assumption) (by rfl) ?_
      refine aw_iload dX5_times_133 (by rfl) ?_
      refine aw_iload dX5_times_135 (by rfl) ?_
      refine aw_iastZ (i * S.c e + j) dX5_times_137 (by assumption) (by omega) (by omega) (by omega) ?_
      refine WE.stp0 (WSE.sto hw0 (sab_t (by omega)) (by unfold EB; omega)) ?_
      have hw1 := hw0.sto (e := aIz g 25 (upF F (i * S.c e + j) (Sg (fun k => S.N a (5 * i + k) * S.N e (5 * k + j)) (S.r e)))) (sab_t (X := X) (show b + 645 ≤ b + 645 ∧ b + 645 < b + 683 by omega))
      have h1 : CX g b X (AHu V (b + 645) (aIz g 25 (upF F (i * S.c e + j) (Sg (fun k => S.N a (5 * i + k) * S.N e (5 * k + j)) (S.r e))))) Z S A := h.made rfl rfl ⟨fun q _ hn => AHu_ne (by omega), fun _ _ => rfl⟩ ⟨_, AHu_self _ _ _⟩
      refine aw_iincZ dX5_times_138 (by rfl) (by decide) ?_
      refine aw_iincZ dX5_times_141 (by rfl) (by decide) ?_
      refine aw_goto (tgt := 65) dX5_times_144 (by decide) ?_
      rw [show ((j : Int) + 1) = ((j + 1 : Nat) : Int) by omega, show ((n : Int) + 1) = ((n + 1 : Nat) : Int) by omega]
      refine aw_pk [8, 7, 6, 4, 5, 0, 3] (by rfl) ?_
      exact IH (j + 1) (n + 1) (by omega) (by omega) hw1 h1 (AHu_self _ _ _) (by have := hF; rw [hn] at this; rw [hn]; exact this.step (by omega)) (fun k hk => by unfold upF; split; (have := Sg_ab (f := fun k => S.N a (5 * i + k) * S.N e (5 * k + j)) (n := S.r e) (b := 1000000) (fun k hk => tm_ab (hNr _ (by omega)) (hNr2 _ (by omega))); unfold ab at this; omega); exact hFr k (by omega))
    refine aw_iload dX5_times_65 (by rfl) ?_
    refine aw_aload dX5_times_67 (by rfl) (Or.inr ⟨_, rfl⟩) ?_
    refine aw_get fX5_79 dX5_times_69 (by assumption) (by rfl) ?_
    refine aw_icmp_geZ (tgt := 147) dX5_times_72 (by decide) (by omega) (by omega) (fun hc_72 => ?_) (fun hc_72 => ?_)
    · exact absurd hc_72 (by omega)
    · refine aw_iconstZ dX5_times_75 ?_
      refine aw_istore dX5_times_76 (by decide) ?_
      refine aw_iconstZ dX5_times_78 ?_
      refine aw_istore dX5_times_79 (by decide) ?_
      refine aw_pk [10, 9, 8, 7, 6, 4, 5, 0, 3] (by rfl) ?_
      exact tm_sum d (S := S) (b := b) (e := e) (a := a) (i := i) (j := j) ha he hae hOk hTb (by omega) (by omega) TL (S.r e) 0 (by omega)
theorem tm_out (d : Nat) {g : GX} {b : Nat} {X : Nat → Prop} {Z : Nat → Int} {S : TSt} {A : ASt} {a e to : Nat} (ha : a < 12 ∧ 0 < S.r a) (he : e < 12 ∧ 0 < S.r e) (hto : to < 12) (hae : S.c a = S.r e) : ∀ (x i n : Nat), i + x = S.r a → n = i * (S.c e) → ∀ {V : AH} {sz : Nat} {P L : Nat → Nat} {F : Nat → Int}, WG g (wsB b) (SAB b X) V sz Z P L → CX g b X V Z S A → V (b + 645) = some (aIz g 25 F) → FLd F (S.c e) (fun i j => Sg (fun k => S.N a (5 * i + k) * S.N e (5 * k + j)) (S.r e)) n → (∀ k, k < n → R32 (F k)) → AW g mX5_times (d + 3) 52 [(7, .int (iZ i)), (6, .int (iZ n)), (4, .ref (b + 647 + 3 * a)), (5, .ref (b + 647 + 3 * e)), (0, .ref b), (3, .int (iZ to))] [] V sz (CE g b X V sz L (RK S A to (S.r a) (S.c e) (fun i j => Sg (fun k => S.N a (5 * i + k) * S.N e (5 * k + j)) (S.r e))))
  | 0, i, n, hx, hn, V, sz, P, L, F, hw0, h, hMd, hF, hFr => by
    obtain ⟨⟨hb, hb1⟩, hTb, hOk, -⟩ := id h
    obtain ⟨hT1, hT2, hT3, -⟩ := hTb a ha.1
    obtain ⟨hr5, hc5, hrc1, hNr, -⟩ := hOk a ha.1
    obtain ⟨hE1, hE2, hE3, -⟩ := hTb e he.1
    obtain ⟨hr5e, hc5e, hrc1e, hNr2, -⟩ := hOk e he.1
    have END : FLd F (S.c e) (fun i j => Sg (fun k => S.N a (5 * i + k) * S.N e (5 * k + j)) (S.r e)) (S.r a * S.c e) → (∀ k, k < S.r a * S.c e → R32 (F k)) → AW g mX5_times (d + 3) 153 [(7, .int (iZ i)), (6, .int (iZ n)), (4, .ref (b + 647 + 3 * a)), (5, .ref (b + 647 + 3 * e)), (0, .ref b), (3, .int (iZ to))] [] V sz (CE g b X V sz L (RK S A to (S.r a) (S.c e) (fun i j => Sg (fun k => S.N a (5 * i + k) * S.N e (5 * k + j)) (S.r e)))) := fun hF hFr => by
      by_cases hv : okV (S.r a) (S.c e) (fun i j => Sg (fun k => S.N a (5 * i + k) * S.N e (5 * k + j)) (S.r e))
      · skip
        refine aw_aload_n dX5_times_153 (by rfl) (Or.inr ⟨_, rfl⟩) ?_
        refine aw_iload_n dX5_times_154 (by rfl) ?_
        refine aw_aload dX5_times_155 (by rfl) (Or.inr ⟨_, rfl⟩) ?_
        refine aw_get fX5_96 dX5_times_157 (by assumption) (by rfl) ?_
        refine aw_aload dX5_times_160 (by rfl) (Or.inr ⟨_, rfl⟩) ?_
        refine aw_get fX5_79 dX5_times_162 (by assumption) (by rfl) ?_
        refine aw_callv vX5_133 dX5_times_165 hb (t_keepYes g d (to := to) (rn := S.r a) (cn := S.c e) hto (by omega) hb hb1 hMd (hTb to hto) (hOk to hto).2.2.2.2.1 ((okV.all hF).mp hv)) (by rfl) (by rfl) (by omega) (Nat.le_of_ble_eq_true rfl) ?_
        rintro _ V1 _ _ _ ⟨rfl, rfl, rfl, hE, rfl, N, H, hT, hK⟩ -
        refine WE.stp (wse_tb hw0 hto hE) ?_
        have hf := km_fin (S := S) (to := to) hOk (by omega) hK hF hv
        refine aw_iret dX5_times_168 rfl (nar01 (Or.inr rfl)) ?_
        exact WE.ret (wse_tb hw0 hto hE).1 ⟨_, _, h.table1 hto hE hT hf.1, rfl, Or.inl ⟨hv, rfl, hf.2⟩⟩
      · skip
        refine aw_aload_n dX5_times_153 (by rfl) (Or.inr ⟨_, rfl⟩) ?_
        refine aw_iload_n dX5_times_154 (by rfl) ?_
        refine aw_aload dX5_times_155 (by rfl) (Or.inr ⟨_, rfl⟩) ?_
        refine aw_get fX5_96 dX5_times_157 (by assumption) (by rfl) ?_
        refine aw_aload dX5_times_160 (by rfl) (Or.inr ⟨_, rfl⟩) ?_
        refine aw_get fX5_79 dX5_times_162 (by assumption) (by rfl) ?_
        refine aw_callv vX5_133 dX5_times_165 hb (t_keepNo g d (to := to) (rn := S.r a) (cn := S.c e) hto (by omega) hb hMd hFr (fun q => hv ((okV.all hF).mpr q))) (by rfl) (by rfl) (by omega) (Nat.le_of_ble_eq_true rfl) ?_
        rintro _ _ _ _ _ ⟨rfl, rfl, rfl, rfl, rfl⟩ -
        refine q0 ?_
        refine aw_iret dX5_times_168 rfl (nar01 (Or.inl rfl)) ?_
        exact WE.ret hw0 ⟨S, A, h, rfl, Or.inr ⟨hv, rfl, rfl⟩⟩
    refine aw_iload dX5_times_52 (by rfl) ?_
    refine aw_aload dX5_times_54 (by rfl) (Or.inr ⟨_, rfl⟩) ?_
    refine aw_get fX5_96 dX5_times_56 (by assumption) (by rfl) ?_
    refine aw_icmp_geZ (tgt := 153) dX5_times_59 (by decide) (by omega) (by omega) (fun hc_59 => ?_) (fun hc_59 => ?_)
    · obtain rfl : i = S.r a := by omega
      rw [hn] at hF hFr
      exact END hF hFr
    · exact absurd hc_59 (by omega)
  | x + 1, i, n, hx, hn, V, sz, P, L, F, hw0, h, hMd, hF, hFr => by
    have IH := fun i n hi hn => @tm_out d g b X Z S A a e to ha he hto hae x i n hi hn
    have IN := @tm_in d g b X Z S A a e to ha he hto hae i (by omega) (i * (S.c e) + S.c e) rfl (fun {V sz P L F} hw0 h hMd hF hFr => by
      obtain ⟨n, hn⟩ : ∃ n, n = i * (S.c e) + S.c e := ⟨_, rfl⟩
      rw [← hn] at hFr ⊢
      obtain ⟨⟨hb, hb1⟩, hTb, hOk, -⟩ := id h
      obtain ⟨hT1, hT2, hT3, -⟩ := hTb a ha.1
      obtain ⟨hr5, hc5, hrc1, hNr, -⟩ := hOk a ha.1
      obtain ⟨hE1, hE2, hE3, -⟩ := hTb e he.1
      obtain ⟨hr5e, hc5e, hrc1e, hNr2, -⟩ := hOk e he.1
      refine aw_iincZ dX5_times_147 (by rfl) (by decide) ?_
      refine aw_goto (tgt := 52) dX5_times_150 (by decide) ?_
      rw [show ((i : Int) + 1) = ((i + 1 : Nat) : Int) by omega]
      refine aw_pk [7, 6, 4, 5, 0, 3] (by rfl) ?_
      exact IH (i + 1) n (by omega) (by rw [Nat.add_mul]; omega) hw0 h hMd (by have := hF; rw [show i * (S.c e) + S.c e = n by omega] at this; exact this) (fun k hk => hFr k (by omega)))
    clear IH
    obtain ⟨⟨hb, hb1⟩, hTb, hOk, -⟩ := id h
    obtain ⟨hT1, hT2, hT3, -⟩ := hTb a ha.1
    obtain ⟨hr5, hc5, hrc1, hNr, -⟩ := hOk a ha.1
    obtain ⟨hE1, hE2, hE3, -⟩ := hTb e he.1
    obtain ⟨hr5e, hc5e, hrc1e, hNr2, -⟩ := hOk e he.1
    refine aw_iload dX5_times_52 (by rfl) ?_
    refine aw_aload dX5_times_54 (by rfl) (Or.inr ⟨_, rfl⟩) ?_
    refine aw_get fX5_96 dX5_times_56 (by assumption) (by rfl) ?_
    refine aw_icmp_geZ (tgt := 153) dX5_times_59 (by decide) (by omega) (by omega) (fun hc_59 => ?_) (fun hc_59 => ?_)
    · exact absurd hc_59 (by omega)
    · refine aw_iconstZ dX5_times_62 ?_
      refine aw_istore dX5_times_63 (by decide) ?_
      refine aw_pk [8, 7, 6, 4, 5, 0, 3] (by rfl) ?_
      exact IN (S.c e) 0 n (by omega) (by omega) hw0 h hMd hF hFr
theorem c_add {g : GX} {b : Nat} {X : Nat → Prop} {V : AH} {sz : Nat} {Z : Nat → Int} {S : TSt} {A : ASt} (d : Nat) {t u to lz : Int} {P L : Nat → Nat} (hw0 : WG g (wsB b) (SAB b X) V sz Z P L) (h : CX g b X V Z S A) (ht : R32 t) (hu : R32 u) (hto : R32 to) (hlz : lz = 0 ∨ lz = 1) : AMet g mX5_add (d + 3) [.ref b, .int (iZ t), .int (iZ u), .int (iZ lz), .int (iZ to)] V sz (CE g b X V sz L (fun q S' A' => (∃ x y tn : Nat, x < 12 ∧ y < 12 ∧ t = (x : Int) ∧ u = (y : Int) ∧ 0 < S.r x ∧ 0 < S.r y ∧ tn < 12 ∧ to = (tn : Int) ∧ S.r x = S.r y ∧ S.c x = S.c y ∧ RK S A tn (S.r x) (S.c x) (fun i j => S.N x (5 * i + j) + (if lz = 0 then S.N y (5 * i + j) else - S.N y (5 * i + j))) q S' A') ∨ (¬ (∃ x y : Nat, x < 12 ∧ y < 12 ∧ t = (x : Int) ∧ u = (y : Int) ∧ 0 < S.r x ∧ 0 < S.r y ∧ 0 ≤ to ∧ to < 12 ∧ S.r x = S.r y ∧ S.c x = S.c y) ∧ some (.int (iZ 0)) = q ∧ S' = S ∧ A' = A))) := by
  obtain ⟨⟨hb, hb1⟩, hTb, hOk, -, -, -, -, -, -, -, -, hMa, -⟩ := id h
  obtain ⟨F, hMd⟩ := hMa
  obtain ⟨v, hv⟩ := FindV.ex S b t
  obtain ⟨v2, hv2⟩ := FindV.ex S b u
  rcases hv with ⟨x, hx, rfl, hrx, rfl⟩ | ⟨hno, rfl⟩
  · rcases hv2 with ⟨y, hy, rfl, hry, rfl⟩ | ⟨hno2, rfl⟩
    · obtain ⟨hT1, -⟩ := hTb x hx
      obtain ⟨hE1, -⟩ := hTb y hy
      obtain ⟨hr5, hc5, -⟩ := hOk x hx
      obtain ⟨hr5e, hc5e, -⟩ := hOk y hy
      by_cases hq : 0 ≤ to ∧ to < 12 ∧ S.r x = S.r y ∧ S.c x = S.c y
      · obtain ⟨k, rfl⟩ : ∃ k : Nat, to = (k : Int) := ⟨to.toNat, by omega⟩
        have GO := (ad_out d (A := A) (Z := Z) (X := X) (g := g) (b := b) (S := S) (a := x) (e := y) (to := k) (lz := lz) ⟨hx, hrx⟩ ⟨hy, hry⟩ (by omega) hq.2.2.1 hq.2.2.2 hlz (S.r x) 0 0 (by omega) (by omega) hw0 h hMd (fun i j _ q => absurd q (by omega)) (fun k hk => absurd hk (by omega))).mono (Q' := CE g b X V sz L (fun q S' A' => (∃ x1 y1 tn : Nat, x1 < 12 ∧ y1 < 12 ∧ ((x : Nat) : Int) = (x1 : Int) ∧ ((y : Nat) : Int) = (y1 : Int) ∧ 0 < S.r x1 ∧ 0 < S.r y1 ∧ tn < 12 ∧ ((k : Nat) : Int) = (tn : Int) ∧ S.r x1 = S.r y1 ∧ S.c x1 = S.c y1 ∧ RK S A tn (S.r x1) (S.c x1) (fun i j => S.N x1 (5 * i + j) + (if lz = 0 then S.N y1 (5 * i + j) else - S.N y1 (5 * i + j))) q S' A') ∨ (¬ (∃ x1 y1 : Nat, x1 < 12 ∧ y1 < 12 ∧ ((x : Nat) : Int) = (x1 : Int) ∧ ((y : Nat) : Int) = (y1 : Int) ∧ 0 < S.r x1 ∧ 0 < S.r y1 ∧ 0 ≤ ((k : Nat) : Int) ∧ ((k : Nat) : Int) < 12 ∧ S.r x1 = S.r y1 ∧ S.c x1 = S.c y1) ∧ some (.int (iZ 0)) = q ∧ S' = S ∧ A' = A))) (fun r V' sz' dc ds z => WE.mono (fun Z' q => by obtain ⟨S', A', y1, y2⟩ := q; exact ⟨S', A', y1, Or.inl ⟨x, y, k, hx, hy, rfl, rfl, hrx, hry, by omega, rfl, hq.2.2.1, hq.2.2.2, y2⟩⟩) (fun _ q => q) z)
        refine AMet.of rfl rfl (Nat.le_of_ble_eq_true rfl) ?_
        show AW g mX5_add (d + 3) 0 [(0, .ref b), (1, .int (iZ x)), (2, .int (iZ y)), (3, .int (iZ lz)), (4, .int (iZ k))] [] V sz _
        refine aw_aload_n dX5_add_0 (by rfl) (Or.inr ⟨_, rfl⟩) ?_
        refine aw_iload_n dX5_add_1 (by rfl) ?_
        refine aw_callv vX5_72 dX5_add_2 hb (t_find (d + 1) h ht (Or.inl ⟨x, hx, rfl, hrx, rfl⟩)) (by rfl) (by rfl) (by omega) (Nat.le_of_ble_eq_true rfl) ?_
        rintro _ _ _ _ _ ⟨rfl, rfl, rfl, rfl, rfl⟩ -
        refine q0 ?_
        refine aw_astore dX5_add_5 (by decide) (Or.inr ⟨_, rfl⟩) ?_
        refine aw_aload_n dX5_add_7 (by rfl) (Or.inr ⟨_, rfl⟩) ?_
        refine aw_iload_n dX5_add_8 (by rfl) ?_
        refine aw_callv vX5_72 dX5_add_9 hb (t_find (d + 1) h hu (Or.inl ⟨y, hy, rfl, hry, rfl⟩)) (by rfl) (by rfl) (by omega) (Nat.le_of_ble_eq_true rfl) ?_
        rintro _ _ _ _ _ ⟨rfl, rfl, rfl, rfl, rfl⟩ -
        refine q0 ?_
        refine aw_astore dX5_add_12 (by decide) (Or.inr ⟨_, rfl⟩) ?_
        refine aw_aload dX5_add_14 (by rfl) (Or.inr ⟨_, rfl⟩) ?_
        refine aw_ifnull_r dX5_add_16 ?_
        refine aw_aload dX5_add_19 (by rfl) (Or.inr ⟨_, rfl⟩) ?_
        refine aw_ifnull_r dX5_add_21 ?_
        refine aw_iload dX5_add_24 (by rfl) ?_
        refine aw_calls sX5_65 dX5_add_26 (t_isNumber g (d + 2) hto) (by rfl) (by rfl) (by omega) (Nat.le_of_ble_eq_true rfl) ?_
        rintro _ _ _ _ _ ⟨rfl, rfl, rfl, rfl, rfl⟩ -
        refine q0 ?_
        refine aw_if_eqZ (tgt := 58) dX5_add_29 (by decide) (by split <;> omega) (fun hc_29 => ?_) (fun hc_29 => ?_)
        · exact absurd hc_29 (by rw [if_pos (by omega)]; decide)
        · refine aw_aload dX5_add_32 (by rfl) (Or.inr ⟨_, rfl⟩) ?_
          refine aw_get fX5_96 dX5_add_34 (by assumption) (by rfl) ?_
          refine aw_aload dX5_add_37 (by rfl) (Or.inr ⟨_, rfl⟩) ?_
          refine aw_get fX5_96 dX5_add_39 (by assumption) (by rfl) ?_
          refine aw_icmp_neZ (tgt := 58) dX5_add_42 (by decide) (by omega) (by omega) (fun hc_42 => ?_) (fun hc_42 => ?_)
          · exact absurd hc_42 (by omega)
          · refine aw_aload dX5_add_45 (by rfl) (Or.inr ⟨_, rfl⟩) ?_
            refine aw_get fX5_79 dX5_add_47 (by assumption) (by rfl) ?_
            refine aw_aload dX5_add_50 (by rfl) (Or.inr ⟨_, rfl⟩) ?_
            refine aw_get fX5_79 dX5_add_52 (by assumption) (by rfl) ?_
            refine aw_icmp_eqZ (tgt := 60) dX5_add_55 (by decide) (by omega) (by omega) (fun hc_55 => ?_) (fun hc_55 => ?_)
            · refine aw_iconstZ dX5_add_60 ?_
              refine aw_istore dX5_add_61 (by decide) ?_
              refine aw_iconstZ dX5_add_63 ?_
              refine aw_istore dX5_add_64 (by decide) ?_
              refine aw_pk [8, 7, 5, 6, 0, 3, 4] (by rfl) ?_
              exact GO
            · exact absurd (by omega) hc_55
      · skip
        refine AMet.of rfl rfl (Nat.le_of_ble_eq_true rfl) ?_
        show AW g mX5_add (d + 3) 0 [(0, .ref b), (1, .int (iZ x)), (2, .int (iZ y)), (3, .int (iZ lz)), (4, .int (iZ to))] [] V sz _
        refine aw_aload_n dX5_add_0 (by rfl) (Or.inr ⟨_, rfl⟩) ?_
        refine aw_iload_n dX5_add_1 (by rfl) ?_
        refine aw_callv vX5_72 dX5_add_2 hb (t_find (d + 1) h ht (Or.inl ⟨x, hx, rfl, hrx, rfl⟩)) (by rfl) (by rfl) (by omega) (Nat.le_of_ble_eq_true rfl) ?_
        rintro _ _ _ _ _ ⟨rfl, rfl, rfl, rfl, rfl⟩ -
        refine q0 ?_
        refine aw_astore dX5_add_5 (by decide) (Or.inr ⟨_, rfl⟩) ?_
        refine aw_aload_n dX5_add_7 (by rfl) (Or.inr ⟨_, rfl⟩) ?_
        refine aw_iload_n dX5_add_8 (by rfl) ?_
        refine aw_callv vX5_72 dX5_add_9 hb (t_find (d + 1) h hu (Or.inl ⟨y, hy, rfl, hry, rfl⟩)) (by rfl) (by rfl) (by omega) (Nat.le_of_ble_eq_true rfl) ?_
        rintro _ _ _ _ _ ⟨rfl, rfl, rfl, rfl, rfl⟩ -
        refine q0 ?_
        refine aw_astore dX5_add_12 (by decide) (Or.inr ⟨_, rfl⟩) ?_
        refine aw_aload dX5_add_14 (by rfl) (Or.inr ⟨_, rfl⟩) ?_
        refine aw_ifnull_r dX5_add_16 ?_
        refine aw_aload dX5_add_19 (by rfl) (Or.inr ⟨_, rfl⟩) ?_
        refine aw_ifnull_r dX5_add_21 ?_
        refine aw_iload dX5_add_24 (by rfl) ?_
        refine aw_calls sX5_65 dX5_add_26 (t_isNumber g (d + 2) hto) (by rfl) (by rfl) (by omega) (Nat.le_of_ble_eq_true rfl) ?_
        rintro _ _ _ _ _ ⟨rfl, rfl, rfl, rfl, rfl⟩ -
        refine q0 ?_
        refine aw_if_eqZ (tgt := 58) dX5_add_29 (by decide) (by split <;> omega) (fun hc_29 => ?_) (fun hc_29 => ?_)
        · refine aw_iconstZ dX5_add_58 ?_
          refine aw_iret dX5_add_59 rfl (by rfl) ?_
          exact WE.ret hw0 ⟨S, A, h, Or.inr ⟨fun ⟨x2, y2, _, _, e1, e2, _, _, z⟩ => hq (by obtain rfl : x = x2 := (by omega); obtain rfl : y = y2 := (by omega); exact z), rfl, rfl, rfl⟩⟩
        · refine aw_aload dX5_add_32 (by rfl) (Or.inr ⟨_, rfl⟩) ?_
          refine aw_get fX5_96 dX5_add_34 (by assumption) (by rfl) ?_
          refine aw_aload dX5_add_37 (by rfl) (Or.inr ⟨_, rfl⟩) ?_
          refine aw_get fX5_96 dX5_add_39 (by assumption) (by rfl) ?_
          refine aw_icmp_neZ (tgt := 58) dX5_add_42 (by decide) (by omega) (by omega) (fun hc_42 => ?_) (fun hc_42 => ?_)
          · refine aw_iconstZ dX5_add_58 ?_
            refine aw_iret dX5_add_59 rfl (by rfl) ?_
            exact WE.ret hw0 ⟨S, A, h, Or.inr ⟨fun ⟨x2, y2, _, _, e1, e2, _, _, z⟩ => hq (by obtain rfl : x = x2 := (by omega); obtain rfl : y = y2 := (by omega); exact z), rfl, rfl, rfl⟩⟩
          · refine aw_aload dX5_add_45 (by rfl) (Or.inr ⟨_, rfl⟩) ?_
            refine aw_get fX5_79 dX5_add_47 (by assumption) (by rfl) ?_
            refine aw_aload dX5_add_50 (by rfl) (Or.inr ⟨_, rfl⟩) ?_
            refine aw_get fX5_79 dX5_add_52 (by assumption) (by rfl) ?_
            refine aw_icmp_eqZ (tgt := 60) dX5_add_55 (by decide) (by omega) (by omega) (fun hc_55 => ?_) (fun hc_55 => ?_)
            · exact absurd ⟨(by by_cases z : 0 ≤ to ∧ to < 12; exact z.1; rw [if_neg z] at hc_29; exact absurd rfl hc_29), (by by_cases z : 0 ≤ to ∧ to < 12; exact z.2; rw [if_neg z] at hc_29; exact absurd rfl hc_29), (by omega), (by omega)⟩ hq
            · refine aw_iconstZ dX5_add_58 ?_
              refine aw_iret dX5_add_59 rfl (by rfl) ?_
              exact WE.ret hw0 ⟨S, A, h, Or.inr ⟨fun ⟨x2, y2, _, _, e1, e2, _, _, z⟩ => hq (by obtain rfl : x = x2 := (by omega); obtain rfl : y = y2 := (by omega); exact z), rfl, rfl, rfl⟩⟩
    · obtain ⟨hT1, -⟩ := hTb x hx
      refine AMet.of rfl rfl (Nat.le_of_ble_eq_true rfl) ?_
      show AW g mX5_add (d + 3) 0 [(0, .ref b), (1, .int (iZ x)), (2, .int (iZ u)), (3, .int (iZ lz)), (4, .int (iZ to))] [] V sz _
      refine aw_aload_n dX5_add_0 (by rfl) (Or.inr ⟨_, rfl⟩) ?_
      refine aw_iload_n dX5_add_1 (by rfl) ?_
      refine aw_callv vX5_72 dX5_add_2 hb (t_find (d + 1) h ht (Or.inl ⟨x, hx, rfl, hrx, rfl⟩)) (by rfl) (by rfl) (by omega) (Nat.le_of_ble_eq_true rfl) ?_
      rintro _ _ _ _ _ ⟨rfl, rfl, rfl, rfl, rfl⟩ -
      refine q0 ?_
      refine aw_astore dX5_add_5 (by decide) (Or.inr ⟨_, rfl⟩) ?_
      refine aw_aload_n dX5_add_7 (by rfl) (Or.inr ⟨_, rfl⟩) ?_
      refine aw_iload_n dX5_add_8 (by rfl) ?_
      refine aw_callv vX5_72 dX5_add_9 hb (t_find (d + 1) h hu (Or.inr ⟨hno2, rfl⟩)) (by rfl) (by rfl) (by omega) (Nat.le_of_ble_eq_true rfl) ?_
      rintro _ _ _ _ _ ⟨rfl, rfl, rfl, rfl, rfl⟩ -
      refine q0 ?_
      refine aw_astore dX5_add_12 (by decide) (Or.inl rfl) ?_
      refine aw_aload dX5_add_14 (by rfl) (Or.inr ⟨_, rfl⟩) ?_
      refine aw_ifnull_r dX5_add_16 ?_
      refine aw_aload dX5_add_19 (by rfl) (Or.inl rfl) ?_
      refine aw_ifnull_n (tgt := 58) dX5_add_21 (by decide) ?_
      refine aw_iconstZ dX5_add_58 ?_
      refine aw_iret dX5_add_59 rfl (by rfl) ?_
      exact WE.ret hw0 ⟨S, A, h, Or.inr ⟨fun ⟨x2, y2, _, q2, e1, e2, _, q3, z⟩ => by have := hno2 y2 q2 e2; omega, rfl, rfl, rfl⟩⟩
  · rcases hv2 with ⟨y, hy, rfl, hry, rfl⟩ | ⟨hno2, rfl⟩
    · obtain ⟨hE1, -⟩ := hTb y hy
      refine AMet.of rfl rfl (Nat.le_of_ble_eq_true rfl) ?_
      show AW g mX5_add (d + 3) 0 [(0, .ref b), (1, .int (iZ t)), (2, .int (iZ y)), (3, .int (iZ lz)), (4, .int (iZ to))] [] V sz _
      refine aw_aload_n dX5_add_0 (by rfl) (Or.inr ⟨_, rfl⟩) ?_
      refine aw_iload_n dX5_add_1 (by rfl) ?_
      refine aw_callv vX5_72 dX5_add_2 hb (t_find (d + 1) h ht (Or.inr ⟨hno, rfl⟩)) (by rfl) (by rfl) (by omega) (Nat.le_of_ble_eq_true rfl) ?_
      rintro _ _ _ _ _ ⟨rfl, rfl, rfl, rfl, rfl⟩ -
      refine q0 ?_
      refine aw_astore dX5_add_5 (by decide) (Or.inl rfl) ?_
      refine aw_aload_n dX5_add_7 (by rfl) (Or.inr ⟨_, rfl⟩) ?_
      refine aw_iload_n dX5_add_8 (by rfl) ?_
      refine aw_callv vX5_72 dX5_add_9 hb (t_find (d + 1) h hu (Or.inl ⟨y, hy, rfl, hry, rfl⟩)) (by rfl) (by rfl) (by omega) (Nat.le_of_ble_eq_true rfl) ?_
      rintro _ _ _ _ _ ⟨rfl, rfl, rfl, rfl, rfl⟩ -
      refine q0 ?_
      refine aw_astore dX5_add_12 (by decide) (Or.inr ⟨_, rfl⟩) ?_
      refine aw_aload dX5_add_14 (by rfl) (Or.inl rfl) ?_
      refine aw_ifnull_n (tgt := 58) dX5_add_16 (by decide) ?_
      refine aw_iconstZ dX5_add_58 ?_
      refine aw_iret dX5_add_59 rfl (by rfl) ?_
      exact WE.ret hw0 ⟨S, A, h, Or.inr ⟨fun ⟨x2, y2, q2, _, e1, e2, q3, _, z⟩ => by have := hno x2 q2 e1; omega, rfl, rfl, rfl⟩⟩
    · skip
      refine AMet.of rfl rfl (Nat.le_of_ble_eq_true rfl) ?_
      show AW g mX5_add (d + 3) 0 [(0, .ref b), (1, .int (iZ t)), (2, .int (iZ u)), (3, .int (iZ lz)), (4, .int (iZ to))] [] V sz _
      refine aw_aload_n dX5_add_0 (by rfl) (Or.inr ⟨_, rfl⟩) ?_
      refine aw_iload_n dX5_add_1 (by rfl) ?_
      refine aw_callv vX5_72 dX5_add_2 hb (t_find (d + 1) h ht (Or.inr ⟨hno, rfl⟩)) (by rfl) (by rfl) (by omega) (Nat.le_of_ble_eq_true rfl) ?_
      rintro _ _ _ _ _ ⟨rfl, rfl, rfl, rfl, rfl⟩ -
      refine q0 ?_
      refine aw_astore dX5_add_5 (by decide) (Or.inl rfl) ?_
      refine aw_aload_n dX5_add_7 (by rfl) (Or.inr ⟨_, rfl⟩) ?_
      refine aw_iload_n dX5_add_8 (by rfl) ?_
      refine aw_callv vX5_72 dX5_add_9 hb (t_find (d + 1) h hu (Or.inr ⟨hno2, rfl⟩)) (by rfl) (by rfl) (by omega) (Nat.le_of_ble_eq_true rfl) ?_
      rintro _ _ _ _ _ ⟨rfl, rfl, rfl, rfl, rfl⟩ -
      refine q0 ?_
      refine aw_astore dX5_add_12 (by decide) (Or.inl rfl) ?_
      refine aw_aload dX5_add_14 (by rfl) (Or.inl rfl) ?_
      refine aw_ifnull_n (tgt := 58) dX5_add_16 (by decide) ?_
      refine aw_iconstZ dX5_add_58 ?_
      refine aw_iret dX5_add_59 rfl (by rfl) ?_
      exact WE.ret hw0 ⟨S, A, h, Or.inr ⟨fun ⟨x2, y2, q2, _, e1, e2, q3, _, z⟩ => by have := hno x2 q2 e1; omega, rfl, rfl, rfl⟩⟩
theorem c_times {g : GX} {b : Nat} {X : Nat → Prop} {V : AH} {sz : Nat} {Z : Nat → Int} {S : TSt} {A : ASt} (d : Nat) {t u to : Int} {P L : Nat → Nat} (hw0 : WG g (wsB b) (SAB b X) V sz Z P L) (h : CX g b X V Z S A) (ht : R32 t) (hu : R32 u) (hto : R32 to) : AMet g mX5_times (d + 3) [.ref b, .int (iZ t), .int (iZ u), .int (iZ to)] V sz (CE g b X V sz L (fun q S' A' => (∃ x y tn : Nat, x < 12 ∧ y < 12 ∧ t = (x : Int) ∧ u = (y : Int) ∧ 0 < S.r x ∧ 0 < S.r y ∧ tn < 12 ∧ to = (tn : Int) ∧ S.c x = S.r y ∧ RK S A tn (S.r x) (S.c y) (fun i j => Sg (fun k => S.N x (5 * i + k) * S.N y (5 * k + j)) (S.r y)) q S' A') ∨ (¬ (∃ x y : Nat, x < 12 ∧ y < 12 ∧ t = (x : Int) ∧ u = (y : Int) ∧ 0 < S.r x ∧ 0 < S.r y ∧ 0 ≤ to ∧ to < 12 ∧ S.c x = S.r y) ∧ some (.int (iZ 0)) = q ∧ S' = S ∧ A' = A))) := by
  obtain ⟨⟨hb, hb1⟩, hTb, hOk, -, -, -, -, -, -, -, -, hMa, -⟩ := id h
  obtain ⟨F, hMd⟩ := hMa
  obtain ⟨v, hv⟩ := FindV.ex S b t
  obtain ⟨v2, hv2⟩ := FindV.ex S b u
  rcases hv with ⟨x, hx, rfl, hrx, rfl⟩ | ⟨hno, rfl⟩
  · rcases hv2 with ⟨y, hy, rfl, hry, rfl⟩ | ⟨hno2, rfl⟩
    · obtain ⟨hT1, -⟩ := hTb x hx
      obtain ⟨hE1, -⟩ := hTb y hy
      obtain ⟨hr5, hc5, -⟩ := hOk x hx
      obtain ⟨hr5e, hc5e, -⟩ := hOk y hy
      by_cases hq : 0 ≤ to ∧ to < 12 ∧ S.c x = S.r y
      · obtain ⟨k, rfl⟩ : ∃ k : Nat, to = (k : Int) := ⟨to.toNat, by omega⟩
        have GO := (tm_out d (A := A) (Z := Z) (X := X) (g := g) (b := b) (S := S) (a := x) (e := y) (to := k) ⟨hx, hrx⟩ ⟨hy, hry⟩ (by omega) hq.2.2 (S.r x) 0 0 (by omega) (by omega) hw0 h hMd (fun i j _ q => absurd q (by omega)) (fun k hk => absurd hk (by omega))).mono (Q' := CE g b X V sz L (fun q S' A' => (∃ x1 y1 tn : Nat, x1 < 12 ∧ y1 < 12 ∧ ((x : Nat) : Int) = (x1 : Int) ∧ ((y : Nat) : Int) = (y1 : Int) ∧ 0 < S.r x1 ∧ 0 < S.r y1 ∧ tn < 12 ∧ ((k : Nat) : Int) = (tn : Int) ∧ S.c x1 = S.r y1 ∧ RK S A tn (S.r x1) (S.c y1) (fun i j => Sg (fun k => S.N x1 (5 * i + k) * S.N y1 (5 * k + j)) (S.r y1)) q S' A') ∨ (¬ (∃ x1 y1 : Nat, x1 < 12 ∧ y1 < 12 ∧ ((x : Nat) : Int) = (x1 : Int) ∧ ((y : Nat) : Int) = (y1 : Int) ∧ 0 < S.r x1 ∧ 0 < S.r y1 ∧ 0 ≤ ((k : Nat) : Int) ∧ ((k : Nat) : Int) < 12 ∧ S.c x1 = S.r y1) ∧ some (.int (iZ 0)) = q ∧ S' = S ∧ A' = A))) (fun r V' sz' dc ds z => WE.mono (fun Z' q => by obtain ⟨S', A', y1, y2⟩ := q; exact ⟨S', A', y1, Or.inl ⟨x, y, k, hx, hy, rfl, rfl, hrx, hry, by omega, rfl, hq.2.2, y2⟩⟩) (fun _ q => q) z)
        refine AMet.of rfl rfl (Nat.le_of_ble_eq_true rfl) ?_
        show AW g mX5_times (d + 3) 0 [(0, .ref b), (1, .int (iZ x)), (2, .int (iZ y)), (3, .int (iZ k))] [] V sz _
        refine aw_aload_n dX5_times_0 (by rfl) (Or.inr ⟨_, rfl⟩) ?_
        refine aw_iload_n dX5_times_1 (by rfl) ?_
        refine aw_callv vX5_72 dX5_times_2 hb (t_find (d + 1) h ht (Or.inl ⟨x, hx, rfl, hrx, rfl⟩)) (by rfl) (by rfl) (by omega) (Nat.le_of_ble_eq_true rfl) ?_
        rintro _ _ _ _ _ ⟨rfl, rfl, rfl, rfl, rfl⟩ -
        refine q0 ?_
        refine aw_astore dX5_times_5 (by decide) (Or.inr ⟨_, rfl⟩) ?_
        refine aw_aload_n dX5_times_7 (by rfl) (Or.inr ⟨_, rfl⟩) ?_
        refine aw_iload_n dX5_times_8 (by rfl) ?_
        refine aw_callv vX5_72 dX5_times_9 hb (t_find (d + 1) h hu (Or.inl ⟨y, hy, rfl, hry, rfl⟩)) (by rfl) (by rfl) (by omega) (Nat.le_of_ble_eq_true rfl) ?_
        rintro _ _ _ _ _ ⟨rfl, rfl, rfl, rfl, rfl⟩ -
        refine q0 ?_
        refine aw_astore dX5_times_12 (by decide) (Or.inr ⟨_, rfl⟩) ?_
        refine aw_aload dX5_times_14 (by rfl) (Or.inr ⟨_, rfl⟩) ?_
        refine aw_ifnull_r dX5_times_16 ?_
        refine aw_aload dX5_times_19 (by rfl) (Or.inr ⟨_, rfl⟩) ?_
        refine aw_ifnull_r dX5_times_21 ?_
        refine aw_iload_n dX5_times_24 (by rfl) ?_
        refine aw_calls sX5_65 dX5_times_25 (t_isNumber g (d + 2) hto) (by rfl) (by rfl) (by omega) (Nat.le_of_ble_eq_true rfl) ?_
        rintro _ _ _ _ _ ⟨rfl, rfl, rfl, rfl, rfl⟩ -
        refine q0 ?_
        refine aw_if_eqZ (tgt := 44) dX5_times_28 (by decide) (by split <;> omega) (fun hc_28 => ?_) (fun hc_28 => ?_)
        · exact absurd hc_28 (by rw [if_pos (by omega)]; decide)
        · refine aw_aload dX5_times_31 (by rfl) (Or.inr ⟨_, rfl⟩) ?_
          refine aw_get fX5_79 dX5_times_33 (by assumption) (by rfl) ?_
          refine aw_aload dX5_times_36 (by rfl) (Or.inr ⟨_, rfl⟩) ?_
          refine aw_get fX5_96 dX5_times_38 (by assumption) (by rfl) ?_
          refine aw_icmp_eqZ (tgt := 46) dX5_times_41 (by decide) (by omega) (by omega) (fun hc_41 => ?_) (fun hc_41 => ?_)
          · refine aw_iconstZ dX5_times_46 ?_
            refine aw_istore dX5_times_47 (by decide) ?_
            refine aw_iconstZ dX5_times_49 ?_
            refine aw_istore dX5_times_50 (by decide) ?_
            refine aw_pk [7, 6, 4, 5, 0, 3] (by rfl) ?_
            exact GO
          · exact absurd (by omega) hc_41
      · skip
        refine AMet.of rfl rfl (Nat.le_of_ble_eq_true rfl) ?_
        show AW g mX5_times (d + 3) 0 [(0, .ref b), (1, .int (iZ x)), (2, .int (iZ y)), (3, .int (iZ to))] [] V sz _
        refine aw_aload_n dX5_times_0 (by rfl) (Or.inr ⟨_, rfl⟩) ?_
        refine aw_iload_n dX5_times_1 (by rfl) ?_
        refine aw_callv vX5_72 dX5_times_2 hb (t_find (d + 1) h ht (Or.inl ⟨x, hx, rfl, hrx, rfl⟩)) (by rfl) (by rfl) (by omega) (Nat.le_of_ble_eq_true rfl) ?_
        rintro _ _ _ _ _ ⟨rfl, rfl, rfl, rfl, rfl⟩ -
        refine q0 ?_
        refine aw_astore dX5_times_5 (by decide) (Or.inr ⟨_, rfl⟩) ?_
        refine aw_aload_n dX5_times_7 (by rfl) (Or.inr ⟨_, rfl⟩) ?_
        refine aw_iload_n dX5_times_8 (by rfl) ?_
        refine aw_callv vX5_72 dX5_times_9 hb (t_find (d + 1) h hu (Or.inl ⟨y, hy, rfl, hry, rfl⟩)) (by rfl) (by rfl) (by omega) (Nat.le_of_ble_eq_true rfl) ?_
        rintro _ _ _ _ _ ⟨rfl, rfl, rfl, rfl, rfl⟩ -
        refine q0 ?_
        refine aw_astore dX5_times_12 (by decide) (Or.inr ⟨_, rfl⟩) ?_
        refine aw_aload dX5_times_14 (by rfl) (Or.inr ⟨_, rfl⟩) ?_
        refine aw_ifnull_r dX5_times_16 ?_
        refine aw_aload dX5_times_19 (by rfl) (Or.inr ⟨_, rfl⟩) ?_
        refine aw_ifnull_r dX5_times_21 ?_
        refine aw_iload_n dX5_times_24 (by rfl) ?_
        refine aw_calls sX5_65 dX5_times_25 (t_isNumber g (d + 2) hto) (by rfl) (by rfl) (by omega) (Nat.le_of_ble_eq_true rfl) ?_
        rintro _ _ _ _ _ ⟨rfl, rfl, rfl, rfl, rfl⟩ -
        refine q0 ?_
        refine aw_if_eqZ (tgt := 44) dX5_times_28 (by decide) (by split <;> omega) (fun hc_28 => ?_) (fun hc_28 => ?_)
        · refine aw_iconstZ dX5_times_44 ?_
          refine aw_iret dX5_times_45 rfl (by rfl) ?_
          exact WE.ret hw0 ⟨S, A, h, Or.inr ⟨fun ⟨x2, y2, _, _, e1, e2, _, _, z⟩ => hq (by obtain rfl : x = x2 := (by omega); obtain rfl : y = y2 := (by omega); exact z), rfl, rfl, rfl⟩⟩
        · refine aw_aload dX5_times_31 (by rfl) (Or.inr ⟨_, rfl⟩) ?_
          refine aw_get fX5_79 dX5_times_33 (by assumption) (by rfl) ?_
          refine aw_aload dX5_times_36 (by rfl) (Or.inr ⟨_, rfl⟩) ?_
          refine aw_get fX5_96 dX5_times_38 (by assumption) (by rfl) ?_
          refine aw_icmp_eqZ (tgt := 46) dX5_times_41 (by decide) (by omega) (by omega) (fun hc_41 => ?_) (fun hc_41 => ?_)
          · exact absurd ⟨(by by_cases z : 0 ≤ to ∧ to < 12; exact z.1; rw [if_neg z] at hc_28; exact absurd rfl hc_28), (by by_cases z : 0 ≤ to ∧ to < 12; exact z.2; rw [if_neg z] at hc_28; exact absurd rfl hc_28), (by omega)⟩ hq
          · refine aw_iconstZ dX5_times_44 ?_
            refine aw_iret dX5_times_45 rfl (by rfl) ?_
            exact WE.ret hw0 ⟨S, A, h, Or.inr ⟨fun ⟨x2, y2, _, _, e1, e2, _, _, z⟩ => hq (by obtain rfl : x = x2 := (by omega); obtain rfl : y = y2 := (by omega); exact z), rfl, rfl, rfl⟩⟩
    · obtain ⟨hT1, -⟩ := hTb x hx
      refine AMet.of rfl rfl (Nat.le_of_ble_eq_true rfl) ?_
      show AW g mX5_times (d + 3) 0 [(0, .ref b), (1, .int (iZ x)), (2, .int (iZ u)), (3, .int (iZ to))] [] V sz _
      refine aw_aload_n dX5_times_0 (by rfl) (Or.inr ⟨_, rfl⟩) ?_
      refine aw_iload_n dX5_times_1 (by rfl) ?_
      refine aw_callv vX5_72 dX5_times_2 hb (t_find (d + 1) h ht (Or.inl ⟨x, hx, rfl, hrx, rfl⟩)) (by rfl) (by rfl) (by omega) (Nat.le_of_ble_eq_true rfl) ?_
      rintro _ _ _ _ _ ⟨rfl, rfl, rfl, rfl, rfl⟩ -
      refine q0 ?_
      refine aw_astore dX5_times_5 (by decide) (Or.inr ⟨_, rfl⟩) ?_
      refine aw_aload_n dX5_times_7 (by rfl) (Or.inr ⟨_, rfl⟩) ?_
      refine aw_iload_n dX5_times_8 (by rfl) ?_
      refine aw_callv vX5_72 dX5_times_9 hb (t_find (d + 1) h hu (Or.inr ⟨hno2, rfl⟩)) (by rfl) (by rfl) (by omega) (Nat.le_of_ble_eq_true rfl) ?_
      rintro _ _ _ _ _ ⟨rfl, rfl, rfl, rfl, rfl⟩ -
      refine q0 ?_
      refine aw_astore dX5_times_12 (by decide) (Or.inl rfl) ?_
      refine aw_aload dX5_times_14 (by rfl) (Or.inr ⟨_, rfl⟩) ?_
      refine aw_ifnull_r dX5_times_16 ?_
      refine aw_aload dX5_times_19 (by rfl) (Or.inl rfl) ?_
      refine aw_ifnull_n (tgt := 44) dX5_times_21 (by decide) ?_
      refine aw_iconstZ dX5_times_44 ?_
      refine aw_iret dX5_times_45 rfl (by rfl) ?_
      exact WE.ret hw0 ⟨S, A, h, Or.inr ⟨fun ⟨x2, y2, _, q2, e1, e2, _, q3, z⟩ => by have := hno2 y2 q2 e2; omega, rfl, rfl, rfl⟩⟩
  · rcases hv2 with ⟨y, hy, rfl, hry, rfl⟩ | ⟨hno2, rfl⟩
    · obtain ⟨hE1, -⟩ := hTb y hy
      refine AMet.of rfl rfl (Nat.le_of_ble_eq_true rfl) ?_
      show AW g mX5_times (d + 3) 0 [(0, .ref b), (1, .int (iZ t)), (2, .int (iZ y)), (3, .int (iZ to))] [] V sz _
      refine aw_aload_n dX5_times_0 (by rfl) (Or.inr ⟨_, rfl⟩) ?_
      refine aw_iload_n dX5_times_1 (by rfl) ?_
      refine aw_callv vX5_72 dX5_times_2 hb (t_find (d + 1) h ht (Or.inr ⟨hno, rfl⟩)) (by rfl) (by rfl) (by omega) (Nat.le_of_ble_eq_true rfl) ?_
      rintro _ _ _ _ _ ⟨rfl, rfl, rfl, rfl, rfl⟩ -
      refine q0 ?_
      refine aw_astore dX5_times_5 (by decide) (Or.inl rfl) ?_
      refine aw_aload_n dX5_times_7 (by rfl) (Or.inr ⟨_, rfl⟩) ?_
      refine aw_iload_n dX5_times_8 (by rfl) ?_
      refine aw_callv vX5_72 dX5_times_9 hb (t_find (d + 1) h hu (Or.inl ⟨y, hy, rfl, hry, rfl⟩)) (by rfl) (by rfl) (by omega) (Nat.le_of_ble_eq_true rfl) ?_
      rintro _ _ _ _ _ ⟨rfl, rfl, rfl, rfl, rfl⟩ -
      refine q0 ?_
      refine aw_astore dX5_times_12 (by decide) (Or.inr ⟨_, rfl⟩) ?_
      refine aw_aload dX5_times_14 (by rfl) (Or.inl rfl) ?_
      refine aw_ifnull_n (tgt := 44) dX5_times_16 (by decide) ?_
      refine aw_iconstZ dX5_times_44 ?_
      refine aw_iret dX5_times_45 rfl (by rfl) ?_
      exact WE.ret hw0 ⟨S, A, h, Or.inr ⟨fun ⟨x2, y2, q2, _, e1, e2, q3, _, z⟩ => by have := hno x2 q2 e1; omega, rfl, rfl, rfl⟩⟩
    · skip
      refine AMet.of rfl rfl (Nat.le_of_ble_eq_true rfl) ?_
      show AW g mX5_times (d + 3) 0 [(0, .ref b), (1, .int (iZ t)), (2, .int (iZ u)), (3, .int (iZ to))] [] V sz _
      refine aw_aload_n dX5_times_0 (by rfl) (Or.inr ⟨_, rfl⟩) ?_
      refine aw_iload_n dX5_times_1 (by rfl) ?_
      refine aw_callv vX5_72 dX5_times_2 hb (t_find (d + 1) h ht (Or.inr ⟨hno, rfl⟩)) (by rfl) (by rfl) (by omega) (Nat.le_of_ble_eq_true rfl) ?_
      rintro _ _ _ _ _ ⟨rfl, rfl, rfl, rfl, rfl⟩ -
      refine q0 ?_
      refine aw_astore dX5_times_5 (by decide) (Or.inl rfl) ?_
      refine aw_aload_n dX5_times_7 (by rfl) (Or.inr ⟨_, rfl⟩) ?_
      refine aw_iload_n dX5_times_8 (by rfl) ?_
      refine aw_callv vX5_72 dX5_times_9 hb (t_find (d + 1) h hu (Or.inr ⟨hno2, rfl⟩)) (by rfl) (by rfl) (by omega) (Nat.le_of_ble_eq_true rfl) ?_
      rintro _ _ _ _ _ ⟨rfl, rfl, rfl, rfl, rfl⟩ -
      refine q0 ?_
      refine aw_astore dX5_times_12 (by decide) (Or.inl rfl) ?_
      refine aw_aload dX5_times_14 (by rfl) (Or.inl rfl) ?_
      refine aw_ifnull_n (tgt := 44) dX5_times_16 (by decide) ?_
      refine aw_iconstZ dX5_times_44 ?_
      refine aw_iret dX5_times_45 rfl (by rfl) ?_
      exact WE.ret hw0 ⟨S, A, h, Or.inr ⟨fun ⟨x2, y2, q2, _, e1, e2, q3, _, z⟩ => by have := hno x2 q2 e1; omega, rfl, rfl, rfl⟩⟩
