/-! ===== the reference: sizes ===== -/
abbrev szB : Int := 120000000000000000
/-- the greatest common divisor of the minors of all pairs of sets before (r, c) -/
def SzI (S : TSt) (n k r c : Nat) (gg : Int) : Prop := (0 ≤ gg ∧ gg ≤ szB) ∧ ∀ d : Int, d ∣ gg ↔ ∀ p q, p < 32 → q < 32 → (p < r ∨ (p = r ∧ q < c)) → OkP k (S.r n) (S.c n) p q → d ∣ det k (fun a b => TM (S.N n) (psb p a) (psb q b))
theorem SzI.skip {S : TSt} {n k r c : Nat} {gg : Int} (h : SzI S n k r c gg) (hno : ¬ OkP k (S.r n) (S.c n) r c) : SzI S n k r (c + 1) gg := ⟨h.1, fun d => (h.2 d).trans ⟨fun z p q hp hq hpq ho => by
  by_cases e : p = r ∧ q = c
  · rw [e.1, e.2] at ho; exact absurd ho hno
  · exact z p q hp hq (by omega) ho, fun z p q hp hq hpq ho => z p q hp hq (by omega) ho⟩⟩
theorem SzI.step {S : TSt} {n k r c : Nat} {gg g2 : Int} (h : SzI S n k r c gg) (hr : r < 32) (hc : c < 32) (hok : OkP k (S.r n) (S.c n) r c) (h1 : 0 ≤ g2 ∧ g2 ≤ szB) (h2 : ∀ d : Int, d ∣ g2 ↔ (d ∣ gg ∧ d ∣ det k (fun a b => TM (S.N n) (psb r a) (psb c b)))) : SzI S n k r (c + 1) g2 := ⟨h1, fun d => (h2 d).trans ⟨fun z p q hp hq hpq ho => by
  by_cases e : p = r ∧ q = c
  · rw [e.1, e.2]; exact z.2
  · exact (h.2 d).mp z.1 p q hp hq (by omega) ho, fun z => ⟨(h.2 d).mpr (fun p q hp hq hpq ho => z p q hp hq (by omega) ho), z r c hr hc (by omega) hok⟩⟩⟩
theorem SzI.row {S : TSt} {n k r : Nat} {gg : Int} (h : SzI S n k r 32 gg) : SzI S n k (r + 1) 0 gg := ⟨h.1, fun d => (h.2 d).trans ⟨fun z p q hp hq hpq ho => z p q hp hq (by omega) ho, fun z p q hp hq hpq ho => z p q hp hq (by omega) ho⟩⟩
theorem SzI.fin {S : TSt} {n k : Nat} {gg : Int} (h : SzI S n k 32 0 gg) (hk : k ≤ 5) (hr : S.r n ≤ 5) (hc : S.c n ≤ 5) : GcP k (TM (S.N n)) (S.r n) (S.c n) gg := ⟨h.1.1, fun d => (h.2 d).trans (Iff.trans ⟨fun z p q hp hq ho => z p q hp hq (by omega) ho, fun z p q hp hq _ ho => z p q hp hq ho⟩ (dvt_sets hk hr hc))⟩
theorem sz_R {N : Nat → Int} {k p q : Nat} (hk : k ≤ 5) (hp : p < 32) (hq : q < 32) (h1 : rkb p 5 = k) (h2 : rkb q 5 = k) (hN : ∀ e, e < 25 → -1000 ≤ N e ∧ N e ≤ 1000) : ab (det k (fun a b => TM N (psb p a) (psb q b))) ≤ szB := by
  have h3 := det_ab (b := 1000) (by omega) (n := k) (A := fun a b => TM N (psb p a) (psb q b)) (fun a b ha hb => by
    have e1 : psb p a < 5 := bt16 ⟨p, hp⟩ ⟨a, by omega⟩ (show a < rkb p 5 by omega)
    have e2 : psb q b < 5 := bt16 ⟨q, hq⟩ ⟨b, by omega⟩ (show b < rkb q 5 by omega)
    have := hN (5 * psb p a + psb q b) (by omega)
    show ab (N (5 * psb p a + psb q b)) ≤ 1000
    unfold ab; omega)
  have h4 : ∀ n : Fin 6, fac n * 1000 ^ (n : Nat) ≤ szB := by decide +kernel
  exact Int.le_trans h3 (h4 ⟨k, by omega⟩)
abbrev mX6_sizes : MI := (yX6_sizes, cX6_sizes, 11, (some FieldType.int), noX)
theorem dX6_sizes_0 : decode cX6_sizes 0 = .ok (.aload_n 0, 1) := by decide +kernel
theorem dX6_sizes_1 : decode cX6_sizes 1 = .ok (.iload_n 1, 1) := by decide +kernel
theorem dX6_sizes_2 : decode cX6_sizes 2 = .ok (.invokevirtual 137, 3) := by decide +kernel
theorem dX6_sizes_5 : decode cX6_sizes 5 = .ok (.ifCond .ne 5, 3) := by decide +kernel
theorem dX6_sizes_8 : decode cX6_sizes 8 = .ok (.iconst (-1), 1) := by decide +kernel
theorem dX6_sizes_9 : decode cX6_sizes 9 = .ok (.ireturn, 1) := by decide +kernel
theorem dX6_sizes_10 : decode cX6_sizes 10 = .ok (.iconst 0, 1) := by decide +kernel
theorem dX6_sizes_11 : decode cX6_sizes 11 = .ok (.istore_n 2, 1) := by decide +kernel
theorem dX6_sizes_12 : decode cX6_sizes 12 = .ok (.lconst 1, 1) := by decide +kernel
theorem dX6_sizes_13 : decode cX6_sizes 13 = .ok (.lstore_n 3, 1) := by decide +kernel
theorem dX6_sizes_14 : decode cX6_sizes 14 = .ok (.iconst 1, 1) := by decide +kernel
theorem dX6_sizes_15 : decode cX6_sizes 15 = .ok (.istore 5, 2) := by decide +kernel
theorem dX6_sizes_17 : decode cX6_sizes 17 = .ok (.iconst 1, 1) := by decide +kernel
theorem dX6_sizes_18 : decode cX6_sizes 18 = .ok (.istore 6, 2) := by decide +kernel
theorem dX6_sizes_20 : decode cX6_sizes 20 = .ok (.iload 6, 2) := by decide +kernel
theorem dX6_sizes_22 : decode cX6_sizes 22 = .ok (.iconst 5, 1) := by decide +kernel
theorem dX6_sizes_23 : decode cX6_sizes 23 = .ok (.if_icmp .gt 171, 3) := by decide +kernel
theorem dX6_sizes_26 : decode cX6_sizes 26 = .ok (.iload 5, 2) := by decide +kernel
theorem dX6_sizes_28 : decode cX6_sizes 28 = .ok (.ifCond .eq 166, 3) := by decide +kernel
theorem dX6_sizes_31 : decode cX6_sizes 31 = .ok (.lconst 0, 1) := by decide +kernel
theorem dX6_sizes_32 : decode cX6_sizes 32 = .ok (.lstore 7, 2) := by decide +kernel
theorem dX6_sizes_34 : decode cX6_sizes 34 = .ok (.iconst 0, 1) := by decide +kernel
theorem dX6_sizes_35 : decode cX6_sizes 35 = .ok (.istore 9, 2) := by decide +kernel
theorem dX6_sizes_37 : decode cX6_sizes 37 = .ok (.iload 9, 2) := by decide +kernel
theorem dX6_sizes_39 : decode cX6_sizes 39 = .ok (.bipush 32, 2) := by decide +kernel
theorem dX6_sizes_41 : decode cX6_sizes 41 = .ok (.if_icmp .ge 106, 3) := by decide +kernel
theorem dX6_sizes_44 : decode cX6_sizes 44 = .ok (.iconst 0, 1) := by decide +kernel
theorem dX6_sizes_45 : decode cX6_sizes 45 = .ok (.istore 10, 2) := by decide +kernel
theorem dX6_sizes_47 : decode cX6_sizes 47 = .ok (.iload 10, 2) := by decide +kernel
theorem dX6_sizes_49 : decode cX6_sizes 49 = .ok (.bipush 32, 2) := by decide +kernel
theorem dX6_sizes_51 : decode cX6_sizes 51 = .ok (.if_icmp .ge 90, 3) := by decide +kernel
theorem dX6_sizes_54 : decode cX6_sizes 54 = .ok (.iload 9, 2) := by decide +kernel
theorem dX6_sizes_56 : decode cX6_sizes 56 = .ok (.invokestatic 204, 3) := by decide +kernel
theorem dX6_sizes_59 : decode cX6_sizes 59 = .ok (.iload 6, 2) := by decide +kernel
theorem dX6_sizes_61 : decode cX6_sizes 61 = .ok (.if_icmp .ne 74, 3) := by decide +kernel
theorem dX6_sizes_64 : decode cX6_sizes 64 = .ok (.iload 10, 2) := by decide +kernel
theorem dX6_sizes_66 : decode cX6_sizes 66 = .ok (.invokestatic 204, 3) := by decide +kernel
theorem dX6_sizes_69 : decode cX6_sizes 69 = .ok (.iload 6, 2) := by decide +kernel
theorem dX6_sizes_71 : decode cX6_sizes 71 = .ok (.if_icmp .ne 64, 3) := by decide +kernel
theorem dX6_sizes_74 : decode cX6_sizes 74 = .ok (.iload 9, 2) := by decide +kernel
theorem dX6_sizes_76 : decode cX6_sizes 76 = .ok (.iconst 1, 1) := by decide +kernel
theorem dX6_sizes_77 : decode cX6_sizes 77 = .ok (.aload_n 0, 1) := by decide +kernel
theorem dX6_sizes_78 : decode cX6_sizes 78 = .ok (.getfield 37, 3) := by decide +kernel
theorem dX6_sizes_81 : decode cX6_sizes 81 = .ok (.iload_n 1, 1) := by decide +kernel
theorem dX6_sizes_82 : decode cX6_sizes 82 = .ok (.iaload, 1) := by decide +kernel
theorem dX6_sizes_83 : decode cX6_sizes 83 = .ok (.ishl, 1) := by decide +kernel
theorem dX6_sizes_84 : decode cX6_sizes 84 = .ok (.if_icmp .ge 51, 3) := by decide +kernel
theorem dX6_sizes_87 : decode cX6_sizes 87 = .ok (.iload 10, 2) := by decide +kernel
theorem dX6_sizes_89 : decode cX6_sizes 89 = .ok (.iconst 1, 1) := by decide +kernel
theorem dX6_sizes_90 : decode cX6_sizes 90 = .ok (.aload_n 0, 1) := by decide +kernel
theorem dX6_sizes_91 : decode cX6_sizes 91 = .ok (.getfield 40, 3) := by decide +kernel
theorem dX6_sizes_94 : decode cX6_sizes 94 = .ok (.iload_n 1, 1) := by decide +kernel
theorem dX6_sizes_95 : decode cX6_sizes 95 = .ok (.iaload, 1) := by decide +kernel
theorem dX6_sizes_96 : decode cX6_sizes 96 = .ok (.ishl, 1) := by decide +kernel
theorem dX6_sizes_97 : decode cX6_sizes 97 = .ok (.if_icmp .lt 6, 3) := by decide +kernel
theorem dX6_sizes_100 : decode cX6_sizes 100 = .ok (.goto 35, 3) := by decide +kernel
theorem dX6_sizes_103 : decode cX6_sizes 103 = .ok (.aload_n 0, 1) := by decide +kernel
theorem dX6_sizes_104 : decode cX6_sizes 104 = .ok (.getfield 49, 3) := by decide +kernel
theorem dX6_sizes_107 : decode cX6_sizes 107 = .ok (.iload 9, 2) := by decide +kernel
theorem dX6_sizes_109 : decode cX6_sizes 109 = .ok (.invokestatic 169, 3) := by decide +kernel
theorem dX6_sizes_112 : decode cX6_sizes 112 = .ok (.aload_n 0, 1) := by decide +kernel
theorem dX6_sizes_113 : decode cX6_sizes 113 = .ok (.getfield 52, 3) := by decide +kernel
theorem dX6_sizes_116 : decode cX6_sizes 116 = .ok (.iload 10, 2) := by decide +kernel
theorem dX6_sizes_118 : decode cX6_sizes 118 = .ok (.invokestatic 169, 3) := by decide +kernel
theorem dX6_sizes_121 : decode cX6_sizes 121 = .ok (.lload 7, 2) := by decide +kernel
theorem dX6_sizes_123 : decode cX6_sizes 123 = .ok (.aload_n 0, 1) := by decide +kernel
theorem dX6_sizes_124 : decode cX6_sizes 124 = .ok (.iload_n 1, 1) := by decide +kernel
theorem dX6_sizes_125 : decode cX6_sizes 125 = .ok (.iload 6, 2) := by decide +kernel
theorem dX6_sizes_127 : decode cX6_sizes 127 = .ok (.invokevirtual 173, 3) := by decide +kernel
theorem dX6_sizes_130 : decode cX6_sizes 130 = .ok (.invokestatic 207, 3) := by decide +kernel
theorem dX6_sizes_133 : decode cX6_sizes 133 = .ok (.lstore 7, 2) := by decide +kernel
theorem dX6_sizes_135 : decode cX6_sizes 135 = .ok (.iinc 10 1, 3) := by decide +kernel
theorem dX6_sizes_138 : decode cX6_sizes 138 = .ok (.goto (-91), 3) := by decide +kernel
theorem dX6_sizes_141 : decode cX6_sizes 141 = .ok (.iinc 9 1, 3) := by decide +kernel
theorem dX6_sizes_144 : decode cX6_sizes 144 = .ok (.goto (-107), 3) := by decide +kernel
theorem dX6_sizes_147 : decode cX6_sizes 147 = .ok (.lload 7, 2) := by decide +kernel
theorem dX6_sizes_149 : decode cX6_sizes 149 = .ok (.lconst 0, 1) := by decide +kernel
theorem dX6_sizes_150 : decode cX6_sizes 150 = .ok (.lcmp, 1) := by decide +kernel
theorem dX6_sizes_151 : decode cX6_sizes 151 = .ok (.ifCond .eq 7, 3) := by decide +kernel
theorem dX6_sizes_154 : decode cX6_sizes 154 = .ok (.iconst 1, 1) := by decide +kernel
theorem dX6_sizes_155 : decode cX6_sizes 155 = .ok (.goto 4, 3) := by decide +kernel
theorem dX6_sizes_158 : decode cX6_sizes 158 = .ok (.iconst 0, 1) := by decide +kernel
theorem dX6_sizes_159 : decode cX6_sizes 159 = .ok (.istore 5, 2) := by decide +kernel
theorem dX6_sizes_161 : decode cX6_sizes 161 = .ok (.iload 5, 2) := by decide +kernel
theorem dX6_sizes_163 : decode cX6_sizes 163 = .ok (.ifCond .ne 6, 3) := by decide +kernel
theorem dX6_sizes_166 : decode cX6_sizes 166 = .ok (.goto 22, 3) := by decide +kernel
theorem dX6_sizes_169 : decode cX6_sizes 169 = .ok (.aload_n 0, 1) := by decide +kernel
theorem dX6_sizes_170 : decode cX6_sizes 170 = .ok (.sipush 265, 3) := by decide +kernel
theorem dX6_sizes_173 : decode cX6_sizes 173 = .ok (.iload_n 2, 1) := by decide +kernel
theorem dX6_sizes_174 : decode cX6_sizes 174 = .ok (.iadd, 1) := by decide +kernel
theorem dX6_sizes_175 : decode cX6_sizes 175 = .ok (.lload 7, 2) := by decide +kernel
theorem dX6_sizes_177 : decode cX6_sizes 177 = .ok (.lload_n 3, 1) := by decide +kernel
theorem dX6_sizes_178 : decode cX6_sizes 178 = .ok (.ldiv, 1) := by decide +kernel
theorem dX6_sizes_179 : decode cX6_sizes 179 = .ok (.invokevirtual 83, 3) := by decide +kernel
theorem dX6_sizes_182 : decode cX6_sizes 182 = .ok (.lload 7, 2) := by decide +kernel
theorem dX6_sizes_184 : decode cX6_sizes 184 = .ok (.lstore_n 3, 1) := by decide +kernel
theorem dX6_sizes_185 : decode cX6_sizes 185 = .ok (.iinc 2 1, 3) := by decide +kernel
theorem dX6_sizes_188 : decode cX6_sizes 188 = .ok (.iinc 6 1, 3) := by decide +kernel
theorem dX6_sizes_191 : decode cX6_sizes 191 = .ok (.goto (-171), 3) := by decide +kernel
theorem dX6_sizes_194 : decode cX6_sizes 194 = .ok (.aload_n 0, 1) := by decide +kernel
theorem dX6_sizes_195 : decode cX6_sizes 195 = .ok (.iload_n 2, 1) := by decide +kernel
theorem dX6_sizes_196 : decode cX6_sizes 196 = .ok (.ifCond .ne 7, 3) := by decide +kernel
theorem dX6_sizes_199 : decode cX6_sizes 199 = .ok (.iconst 0, 1) := by decide +kernel
theorem dX6_sizes_200 : decode cX6_sizes 200 = .ok (.goto 4, 3) := by decide +kernel
theorem dX6_sizes_203 : decode cX6_sizes 203 = .ok (.iconst 1, 1) := by decide +kernel
theorem dX6_sizes_204 : decode cX6_sizes 204 = .ok (.iload_n 2, 1) := by decide +kernel
theorem dX6_sizes_205 : decode cX6_sizes 205 = .ok (.invokevirtual 189, 3) := by decide +kernel
theorem dX6_sizes_208 : decode cX6_sizes 208 = .ok (.iload_n 2, 1) := by decide +kernel
theorem dX6_sizes_209 : decode cX6_sizes 209 = .ok (.ireturn, 1) := by decide +kernel
set_option maxRecDepth 20000 in
theorem sz_c (d : Nat) {g : GX} {V0 : AH} {mo sz n k nn : Nat} {rk kn ar ac bf : Int} {S : TSt} {Q : AQ} (hmo0 : V0 mo = some (moO mo rk kn ar ac)) (hT0 : RTb g mo V0 S) (hn : n < 12) (q1 : S.r n ≤ 5) (q3 : S.c n ≤ 5) (hk : k ≤ 5) (qx : ∀ e, e < 25 → -1000 ≤ S.N n e ∧ S.N n e ≤ 1000) {r : Nat} (hr : r < 32) (hKK : ∀ {V : AH} {gg : Int}, (∀ a, ¬ ERC mo a → V a = V0 a) → (∃ F : Nat → Int, V (mo + 13) = some (aIz g 5 F)) → (∃ F : Nat → Int, V (mo + 14) = some (aIz g 5 F)) → SzI S n k r 32 gg → AW g mX6_sizes (d + 2) 141 [(9, .int (iZ (r : Int))), (7, .long (jZ gg)), (6, .int (iZ (k : Int))), (5, .int (iZ 1)), (3, .long (jZ bf)), (2, .int (iZ (nn : Int))), (0, .ref mo), (1, .int (iZ (n : Int)))] [] V sz Q) : ∀ (f c : Nat), c + f = 32 → ∀ {V : AH} {gg : Int}, (∀ a, ¬ ERC mo a → V a = V0 a) → (∃ F : Nat → Int, V (mo + 13) = some (aIz g 5 F)) → (∃ F : Nat → Int, V (mo + 14) = some (aIz g 5 F)) → SzI S n k r c gg → AW g mX6_sizes (d + 2) 47 [(10, .int (iZ (c : Int))), (9, .int (iZ (r : Int))), (7, .long (jZ gg)), (6, .int (iZ (k : Int))), (5, .int (iZ 1)), (3, .long (jZ bf)), (2, .int (iZ (nn : Int))), (0, .ref mo), (1, .int (iZ (n : Int)))] [] V sz Q
  | 0, c, hf, V, gg, hV, h13, h14, hI => by
    obtain rfl : c = 32 := by omega
    refine aw_iload dX6_sizes_47 (by rfl) ?_
    refine aw_bipushZ dX6_sizes_49 (by decide) ?_
    refine aw_icmp_geZ (tgt := 141) dX6_sizes_51 (by decide) (by omega) (by omega) (fun hc_51 => ?_) (fun hc_51 => ?_)
    · refine aw_pk [9, 7, 6, 5, 3, 2, 0, 1] (by rfl) ?_
      exact hKK hV h13 h14 hI
    · exact absurd hc_51 (by omega)
  | f + 1, c, hf, V, gg, hV, h13, h14, hI => by
    have IH := fun c hc => @sz_c d g V0 mo sz n k nn rk kn ar ac bf S Q hmo0 hT0 hn q1 q3 hk qx r hr hKK f c hc
    have hmo := (hV mo (by unfold ERC; omega)).trans hmo0
    have hT := hT0.kept2b (V' := V) (fun a h1 h2 => hV a (by unfold ERC; omega))
    obtain ⟨TH, RR, CC, NN, HH, t1, t2, t3, t4, t5, t6⟩ := id hT
    obtain ⟨F13, h13'⟩ := id h13
    obtain ⟨F14, h14'⟩ := id h14
    obtain ⟨pr, hpr⟩ : ∃ pr : Nat, 2 ^ S.r n = pr := ⟨_, rfl⟩
    have hprZ : (2 : Int) ^ S.r n = (pr : Int) := by rw [← hpr, Int.natCast_pow]; rfl
    have hpr2 : 1 ≤ 2 ^ S.r n ∧ 2 ^ S.r n ≤ 32 := pw6 ⟨S.r n, by omega⟩
    obtain ⟨pc, hpc⟩ : ∃ pc : Nat, 2 ^ S.c n = pc := ⟨_, rfl⟩
    have hpcZ : (2 : Int) ^ S.c n = (pc : Int) := by rw [← hpc, Int.natCast_pow]; rfl
    have hpc2 : 1 ≤ 2 ^ S.c n ∧ 2 ^ S.c n ≤ 32 := pw6 ⟨S.c n, by omega⟩
    have hr5 := rkb_le r 5
    have hc5 := rkb_le c 5
    refine aw_iload dX6_sizes_47 (by rfl) ?_
    refine aw_bipushZ dX6_sizes_49 (by decide) ?_
    refine aw_icmp_geZ (tgt := 141) dX6_sizes_51 (by decide) (by omega) (by omega) (fun hc_51 => ?_) (fun hc_51 => ?_)
    · exact absurd hc_51 (by omega)
    · refine aw_iload dX6_sizes_54 (by rfl) ?_
      refine aw_calls sX6_204 dX6_sizes_56 (m_ones g (d + 1) (s := r) (by omega)) (by rfl) (by rfl) (by omega) (Nat.le_of_ble_eq_true rfl) ?_
      rintro _ _ _ _ _ ⟨rfl, rfl, rfl, rfl, rfl⟩ -
      refine q0 ?_
      refine aw_iload dX6_sizes_59 (by rfl) ?_
      refine aw_icmp_neZ (tgt := 135) dX6_sizes_61 (by decide) (by omega) (by omega) (fun hc_61 => ?_) (fun hc_61 => ?_)
      · refine aw_iincZ dX6_sizes_135 (by rfl) (by decide) ?_
        refine aw_goto (tgt := 47) dX6_sizes_138 (by decide) ?_
        rw [show ((c : Int) + 1) = ((c + 1 : Nat) : Int) by omega]
        refine aw_pk [10, 9, 7, 6, 5, 3, 2, 0, 1] (by rfl) ?_
        first
        | exact IH (c + 1) (by omega) (fun a ha => (hE2 a (fun z => ha (Or.inr z))).trans ((hE1 a (fun z => ha (Or.inl z))).trans (hV a ha))) ⟨F1, h132⟩ ⟨F2, hF2⟩ (hI.step (by omega) (by omega) hok hg2 hgd)
        | exact IH (c + 1) (by omega) hV h13 h14 (hI.skip (fun z => by obtain ⟨z1, z2, z3, z4⟩ := z; omega))
      · refine aw_iload dX6_sizes_64 (by rfl) ?_
        refine aw_calls sX6_204 dX6_sizes_66 (m_ones g (d + 1) (s := c) (by omega)) (by rfl) (by rfl) (by omega) (Nat.le_of_ble_eq_true rfl) ?_
        rintro _ _ _ _ _ ⟨rfl, rfl, rfl, rfl, rfl⟩ -
        refine q0 ?_
        refine aw_iload dX6_sizes_69 (by rfl) ?_
        refine aw_icmp_neZ (tgt := 135) dX6_sizes_71 (by decide) (by omega) (by omega) (fun hc_71 => ?_) (fun hc_71 => ?_)
        · refine aw_iincZ dX6_sizes_135 (by rfl) (by decide) ?_
          refine aw_goto (tgt := 47) dX6_sizes_138 (by decide) ?_
          rw [show ((c : Int) + 1) = ((c + 1 : Nat) : Int) by omega]
          refine aw_pk [10, 9, 7, 6, 5, 3, 2, 0, 1] (by rfl) ?_
          first
          | exact IH (c + 1) (by omega) (fun a ha => (hE2 a (fun z => ha (Or.inr z))).trans ((hE1 a (fun z => ha (Or.inl z))).trans (hV a ha))) ⟨F1, h132⟩ ⟨F2, hF2⟩ (hI.step (by omega) (by omega) hok hg2 hgd)
          | exact IH (c + 1) (by omega) hV h13 h14 (hI.skip (fun z => by obtain ⟨z1, z2, z3, z4⟩ := z; omega))
        · refine aw_iload dX6_sizes_74 (by rfl) ?_
          refine aw_iconstZ dX6_sizes_76 ?_
          refine aw_aload_n dX6_sizes_77 (by rfl) (Or.inr ⟨_, rfl⟩) ?_
          refine aw_get fX6_37 dX6_sizes_78 hmo (by rfl) ?_
          refine aw_iload_n dX6_sizes_81 (by rfl) ?_
          refine aw_ialdZ (n) dX6_sizes_82 t2 (by omega) (by omega) (by omega) ?_
          rw [(t6 n hn).2.1]
          refine aw_ishl1Z (S.r n) dX6_sizes_83 rfl (by omega) ?_
          rw [hprZ]
          refine aw_icmp_geZ (tgt := 135) dX6_sizes_84 (by decide) (by omega) (by omega) (fun hc_84 => ?_) (fun hc_84 => ?_)
          · refine aw_iincZ dX6_sizes_135 (by rfl) (by decide) ?_
            refine aw_goto (tgt := 47) dX6_sizes_138 (by decide) ?_
            rw [show ((c : Int) + 1) = ((c + 1 : Nat) : Int) by omega]
            refine aw_pk [10, 9, 7, 6, 5, 3, 2, 0, 1] (by rfl) ?_
            first
            | exact IH (c + 1) (by omega) (fun a ha => (hE2 a (fun z => ha (Or.inr z))).trans ((hE1 a (fun z => ha (Or.inl z))).trans (hV a ha))) ⟨F1, h132⟩ ⟨F2, hF2⟩ (hI.step (by omega) (by omega) hok hg2 hgd)
            | exact IH (c + 1) (by omega) hV h13 h14 (hI.skip (fun z => by obtain ⟨z1, z2, z3, z4⟩ := z; omega))
          · refine aw_iload dX6_sizes_87 (by rfl) ?_
            refine aw_iconstZ dX6_sizes_89 ?_
            refine aw_aload_n dX6_sizes_90 (by rfl) (Or.inr ⟨_, rfl⟩) ?_
            refine aw_get fX6_40 dX6_sizes_91 hmo (by rfl) ?_
            refine aw_iload_n dX6_sizes_94 (by rfl) ?_
            refine aw_ialdZ (n) dX6_sizes_95 t3 (by omega) (by omega) (by omega) ?_
            rw [(t6 n hn).2.2.1]
            refine aw_ishl1Z (S.c n) dX6_sizes_96 rfl (by omega) ?_
            rw [hpcZ]
            refine aw_icmp_ltZ (tgt := 103) dX6_sizes_97 (by decide) (by omega) (by omega) (fun hc_97 => ?_) (fun hc_97 => ?_)
            · refine aw_aload_n dX6_sizes_103 (by rfl) (Or.inr ⟨_, rfl⟩) ?_
              refine aw_get fX6_49 dX6_sizes_104 hmo (by rfl) ?_
              refine aw_iload dX6_sizes_107 (by rfl) ?_
              refine aw_calls sX6_169 dX6_sizes_109 (m_tellB g (d + 1) (s := r) (by omega) h13') (by rfl) (by rfl) (by omega) (Nat.le_of_ble_eq_true rfl) ?_
              rintro _ V1 _ _ _ ⟨rfl, rfl, rfl, hE1, rfl, F1, hF1, hf1⟩ -
              refine q0 ?_
              have hmo1 := (hE1 mo (by omega)).trans hmo
              have h141 := (hE1 (mo + 14) (by omega)).trans h14'
              refine aw_aload_n dX6_sizes_112 (by rfl) (Or.inr ⟨_, rfl⟩) ?_
              refine aw_get fX6_52 dX6_sizes_113 hmo1 (by rfl) ?_
              refine aw_iload dX6_sizes_116 (by rfl) ?_
              refine aw_calls sX6_169 dX6_sizes_118 (m_tellB g (d + 1) (s := c) (by omega) h141) (by rfl) (by rfl) (by omega) (Nat.le_of_ble_eq_true rfl) ?_
              rintro _ V2 _ _ _ ⟨rfl, rfl, rfl, hE2, rfl, F2, hF2, hf2⟩ -
              refine q0 ?_
              have hmo2 := (hE2 mo (by omega)).trans hmo1
              have h132 := (hE2 (mo + 13) (by omega)).trans hF1
              have hT2 := hT.kept2b (V' := V2) (fun a h1 h2 => (hE2 a (by omega)).trans (hE1 a (by omega)))
              have hok : OkP k (S.r n) (S.c n) r c := ⟨by omega, by omega, by omega, by omega⟩
              have hmb := sz_R (N := S.N n) hk (p := r) (q := c) (by omega) (by omega) (by omega) (by omega) qx
              refine aw_lload dX6_sizes_121 (by rfl) ?_
              refine aw_aload_n dX6_sizes_123 (by rfl) (Or.inr ⟨_, rfl⟩) ?_
              refine aw_iload_n dX6_sizes_124 (by rfl) ?_
              refine aw_iload dX6_sizes_125 (by rfl) ?_
              refine aw_callv vX6_173 dX6_sizes_127 hmo2 (m_minor g d (t := n) (k := k) (ra := psb r) (ca := psb c) hmo2 hT2 hn hk qx h132 hF2 (fun a ha => ⟨hf1 a (by omega), bt16 ⟨r, by omega⟩ ⟨a, by omega⟩ (show a < rkb r 5 by omega)⟩) (fun a ha => ⟨hf2 a (by omega), bt16 ⟨c, by omega⟩ ⟨a, by omega⟩ (show a < rkb c 5 by omega)⟩)) (by rfl) (by rfl) (by omega) (Nat.le_of_ble_eq_true rfl) ?_
              rintro _ _ _ _ _ ⟨rfl, rfl, rfl, rfl, rfl⟩ -
              refine q0 ?_
              refine aw_calls sX6_207 dX6_sizes_130 (m_common g (d + 1) (B := szB) (p := gg) (q := det k (fun a b => TM (S.N n) (psb r a) (psb c b))) (by decide) (by rw [ab_pos hI.1.1]; exact hI.1.2) hmb) (by rfl) (by rfl) (by omega) (Nat.le_of_ble_eq_true rfl) ?_
              rintro _ _ _ _ _ ⟨g2, rfl, hg2, hgd, rfl, rfl, rfl, rfl⟩ -
              refine q0 ?_
              refine aw_lstore dX6_sizes_133 (by decide) ?_
              refine aw_iincZ dX6_sizes_135 (by rfl) (by decide) ?_
              refine aw_goto (tgt := 47) dX6_sizes_138 (by decide) ?_
              rw [show ((c : Int) + 1) = ((c + 1 : Nat) : Int) by omega]
              refine aw_pk [10, 9, 7, 6, 5, 3, 2, 0, 1] (by rfl) ?_
              first
              | exact IH (c + 1) (by omega) (fun a ha => (hE2 a (fun z => ha (Or.inr z))).trans ((hE1 a (fun z => ha (Or.inl z))).trans (hV a ha))) ⟨F1, h132⟩ ⟨F2, hF2⟩ (hI.step (by omega) (by omega) hok hg2 hgd)
              | exact IH (c + 1) (by omega) hV h13 h14 (hI.skip (fun z => by obtain ⟨z1, z2, z3, z4⟩ := z; omega))
            · refine aw_goto (tgt := 135) dX6_sizes_100 (by decide) ?_
              refine aw_iincZ dX6_sizes_135 (by rfl) (by decide) ?_
              refine aw_goto (tgt := 47) dX6_sizes_138 (by decide) ?_
              rw [show ((c : Int) + 1) = ((c + 1 : Nat) : Int) by omega]
              refine aw_pk [10, 9, 7, 6, 5, 3, 2, 0, 1] (by rfl) ?_
              first
              | exact IH (c + 1) (by omega) (fun a ha => (hE2 a (fun z => ha (Or.inr z))).trans ((hE1 a (fun z => ha (Or.inl z))).trans (hV a ha))) ⟨F1, h132⟩ ⟨F2, hF2⟩ (hI.step (by omega) (by omega) hok hg2 hgd)
              | exact IH (c + 1) (by omega) hV h13 h14 (hI.skip (fun z => by obtain ⟨z1, z2, z3, z4⟩ := z; omega))
set_option maxRecDepth 20000 in
theorem sz_r (d : Nat) {g : GX} {V0 : AH} {mo sz n k nn : Nat} {rk kn ar ac bf : Int} {S : TSt} {Q : AQ} (hmo0 : V0 mo = some (moO mo rk kn ar ac)) (hT0 : RTb g mo V0 S) (hn : n < 12) (q1 : S.r n ≤ 5) (q3 : S.c n ≤ 5) (hk : k ≤ 5) (qx : ∀ e, e < 25 → -1000 ≤ S.N n e ∧ S.N n e ≤ 1000) (hKK : ∀ {V : AH} {gg : Int}, (∀ a, ¬ ERC mo a → V a = V0 a) → (∃ F : Nat → Int, V (mo + 13) = some (aIz g 5 F)) → (∃ F : Nat → Int, V (mo + 14) = some (aIz g 5 F)) → SzI S n k 32 0 gg → AW g mX6_sizes (d + 2) 147 [(7, .long (jZ gg)), (6, .int (iZ (k : Int))), (5, .int (iZ 1)), (3, .long (jZ bf)), (2, .int (iZ (nn : Int))), (0, .ref mo), (1, .int (iZ (n : Int)))] [] V sz Q) : ∀ (f r : Nat), r + f = 32 → ∀ {V : AH} {gg : Int}, (∀ a, ¬ ERC mo a → V a = V0 a) → (∃ F : Nat → Int, V (mo + 13) = some (aIz g 5 F)) → (∃ F : Nat → Int, V (mo + 14) = some (aIz g 5 F)) → SzI S n k r 0 gg → AW g mX6_sizes (d + 2) 37 [(9, .int (iZ (r : Int))), (7, .long (jZ gg)), (6, .int (iZ (k : Int))), (5, .int (iZ 1)), (3, .long (jZ bf)), (2, .int (iZ (nn : Int))), (0, .ref mo), (1, .int (iZ (n : Int)))] [] V sz Q
  | 0, r, hf, V, gg, hV, h13, h14, hI => by
    obtain rfl : r = 32 := by omega
    refine aw_iload dX6_sizes_37 (by rfl) ?_
    refine aw_bipushZ dX6_sizes_39 (by decide) ?_
    refine aw_icmp_geZ (tgt := 147) dX6_sizes_41 (by decide) (by omega) (by omega) (fun hc_41 => ?_) (fun hc_41 => ?_)
    · refine aw_pk [7, 6, 5, 3, 2, 0, 1] (by rfl) ?_
      exact hKK hV h13 h14 hI
    · exact absurd hc_41 (by omega)
  | f + 1, r, hf, V, gg, hV, h13, h14, hI => by
    have IH := fun r hr => @sz_r d g V0 mo sz n k nn rk kn ar ac bf S Q hmo0 hT0 hn q1 q3 hk qx hKK f r hr
    refine aw_iload dX6_sizes_37 (by rfl) ?_
    refine aw_bipushZ dX6_sizes_39 (by decide) ?_
    refine aw_icmp_geZ (tgt := 147) dX6_sizes_41 (by decide) (by omega) (by omega) (fun hc_41 => ?_) (fun hc_41 => ?_)
    · exact absurd hc_41 (by omega)
    · refine aw_iconstZ dX6_sizes_44 ?_
      refine aw_istore dX6_sizes_45 (by decide) ?_
      refine aw_pk [10, 9, 7, 6, 5, 3, 2, 0, 1] (by rfl) ?_
      refine sz_c d hmo0 hT0 hn q1 q3 hk qx (r := r) (by omega) (fun {V1 g1} hV1 h131 h141 hI1 => ?_) 32 0 (by omega) hV h13 h14 hI
      refine aw_iincZ dX6_sizes_141 (by rfl) (by decide) ?_
      refine aw_goto (tgt := 37) dX6_sizes_144 (by decide) ?_
      rw [show ((r : Int) + 1) = ((r + 1 : Nat) : Int) by omega]
      refine aw_pk [9, 7, 6, 5, 3, 2, 0, 1] (by rfl) ?_
      exact IH (r + 1) (by omega) hV1 h131 h141 hI1.row
