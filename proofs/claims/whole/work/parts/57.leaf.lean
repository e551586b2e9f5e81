/-! ===== leaf, closeAnswer ===== -/
def lfN (N : Nat → Int) (i m : Nat) (ar : Nat → Int) : Nat → Int := fun k => if 5 * i ≤ k ∧ k < 5 * i + m then ar (k - 5 * i) else N k
theorem lfN_up (N : Nat → Int) (i m : Nat) (ar : Nat → Int) : upF (lfN N i m ar) (5 * i + m) (ar m) = lfN N i (m + 1) ar := by
  funext k
  unfold upF lfN
  by_cases h : k = 5 * i + m
  · rw [if_pos h, if_pos (by omega)]; congr 1; omega
  · rw [if_neg h]
    by_cases h2 : 5 * i ≤ k ∧ k < 5 * i + m
    · rw [if_pos h2, if_pos (by omega)]
    · rw [if_neg h2, if_neg (by omega)]
theorem lfN_0 (N : Nat → Int) (i : Nat) (ar : Nat → Int) : lfN N i 0 ar = N := by funext k; unfold lfN; rw [if_neg (by omega)]
def ar5 (p q r s e : Int) : Nat → Int := fun k => if k = 0 then p else if k = 1 then q else if k = 2 then r else if k = 3 then s else e
def mk5 (F : Nat → Int) (p q r s e : Int) : Nat → Int := upF (upF (upF (upF (upF F 0 p) 1 q) 2 r) 3 s) 4 e
theorem mk5_ar (F : Nat → Int) (p q r s e : Int) {k : Nat} (hk : k < 5) : mk5 F p q r s e k = ar5 p q r s e k := by
  obtain rfl | rfl | rfl | rfl | rfl : k = 0 ∨ k = 1 ∨ k = 2 ∨ k = 3 ∨ k = 4 := by omega
  all_goals (unfold mk5 ar5 upF; simp)
abbrev mX5_leaf : MI := (yX5_leaf, cX5_leaf, 10, (some FieldType.boolean), noX)
theorem dX5_leaf_0 : decode cX5_leaf 0 = .ok (.aload_n 0, 1) := by decide +kernel
theorem dX5_leaf_1 : decode cX5_leaf 1 = .ok (.iload_n 1, 1) := by decide +kernel
theorem dX5_leaf_2 : decode cX5_leaf 2 = .ok (.invokevirtual 72, 3) := by decide +kernel
theorem dX5_leaf_5 : decode cX5_leaf 5 = .ok (.astore 8, 2) := by decide +kernel
theorem dX5_leaf_7 : decode cX5_leaf 7 = .ok (.aload 8, 2) := by decide +kernel
theorem dX5_leaf_9 : decode cX5_leaf 9 = .ok (.ifnull 12, 3) := by decide +kernel
theorem dX5_leaf_12 : decode cX5_leaf 12 = .ok (.aload 8, 2) := by decide +kernel
theorem dX5_leaf_14 : decode cX5_leaf 14 = .ok (.iload_n 2, 1) := by decide +kernel
theorem dX5_leaf_15 : decode cX5_leaf 15 = .ok (.invokevirtual 76, 3) := by decide +kernel
theorem dX5_leaf_18 : decode cX5_leaf 18 = .ok (.ifCond .ne 5, 3) := by decide +kernel
theorem dX5_leaf_21 : decode cX5_leaf 21 = .ok (.iconst 0, 1) := by decide +kernel
theorem dX5_leaf_22 : decode cX5_leaf 22 = .ok (.ireturn, 1) := by decide +kernel
theorem dX5_leaf_23 : decode cX5_leaf 23 = .ok (.aload_n 0, 1) := by decide +kernel
theorem dX5_leaf_24 : decode cX5_leaf 24 = .ok (.getfield 56, 3) := by decide +kernel
theorem dX5_leaf_27 : decode cX5_leaf 27 = .ok (.iconst 0, 1) := by decide +kernel
theorem dX5_leaf_28 : decode cX5_leaf 28 = .ok (.iload_n 3, 1) := by decide +kernel
theorem dX5_leaf_29 : decode cX5_leaf 29 = .ok (.iastore, 1) := by decide +kernel
theorem dX5_leaf_30 : decode cX5_leaf 30 = .ok (.aload_n 0, 1) := by decide +kernel
theorem dX5_leaf_31 : decode cX5_leaf 31 = .ok (.getfield 56, 3) := by decide +kernel
theorem dX5_leaf_34 : decode cX5_leaf 34 = .ok (.iconst 1, 1) := by decide +kernel
theorem dX5_leaf_35 : decode cX5_leaf 35 = .ok (.iload 4, 2) := by decide +kernel
theorem dX5_leaf_37 : decode cX5_leaf 37 = .ok (.iastore, 1) := by decide +kernel
theorem dX5_leaf_38 : decode cX5_leaf 38 = .ok (.aload_n 0, 1) := by decide +kernel
theorem dX5_leaf_39 : decode cX5_leaf 39 = .ok (.getfield 56, 3) := by decide +kernel
theorem dX5_leaf_42 : decode cX5_leaf 42 = .ok (.iconst 2, 1) := by decide +kernel
theorem dX5_leaf_43 : decode cX5_leaf 43 = .ok (.iload 5, 2) := by decide +kernel
theorem dX5_leaf_45 : decode cX5_leaf 45 = .ok (.iastore, 1) := by decide +kernel
theorem dX5_leaf_46 : decode cX5_leaf 46 = .ok (.aload_n 0, 1) := by decide +kernel
theorem dX5_leaf_47 : decode cX5_leaf 47 = .ok (.getfield 56, 3) := by decide +kernel
theorem dX5_leaf_50 : decode cX5_leaf 50 = .ok (.iconst 3, 1) := by decide +kernel
theorem dX5_leaf_51 : decode cX5_leaf 51 = .ok (.iload 6, 2) := by decide +kernel
theorem dX5_leaf_53 : decode cX5_leaf 53 = .ok (.iastore, 1) := by decide +kernel
theorem dX5_leaf_54 : decode cX5_leaf 54 = .ok (.aload_n 0, 1) := by decide +kernel
theorem dX5_leaf_55 : decode cX5_leaf 55 = .ok (.getfield 56, 3) := by decide +kernel
theorem dX5_leaf_58 : decode cX5_leaf 58 = .ok (.iconst 4, 1) := by decide +kernel
theorem dX5_leaf_59 : decode cX5_leaf 59 = .ok (.iload 7, 2) := by decide +kernel
theorem dX5_leaf_61 : decode cX5_leaf 61 = .ok (.iastore, 1) := by decide +kernel
theorem dX5_leaf_62 : decode cX5_leaf 62 = .ok (.aload_n 0, 1) := by decide +kernel
theorem dX5_leaf_63 : decode cX5_leaf 63 = .ok (.aload 8, 2) := by decide +kernel
theorem dX5_leaf_65 : decode cX5_leaf 65 = .ok (.getfield 79, 3) := by decide +kernel
theorem dX5_leaf_68 : decode cX5_leaf 68 = .ok (.invokevirtual 83, 3) := by decide +kernel
theorem dX5_leaf_71 : decode cX5_leaf 71 = .ok (.ifCond .ne 5, 3) := by decide +kernel
theorem dX5_leaf_74 : decode cX5_leaf 74 = .ok (.iconst 0, 1) := by decide +kernel
theorem dX5_leaf_75 : decode cX5_leaf 75 = .ok (.ireturn, 1) := by decide +kernel
theorem dX5_leaf_76 : decode cX5_leaf 76 = .ok (.iconst 0, 1) := by decide +kernel
theorem dX5_leaf_77 : decode cX5_leaf 77 = .ok (.istore 9, 2) := by decide +kernel
theorem dX5_leaf_79 : decode cX5_leaf 79 = .ok (.iload 9, 2) := by decide +kernel
theorem dX5_leaf_81 : decode cX5_leaf 81 = .ok (.aload 8, 2) := by decide +kernel
theorem dX5_leaf_83 : decode cX5_leaf 83 = .ok (.getfield 79, 3) := by decide +kernel
theorem dX5_leaf_86 : decode cX5_leaf 86 = .ok (.if_icmp .ge 28, 3) := by decide +kernel
theorem dX5_leaf_89 : decode cX5_leaf 89 = .ok (.aload 8, 2) := by decide +kernel
theorem dX5_leaf_91 : decode cX5_leaf 91 = .ok (.getfield 86, 3) := by decide +kernel
theorem dX5_leaf_94 : decode cX5_leaf 94 = .ok (.iload_n 2, 1) := by decide +kernel
theorem dX5_leaf_95 : decode cX5_leaf 95 = .ok (.iconst 5, 1) := by decide +kernel
theorem dX5_leaf_96 : decode cX5_leaf 96 = .ok (.imul, 1) := by decide +kernel
theorem dX5_leaf_97 : decode cX5_leaf 97 = .ok (.iload 9, 2) := by decide +kernel
theorem dX5_leaf_99 : decode cX5_leaf 99 = .ok (.iadd, 1) := by decide +kernel
theorem dX5_leaf_100 : decode cX5_leaf 100 = .ok (.aload_n 0, 1) := by decide +kernel
theorem dX5_leaf_101 : decode cX5_leaf 101 = .ok (.getfield 56, 3) := by decide +kernel
theorem dX5_leaf_104 : decode cX5_leaf 104 = .ok (.iload 9, 2) := by decide +kernel
theorem dX5_leaf_106 : decode cX5_leaf 106 = .ok (.iaload, 1) := by decide +kernel
theorem dX5_leaf_107 : decode cX5_leaf 107 = .ok (.iastore, 1) := by decide +kernel
theorem dX5_leaf_108 : decode cX5_leaf 108 = .ok (.iinc 9 1, 3) := by decide +kernel
theorem dX5_leaf_111 : decode cX5_leaf 111 = .ok (.goto (-32), 3) := by decide +kernel
theorem dX5_leaf_114 : decode cX5_leaf 114 = .ok (.aload 8, 2) := by decide +kernel
theorem dX5_leaf_116 : decode cX5_leaf 116 = .ok (.getfield 89, 3) := by decide +kernel
theorem dX5_leaf_119 : decode cX5_leaf 119 = .ok (.iload_n 2, 1) := by decide +kernel
theorem dX5_leaf_120 : decode cX5_leaf 120 = .ok (.iconst 1, 1) := by decide +kernel
theorem dX5_leaf_121 : decode cX5_leaf 121 = .ok (.bastore, 1) := by decide +kernel
theorem dX5_leaf_122 : decode cX5_leaf 122 = .ok (.iconst 1, 1) := by decide +kernel
theorem dX5_leaf_123 : decode cX5_leaf 123 = .ok (.ireturn, 1) := by decide +kernel
theorem lf_loop (d : Nat) {g : GX} {b : Nat} {X : Nat → Prop} {Z : Nat → Int} {S : TSt} {A : ASt} {n i : Nat} {F : Nat → Int} {p qq r s e : Int} {V0 : AH} (hn : n < 12 ∧ 0 < S.r n) (hi : i < S.r n) (h : CX g b X V0 Z S A) (hM0 : V0 (b + 645) = some (aIz g 25 (mk5 F p qq r s e))) (har : ∀ k, k < S.c n → -1000 ≤ ar5 p qq r s e k ∧ ar5 p qq r s e k ≤ 1000) : ∀ (x m : Nat), m + x = S.c n → ∀ {V : AH} {sz : Nat} {P L : Nat → Nat}, WG g (wsB b) (SAB b X) V sz Z P L → (∀ a, ¬ ET (b + 647 + 3 * n) (b + 647 + 3 * n + 1) (b + 647 + 3 * n + 2) a → V a = V0 a) → TbV g V (b + 647 + 3 * n) (b + 647 + 3 * n + 1) (b + 647 + 3 * n + 2) (S.r n) (S.c n) (lfN (S.N n) i m (ar5 p qq r s e)) (S.H n) → AW g mX5_leaf (d + 2) 79 [(9, .int (iZ m)), (8, .ref (b + 647 + 3 * n)), (0, .ref b), (2, .int (iZ i))] [] V sz (CE g b X V sz L (fun q S' A' => A' = A ∧ some (.int (iZ 1)) = q ∧ S' = upT S n (S.r n) (S.c n) (lfN (S.N n) i (S.c n) (ar5 p qq r s e)) (upF (S.H n) i 1)))
  | 0, m, hx, V, sz, P, L, hw0, hV, hT => by
    obtain ⟨⟨hb0, hb10⟩, hTb, hOk, -⟩ := id h
    obtain ⟨hr5, hc5, hrc1, hNr, hH, hz, hz2⟩ := hOk n hn.1
    have hb := (hV b (fun q => by rcases q with q | q | q <;> omega)).trans hb0
    have hMd := (hV (b + 645) (fun q => by rcases q with q | q | q <;> omega)).trans hM0
    obtain ⟨hT1, hT2, hT3, -⟩ := id hT
    refine aw_iload dX5_leaf_79 (by rfl) ?_
    refine aw_aload dX5_leaf_81 (by rfl) (Or.inr ⟨_, rfl⟩) ?_
    refine aw_get fX5_79 dX5_leaf_83 (by assumption) (by rfl) ?_
    refine aw_icmp_geZ (tgt := 114) dX5_leaf_86 (by decide) (by omega) (by omega) (fun hc_86 => ?_) (fun hc_86 => ?_)
    · refine aw_aload dX5_leaf_114 (by rfl) (Or.inr ⟨_, rfl⟩) ?_
      refine aw_get fX5_89 dX5_leaf_116 (by assumption) (by rfl) ?_
      refine aw_iload_n dX5_leaf_119 (by rfl) ?_
      refine aw_iconstZ dX5_leaf_120 ?_
      refine aw_zastZ (i) dX5_leaf_121 (by assumption) (by omega) (by omega) (by omega) (Or.inr rfl) ?_
      refine WE.stp0 (WSE.sto hw0 (sab_t (by omega)) (by unfold EB; omega)) ?_
      have hw1 := hw0.sto (e := aZz g 5 (upF (S.H n) i 1)) (sab_t (X := X) (show b + 645 ≤ b + 647 + 3 * n + 2 ∧ b + 647 + 3 * n + 2 < b + 683 by omega))
      refine aw_iconstZ dX5_leaf_122 ?_
      refine aw_iret dX5_leaf_123 rfl (by rfl) ?_
      obtain rfl : m = S.c n := by omega
      refine WE.ret hw1 ⟨_, _, h.table1 (V' := AHu V _ _) hn.1 (fun a ha => (AHu_ne (fun q => ha (Or.inr (Or.inr q)))).trans (hV a ha)) hT.the (hOk.up ⟨hr5, hc5, hrc1, fun k hk => ?_, fun k => ?_, fun k j hk hj h3 => ?_, fun k hk h3 => ?_⟩), rfl, rfl, rfl⟩
      · unfold lfN; split
        · exact har _ (by omega)
        · exact hNr k hk
      · unfold upF; split
        · exact Or.inr rfl
        · exact hH k
      · unfold lfN
        by_cases e1 : k = i
        · subst e1
          rw [upF_self] at h3
          rw [if_neg (by omega)]
          exact hz k j hk hj (by omega)
        · rw [upF_ne _ _ e1] at h3
          rw [if_neg (by omega)]
          exact hz k j hk hj h3
      · rw [upF_ne _ _ (by omega)]; exact hz2 k hk h3
    · exact absurd hc_86 (by omega)
  | x + 1, m, hx, V, sz, P, L, hw0, hV, hT => by
    have IH := fun m hm => @lf_loop d g b X Z S A n i F p qq r s e V0 hn hi h hM0 har x m hm
    obtain ⟨⟨hb0, hb10⟩, hTb, hOk, -⟩ := id h
    obtain ⟨hr5, hc5, hrc1, hNr, hH, hz, hz2⟩ := hOk n hn.1
    have hb := (hV b (fun q => by rcases q with q | q | q <;> omega)).trans hb0
    have hMd := (hV (b + 645) (fun q => by rcases q with q | q | q <;> omega)).trans hM0
    obtain ⟨hT1, hT2, hT3, -⟩ := id hT
    refine aw_iload dX5_leaf_79 (by rfl) ?_
    refine aw_aload dX5_leaf_81 (by rfl) (Or.inr ⟨_, rfl⟩) ?_
    refine aw_get fX5_79 dX5_leaf_83 (by assumption) (by rfl) ?_
    refine aw_icmp_geZ (tgt := 114) dX5_leaf_86 (by decide) (by omega) (by omega) (fun hc_86 => ?_) (fun hc_86 => ?_)
    · exact absurd hc_86 (by omega)
    · refine aw_aload dX5_leaf_89 (by rfl) (Or.inr ⟨_, rfl⟩) ?_
      refine aw_get fX5_86 dX5_leaf_91 (by assumption) (by rfl) ?_
      refine aw_iload_n dX5_leaf_94 (by rfl) ?_
      refine aw_iconstZ dX5_leaf_95 ?_
      refine aw_imulZ dX5_leaf_96 ?_
      refine aw_iload dX5_leaf_97 (by rfl) ?_
      refine aw_iaddZ dX5_leaf_99 ?_
      refine aw_aload_n dX5_leaf_100 (by rfl) (Or.inr ⟨_, rfl⟩) ?_
      refine aw_get fX5_56 dX5_leaf_101 (by assumption) (by rfl) ?_
      refine aw_iload dX5_leaf_104 (by rfl) ?_
      refine aw_ialdZ (m) dX5_leaf_106 (by assumption) (by omega) (by omega) (by omega) ?_
      rw [mk5_ar _ _ _ _ _ _ (by omega)]
      refine aw_iastZ (5 * i + m) dX5_leaf_107 (by assumption) (by omega) (by omega) (by omega) ?_
      rw [lfN_up]
      refine WE.stp0 (WSE.sto hw0 (sab_t (by omega)) (by unfold EB; omega)) ?_
      have hw1 := hw0.sto (e := aIz g 25 (lfN (S.N n) i (m + 1) (ar5 p qq r s e))) (sab_t (X := X) (show b + 645 ≤ b + 647 + 3 * n + 1 ∧ b + 647 + 3 * n + 1 < b + 683 by omega))
      refine aw_iincZ dX5_leaf_108 (by rfl) (by decide) ?_
      refine aw_goto (tgt := 79) dX5_leaf_111 (by decide) ?_
      rw [show ((m : Int) + 1) = ((m + 1 : Nat) : Int) by omega]
      refine aw_pk [9, 8, 0, 2] (by rfl) ?_
      exact IH (m + 1) (by omega) hw1 (fun a ha => (AHu_ne (fun q => ha (Or.inr (Or.inl q)))).trans (hV a ha)) hT.num
theorem c_leaf {g : GX} {b : Nat} {X : Nat → Prop} {V : AH} {sz : Nat} {Z : Nat → Int} {S : TSt} {A : ASt} (d : Nat) {t i p qq r s e : Int} {P L : Nat → Nat} (hw0 : WG g (wsB b) (SAB b X) V sz Z P L) (h : CX g b X V Z S A) (ht : R32 t) (hi : R32 i) (hr5a : ∀ k, R32 (ar5 p qq r s e k)) : AMet g mX5_leaf (d + 2) [.ref b, .int (iZ t), .int (iZ i), .int (iZ p), .int (iZ qq), .int (iZ r), .int (iZ s), .int (iZ e)] V sz (CE g b X V sz L (fun q S' A' => A' = A ∧ ((0 ≤ t ∧ t < 12 ∧ 0 ≤ i ∧ i < S.r t.toNat ∧ ∀ k, k < S.c t.toNat → -1000 ≤ ar5 p qq r s e k ∧ ar5 p qq r s e k ≤ 1000) ∧ some (.int (iZ 1)) = q ∧ S' = upT S t.toNat (S.r t.toNat) (S.c t.toNat) (lfN (S.N t.toNat) i.toNat (S.c t.toNat) (ar5 p qq r s e)) (upF (S.H t.toNat) i.toNat 1) ∨ ¬ (0 ≤ t ∧ t < 12 ∧ 0 ≤ i ∧ i < S.r t.toNat ∧ ∀ k, k < S.c t.toNat → -1000 ≤ ar5 p qq r s e k ∧ ar5 p qq r s e k ≤ 1000) ∧ some (.int (iZ 0)) = q ∧ S' = S))) := by
  obtain ⟨⟨hb, hb1⟩, hTb, hOk, -, -, -, -, -, -, -, -, hMa, -⟩ := id h
  obtain ⟨F, hMd⟩ := hMa
  obtain ⟨v, hv⟩ := FindV.ex S b t
  rcases hv with ⟨n, hn, rfl, hr, rfl⟩ | ⟨hno, rfl⟩
  · obtain ⟨hT1, hT2, hT3, -⟩ := hTb n hn
    obtain ⟨hr5, hc5, -⟩ := hOk n hn
    by_cases hq : 0 ≤ i ∧ i < (S.r n : Int)
    · obtain ⟨k, rfl⟩ : ∃ k : Nat, i = (k : Int) := ⟨i.toNat, by omega⟩
      by_cases har : ∀ k, k < S.c n → -1000 ≤ ar5 p qq r s e k ∧ ar5 p qq r s e k ≤ 1000
      · skip
        refine AMet.of rfl rfl (Nat.le_of_ble_eq_true rfl) ?_
        show AW g mX5_leaf (d + 2) 0 [(0, .ref b), (1, .int (iZ n)), (2, .int (iZ k)), (3, .int (iZ p)), (4, .int (iZ qq)), (5, .int (iZ r)), (6, .int (iZ s)), (7, .int (iZ e))] [] V sz _
        refine aw_aload_n dX5_leaf_0 (by rfl) (Or.inr ⟨_, rfl⟩) ?_
        refine aw_iload_n dX5_leaf_1 (by rfl) ?_
        refine aw_callv vX5_72 dX5_leaf_2 hb (t_find d h ht (Or.inl ⟨n, hn, rfl, hr, rfl⟩)) (by rfl) (by rfl) (by omega) (Nat.le_of_ble_eq_true rfl) ?_
        rintro _ _ _ _ _ ⟨rfl, rfl, rfl, rfl, rfl⟩ -
        refine q0 ?_
        refine aw_astore dX5_leaf_5 (by decide) (Or.inr ⟨_, rfl⟩) ?_
        refine aw_aload dX5_leaf_7 (by rfl) (Or.inr ⟨_, rfl⟩) ?_
        refine aw_ifnull_r dX5_leaf_9 ?_
        refine aw_aload dX5_leaf_12 (by rfl) (Or.inr ⟨_, rfl⟩) ?_
        refine aw_iload_n dX5_leaf_14 (by rfl) ?_
        refine aw_callv vX5_76 dX5_leaf_15 hT1 (t_hasRow g d (hTb n hn) (by omega) hi) (by rfl) (by rfl) (by omega) (Nat.le_of_ble_eq_true rfl) ?_
        rintro _ _ _ _ _ ⟨rfl, rfl, rfl, rfl, rfl⟩ -
        refine q0 ?_
        refine aw_if_neZ (tgt := 23) dX5_leaf_18 (by decide) (by split <;> omega) (fun hc_18 => ?_) (fun hc_18 => ?_)
        · refine aw_aload_n dX5_leaf_23 (by rfl) (Or.inr ⟨_, rfl⟩) ?_
          refine aw_get fX5_56 dX5_leaf_24 hb (by rfl) ?_
          refine aw_iconstZ dX5_leaf_27 ?_
          refine aw_iload_n dX5_leaf_28 (by rfl) ?_
          refine aw_iastZ (0) dX5_leaf_29 hMd (by omega) (by omega) (by omega) ?_
          refine WE.stp0 (WSE.sto hw0 (sab_t (by omega)) (by unfold EB; omega)) ?_
          have hw1 := hw0.sto (e := aIz g 25 (upF F 0 p)) (sab_t (X := X) (show b + 645 ≤ b + 645 ∧ b + 645 < b + 683 by omega))
          have h1 : CX g b X (AHu V (b + 645) (aIz g 25 (upF F 0 p))) Z S A := h.made rfl rfl ⟨fun q _ hn => AHu_ne (by omega), fun _ _ => rfl⟩ ⟨_, AHu_self _ _ _⟩
          have hb_30 : (AHu V (b + 645) (aIz g 25 (upF F 0 p))) b = _ := h1.1.1
          have hM_30 : (AHu V (b + 645) (aIz g 25 (upF F 0 p))) (b + 645) = some (aIz g 25 (upF F 0 p)) := AHu_self _ _ _
          refine aw_aload_n dX5_leaf_30 (by rfl) (Or.inr ⟨_, rfl⟩) ?_
          refine aw_get fX5_56 dX5_leaf_31 hb_30 (by rfl) ?_
          refine aw_iconstZ dX5_leaf_34 ?_
          refine aw_iload dX5_leaf_35 (by rfl) ?_
          refine aw_iastZ (1) dX5_leaf_37 hM_30 (by omega) (by omega) (by omega) ?_
          refine WE.stp0 (WSE.sto hw1 (sab_t (by omega)) (by unfold EB; omega)) ?_
          have hw2 := hw1.sto (e := aIz g 25 (upF (upF F 0 p) 1 qq)) (sab_t (X := X) (show b + 645 ≤ b + 645 ∧ b + 645 < b + 683 by omega))
          have h2 : CX g b X (AHu (AHu V (b + 645) (aIz g 25 (upF F 0 p))) (b + 645) (aIz g 25 (upF (upF F 0 p) 1 qq))) Z S A := h1.made rfl rfl ⟨fun q _ hn => AHu_ne (by omega), fun _ _ => rfl⟩ ⟨_, AHu_self _ _ _⟩
          have hb_38 : (AHu (AHu V (b + 645) (aIz g 25 (upF F 0 p))) (b + 645) (aIz g 25 (upF (upF F 0 p) 1 qq))) b = _ := h2.1.1
          have hM_38 : (AHu (AHu V (b + 645) (aIz g 25 (upF F 0 p))) (b + 645) (aIz g 25 (upF (upF F 0 p) 1 qq))) (b + 645) = some (aIz g 25 (upF (upF F 0 p) 1 qq)) := AHu_self _ _ _
          refine aw_aload_n dX5_leaf_38 (by rfl) (Or.inr ⟨_, rfl⟩) ?_
          refine aw_get fX5_56 dX5_leaf_39 hb_38 (by rfl) ?_
          refine aw_iconstZ dX5_leaf_42 ?_
          refine aw_iload dX5_leaf_43 (by rfl) ?_
          refine aw_iastZ (2) dX5_leaf_45 hM_38 (by omega) (by omega) (by omega) ?_
          refine WE.stp0 (WSE.sto hw2 (sab_t (by omega)) (by unfold EB; omega)) ?_
          have hw3 := hw2.sto (e := aIz g 25 (upF (upF (upF F 0 p) 1 qq) 2 r)) (sab_t (X := X) (show b + 645 ≤ b + 645 ∧ b + 645 < b + 683 by omega))
          have h3 : CX g b X (AHu (AHu (AHu V (b + 645) (aIz g 25 (upF F 0 p))) (b + 645) (aIz g 25 (upF (upF F 0 p) 1 qq))) (b + 645) (aIz g 25 (upF (upF (upF F 0 p) 1 qq) 2 r))) Z S A := h2.made rfl rfl ⟨fun q _ hn => AHu_ne (by omega), fun _ _ => rfl⟩ ⟨_, AHu_self _ _ _⟩
          have hb_46 : (AHu (AHu (AHu V (b + 645) (aIz g 25 (upF F 0 p))) (b + 645) (aIz g 25 (upF (upF F 0 p) 1 qq))) (b + 645) (aIz g 25 (upF (upF (upF F 0 p) 1 qq) 2 r))) b = _ := h3.1.1
          have hM_46 : (AHu (AHu (AHu V (b + 645) (aIz g 25 (upF F 0 p))) (b + 645) (aIz g 25 (upF (upF F 0 p) 1 qq))) (b + 645) (aIz g 25 (upF (upF (upF F 0 p) 1 qq) 2 r))) (b + 645) = some (aIz g 25 (upF (upF (upF F 0 p) 1 qq) 2 r)) := AHu_self _ _ _
          refine aw_aload_n dX5_leaf_46 (by rfl) (Or.inr ⟨_, rfl⟩) ?_
          refine aw_get fX5_56 dX5_leaf_47 hb_46 (by rfl) ?_
          refine aw_iconstZ dX5_leaf_50 ?_
          refine aw_iload dX5_leaf_51 (by rfl) ?_
          refine aw_iastZ (3) dX5_leaf_53 hM_46 (by omega) (by omega) (by omega) ?_
          refine WE.stp0 (WSE.sto hw3 (sab_t (by omega)) (by unfold EB; omega)) ?_
          have hw4 := hw3.sto (e := aIz g 25 (upF (upF (upF (upF F 0 p) 1 qq) 2 r) 3 s)) (sab_t (X := X) (show b + 645 ≤ b + 645 ∧ b + 645 < b + 683 by omega))
          have h4 : CX g b X (AHu (AHu (AHu (AHu V (b + 645) (aIz g 25 (upF F 0 p))) (b + 645) (aIz g 25 (upF (upF F 0 p) 1 qq))) (b + 645) (aIz g 25 (upF (upF (upF F 0 p) 1 qq) 2 r))) (b + 645) (aIz g 25 (upF (upF (upF (upF F 0 p) 1 qq) 2 r) 3 s))) Z S A := h3.made rfl rfl ⟨fun q _ hn => AHu_ne (by omega), fun _ _ => rfl⟩ ⟨_, AHu_self _ _ _⟩
          have hb_54 : (AHu (AHu (AHu (AHu V (b + 645) (aIz g 25 (upF F 0 p))) (b + 645) (aIz g 25 (upF (upF F 0 p) 1 qq))) (b + 645) (aIz g 25 (upF (upF (upF F 0 p) 1 qq) 2 r))) (b + 645) (aIz g 25 (upF (upF (upF (upF F 0 p) 1 qq) 2 r) 3 s))) b = _ := h4.1.1
          have hM_54 : (AHu (AHu (AHu (AHu V (b + 645) (aIz g 25 (upF F 0 p))) (b + 645) (aIz g 25 (upF (upF F 0 p) 1 qq))) (b + 645) (aIz g 25 (upF (upF (upF F 0 p) 1 qq) 2 r))) (b + 645) (aIz g 25 (upF (upF (upF (upF F 0 p) 1 qq) 2 r) 3 s))) (b + 645) = some (aIz g 25 (upF (upF (upF (upF F 0 p) 1 qq) 2 r) 3 s)) := AHu_self _ _ _
          refine aw_aload_n dX5_leaf_54 (by rfl) (Or.inr ⟨_, rfl⟩) ?_
          refine aw_get fX5_56 dX5_leaf_55 hb_54 (by rfl) ?_
          refine aw_iconstZ dX5_leaf_58 ?_
          refine aw_iload dX5_leaf_59 (by rfl) ?_
          refine aw_iastZ (4) dX5_leaf_61 hM_54 (by omega) (by omega) (by omega) ?_
          refine WE.stp0 (WSE.sto hw4 (sab_t (by omega)) (by unfold EB; omega)) ?_
          have hw5 := hw4.sto (e := aIz g 25 (upF (upF (upF (upF (upF F 0 p) 1 qq) 2 r) 3 s) 4 e)) (sab_t (X := X) (show b + 645 ≤ b + 645 ∧ b + 645 < b + 683 by omega))
          have h5 : CX g b X (AHu (AHu (AHu (AHu (AHu V (b + 645) (aIz g 25 (upF F 0 p))) (b + 645) (aIz g 25 (upF (upF F 0 p) 1 qq))) (b + 645) (aIz g 25 (upF (upF (upF F 0 p) 1 qq) 2 r))) (b + 645) (aIz g 25 (upF (upF (upF (upF F 0 p) 1 qq) 2 r) 3 s))) (b + 645) (aIz g 25 (upF (upF (upF (upF (upF F 0 p) 1 qq) 2 r) 3 s) 4 e))) Z S A := h4.made rfl rfl ⟨fun q _ hn => AHu_ne (by omega), fun _ _ => rfl⟩ ⟨_, AHu_self _ _ _⟩
          have hb_62 : (AHu (AHu (AHu (AHu (AHu V (b + 645) (aIz g 25 (upF F 0 p))) (b + 645) (aIz g 25 (upF (upF F 0 p) 1 qq))) (b + 645) (aIz g 25 (upF (upF (upF F 0 p) 1 qq) 2 r))) (b + 645) (aIz g 25 (upF (upF (upF (upF F 0 p) 1 qq) 2 r) 3 s))) (b + 645) (aIz g 25 (upF (upF (upF (upF (upF F 0 p) 1 qq) 2 r) 3 s) 4 e))) b = _ := h5.1.1
          have hM_62 : (AHu (AHu (AHu (AHu (AHu V (b + 645) (aIz g 25 (upF F 0 p))) (b + 645) (aIz g 25 (upF (upF F 0 p) 1 qq))) (b + 645) (aIz g 25 (upF (upF (upF F 0 p) 1 qq) 2 r))) (b + 645) (aIz g 25 (upF (upF (upF (upF F 0 p) 1 qq) 2 r) 3 s))) (b + 645) (aIz g 25 (upF (upF (upF (upF (upF F 0 p) 1 qq) 2 r) 3 s) 4 e))) (b + 645) = some (aIz g 25 (mk5 F p qq r s e)) := AHu_self _ _ _
          have hT5 := (h5.2.1 n hn).1
          refine aw_aload_n dX5_leaf_62 (by rfl) (Or.inr ⟨_, rfl⟩) ?_
          refine aw_aload dX5_leaf_63 (by rfl) (Or.inr ⟨_, rfl⟩) ?_
          refine aw_get fX5_79 dX5_leaf_65 hT5 (by rfl) ?_
          refine aw_callv vX5_83 dX5_leaf_68 hb_62 (t_madeCanBe g (d + 1) (n := S.c n) (q := 1) hb_62 hM_62 (by omega) (fun j hj => by rw [mk5_ar (F := F) _ _ _ _ _ (show j < 5 by omega)]; have := har j hj; omega) (Or.inl ⟨rfl, fun j hj => by rw [mk5_ar (F := F) _ _ _ _ _ (show j < 5 by omega)]; exact har j hj⟩)) (by rfl) (by rfl) (by omega) (Nat.le_of_ble_eq_true rfl) ?_
          rintro _ _ _ _ _ ⟨rfl, rfl, rfl, rfl, rfl⟩ -
          refine q0 ?_
          refine aw_if_neZ (tgt := 76) dX5_leaf_71 (by decide) (by decide) (fun hc_71 => ?_) (fun hc_71 => ?_)
          · refine aw_iconstZ dX5_leaf_76 ?_
            refine aw_istore dX5_leaf_77 (by decide) ?_
            refine aw_pk [9, 8, 0, 2] (by rfl) ?_
            have GO := lf_loop d (F := F) (i := k) ⟨hn, hr⟩ (by omega) h5 hM_62 har (S.c n) 0 (by omega) hw5 (fun _ _ => rfl) (by rw [lfN_0]; exact h5.2.1 n hn)
            refine GO.mono (fun r V' sz' dc ds z => WE.mono (fun Z' q => ?_) (fun _ q => q) z)
            obtain ⟨S', A', y1, y2, y3, y4⟩ := q
            refine ⟨S', A', y1, y2, Or.inl ⟨⟨by omega, by omega, by omega, ?_, ?_⟩, y3, ?_⟩⟩
            · rw [Int.toNat_natCast]; omega
            · rw [Int.toNat_natCast]; exact har
            · rw [Int.toNat_natCast, Int.toNat_natCast]; exact y4
          · exact absurd hc_71 (by decide)
        · exact absurd hc_18 (by rw [if_pos hq]; decide)
      · skip
        refine AMet.of rfl rfl (Nat.le_of_ble_eq_true rfl) ?_
        show AW g mX5_leaf (d + 2) 0 [(0, .ref b), (1, .int (iZ n)), (2, .int (iZ k)), (3, .int (iZ p)), (4, .int (iZ qq)), (5, .int (iZ r)), (6, .int (iZ s)), (7, .int (iZ e))] [] V sz _
        refine aw_aload_n dX5_leaf_0 (by rfl) (Or.inr ⟨_, rfl⟩) ?_
        refine aw_iload_n dX5_leaf_1 (by rfl) ?_
        refine aw_callv vX5_72 dX5_leaf_2 hb (t_find d h ht (Or.inl ⟨n, hn, rfl, hr, rfl⟩)) (by rfl) (by rfl) (by omega) (Nat.le_of_ble_eq_true rfl) ?_
        rintro _ _ _ _ _ ⟨rfl, rfl, rfl, rfl, rfl⟩ -
        refine q0 ?_
        refine aw_astore dX5_leaf_5 (by decide) (Or.inr ⟨_, rfl⟩) ?_
        refine aw_aload dX5_leaf_7 (by rfl) (Or.inr ⟨_, rfl⟩) ?_
        refine aw_ifnull_r dX5_leaf_9 ?_
        refine aw_aload dX5_leaf_12 (by rfl) (Or.inr ⟨_, rfl⟩) ?_
        refine aw_iload_n dX5_leaf_14 (by rfl) ?_
        refine aw_callv vX5_76 dX5_leaf_15 hT1 (t_hasRow g d (hTb n hn) (by omega) hi) (by rfl) (by rfl) (by omega) (Nat.le_of_ble_eq_true rfl) ?_
        rintro _ _ _ _ _ ⟨rfl, rfl, rfl, rfl, rfl⟩ -
        refine q0 ?_
        refine aw_if_neZ (tgt := 23) dX5_leaf_18 (by decide) (by split <;> omega) (fun hc_18 => ?_) (fun hc_18 => ?_)
        · refine aw_aload_n dX5_leaf_23 (by rfl) (Or.inr ⟨_, rfl⟩) ?_
          refine aw_get fX5_56 dX5_leaf_24 hb (by rfl) ?_
          refine aw_iconstZ dX5_leaf_27 ?_
          refine aw_iload_n dX5_leaf_28 (by rfl) ?_
          refine aw_iastZ (0) dX5_leaf_29 hMd (by omega) (by omega) (by omega) ?_
          refine WE.stp0 (WSE.sto hw0 (sab_t (by omega)) (by unfold EB; omega)) ?_
          have hw1 := hw0.sto (e := aIz g 25 (upF F 0 p)) (sab_t (X := X) (show b + 645 ≤ b + 645 ∧ b + 645 < b + 683 by omega))
          have h1 : CX g b X (AHu V (b + 645) (aIz g 25 (upF F 0 p))) Z S A := h.made rfl rfl ⟨fun q _ hn => AHu_ne (by omega), fun _ _ => rfl⟩ ⟨_, AHu_self _ _ _⟩
          have hb_30 : (AHu V (b + 645) (aIz g 25 (upF F 0 p))) b = _ := h1.1.1
          have hM_30 : (AHu V (b + 645) (aIz g 25 (upF F 0 p))) (b + 645) = some (aIz g 25 (upF F 0 p)) := AHu_self _ _ _
          refine aw_aload_n dX5_leaf_30 (by rfl) (Or.inr ⟨_, rfl⟩) ?_
          refine aw_get fX5_56 dX5_leaf_31 hb_30 (by rfl) ?_
          refine aw_iconstZ dX5_leaf_34 ?_
          refine aw_iload dX5_leaf_35 (by rfl) ?_
          refine aw_iastZ (1) dX5_leaf_37 hM_30 (by omega) (by omega) (by omega) ?_
          refine WE.stp0 (WSE.sto hw1 (sab_t (by omega)) (by unfold EB; omega)) ?_
          have hw2 := hw1.sto (e := aIz g 25 (upF (upF F 0 p) 1 qq)) (sab_t (X := X) (show b + 645 ≤ b + 645 ∧ b + 645 < b + 683 by omega))
          have h2 : CX g b X (AHu (AHu V (b + 645) (aIz g 25 (upF F 0 p))) (b + 645) (aIz g 25 (upF (upF F 0 p) 1 qq))) Z S A := h1.made rfl rfl ⟨fun q _ hn => AHu_ne (by omega), fun _ _ => rfl⟩ ⟨_, AHu_self _ _ _⟩
          have hb_38 : (AHu (AHu V (b + 645) (aIz g 25 (upF F 0 p))) (b + 645) (aIz g 25 (upF (upF F 0 p) 1 qq))) b = _ := h2.1.1
          have hM_38 : (AHu (AHu V (b + 645) (aIz g 25 (upF F 0 p))) (b + 645) (aIz g 25 (upF (upF F 0 p) 1 qq))) (b + 645) = some (aIz g 25 (upF (upF F 0 p) 1 qq)) := AHu_self _ _ _
          refine aw_aload_n dX5_leaf_38 (by rfl) (Or.inr ⟨_, rfl⟩) ?_
          refine aw_get fX5_56 dX5_leaf_39 hb_38 (by rfl) ?_
          refine aw_iconstZ dX5_leaf_42 ?_
          refine aw_iload dX5_leaf_43 (by rfl) ?_
          refine aw_iastZ (2) dX5_leaf_45 hM_38 (by omega) (by omega) (by omega) ?_
          refine WE.stp0 (WSE.sto hw2 (sab_t (by omega)) (by unfold EB; omega)) ?_
          have hw3 := hw2.sto (e := aIz g 25 (upF (upF (upF F 0 p) 1 qq) 2 r)) (sab_t (X := X) (show b + 645 ≤ b + 645 ∧ b + 645 < b + 683 by omega))
          have h3 : CX g b X (AHu (AHu (AHu V (b + 645) (aIz g 25 (upF F 0 p))) (b + 645) (aIz g 25 (upF (upF F 0 p) 1 qq))) (b + 645) (aIz g 25 (upF (upF (upF F 0 p) 1 qq) 2 r))) Z S A := h2.made rfl rfl ⟨fun q _ hn => AHu_ne (by omega), fun _ _ => rfl⟩ ⟨_, AHu_self _ _ _⟩
          have hb_46 : (AHu (AHu (AHu V (b + 645) (aIz g 25 (upF F 0 p))) (b + 645) (aIz g 25 (upF (upF F 0 p) 1 qq))) (b + 645) (aIz g 25 (upF (upF (upF F 0 p) 1 qq) 2 r))) b = _ := h3.1.1
          have hM_46 : (AHu (AHu (AHu V (b + 645) (aIz g 25 (upF F 0 p))) (b + 645) (aIz g 25 (upF (upF F 0 p) 1 qq))) (b + 645) (aIz g 25 (upF (upF (upF F 0 p) 1 qq) 2 r))) (b + 645) = some (aIz g 25 (upF (upF (upF F 0 p) 1 qq) 2 r)) := AHu_self _ _ _
          refine aw_aload_n dX5_leaf_46 (by rfl) (Or.inr ⟨_, rfl⟩) ?_
          refine aw_get fX5_56 dX5_leaf_47 hb_46 (by rfl) ?_
          refine aw_iconstZ dX5_leaf_50 ?_
          refine aw_iload dX5_leaf_51 (by rfl) ?_
          refine aw_iastZ (3) dX5_leaf_53 hM_46 (by omega) (by omega) (by omega) ?_
          refine WE.stp0 (WSE.sto hw3 (sab_t (by omega)) (by unfold EB; omega)) ?_
          have hw4 := hw3.sto (e := aIz g 25 (upF (upF (upF (upF F 0 p) 1 qq) 2 r) 3 s)) (sab_t (X := X) (show b + 645 ≤ b + 645 ∧ b + 645 < b + 683 by omega))
          have h4 : CX g b X (AHu (AHu (AHu (AHu V (b + 645) (aIz g 25 (upF F 0 p))) (b + 645) (aIz g 25 (upF (upF F 0 p) 1 qq))) (b + 645) (aIz g 25 (upF (upF (upF F 0 p) 1 qq) 2 r))) (b + 645) (aIz g 25 (upF (upF (upF (upF F 0 p) 1 qq) 2 r) 3 s))) Z S A := h3.made rfl rfl ⟨fun q _ hn => AHu_ne (by omega), fun _ _ => rfl⟩ ⟨_, AHu_self _ _ _⟩
          have hb_54 : (AHu (AHu (AHu (AHu V (b + 645) (aIz g 25 (upF F 0 p))) (b + 645) (aIz g 25 (upF (upF F 0 p) 1 qq))) (b + 645) (aIz g 25 (upF (upF (upF F 0 p) 1 qq) 2 r))) (b + 645) (aIz g 25 (upF (upF (upF (upF F 0 p) 1 qq) 2 r) 3 s))) b = _ := h4.1.1
          have hM_54 : (AHu (AHu (AHu (AHu V (b + 645) (aIz g 25 (upF F 0 p))) (b + 645) (aIz g 25 (upF (upF F 0 p) 1 qq))) (b + 645) (aIz g 25 (upF (upF (upF F 0 p) 1 qq) 2 r))) (b + 645) (aIz g 25 (upF (upF (upF (upF F 0 p) 1 qq) 2 r) 3 s))) (b + 645) = some (aIz g 25 (upF (upF (upF (upF F 0 p) 1 qq) 2 r) 3 s)) := AHu_self _ _ _
          refine aw_aload_n dX5_leaf_54 (by rfl) (Or.inr ⟨_, rfl⟩) ?_
          refine aw_get fX5_56 dX5_leaf_55 hb_54 (by rfl) ?_
          refine aw_iconstZ dX5_leaf_58 ?_
          refine aw_iload dX5_leaf_59 (by rfl) ?_
          refine aw_iastZ (4) dX5_leaf_61 hM_54 (by omega) (by omega) (by omega) ?_
          refine WE.stp0 (WSE.sto hw4 (sab_t (by omega)) (by unfold EB; omega)) ?_
          have hw5 := hw4.sto (e := aIz g 25 (upF (upF (upF (upF (upF F 0 p) 1 qq) 2 r) 3 s) 4 e)) (sab_t (X := X) (show b + 645 ≤ b + 645 ∧ b + 645 < b + 683 by omega))
          have h5 : CX g b X (AHu (AHu (AHu (AHu (AHu V (b + 645) (aIz g 25 (upF F 0 p))) (b + 645) (aIz g 25 (upF (upF F 0 p) 1 qq))) (b + 645) (aIz g 25 (upF (upF (upF F 0 p) 1 qq) 2 r))) (b + 645) (aIz g 25 (upF (upF (upF (upF F 0 p) 1 qq) 2 r) 3 s))) (b + 645) (aIz g 25 (upF (upF (upF (upF (upF F 0 p) 1 qq) 2 r) 3 s) 4 e))) Z S A := h4.made rfl rfl ⟨fun q _ hn => AHu_ne (by omega), fun _ _ => rfl⟩ ⟨_, AHu_self _ _ _⟩
          have hb_62 : (AHu (AHu (AHu (AHu (AHu V (b + 645) (aIz g 25 (upF F 0 p))) (b + 645) (aIz g 25 (upF (upF F 0 p) 1 qq))) (b + 645) (aIz g 25 (upF (upF (upF F 0 p) 1 qq) 2 r))) (b + 645) (aIz g 25 (upF (upF (upF (upF F 0 p) 1 qq) 2 r) 3 s))) (b + 645) (aIz g 25 (upF (upF (upF (upF (upF F 0 p) 1 qq) 2 r) 3 s) 4 e))) b = _ := h5.1.1
          have hM_62 : (AHu (AHu (AHu (AHu (AHu V (b + 645) (aIz g 25 (upF F 0 p))) (b + 645) (aIz g 25 (upF (upF F 0 p) 1 qq))) (b + 645) (aIz g 25 (upF (upF (upF F 0 p) 1 qq) 2 r))) (b + 645) (aIz g 25 (upF (upF (upF (upF F 0 p) 1 qq) 2 r) 3 s))) (b + 645) (aIz g 25 (upF (upF (upF (upF (upF F 0 p) 1 qq) 2 r) 3 s) 4 e))) (b + 645) = some (aIz g 25 (mk5 F p qq r s e)) := AHu_self _ _ _
          have hT5 := (h5.2.1 n hn).1
          refine aw_aload_n dX5_leaf_62 (by rfl) (Or.inr ⟨_, rfl⟩) ?_
          refine aw_aload dX5_leaf_63 (by rfl) (Or.inr ⟨_, rfl⟩) ?_
          refine aw_get fX5_79 dX5_leaf_65 hT5 (by rfl) ?_
          refine aw_callv vX5_83 dX5_leaf_68 hb_62 (t_madeCanBe g (d + 1) (n := S.c n) (q := 0) hb_62 hM_62 (by omega) (fun j hj => by rw [mk5_ar (F := F) _ _ _ _ _ (show j < 5 by omega)]; exact hr5a j) (Or.inr ⟨rfl, fun z => har (fun j hj => by have := z j hj; rw [mk5_ar (F := F) _ _ _ _ _ (show j < 5 by omega)] at this; exact this)⟩)) (by rfl) (by rfl) (by omega) (Nat.le_of_ble_eq_true rfl) ?_
          rintro _ _ _ _ _ ⟨rfl, rfl, rfl, rfl, rfl⟩ -
          refine q0 ?_
          refine aw_if_neZ (tgt := 76) dX5_leaf_71 (by decide) (by decide) (fun hc_71 => ?_) (fun hc_71 => ?_)
          · exact absurd rfl hc_71
          · refine aw_iconstZ dX5_leaf_74 ?_
            refine aw_iret dX5_leaf_75 rfl (by rfl) ?_
            exact WE.ret hw5 ⟨S, A, h5, rfl, Or.inr ⟨fun z => har (by have := z.2.2.2.2; rw [Int.toNat_natCast] at this; exact this), rfl, rfl⟩⟩
        · exact absurd hc_18 (by rw [if_pos hq]; decide)
    · skip
      refine AMet.of rfl rfl (Nat.le_of_ble_eq_true rfl) ?_
      show AW g mX5_leaf (d + 2) 0 [(0, .ref b), (1, .int (iZ n)), (2, .int (iZ i)), (3, .int (iZ p)), (4, .int (iZ qq)), (5, .int (iZ r)), (6, .int (iZ s)), (7, .int (iZ e))] [] V sz _
      refine aw_aload_n dX5_leaf_0 (by rfl) (Or.inr ⟨_, rfl⟩) ?_
      refine aw_iload_n dX5_leaf_1 (by rfl) ?_
      refine aw_callv vX5_72 dX5_leaf_2 hb (t_find d h ht (Or.inl ⟨n, hn, rfl, hr, rfl⟩)) (by rfl) (by rfl) (by omega) (Nat.le_of_ble_eq_true rfl) ?_
      rintro _ _ _ _ _ ⟨rfl, rfl, rfl, rfl, rfl⟩ -
      refine q0 ?_
      refine aw_astore dX5_leaf_5 (by decide) (Or.inr ⟨_, rfl⟩) ?_
      refine aw_aload dX5_leaf_7 (by rfl) (Or.inr ⟨_, rfl⟩) ?_
      refine aw_ifnull_r dX5_leaf_9 ?_
      refine aw_aload dX5_leaf_12 (by rfl) (Or.inr ⟨_, rfl⟩) ?_
      refine aw_iload_n dX5_leaf_14 (by rfl) ?_
      refine aw_callv vX5_76 dX5_leaf_15 hT1 (t_hasRow g d (hTb n hn) (by omega) hi) (by rfl) (by rfl) (by omega) (Nat.le_of_ble_eq_true rfl) ?_
      rintro _ _ _ _ _ ⟨rfl, rfl, rfl, rfl, rfl⟩ -
      refine q0 ?_
      refine aw_if_neZ (tgt := 23) dX5_leaf_18 (by decide) (by split <;> omega) (fun hc_18 => ?_) (fun hc_18 => ?_)
      · exact absurd (by rw [if_neg hq]) hc_18
      · refine aw_iconstZ dX5_leaf_21 ?_
        refine aw_iret dX5_leaf_22 rfl (by rfl) ?_
        exact WE.ret hw0 ⟨S, A, h, rfl, Or.inr ⟨fun z => hq ⟨z.2.2.1, by have := z.2.2.2.1; rw [Int.toNat_natCast] at this; exact this⟩, rfl, rfl⟩⟩
  · skip
    refine AMet.of rfl rfl (Nat.le_of_ble_eq_true rfl) ?_
    show AW g mX5_leaf (d + 2) 0 [(0, .ref b), (1, .int (iZ t)), (2, .int (iZ i)), (3, .int (iZ p)), (4, .int (iZ qq)), (5, .int (iZ r)), (6, .int (iZ s)), (7, .int (iZ e))] [] V sz _
    refine aw_aload_n dX5_leaf_0 (by rfl) (Or.inr ⟨_, rfl⟩) ?_
    refine aw_iload_n dX5_leaf_1 (by rfl) ?_
    refine aw_callv vX5_72 dX5_leaf_2 hb (t_find d h ht (Or.inr ⟨hno, rfl⟩)) (by rfl) (by rfl) (by omega) (Nat.le_of_ble_eq_true rfl) ?_
    rintro _ _ _ _ _ ⟨rfl, rfl, rfl, rfl, rfl⟩ -
    refine q0 ?_
    refine aw_astore dX5_leaf_5 (by decide) (Or.inl rfl) ?_
    refine aw_aload dX5_leaf_7 (by rfl) (Or.inl rfl) ?_
    refine aw_ifnull_n (tgt := 21) dX5_leaf_9 (by decide) ?_
    refine aw_iconstZ dX5_leaf_21 ?_
    refine aw_iret dX5_leaf_22 rfl (by rfl) ?_
    exact WE.ret hw0 ⟨S, A, h, rfl, Or.inr ⟨fun z => by have := hno t.toNat (by omega) (by omega); omega, rfl, rfl⟩⟩
