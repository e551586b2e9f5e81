/-! ===== the reference: over, reach ===== -/
/-- a matrix told, so far -/
def MtI (M : Mat) (w : Nat) (zs z' : Nat → Int) (i j : Nat) : Prop := (∀ a b, (a < i ∧ b < w) ∨ (a = i ∧ b < j) → z' (265 + 10 * a + b) = M a b) ∧ ∀ q, ¬ (265 ≤ q ∧ q < 365) → z' q = zs q
theorem MtI.nil {M : Mat} {w : Nat} {zs : Nat → Int} : MtI M w zs zs 0 0 := ⟨fun a b h => absurd h (by omega), fun _ _ => rfl⟩
theorem MtI.up {M : Mat} {w : Nat} {zs z' : Nat → Int} {i j : Nat} {v : Int} (h : MtI M w zs z' i j) (hw : w ≤ 10) (hj : j < w) (hi : i < 10) (hv : v = M i j) : MtI M w zs (upF z' (265 + 10 * i + j) v) i (j + 1) := by
  refine ⟨fun a b hab => ?_, fun q hq => ?_⟩
  · by_cases e : a = i ∧ b = j
    · rw [e.1, e.2, upF_self]; exact hv
    · rw [upF_ne _ _ (by omega)]; exact h.1 a b (by omega)
  · rw [upF_ne _ _ (by omega)]; exact h.2 q hq
theorem MtI.out {M : Mat} {w : Nat} {zs z' : Nat → Int} {i : Nat} (h : MtI M w zs z' i w) : MtI M w zs z' (i + 1) 0 := ⟨fun a b hab => h.1 a b (by omega), h.2⟩
abbrev mX6_over : MI := (yX6_over, cX6_over, 5, (some FieldType.boolean), noX)
theorem dX6_over_0 : decode cX6_over 0 = .ok (.aload_n 0, 1) := by decide +kernel
theorem dX6_over_1 : decode cX6_over 1 = .ok (.iload_n 1, 1) := by decide +kernel
theorem dX6_over_2 : decode cX6_over 2 = .ok (.iload_n 2, 1) := by decide +kernel
theorem dX6_over_3 : decode cX6_over 3 = .ok (.invokevirtual 186, 3) := by decide +kernel
theorem dX6_over_6 : decode cX6_over 6 = .ok (.ifCond .ne 5, 3) := by decide +kernel
theorem dX6_over_9 : decode cX6_over 9 = .ok (.iconst 0, 1) := by decide +kernel
theorem dX6_over_10 : decode cX6_over 10 = .ok (.ireturn, 1) := by decide +kernel
theorem dX6_over_11 : decode cX6_over 11 = .ok (.iconst 0, 1) := by decide +kernel
theorem dX6_over_12 : decode cX6_over 12 = .ok (.istore_n 3, 1) := by decide +kernel
theorem dX6_over_13 : decode cX6_over 13 = .ok (.iload_n 3, 1) := by decide +kernel
theorem dX6_over_14 : decode cX6_over 14 = .ok (.aload_n 0, 1) := by decide +kernel
theorem dX6_over_15 : decode cX6_over 15 = .ok (.getfield 37, 3) := by decide +kernel
theorem dX6_over_18 : decode cX6_over 18 = .ok (.iload_n 1, 1) := by decide +kernel
theorem dX6_over_19 : decode cX6_over 19 = .ok (.iaload, 1) := by decide +kernel
theorem dX6_over_20 : decode cX6_over 20 = .ok (.aload_n 0, 1) := by decide +kernel
theorem dX6_over_21 : decode cX6_over 21 = .ok (.getfield 37, 3) := by decide +kernel
theorem dX6_over_24 : decode cX6_over 24 = .ok (.iload_n 2, 1) := by decide +kernel
theorem dX6_over_25 : decode cX6_over 25 = .ok (.iaload, 1) := by decide +kernel
theorem dX6_over_26 : decode cX6_over 26 = .ok (.iadd, 1) := by decide +kernel
theorem dX6_over_27 : decode cX6_over 27 = .ok (.if_icmp .ge 82, 3) := by decide +kernel
theorem dX6_over_30 : decode cX6_over 30 = .ok (.iconst 0, 1) := by decide +kernel
theorem dX6_over_31 : decode cX6_over 31 = .ok (.istore 4, 2) := by decide +kernel
theorem dX6_over_33 : decode cX6_over 33 = .ok (.iload 4, 2) := by decide +kernel
theorem dX6_over_35 : decode cX6_over 35 = .ok (.aload_n 0, 1) := by decide +kernel
theorem dX6_over_36 : decode cX6_over 36 = .ok (.getfield 40, 3) := by decide +kernel
theorem dX6_over_39 : decode cX6_over 39 = .ok (.iload_n 1, 1) := by decide +kernel
theorem dX6_over_40 : decode cX6_over 40 = .ok (.iaload, 1) := by decide +kernel
theorem dX6_over_41 : decode cX6_over 41 = .ok (.if_icmp .ge 62, 3) := by decide +kernel
theorem dX6_over_44 : decode cX6_over 44 = .ok (.aload_n 0, 1) := by decide +kernel
theorem dX6_over_45 : decode cX6_over 45 = .ok (.sipush 265, 3) := by decide +kernel
theorem dX6_over_48 : decode cX6_over 48 = .ok (.bipush 10, 2) := by decide +kernel
theorem dX6_over_50 : decode cX6_over 50 = .ok (.iload_n 3, 1) := by decide +kernel
theorem dX6_over_51 : decode cX6_over 51 = .ok (.imul, 1) := by decide +kernel
theorem dX6_over_52 : decode cX6_over 52 = .ok (.iadd, 1) := by decide +kernel
theorem dX6_over_53 : decode cX6_over 53 = .ok (.iload 4, 2) := by decide +kernel
theorem dX6_over_55 : decode cX6_over 55 = .ok (.iadd, 1) := by decide +kernel
theorem dX6_over_56 : decode cX6_over 56 = .ok (.iload_n 3, 1) := by decide +kernel
theorem dX6_over_57 : decode cX6_over 57 = .ok (.aload_n 0, 1) := by decide +kernel
theorem dX6_over_58 : decode cX6_over 58 = .ok (.getfield 37, 3) := by decide +kernel
theorem dX6_over_61 : decode cX6_over 61 = .ok (.iload_n 1, 1) := by decide +kernel
theorem dX6_over_62 : decode cX6_over 62 = .ok (.iaload, 1) := by decide +kernel
theorem dX6_over_63 : decode cX6_over 63 = .ok (.if_icmp .ge 15, 3) := by decide +kernel
theorem dX6_over_66 : decode cX6_over 66 = .ok (.aload_n 0, 1) := by decide +kernel
theorem dX6_over_67 : decode cX6_over 67 = .ok (.iload_n 1, 1) := by decide +kernel
theorem dX6_over_68 : decode cX6_over 68 = .ok (.iload_n 3, 1) := by decide +kernel
theorem dX6_over_69 : decode cX6_over 69 = .ok (.iload 4, 2) := by decide +kernel
theorem dX6_over_71 : decode cX6_over 71 = .ok (.invokevirtual 148, 3) := by decide +kernel
theorem dX6_over_74 : decode cX6_over 74 = .ok (.i2l, 1) := by decide +kernel
theorem dX6_over_75 : decode cX6_over 75 = .ok (.goto 19, 3) := by decide +kernel
theorem dX6_over_78 : decode cX6_over 78 = .ok (.aload_n 0, 1) := by decide +kernel
theorem dX6_over_79 : decode cX6_over 79 = .ok (.iload_n 2, 1) := by decide +kernel
theorem dX6_over_80 : decode cX6_over 80 = .ok (.iload_n 3, 1) := by decide +kernel
theorem dX6_over_81 : decode cX6_over 81 = .ok (.aload_n 0, 1) := by decide +kernel
theorem dX6_over_82 : decode cX6_over 82 = .ok (.getfield 37, 3) := by decide +kernel
theorem dX6_over_85 : decode cX6_over 85 = .ok (.iload_n 1, 1) := by decide +kernel
theorem dX6_over_86 : decode cX6_over 86 = .ok (.iaload, 1) := by decide +kernel
theorem dX6_over_87 : decode cX6_over 87 = .ok (.isub, 1) := by decide +kernel
theorem dX6_over_88 : decode cX6_over 88 = .ok (.iload 4, 2) := by decide +kernel
theorem dX6_over_90 : decode cX6_over 90 = .ok (.invokevirtual 148, 3) := by decide +kernel
theorem dX6_over_93 : decode cX6_over 93 = .ok (.i2l, 1) := by decide +kernel
theorem dX6_over_94 : decode cX6_over 94 = .ok (.invokevirtual 83, 3) := by decide +kernel
theorem dX6_over_97 : decode cX6_over 97 = .ok (.iinc 4 1, 3) := by decide +kernel
theorem dX6_over_100 : decode cX6_over 100 = .ok (.goto (-67), 3) := by decide +kernel
theorem dX6_over_103 : decode cX6_over 103 = .ok (.iinc 3 1, 3) := by decide +kernel
theorem dX6_over_106 : decode cX6_over 106 = .ok (.goto (-93), 3) := by decide +kernel
theorem dX6_over_109 : decode cX6_over 109 = .ok (.aload_n 0, 1) := by decide +kernel
theorem dX6_over_110 : decode cX6_over 110 = .ok (.aload_n 0, 1) := by decide +kernel
theorem dX6_over_111 : decode cX6_over 111 = .ok (.getfield 37, 3) := by decide +kernel
theorem dX6_over_114 : decode cX6_over 114 = .ok (.iload_n 1, 1) := by decide +kernel
theorem dX6_over_115 : decode cX6_over 115 = .ok (.iaload, 1) := by decide +kernel
theorem dX6_over_116 : decode cX6_over 116 = .ok (.aload_n 0, 1) := by decide +kernel
theorem dX6_over_117 : decode cX6_over 117 = .ok (.getfield 37, 3) := by decide +kernel
theorem dX6_over_120 : decode cX6_over 120 = .ok (.iload_n 2, 1) := by decide +kernel
theorem dX6_over_121 : decode cX6_over 121 = .ok (.iaload, 1) := by decide +kernel
theorem dX6_over_122 : decode cX6_over 122 = .ok (.iadd, 1) := by decide +kernel
theorem dX6_over_123 : decode cX6_over 123 = .ok (.aload_n 0, 1) := by decide +kernel
theorem dX6_over_124 : decode cX6_over 124 = .ok (.getfield 40, 3) := by decide +kernel
theorem dX6_over_127 : decode cX6_over 127 = .ok (.iload_n 1, 1) := by decide +kernel
theorem dX6_over_128 : decode cX6_over 128 = .ok (.iaload, 1) := by decide +kernel
theorem dX6_over_129 : decode cX6_over 129 = .ok (.invokevirtual 189, 3) := by decide +kernel
theorem dX6_over_132 : decode cX6_over 132 = .ok (.iconst 1, 1) := by decide +kernel
theorem dX6_over_133 : decode cX6_over 133 = .ok (.ireturn, 1) := by decide +kernel
theorem ovm_in (d : Nat) {g : GX} {V0 : AH} {mo sz x y i : Nat} {rk kn ar ac : Int} {zs : Nat → Int} {S : TSt} {Q : AQ} (hT0 : RTb g mo V0 S) (o1 : TOK S) (hx : x < 12) (hy : y < 12) (hi : i < S.r x + S.r y) (hcc : S.c x = S.c y) (hKK : ∀ {V : AH} {z : Nat → Int}, V mo = some (moO mo rk kn ar ac) → MN g mo V z → (∀ a, ¬ EN mo a → V a = V0 a) → MtI (JM (S.N x) (S.N y) (S.r x)) (S.c x) zs z i (S.c x) → AW g mX6_over (d + 1) 103 [(4, .int (iZ (S.c x))), (3, .int (iZ i)), (0, .ref mo), (1, .int (iZ x)), (2, .int (iZ y))] [] V sz Q) : ∀ (f j : Nat), j + f = S.c x → ∀ {V : AH} {z : Nat → Int}, V mo = some (moO mo rk kn ar ac) → MN g mo V z → (∀ a, ¬ EN mo a → V a = V0 a) → MtI (JM (S.N x) (S.N y) (S.r x)) (S.c x) zs z i j → AW g mX6_over (d + 1) 33 [(4, .int (iZ j)), (3, .int (iZ i)), (0, .ref mo), (1, .int (iZ x)), (2, .int (iZ y))] [] V sz Q
  | 0, j, hf, V, z, hmo, hM, hV, hI => by
    obtain rfl : j = S.c x := by omega
    have hT := hT0.kept (V' := V) (fun a h1 h2 => hV a (by unfold EN; omega))
    obtain ⟨TH, RR, CC, NN, HH, t1, t2, t3, t4, t5, t6⟩ := id hT
    have e1 := (t6 x hx).2.1
    have e2 := (t6 y hy).2.1
    have e3 := (t6 x hx).2.2.1
    have q1 := (o1 x hx).1
    have q2 := (o1 y hy).1
    have q3 := (o1 x hx).2.1
    refine aw_iload dX6_over_33 (by rfl) ?_
    refine aw_aload_n dX6_over_35 (by rfl) (Or.inr ⟨_, rfl⟩) ?_
    refine aw_get fX6_40 dX6_over_36 hmo (by rfl) ?_
    refine aw_iload_n dX6_over_39 (by rfl) ?_
    refine aw_ialdZ (x) dX6_over_40 t3 (by omega) (by omega) (by omega) ?_
    refine aw_icmp_geZ (tgt := 103) dX6_over_41 (by decide) (by omega) (by rw [e3]; omega) (fun hc_41 => ?_) (fun hc_41 => ?_)
    · exact hKK hmo hM hV hI
    · rw [e3] at hc_41
      exact absurd hc_41 (by omega)
  | f + 1, j, hf, V, z, hmo, hM, hV, hI => by
    have IH := fun j hj => @ovm_in d g V0 mo sz x y i rk kn ar ac zs S Q hT0 o1 hx hy hi hcc hKK f j hj
    have hT := hT0.kept (V' := V) (fun a h1 h2 => hV a (by unfold EN; omega))
    obtain ⟨TH, RR, CC, NN, HH, t1, t2, t3, t4, t5, t6⟩ := id hT
    have e1 := (t6 x hx).2.1
    have e2 := (t6 y hy).2.1
    have e3 := (t6 x hx).2.2.1
    have q1 := (o1 x hx).1
    have q2 := (o1 y hy).1
    have q3 := (o1 x hx).2.1
    refine aw_iload dX6_over_33 (by rfl) ?_
    refine aw_aload_n dX6_over_35 (by rfl) (Or.inr ⟨_, rfl⟩) ?_
    refine aw_get fX6_40 dX6_over_36 hmo (by rfl) ?_
    refine aw_iload_n dX6_over_39 (by rfl) ?_
    refine aw_ialdZ (x) dX6_over_40 t3 (by omega) (by omega) (by omega) ?_
    refine aw_icmp_geZ (tgt := 103) dX6_over_41 (by decide) (by omega) (by rw [e3]; omega) (fun hc_41 => ?_) (fun hc_41 => ?_)
    · rw [e3] at hc_41
      exact absurd hc_41 (by omega)
    · rw [e3] at hc_41
      refine aw_aload_n dX6_over_44 (by rfl) (Or.inr ⟨_, rfl⟩) ?_
      refine aw_sipushZ dX6_over_45 (by decide) ?_
      refine aw_bipushZ dX6_over_48 (by decide) ?_
      refine aw_iload_n dX6_over_50 (by rfl) ?_
      refine aw_imulZ dX6_over_51 ?_
      refine aw_iaddZ dX6_over_52 ?_
      refine aw_iload dX6_over_53 (by rfl) ?_
      refine aw_iaddZ dX6_over_55 ?_
      refine aw_iload_n dX6_over_56 (by rfl) ?_
      refine aw_aload_n dX6_over_57 (by rfl) (Or.inr ⟨_, rfl⟩) ?_
      refine aw_get fX6_37 dX6_over_58 hmo (by rfl) ?_
      refine aw_iload_n dX6_over_61 (by rfl) ?_
      refine aw_ialdZ (x) dX6_over_62 t2 (by omega) (by omega) (by omega) ?_
      refine aw_icmp_geZ (tgt := 78) dX6_over_63 (by decide) (by omega) (by rw [e1]; omega) (fun hc_63 => ?_) (fun hc_63 => ?_)
      · rw [e1] at hc_63
        have hJ : -9223372036854775808 < JM (S.N x) (S.N y) (S.r x) i j ∧ JM (S.N x) (S.N y) (S.r x) i j < 9223372036854775808 := by
          show _ < (if i < S.r x then S.N x (5 * i + j) else S.N y (5 * (i - S.r x) + j)) ∧ (if i < S.r x then S.N x (5 * i + j) else S.N y (5 * (i - S.r x) + j)) < _
          rw [if_neg (by omega)]
          have := (o1 y hy).2.2.2.1 (5 * (i - S.r x) + j) (by omega)
          omega
        have hJv : S.N y (5 * (i - S.r x) + j) = JM (S.N x) (S.N y) (S.r x) i j := (if_neg (by omega)).symm
        rw [show (265 : Int) + 10 * (i : Int) + (j : Int) = ((265 + 10 * i + j : Nat) : Int) by omega]
        refine aw_aload_n dX6_over_78 (by rfl) (Or.inr ⟨_, rfl⟩) ?_
        refine aw_iload_n dX6_over_79 (by rfl) ?_
        refine aw_iload_n dX6_over_80 (by rfl) ?_
        refine aw_aload_n dX6_over_81 (by rfl) (Or.inr ⟨_, rfl⟩) ?_
        refine aw_get fX6_37 dX6_over_82 hmo (by rfl) ?_
        refine aw_iload_n dX6_over_85 (by rfl) ?_
        refine aw_ialdZ (x) dX6_over_86 t2 (by omega) (by omega) (by omega) ?_
        refine aw_isubZ dX6_over_87 ?_
        rw [e1]
        refine aw_topi (y := ((i - S.r x : Nat) : Int)) (by omega) ?_
        refine aw_iload dX6_over_88 (by rfl) ?_
        refine aw_callv vX6_148 dX6_over_90 hmo (m_at3 g d (t := y) (i := i - S.r x) (j := j) hmo hT hy (by omega) (by omega)) (by rfl) (by rfl) (by omega) (Nat.le_of_ble_eq_true rfl) ?_
        rintro _ _ _ _ _ ⟨rfl, rfl, rfl, rfl, rfl⟩ -
        refine q0 ?_
        refine aw_i2lZ dX6_over_93 (by have := (o1 y hy).2.2.2.1 (5 * (i - S.r x) + j) (by omega); omega) ?_
        rw [hJv]
        refine aw_callv vX6_83 dX6_over_94 hmo (m_becomes g d (c := 265 + 10 * i + j) (v := JM (S.N x) (S.N y) (S.r x) i j) ⟨_, _, _, _, hmo⟩ hM (by omega) hJ) (by rfl) (by rfl) (by omega) (Nat.le_of_ble_eq_true rfl) ?_
        rintro _ V1 _ _ _ ⟨rfl, rfl, rfl, hE1, rfl, hM1⟩ -
        refine q0 ?_
        refine aw_iincZ dX6_over_97 (by rfl) (by decide) ?_
        refine aw_goto (tgt := 33) dX6_over_100 (by decide) ?_
        rw [show ((j : Int) + 1) = ((j + 1 : Nat) : Int) by omega]
        refine aw_pk [4, 3, 0, 1, 2] (by rfl) ?_
        exact IH (j + 1) (by omega) ((hE1 mo (by unfold EN; omega)).trans hmo) hM1 (fun a ha => (hE1 a ha).trans (hV a ha)) (hI.up (by omega) (by omega) (by omega) rfl)
      · rw [e1] at hc_63
        have hJ : -9223372036854775808 < JM (S.N x) (S.N y) (S.r x) i j ∧ JM (S.N x) (S.N y) (S.r x) i j < 9223372036854775808 := by
          show _ < (if i < S.r x then S.N x (5 * i + j) else S.N y (5 * (i - S.r x) + j)) ∧ (if i < S.r x then S.N x (5 * i + j) else S.N y (5 * (i - S.r x) + j)) < _
          rw [if_pos (by omega)]
          have := (o1 x hx).2.2.2.1 (5 * i + j) (by omega)
          omega
        have hJv : S.N x (5 * i + j) = JM (S.N x) (S.N y) (S.r x) i j := (if_pos (by omega)).symm
        rw [show (265 : Int) + 10 * (i : Int) + (j : Int) = ((265 + 10 * i + j : Nat) : Int) by omega]
        refine aw_aload_n dX6_over_66 (by rfl) (Or.inr ⟨_, rfl⟩) ?_
        refine aw_iload_n dX6_over_67 (by rfl) ?_
        refine aw_iload_n dX6_over_68 (by rfl) ?_
        refine aw_iload dX6_over_69 (by rfl) ?_
        refine aw_callv vX6_148 dX6_over_71 hmo (m_at3 g d (t := x) (i := i) (j := j) hmo hT hx (by omega) (by omega)) (by rfl) (by rfl) (by omega) (Nat.le_of_ble_eq_true rfl) ?_
        rintro _ _ _ _ _ ⟨rfl, rfl, rfl, rfl, rfl⟩ -
        refine q0 ?_
        refine aw_i2lZ dX6_over_74 (by have := (o1 x hx).2.2.2.1 (5 * i + j) (by omega); omega) ?_
        refine aw_goto (tgt := 94) dX6_over_75 (by decide) ?_
        rw [hJv]
        refine aw_callv vX6_83 dX6_over_94 hmo (m_becomes g d (c := 265 + 10 * i + j) (v := JM (S.N x) (S.N y) (S.r x) i j) ⟨_, _, _, _, hmo⟩ hM (by omega) hJ) (by rfl) (by rfl) (by omega) (Nat.le_of_ble_eq_true rfl) ?_
        rintro _ V1 _ _ _ ⟨rfl, rfl, rfl, hE1, rfl, hM1⟩ -
        refine q0 ?_
        refine aw_iincZ dX6_over_97 (by rfl) (by decide) ?_
        refine aw_goto (tgt := 33) dX6_over_100 (by decide) ?_
        rw [show ((j : Int) + 1) = ((j + 1 : Nat) : Int) by omega]
        refine aw_pk [4, 3, 0, 1, 2] (by rfl) ?_
        exact IH (j + 1) (by omega) ((hE1 mo (by unfold EN; omega)).trans hmo) hM1 (fun a ha => (hE1 a ha).trans (hV a ha)) (hI.up (by omega) (by omega) (by omega) rfl)
theorem ovm_out (d : Nat) {g : GX} {V0 : AH} {mo sz x y : Nat} {rk kn ar ac : Int} {zs : Nat → Int} {S : TSt} {Q : AQ} (hT0 : RTb g mo V0 S) (o1 : TOK S) (hx : x < 12) (hy : y < 12) (hcc : S.c x = S.c y) (hKK : ∀ {V : AH} {z : Nat → Int}, V mo = some (moO mo rk kn ar ac) → MN g mo V z → (∀ a, ¬ EN mo a → V a = V0 a) → MtI (JM (S.N x) (S.N y) (S.r x)) (S.c x) zs z (S.r x + S.r y) 0 → AW g mX6_over (d + 1) 109 [(3, .int (iZ (S.r x + S.r y : Nat))), (0, .ref mo), (1, .int (iZ x)), (2, .int (iZ y))] [] V sz Q) : ∀ (f i : Nat), i + f = S.r x + S.r y → ∀ {V : AH} {z : Nat → Int}, V mo = some (moO mo rk kn ar ac) → MN g mo V z → (∀ a, ¬ EN mo a → V a = V0 a) → MtI (JM (S.N x) (S.N y) (S.r x)) (S.c x) zs z i 0 → AW g mX6_over (d + 1) 13 [(3, .int (iZ i)), (0, .ref mo), (1, .int (iZ x)), (2, .int (iZ y))] [] V sz Q
  | 0, i, hf, V, z, hmo, hM, hV, hI => by
    obtain rfl : i = S.r x + S.r y := by omega
    have hT := hT0.kept (V' := V) (fun a h1 h2 => hV a (by unfold EN; omega))
    obtain ⟨TH, RR, CC, NN, HH, t1, t2, t3, t4, t5, t6⟩ := id hT
    have e1 := (t6 x hx).2.1
    have e2 := (t6 y hy).2.1
    have e3 := (t6 x hx).2.2.1
    have q1 := (o1 x hx).1
    have q2 := (o1 y hy).1
    have q3 := (o1 x hx).2.1
    refine aw_iload_n dX6_over_13 (by rfl) ?_
    refine aw_aload_n dX6_over_14 (by rfl) (Or.inr ⟨_, rfl⟩) ?_
    refine aw_get fX6_37 dX6_over_15 hmo (by rfl) ?_
    refine aw_iload_n dX6_over_18 (by rfl) ?_
    refine aw_ialdZ (x) dX6_over_19 t2 (by omega) (by omega) (by omega) ?_
    refine aw_aload_n dX6_over_20 (by rfl) (Or.inr ⟨_, rfl⟩) ?_
    refine aw_get fX6_37 dX6_over_21 hmo (by rfl) ?_
    refine aw_iload_n dX6_over_24 (by rfl) ?_
    refine aw_ialdZ (y) dX6_over_25 t2 (by omega) (by omega) (by omega) ?_
    refine aw_iaddZ dX6_over_26 ?_
    refine aw_icmp_geZ (tgt := 109) dX6_over_27 (by decide) (by omega) (by rw [e1, e2]; omega) (fun hc_27 => ?_) (fun hc_27 => ?_)
    · exact hKK hmo hM hV hI
    · rw [e1, e2] at hc_27
      exact absurd hc_27 (by omega)
  | f + 1, i, hf, V, z, hmo, hM, hV, hI => by
    have IH := fun i hi => @ovm_out d g V0 mo sz x y rk kn ar ac zs S Q hT0 o1 hx hy hcc hKK f i hi
    have hT := hT0.kept (V' := V) (fun a h1 h2 => hV a (by unfold EN; omega))
    obtain ⟨TH, RR, CC, NN, HH, t1, t2, t3, t4, t5, t6⟩ := id hT
    have e1 := (t6 x hx).2.1
    have e2 := (t6 y hy).2.1
    have e3 := (t6 x hx).2.2.1
    have q1 := (o1 x hx).1
    have q2 := (o1 y hy).1
    have q3 := (o1 x hx).2.1
    refine aw_iload_n dX6_over_13 (by rfl) ?_
    refine aw_aload_n dX6_over_14 (by rfl) (Or.inr ⟨_, rfl⟩) ?_
    refine aw_get fX6_37 dX6_over_15 hmo (by rfl) ?_
    refine aw_iload_n dX6_over_18 (by rfl) ?_
    refine aw_ialdZ (x) dX6_over_19 t2 (by omega) (by omega) (by omega) ?_
    refine aw_aload_n dX6_over_20 (by rfl) (Or.inr ⟨_, rfl⟩) ?_
    refine aw_get fX6_37 dX6_over_21 hmo (by rfl) ?_
    refine aw_iload_n dX6_over_24 (by rfl) ?_
    refine aw_ialdZ (y) dX6_over_25 t2 (by omega) (by omega) (by omega) ?_
    refine aw_iaddZ dX6_over_26 ?_
    refine aw_icmp_geZ (tgt := 109) dX6_over_27 (by decide) (by omega) (by rw [e1, e2]; omega) (fun hc_27 => ?_) (fun hc_27 => ?_)
    · rw [e1, e2] at hc_27
      exact absurd hc_27 (by omega)
    · refine aw_iconstZ dX6_over_30 ?_
      refine aw_istore dX6_over_31 (by decide) ?_
      refine aw_pk [4, 3, 0, 1, 2] (by rfl) ?_
      refine ovm_in d (i := i) hT0 o1 hx hy (by omega) hcc (fun {V1 z1} hmo1 hM1 hV1 hI1 => ?_) (S.c x) 0 (by omega) hmo hM hV hI
      refine aw_iincZ dX6_over_103 (by rfl) (by decide) ?_
      refine aw_goto (tgt := 13) dX6_over_106 (by decide) ?_
      rw [show ((i : Int) + 1) = ((i + 1 : Nat) : Int) by omega]
      refine aw_pk [3, 0, 1, 2] (by rfl) ?_
      exact IH (i + 1) (by omega) hmo1 hM1 hV1 hI1.out
/-- two tables alike, and what is said of them -/
def AlkR (S : TSt) (A : ASt) (t u no : Int) (R : Nat → Nat → Option Value → ASt → Prop) : Option Value → TSt → ASt → Prop := fun q S' A' => S' = S ∧ ((∃ x y : Nat, x < 12 ∧ y < 12 ∧ t = (x : Int) ∧ u = (y : Int) ∧ 0 < S.r x ∧ 0 < S.r y ∧ S.c x = S.c y ∧ R x y q A') ∨ (¬ (∃ n m : Nat, n < 12 ∧ m < 12 ∧ t = (n : Int) ∧ u = (m : Int) ∧ 0 < S.r n ∧ 0 < S.r m ∧ S.c n = S.c m) ∧ some (.int (iZ no)) = q ∧ A' = A))
def OvR (S : TSt) (x y : Nat) (q : Option Value) (A' : ASt) : Prop := some (.int (iZ 1)) = q ∧ AIs A' (S.r x + S.r y) (S.c x) (JM (S.N x) (S.N y) (S.r x))
theorem m_over (g : GX) (d : Nat) {V : AH} {mo sz : Nat} {zs : Nat → Int} {S : TSt} {A : ASt} {t u : Int} (hR : RX g mo V zs S A) (ht : R32 t) (hu : R32 u) : AMet g mX6_over (d + 2) [.ref mo, .int (iZ t), .int (iZ u)] V sz (RE g mo V sz (AlkR S A t u 0 (OvR S))) := by
  obtain ⟨⟨rk, kn, hmo⟩, ⟨F6, h6⟩, ⟨F7, h7⟩, -, -, -, hT, hM, -, o1, -⟩ := id hR
  have hcb : ∀ n, n < 12 → S.c n ≤ 5 := fun n hn => (o1 n hn).2.1
  refine AMet.of rfl rfl (Nat.le_of_ble_eq_true rfl) ?_
  show AW g mX6_over (d + 2) 0 [(0, .ref mo), (1, .int (iZ t)), (2, .int (iZ u))] [] V sz _
  refine aw_aload_n dX6_over_0 (by rfl) (Or.inr ⟨_, rfl⟩) ?_
  refine aw_iload_n dX6_over_1 (by rfl) ?_
  refine aw_iload_n dX6_over_2 (by rfl) ?_
  refine aw_callv vX6_186 dX6_over_3 hmo (m_areAlike g d (t := t) (u := u) hmo hT ht hu hcb) (by rfl) (by rfl) (by omega) (Nat.le_of_ble_eq_true rfl) ?_
  rintro _ _ _ _ _ ⟨rfl, rfl, rfl, rfl, rfl⟩ -
  refine q0 ?_
  refine aw_if_neZ (tgt := 11) dX6_over_6 (by decide) (alZ_R _ _ _) (fun hc_6 => ?_) (fun hc_6 => ?_)
  · obtain ⟨x, y, hx, hy, rfl, rfl, hrx, hry, hcc⟩ := alZ_yes hc_6
    have q1 := (o1 x hx).1
    have q2 := (o1 y hy).1
    have q3 := (o1 x hx).2.1
    refine aw_iconstZ dX6_over_11 ?_
    refine aw_istore_n dX6_over_12 (by decide) ?_
    refine aw_pk [3, 0, 1, 2] (by rfl) ?_
    refine ovm_out (d + 1) (x := x) (y := y) (zs := zs) hT o1 hx hy hcc (fun {V1 z1} hmo1 hM1 hV1 hI1 => ?_) (S.r x + S.r y) 0 (by omega) hmo hM (fun _ _ => rfl) MtI.nil
    obtain ⟨TH1, RR1, CC1, NN1, HH1, u1, u2, u3, u4, u5, u6⟩ := hT.kept (V' := V1) (fun a h1 h2 => hV1 a (by unfold EN; omega))
    refine aw_aload_n dX6_over_109 (by rfl) (Or.inr ⟨_, rfl⟩) ?_
    refine aw_aload_n dX6_over_110 (by rfl) (Or.inr ⟨_, rfl⟩) ?_
    refine aw_get fX6_37 dX6_over_111 hmo1 (by rfl) ?_
    refine aw_iload_n dX6_over_114 (by rfl) ?_
    refine aw_ialdZ (x) dX6_over_115 u2 (by omega) (by omega) (by omega) ?_
    refine aw_aload_n dX6_over_116 (by rfl) (Or.inr ⟨_, rfl⟩) ?_
    refine aw_get fX6_37 dX6_over_117 hmo1 (by rfl) ?_
    refine aw_iload_n dX6_over_120 (by rfl) ?_
    refine aw_ialdZ (y) dX6_over_121 u2 (by omega) (by omega) (by omega) ?_
    refine aw_iaddZ dX6_over_122 ?_
    refine aw_aload_n dX6_over_123 (by rfl) (Or.inr ⟨_, rfl⟩) ?_
    refine aw_get fX6_40 dX6_over_124 hmo1 (by rfl) ?_
    refine aw_iload_n dX6_over_127 (by rfl) ?_
    refine aw_ialdZ (x) dX6_over_128 u3 (by omega) (by omega) (by omega) ?_
    rw [(u6 x hx).2.1, (u6 y hy).2.1, (u6 x hx).2.2.1, show (S.r x : Int) + (S.r y : Int) = ((S.r x + S.r y : Nat) : Int) by omega]
    refine aw_callv vX6_189 dX6_over_129 hmo1 (m_tells g (d + 1) (h := S.r x + S.r y) (w := S.c x) hmo1 (by omega)) (by rfl) (by rfl) (by omega) (Nat.le_of_ble_eq_true rfl) ?_
    rintro _ V2 _ _ _ ⟨rfl, rfl, rfl, hE2, rfl, hmo2⟩ -
    refine q0 ?_
    refine aw_iconstZ dX6_over_132 ?_
    refine aw_iret dX6_over_133 rfl (by rfl) ?_
    exact ⟨rfl, rfl, rfl, fun a ha => (hE2 a (fun z => ha (by unfold EM; omega))).trans (hV1 a (fun z => ha (by unfold EN at z; unfold EM; omega))), z1, S, _, hR.tell (h := S.r x + S.r y) (w := S.c x) (B := JM (S.N x) (S.N y) (S.r x)) hmo2 ((hE2 _ (by omega)).trans ((hV1 _ (by unfold EN; omega)).trans h6)) ((hE2 _ (by omega)).trans ((hV1 _ (by unfold EN; omega)).trans h7)) (fun a h1 h2 => (hE2 a (by omega)).trans (hV1 a (by unfold EN; omega))) (hM1.kept (fun a ha => hE2 a (by unfold EN at ha; omega))) (fun i j hi hj => hI1.1 i j (by omega)) (by omega) q3, rfl, Or.inl ⟨x, y, hx, hy, rfl, rfl, hrx, hry, hcc, rfl, rfl, rfl, rfl, fun _ _ _ _ => rfl⟩⟩
  · have hno := alZ_no hc_6
    refine aw_iconstZ dX6_over_9 ?_
    refine aw_iret dX6_over_10 rfl (by rfl) ?_
    exact ⟨rfl, rfl, rfl, fun _ _ => rfl, zs, S, A, hR, rfl, Or.inr ⟨hno, rfl, rfl⟩⟩
