/-! ===== the class: about, whole ===== -/
def AbV (S : TSt) (n : Nat) (what : Int) (q : Option Value) : Prop := (what = 0 ∧ some (.int (iZ (S.r n : Nat))) = q) ∨ (what = 1 ∧ some (.int (iZ (S.c n : Nat))) = q) ∨ (what = 2 ∧ some (.int (iZ (Sg (S.H n) (S.r n)))) = q) ∨ (what = 3 ∧ ∃ k : Int, KndP S n k ∧ some (.int (iZ k)) = q) ∨ (what = 4 ∧ ∃ (h : Nat) (l : Nat → Nat) (B : Mat), StT S n h l B ∧ some (.int (iZ (h : Nat))) = q) ∨ (¬ (0 ≤ what ∧ what ≤ 4) ∧ some (.int (iZ (-1))) = q)
def AbtR (S : TSt) (A : ASt) (t what : Int) : Option Value → TSt → ASt → Prop := fun q S' A' => S' = S ∧ A' = A ∧ ((∃ n : Nat, n < 12 ∧ t = (n : Int) ∧ 0 < S.r n ∧ AbV S n what q) ∨ ((∀ n : Nat, n < 12 → t = (n : Int) → S.r n = 0) ∧ some (.int (iZ (-1))) = q))
abbrev mX5_about : MI := (yX5_about, cX5_about, 4, (some FieldType.int), noX)
theorem dX5_about_0 : decode cX5_about 0 = .ok (.aload_n 0, 1) := by decide +kernel
theorem dX5_about_1 : decode cX5_about 1 = .ok (.iload_n 1, 1) := by decide +kernel
theorem dX5_about_2 : decode cX5_about 2 = .ok (.invokevirtual 72, 3) := by decide +kernel
theorem dX5_about_5 : decode cX5_about 5 = .ok (.astore_n 3, 1) := by decide +kernel
theorem dX5_about_6 : decode cX5_about 6 = .ok (.aload_n 3, 1) := by decide +kernel
theorem dX5_about_7 : decode cX5_about 7 = .ok (.ifnonnull 5, 3) := by decide +kernel
theorem dX5_about_10 : decode cX5_about 10 = .ok (.iconst (-1), 1) := by decide +kernel
theorem dX5_about_11 : decode cX5_about 11 = .ok (.ireturn, 1) := by decide +kernel
theorem dX5_about_12 : decode cX5_about 12 = .ok (.iload_n 2, 1) := by decide +kernel
theorem dX5_about_13 : decode cX5_about 13 = .ok (.tableswitch 84 0 4 #[35, 40, 45, 50, 68], 35) := by decide +kernel
theorem dX5_about_48 : decode cX5_about 48 = .ok (.aload_n 3, 1) := by decide +kernel
theorem dX5_about_49 : decode cX5_about 49 = .ok (.getfield 96, 3) := by decide +kernel
theorem dX5_about_52 : decode cX5_about 52 = .ok (.ireturn, 1) := by decide +kernel
theorem dX5_about_53 : decode cX5_about 53 = .ok (.aload_n 3, 1) := by decide +kernel
theorem dX5_about_54 : decode cX5_about 54 = .ok (.getfield 79, 3) := by decide +kernel
theorem dX5_about_57 : decode cX5_about 57 = .ok (.ireturn, 1) := by decide +kernel
theorem dX5_about_58 : decode cX5_about 58 = .ok (.aload_n 3, 1) := by decide +kernel
theorem dX5_about_59 : decode cX5_about 59 = .ok (.invokevirtual 99, 3) := by decide +kernel
theorem dX5_about_62 : decode cX5_about 62 = .ok (.ireturn, 1) := by decide +kernel
theorem dX5_about_63 : decode cX5_about 63 = .ok (.aload_n 0, 1) := by decide +kernel
theorem dX5_about_64 : decode cX5_about 64 = .ok (.getfield 35, 3) := by decide +kernel
theorem dX5_about_67 : decode cX5_about 67 = .ok (.aload_n 3, 1) := by decide +kernel
theorem dX5_about_68 : decode cX5_about 68 = .ok (.invokevirtual 103, 3) := by decide +kernel
theorem dX5_about_71 : decode cX5_about 71 = .ok (.aload_n 0, 1) := by decide +kernel
theorem dX5_about_72 : decode cX5_about 72 = .ok (.aload_n 3, 1) := by decide +kernel
theorem dX5_about_73 : decode cX5_about 73 = .ok (.aload_n 0, 1) := by decide +kernel
theorem dX5_about_74 : decode cX5_about 74 = .ok (.getfield 35, 3) := by decide +kernel
theorem dX5_about_77 : decode cX5_about 77 = .ok (.invokevirtual 107, 3) := by decide +kernel
theorem dX5_about_80 : decode cX5_about 80 = .ok (.ireturn, 1) := by decide +kernel
theorem dX5_about_81 : decode cX5_about 81 = .ok (.aload_n 0, 1) := by decide +kernel
theorem dX5_about_82 : decode cX5_about 82 = .ok (.getfield 35, 3) := by decide +kernel
theorem dX5_about_85 : decode cX5_about 85 = .ok (.aload_n 3, 1) := by decide +kernel
theorem dX5_about_86 : decode cX5_about 86 = .ok (.invokevirtual 103, 3) := by decide +kernel
theorem dX5_about_89 : decode cX5_about 89 = .ok (.aload_n 0, 1) := by decide +kernel
theorem dX5_about_90 : decode cX5_about 90 = .ok (.getfield 35, 3) := by decide +kernel
theorem dX5_about_93 : decode cX5_about 93 = .ok (.getfield 111, 3) := by decide +kernel
theorem dX5_about_96 : decode cX5_about 96 = .ok (.ireturn, 1) := by decide +kernel
theorem dX5_about_97 : decode cX5_about 97 = .ok (.iconst (-1), 1) := by decide +kernel
theorem dX5_about_98 : decode cX5_about 98 = .ok (.ireturn, 1) := by decide +kernel
set_option maxRecDepth 20000 in
theorem c_about {g : GX} {b : Nat} {X : Nat → Prop} {V : AH} {sz : Nat} {Z : Nat → Int} {S : TSt} {A : ASt} (d : Nat) {t what : Int} {P L : Nat → Nat} (hw0 : WG g (wsB b) (SAB b X) V sz Z P L) (h : CX g b X V Z S A) (ht : R32 t) (hwh : R32 what) : AMet g mX5_about (d + 8) [.ref b, .int (iZ t), .int (iZ what)] V sz (CE g b X V sz L (AbtR S A t what)) := by
  obtain ⟨⟨hb, hb1⟩, hTb, hOk, -⟩ := id h
  obtain ⟨v, hv⟩ := FindV.ex S b t
  rcases hv with ⟨n, hn, rfl, hr, rfl⟩ | ⟨hno, rfl⟩
  · obtain ⟨hr5, hc5, -, qx, hH, -⟩ := hOk n hn
    obtain ⟨x1, x2, x3⟩ := id (hTb n hn)
    obtain ⟨h0, w0, ld0, ρ0, hG0⟩ := h.2.2.2.2.2.2.1
    have hgd0 : V (b + 159) = _ := hG0.1
    rcases (by omega : what = 0 ∨ what = 1 ∨ what = 2 ∨ what = 3 ∨ what = 4 ∨ ¬ (0 ≤ what ∧ what ≤ 4)) with rfl | rfl | rfl | rfl | rfl | hout
    · skip
      refine AMet.of rfl rfl (Nat.le_of_ble_eq_true rfl) ?_
      show AW g mX5_about (d + 8) 0 [(0, .ref b), (1, .int (iZ n)), (2, .int (iZ 0))] [] V sz _
      refine aw_aload_n dX5_about_0 (by rfl) (Or.inr ⟨_, rfl⟩) ?_
      refine aw_iload_n dX5_about_1 (by rfl) ?_
      refine aw_callv vX5_72 dX5_about_2 hb (t_find (d + 6) h ht (Or.inl ⟨n, hn, rfl, hr, rfl⟩)) (by rfl) (by rfl) (by omega) (Nat.le_of_ble_eq_true rfl) ?_
      rintro _ _ _ _ _ ⟨rfl, rfl, rfl, rfl, rfl⟩ -
      refine q0 ?_
      refine aw_astore_n dX5_about_5 (by decide) (Or.inr ⟨_, rfl⟩) ?_
      refine aw_aload_n dX5_about_6 (by rfl) (Or.inr ⟨_, rfl⟩) ?_
      refine aw_ifnonnull_r (tgt := 12) dX5_about_7 (by decide) ?_
      refine aw_iload_n dX5_about_12 (by rfl) ?_
      refine aw_tableIn (off := 35) (tgt := 48) dX5_about_13 (by decide) (by decide) (by decide) (by decide) ?_
      refine aw_aload_n dX5_about_48 (by rfl) (Or.inr ⟨_, rfl⟩) ?_
      refine aw_get fX5_96 dX5_about_49 x1 (by rfl) ?_
      refine aw_iret dX5_about_52 rfl (by rfl) ?_
      exact WE.ret hw0 ⟨S, A, h, rfl, rfl, Or.inl ⟨n, hn, rfl, hr, Or.inl ⟨rfl, rfl⟩⟩⟩
    · skip
      refine AMet.of rfl rfl (Nat.le_of_ble_eq_true rfl) ?_
      show AW g mX5_about (d + 8) 0 [(0, .ref b), (1, .int (iZ n)), (2, .int (iZ 1))] [] V sz _
      refine aw_aload_n dX5_about_0 (by rfl) (Or.inr ⟨_, rfl⟩) ?_
      refine aw_iload_n dX5_about_1 (by rfl) ?_
      refine aw_callv vX5_72 dX5_about_2 hb (t_find (d + 6) h ht (Or.inl ⟨n, hn, rfl, hr, rfl⟩)) (by rfl) (by rfl) (by omega) (Nat.le_of_ble_eq_true rfl) ?_
      rintro _ _ _ _ _ ⟨rfl, rfl, rfl, rfl, rfl⟩ -
      refine q0 ?_
      refine aw_astore_n dX5_about_5 (by decide) (Or.inr ⟨_, rfl⟩) ?_
      refine aw_aload_n dX5_about_6 (by rfl) (Or.inr ⟨_, rfl⟩) ?_
      refine aw_ifnonnull_r (tgt := 12) dX5_about_7 (by decide) ?_
      refine aw_iload_n dX5_about_12 (by rfl) ?_
      refine aw_tableIn (off := 40) (tgt := 53) dX5_about_13 (by decide) (by decide) (by decide) (by decide) ?_
      refine aw_aload_n dX5_about_53 (by rfl) (Or.inr ⟨_, rfl⟩) ?_
      refine aw_get fX5_79 dX5_about_54 x1 (by rfl) ?_
      refine aw_iret dX5_about_57 rfl (by rfl) ?_
      exact WE.ret hw0 ⟨S, A, h, rfl, rfl, Or.inl ⟨n, hn, rfl, hr, Or.inr (Or.inl ⟨rfl, rfl⟩)⟩⟩
    · skip
      refine AMet.of rfl rfl (Nat.le_of_ble_eq_true rfl) ?_
      show AW g mX5_about (d + 8) 0 [(0, .ref b), (1, .int (iZ n)), (2, .int (iZ 2))] [] V sz _
      refine aw_aload_n dX5_about_0 (by rfl) (Or.inr ⟨_, rfl⟩) ?_
      refine aw_iload_n dX5_about_1 (by rfl) ?_
      refine aw_callv vX5_72 dX5_about_2 hb (t_find (d + 6) h ht (Or.inl ⟨n, hn, rfl, hr, rfl⟩)) (by rfl) (by rfl) (by omega) (Nat.le_of_ble_eq_true rfl) ?_
      rintro _ _ _ _ _ ⟨rfl, rfl, rfl, rfl, rfl⟩ -
      refine q0 ?_
      refine aw_astore_n dX5_about_5 (by decide) (Or.inr ⟨_, rfl⟩) ?_
      refine aw_aload_n dX5_about_6 (by rfl) (Or.inr ⟨_, rfl⟩) ?_
      refine aw_ifnonnull_r (tgt := 12) dX5_about_7 (by decide) ?_
      refine aw_iload_n dX5_about_12 (by rfl) ?_
      refine aw_tableIn (off := 45) (tgt := 58) dX5_about_13 (by decide) (by decide) (by decide) (by decide) ?_
      refine aw_aload_n dX5_about_58 (by rfl) (Or.inr ⟨_, rfl⟩) ?_
      refine aw_callv vX5_99 dX5_about_59 x1 (t_leavesThere g (d + 7) (hTb n hn) hr5 hH) (by rfl) (by rfl) (by omega) (Nat.le_of_ble_eq_true rfl) ?_
      rintro _ _ _ _ _ ⟨rfl, rfl, rfl, rfl, rfl⟩ -
      refine q0 ?_
      refine aw_iret dX5_about_62 rfl (by rfl) ?_
      exact WE.ret hw0 ⟨S, A, h, rfl, rfl, Or.inl ⟨n, hn, rfl, hr, Or.inr (Or.inr (Or.inl ⟨rfl, rfl⟩))⟩⟩
    · skip
      refine AMet.of rfl rfl (Nat.le_of_ble_eq_true rfl) ?_
      show AW g mX5_about (d + 8) 0 [(0, .ref b), (1, .int (iZ n)), (2, .int (iZ 3))] [] V sz _
      refine aw_aload_n dX5_about_0 (by rfl) (Or.inr ⟨_, rfl⟩) ?_
      refine aw_iload_n dX5_about_1 (by rfl) ?_
      refine aw_callv vX5_72 dX5_about_2 hb (t_find (d + 6) h ht (Or.inl ⟨n, hn, rfl, hr, rfl⟩)) (by rfl) (by rfl) (by omega) (Nat.le_of_ble_eq_true rfl) ?_
      rintro _ _ _ _ _ ⟨rfl, rfl, rfl, rfl, rfl⟩ -
      refine q0 ?_
      refine aw_astore_n dX5_about_5 (by decide) (Or.inr ⟨_, rfl⟩) ?_
      refine aw_aload_n dX5_about_6 (by rfl) (Or.inr ⟨_, rfl⟩) ?_
      refine aw_ifnonnull_r (tgt := 12) dX5_about_7 (by decide) ?_
      refine aw_iload_n dX5_about_12 (by rfl) ?_
      refine aw_tableIn (off := 50) (tgt := 63) dX5_about_13 (by decide) (by decide) (by decide) (by decide) ?_
      refine aw_aload_n dX5_about_63 (by rfl) (Or.inr ⟨_, rfl⟩) ?_
      refine aw_get fX5_35 dX5_about_64 hb (by rfl) ?_
      refine aw_aload_n dX5_about_67 (by rfl) (Or.inr ⟨_, rfl⟩) ?_
      refine aw_callv vX5_103 dX5_about_68 hgd0 (c_reachW d hw0 h hn) (by rfl) (by rfl) (by omega) (Nat.le_of_ble_eq_true rfl) ?_
      rintro _ V1 sz1 mc1 ms1 ⟨Z1, P1, L1, ⟨rfl, hcx1, ⟨h1, ld1, l1, ρ1, hg1⟩, -⟩, hs1⟩ -
      refine WE.stp hs1 ?_
      have hb1' := hcx1.1.1
      have wgd1 : V1 (b + 159) = some (grO (b + 159 + 21) (b + 159 + 20) (b + 159 + 1) (b + 159 + 16) (b + 159 + 18) h1 (S.c n)) := hg1.1.1
      refine aw_aload_n dX5_about_71 (by rfl) (Or.inr ⟨_, rfl⟩) ?_
      refine aw_aload_n dX5_about_72 (by rfl) (Or.inr ⟨_, rfl⟩) ?_
      refine aw_aload_n dX5_about_73 (by rfl) (Or.inr ⟨_, rfl⟩) ?_
      refine aw_get fX5_35 dX5_about_74 hb1' (by rfl) ?_
      refine aw_callv vX5_107 dX5_about_77 hb1' (t_kindOf (d + 4) hs1.1 hcx1 hn hr hg1) (by rfl) (by rfl) (by omega) (Nat.le_of_ble_eq_true rfl) ?_
      rintro _ _ _ _ _ ⟨F2, k2, rfl, hk2, rfl, rfl, rfl, rfl⟩ -
      refine q0 ?_
      refine WE.stp0 (WSE.sto hs1.1 (sab_t (show b + 645 ≤ b + 646 ∧ b + 646 < b + 683 by omega)) (⟨by omega, by omega⟩ : EB b (b + 646))) ?_
      have hw2 := hs1.1.sto (e := aJz g 32 F2) (sab_t (b := b) (X := X) (show b + 645 ≤ b + 646 ∧ b + 646 < b + 683 by omega))
      have hcx2 := hcx1.mw (F := F2)
      refine aw_iret dX5_about_80 rfl (by rfl) ?_
      exact WE.ret hw2 ⟨S, A, hcx2, rfl, rfl, Or.inl ⟨n, hn, rfl, hr, Or.inr (Or.inr (Or.inr (Or.inl ⟨rfl, k2, hk2, rfl⟩)))⟩⟩
    · skip
      refine AMet.of rfl rfl (Nat.le_of_ble_eq_true rfl) ?_
      show AW g mX5_about (d + 8) 0 [(0, .ref b), (1, .int (iZ n)), (2, .int (iZ 4))] [] V sz _
      refine aw_aload_n dX5_about_0 (by rfl) (Or.inr ⟨_, rfl⟩) ?_
      refine aw_iload_n dX5_about_1 (by rfl) ?_
      refine aw_callv vX5_72 dX5_about_2 hb (t_find (d + 6) h ht (Or.inl ⟨n, hn, rfl, hr, rfl⟩)) (by rfl) (by rfl) (by omega) (Nat.le_of_ble_eq_true rfl) ?_
      rintro _ _ _ _ _ ⟨rfl, rfl, rfl, rfl, rfl⟩ -
      refine q0 ?_
      refine aw_astore_n dX5_about_5 (by decide) (Or.inr ⟨_, rfl⟩) ?_
      refine aw_aload_n dX5_about_6 (by rfl) (Or.inr ⟨_, rfl⟩) ?_
      refine aw_ifnonnull_r (tgt := 12) dX5_about_7 (by decide) ?_
      refine aw_iload_n dX5_about_12 (by rfl) ?_
      refine aw_tableIn (off := 68) (tgt := 81) dX5_about_13 (by decide) (by decide) (by decide) (by decide) ?_
      refine aw_aload_n dX5_about_81 (by rfl) (Or.inr ⟨_, rfl⟩) ?_
      refine aw_get fX5_35 dX5_about_82 hb (by rfl) ?_
      refine aw_aload_n dX5_about_85 (by rfl) (Or.inr ⟨_, rfl⟩) ?_
      refine aw_callv vX5_103 dX5_about_86 hgd0 (c_reachW d hw0 h hn) (by rfl) (by rfl) (by omega) (Nat.le_of_ble_eq_true rfl) ?_
      rintro _ V1 sz1 mc1 ms1 ⟨Z1, P1, L1, ⟨rfl, hcx1, ⟨h1, ld1, l1, ρ1, hg1⟩, -⟩, hs1⟩ -
      refine WE.stp hs1 ?_
      have hb1' := hcx1.1.1
      have wgd1 : V1 (b + 159) = some (grO (b + 159 + 21) (b + 159 + 20) (b + 159 + 1) (b + 159 + 16) (b + 159 + 18) h1 (S.c n)) := hg1.1.1
      refine aw_aload_n dX5_about_89 (by rfl) (Or.inr ⟨_, rfl⟩) ?_
      refine aw_get fX5_35 dX5_about_90 hb1' (by rfl) ?_
      refine aw_get fX5_111 dX5_about_93 wgd1 (by rfl) ?_
      refine aw_iret dX5_about_96 rfl (by rfl) ?_
      exact WE.ret hs1.1 ⟨S, A, hcx1, rfl, rfl, Or.inl ⟨n, hn, rfl, hr, Or.inr (Or.inr (Or.inr (Or.inr (Or.inl ⟨rfl, h1, l1, _, ⟨hg1.2.2.1, hg1.2.2.2⟩, rfl⟩))))⟩⟩
    · skip
      refine AMet.of rfl rfl (Nat.le_of_ble_eq_true rfl) ?_
      show AW g mX5_about (d + 8) 0 [(0, .ref b), (1, .int (iZ n)), (2, .int (iZ what))] [] V sz _
      refine aw_aload_n dX5_about_0 (by rfl) (Or.inr ⟨_, rfl⟩) ?_
      refine aw_iload_n dX5_about_1 (by rfl) ?_
      refine aw_callv vX5_72 dX5_about_2 hb (t_find (d + 6) h ht (Or.inl ⟨n, hn, rfl, hr, rfl⟩)) (by rfl) (by rfl) (by omega) (Nat.le_of_ble_eq_true rfl) ?_
      rintro _ _ _ _ _ ⟨rfl, rfl, rfl, rfl, rfl⟩ -
      refine q0 ?_
      refine aw_astore_n dX5_about_5 (by decide) (Or.inr ⟨_, rfl⟩) ?_
      refine aw_aload_n dX5_about_6 (by rfl) (Or.inr ⟨_, rfl⟩) ?_
      refine aw_ifnonnull_r (tgt := 12) dX5_about_7 (by decide) ?_
      refine aw_iload_n dX5_about_12 (by rfl) ?_
      refine aw_tableOut (tgt := 97) dX5_about_13 (by rw [iZ_toInt hwh]; omega) (by decide) ?_
      refine aw_iconstZ dX5_about_97 ?_
      refine aw_iret dX5_about_98 rfl (by rfl) ?_
      exact WE.ret hw0 ⟨S, A, h, rfl, rfl, Or.inl ⟨n, hn, rfl, hr, Or.inr (Or.inr (Or.inr (Or.inr (Or.inr ⟨hout, rfl⟩))))⟩⟩
  · skip
    refine AMet.of rfl rfl (Nat.le_of_ble_eq_true rfl) ?_
    show AW g mX5_about (d + 8) 0 [(0, .ref b), (1, .int (iZ t)), (2, .int (iZ what))] [] V sz _
    refine aw_aload_n dX5_about_0 (by rfl) (Or.inr ⟨_, rfl⟩) ?_
    refine aw_iload_n dX5_about_1 (by rfl) ?_
    refine aw_callv vX5_72 dX5_about_2 hb (t_find (d + 6) h ht (Or.inr ⟨hno, rfl⟩)) (by rfl) (by rfl) (by omega) (Nat.le_of_ble_eq_true rfl) ?_
    rintro _ _ _ _ _ ⟨rfl, rfl, rfl, rfl, rfl⟩ -
    refine q0 ?_
    refine aw_astore_n dX5_about_5 (by decide) (Or.inl rfl) ?_
    refine aw_aload_n dX5_about_6 (by rfl) (Or.inl rfl) ?_
    refine aw_ifnonnull_n dX5_about_7 ?_
    refine aw_iconstZ dX5_about_10 ?_
    refine aw_iret dX5_about_11 rfl (by rfl) ?_
    exact WE.ret hw0 ⟨S, A, h, rfl, rfl, Or.inr ⟨hno, rfl⟩⟩
