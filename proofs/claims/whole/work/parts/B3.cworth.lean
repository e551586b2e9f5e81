/-! ===== the class: worth, back ===== -/
theorem det_R {N : Nat → Int} {n : Nat} (hn : n ≤ 5) (hN : ∀ k, k < 25 → -1000 ≤ N k ∧ N k ≤ 1000) : ab (det n (TM N)) ≤ 120000000000000000 := by
  have h1 := det_ab (b := 1000) (by omega) (n := n) (A := TM N) (fun i j hi hj => by have := hN (5 * i + j) (by omega); show ab (N (5 * i + j)) ≤ 1000; unfold ab; omega)
  have h2 : ∀ n : Fin 6, fac n * 1000 ^ (n : Nat) ≤ 120000000000000000 := by decide +kernel
  exact Int.le_trans h1 (h2 ⟨n, by omega⟩)
def WorR (S : TSt) (A : ASt) (t : Int) : Option Value → TSt → ASt → Prop := fun q S' A' => S' = S ∧ ((∃ n : Nat, n < 12 ∧ t = (n : Int) ∧ 0 < S.r n ∧ S.r n = S.c n ∧ some (.int (iZ (Int.sign (det (S.c n) (TM (S.N n)))))) = q ∧ AIs A' 1 1 (fun _ _ => det (S.c n) (TM (S.N n)))) ∨ ((∀ n : Nat, n < 12 → t = (n : Int) → 0 < S.r n → S.r n ≠ S.c n) ∧ some (.int (iZ (-2))) = q ∧ A' = A))
def BckR (S : TSt) (A : ASt) (t : Int) : Option Value → TSt → ASt → Prop := fun q S' A' => S' = S ∧ ((∃ n : Nat, n < 12 ∧ t = (n : Int) ∧ 0 < S.r n ∧ S.r n = S.c n ∧ (det (S.c n) (TM (S.N n)) = 1 ∨ det (S.c n) (TM (S.N n)) = -1) ∧ some (.int (iZ 1)) = q ∧ AIs A' (S.c n) (S.c n) (bkM (S.c n) (TM (S.N n)))) ∨ ((∀ n : Nat, n < 12 → t = (n : Int) → 0 < S.r n → ¬ (S.r n = S.c n ∧ (det (S.c n) (TM (S.N n)) = 1 ∨ det (S.c n) (TM (S.N n)) = -1))) ∧ some (.int (iZ 0)) = q ∧ A' = A))
abbrev mX5_worth : MI := (yX5_worth, cX5_worth, 3, (some FieldType.int), noX)
theorem dX5_worth_0 : decode cX5_worth 0 = .ok (.aload_n 0, 1) := by decide +kernel
theorem dX5_worth_1 : decode cX5_worth 1 = .ok (.iload_n 1, 1) := by decide +kernel
theorem dX5_worth_2 : decode cX5_worth 2 = .ok (.invokevirtual 72, 3) := by decide +kernel
theorem dX5_worth_5 : decode cX5_worth 5 = .ok (.astore_n 2, 1) := by decide +kernel
theorem dX5_worth_6 : decode cX5_worth 6 = .ok (.aload_n 2, 1) := by decide +kernel
theorem dX5_worth_7 : decode cX5_worth 7 = .ok (.ifnull 14, 3) := by decide +kernel
theorem dX5_worth_10 : decode cX5_worth 10 = .ok (.aload_n 2, 1) := by decide +kernel
theorem dX5_worth_11 : decode cX5_worth 11 = .ok (.getfield 96, 3) := by decide +kernel
theorem dX5_worth_14 : decode cX5_worth 14 = .ok (.aload_n 2, 1) := by decide +kernel
theorem dX5_worth_15 : decode cX5_worth 15 = .ok (.getfield 79, 3) := by decide +kernel
theorem dX5_worth_18 : decode cX5_worth 18 = .ok (.if_icmp .eq 6, 3) := by decide +kernel
theorem dX5_worth_21 : decode cX5_worth 21 = .ok (.bipush (-2), 2) := by decide +kernel
theorem dX5_worth_23 : decode cX5_worth 23 = .ok (.ireturn, 1) := by decide +kernel
theorem dX5_worth_24 : decode cX5_worth 24 = .ok (.aload_n 0, 1) := by decide +kernel
theorem dX5_worth_25 : decode cX5_worth 25 = .ok (.getfield 27, 3) := by decide +kernel
theorem dX5_worth_28 : decode cX5_worth 28 = .ok (.getfield 141, 3) := by decide +kernel
theorem dX5_worth_31 : decode cX5_worth 31 = .ok (.iconst 0, 1) := by decide +kernel
theorem dX5_worth_32 : decode cX5_worth 32 = .ok (.aaload, 1) := by decide +kernel
theorem dX5_worth_33 : decode cX5_worth 33 = .ok (.getfield 151, 3) := by decide +kernel
theorem dX5_worth_36 : decode cX5_worth 36 = .ok (.iconst 0, 1) := by decide +kernel
theorem dX5_worth_37 : decode cX5_worth 37 = .ok (.aaload, 1) := by decide +kernel
theorem dX5_worth_38 : decode cX5_worth 38 = .ok (.aload_n 0, 1) := by decide +kernel
theorem dX5_worth_39 : decode cX5_worth 39 = .ok (.aload_n 2, 1) := by decide +kernel
theorem dX5_worth_40 : decode cX5_worth 40 = .ok (.iconst (-1), 1) := by decide +kernel
theorem dX5_worth_41 : decode cX5_worth 41 = .ok (.iconst (-1), 1) := by decide +kernel
theorem dX5_worth_42 : decode cX5_worth 42 = .ok (.invokevirtual 155, 3) := by decide +kernel
theorem dX5_worth_45 : decode cX5_worth 45 = .ok (.invokevirtual 159, 3) := by decide +kernel
theorem dX5_worth_48 : decode cX5_worth 48 = .ok (.aload_n 0, 1) := by decide +kernel
theorem dX5_worth_49 : decode cX5_worth 49 = .ok (.iconst 1, 1) := by decide +kernel
theorem dX5_worth_50 : decode cX5_worth 50 = .ok (.iconst 1, 1) := by decide +kernel
theorem dX5_worth_51 : decode cX5_worth 51 = .ok (.invokevirtual 148, 3) := by decide +kernel
theorem dX5_worth_54 : decode cX5_worth 54 = .ok (.aload_n 0, 1) := by decide +kernel
theorem dX5_worth_55 : decode cX5_worth 55 = .ok (.getfield 27, 3) := by decide +kernel
theorem dX5_worth_58 : decode cX5_worth 58 = .ok (.getfield 141, 3) := by decide +kernel
theorem dX5_worth_61 : decode cX5_worth 61 = .ok (.iconst 0, 1) := by decide +kernel
theorem dX5_worth_62 : decode cX5_worth 62 = .ok (.aaload, 1) := by decide +kernel
theorem dX5_worth_63 : decode cX5_worth 63 = .ok (.getfield 151, 3) := by decide +kernel
theorem dX5_worth_66 : decode cX5_worth 66 = .ok (.iconst 0, 1) := by decide +kernel
theorem dX5_worth_67 : decode cX5_worth 67 = .ok (.aaload, 1) := by decide +kernel
theorem dX5_worth_68 : decode cX5_worth 68 = .ok (.getfield 121, 3) := by decide +kernel
theorem dX5_worth_71 : decode cX5_worth 71 = .ok (.ireturn, 1) := by decide +kernel
set_option maxRecDepth 20000 in
theorem c_worth {g : GX} {b : Nat} {X : Nat → Prop} {V : AH} {sz : Nat} {Z : Nat → Int} {S : TSt} {A : ASt} (d : Nat) {t : Int} {P L : Nat → Nat} (hw0 : WG g (wsB b) (SAB b X) V sz Z P L) (h : CX g b X V Z S A) (ht : R32 t) : AMet g mX5_worth (d + 8) [.ref b, .int (iZ t)] V sz (CE g b X V sz L (WorR S A t)) := by
  obtain ⟨⟨hb, hb1⟩, hTb, hOk, -⟩ := id h
  obtain ⟨v, hv⟩ := FindV.ex S b t
  rcases hv with ⟨n, hn, rfl, hr, rfl⟩ | ⟨hno, rfl⟩
  · obtain ⟨hr5, hc5, -, qx, -⟩ := hOk n hn
    obtain ⟨x1, x2, x3⟩ := id (hTb n hn)
    obtain ⟨ldT, ρT, hGD, -⟩ := id h.2.2.2.2.1
    have hAO := h.2.2.2.2.2.1
    obtain ⟨tgd, tra, -, trow, tRS, tinj⟩ := id hGD
    have tgd : V (b + 17) = some (grO (b + 17 + 21) (b + 17 + 20) (b + 17 + 1) (b + 17 + 16) (b + 17 + 18) A.h A.w) := tgd
    have tra : V (b + 17 + 21) = some (aQ g 4 10 (fun i => some (ρT i))) := tra
    obtain ⟨tr1, tr2, -⟩ := trow _ (tRS 0 (show 0 < 10 by omega))
    have tr2 : V ((GT b).ka (ρT 0)) = some (aQ g 5 5 (fun j => some ((GT b).ga (ρT 0) j))) := tr2
    have hctw := ((gst_T b X).2.2.2.2.1 _ (tRS 0 (show 0 < 10 by omega)) 0 (show 0 < 5 by omega)).1.1
    have hct := am_T hGD (i := 0) (j := 0) (by omega) (by omega)
    have hdr := det_R hc5 qx
    refine AMet.of rfl rfl (Nat.le_of_ble_eq_true rfl) ?_
    show AW g mX5_worth (d + 8) 0 [(0, .ref b), (1, .int (iZ n))] [] V sz _
    refine aw_aload_n dX5_worth_0 (by rfl) (Or.inr ⟨_, rfl⟩) ?_
    refine aw_iload_n dX5_worth_1 (by rfl) ?_
    refine aw_callv vX5_72 dX5_worth_2 hb (t_find (d + 6) h ht (Or.inl ⟨n, hn, rfl, hr, rfl⟩)) (by rfl) (by rfl) (by omega) (Nat.le_of_ble_eq_true rfl) ?_
    rintro _ _ _ _ _ ⟨rfl, rfl, rfl, rfl, rfl⟩ -
    refine q0 ?_
    refine aw_astore_n dX5_worth_5 (by decide) (Or.inr ⟨_, rfl⟩) ?_
    refine aw_aload_n dX5_worth_6 (by rfl) (Or.inr ⟨_, rfl⟩) ?_
    refine aw_ifnull_r dX5_worth_7 ?_
    refine aw_aload_n dX5_worth_10 (by rfl) (Or.inr ⟨_, rfl⟩) ?_
    refine aw_get fX5_96 dX5_worth_11 x1 (by rfl) ?_
    refine aw_aload_n dX5_worth_14 (by rfl) (Or.inr ⟨_, rfl⟩) ?_
    refine aw_get fX5_79 dX5_worth_15 x1 (by rfl) ?_
    refine aw_icmp_eqZ (tgt := 24) dX5_worth_18 (by decide) (by omega) (by omega) (fun hc_18 => ?_) (fun hc_18 => ?_)
    · refine aw_aload_n dX5_worth_24 (by rfl) (Or.inr ⟨_, rfl⟩) ?_
      refine aw_get fX5_27 dX5_worth_25 hb (by rfl) ?_
      refine aw_get fX5_141 dX5_worth_28 tgd (by rfl) ?_
      refine aw_iconstZ dX5_worth_31 ?_
      refine aw_aaldZ (t0 := 4) (0) (by rfl) dX5_worth_32 tra (by omega) (by omega) (by omega) ?_
      refine aw_get fX5_151 dX5_worth_33 tr1 (by rfl) ?_
      refine aw_iconstZ dX5_worth_36 ?_
      refine aw_aaldZ (t0 := 5) (0) (by rfl) dX5_worth_37 tr2 (by omega) (by omega) (by omega) ?_
      refine aw_aload_n dX5_worth_38 (by rfl) (Or.inr ⟨_, rfl⟩) ?_
      refine aw_aload_n dX5_worth_39 (by rfl) (Or.inr ⟨_, rfl⟩) ?_
      refine aw_iconstZ dX5_worth_40 ?_
      refine aw_iconstZ dX5_worth_41 ?_
      refine aw_callv vX5_155 dX5_worth_42 hb (t_minorF (d + 6) h hn hr) (by rfl) (by rfl) (by omega) (Nat.le_of_ble_eq_true rfl) ?_
      rintro _ _ _ _ _ ⟨F1, rfl, rfl, rfl, rfl, rfl⟩ -
      refine q0 ?_
      refine WE.stp0 (WSE.sto hw0 (sab_t (show b + 645 ≤ b + 646 ∧ b + 646 < b + 683 by omega)) (⟨by omega, by omega⟩ : EB b (b + 646))) ?_
      have hw1 := hw0.sto (e := aJz g 32 F1) (sab_t (b := b) (X := X) (show b + 645 ≤ b + 646 ∧ b + 646 < b + 683 by omega))
      have hcx1 := h.mw (F := F1)
      obtain ⟨nt, Ft, hWt⟩ := hw1.raw hctw
      refine aw_callv vX5_159 dX5_worth_45 hWt.1 (w_put (d + 6) hw1 hctw (z := det (S.c n) (TM (S.N n))) (by unfold ab at hdr; omega)) (by rfl) (by rfl) (by omega) (Nat.le_of_ble_eq_true rfl) ?_
      rintro _ V2 sz2 mc2 ms2 ⟨rfl, P2, L2, hs2⟩ -
      refine WE.stp (WSE.of hs2) ?_
      have hk2 : ∀ a, SAB b X a → V2 a = AHu V (b + 646) (aJz g 32 F1) a := fun a ha => hs2.2.2.1 a ha
      have hGT1 : GD g (AHu V (b + 646) (aJz g 32 F1)) (b + 17 + 1) (GT b) A.h A.w ldT ρT := hGD.kept2 (fun a ha => AHu_ne (by have := (sab_gT (X := X) ha).2; omega))
      have hb2 := (hk2 b (Or.inl rfl)).trans hcx1.1.1
      have hGT2 : GD g V2 (b + 17 + 1) (GT b) A.h A.w ldT ρT := hGT1.kept2 (fun a ha => hk2 a (sab_gT ha).1)
      obtain ⟨hcx, hAI⟩ := hcx1.ans (V := V2) (Z := upF Z ((GT b).ga (ρT 0) 0) (det (S.c n) (TM (S.N n)))) (r := 1) (w := 1) (M := fun _ _ => det (S.c n) (TM (S.N n))) hGT1 hAO hk2 (fun q hq => upF_ne _ _ (by omega)) (by omega) (fun i j hi hj => by rw [show i = 0 by omega, show j = 0 by omega, upF_self])
      refine aw_aload_n dX5_worth_48 (by rfl) (Or.inr ⟨_, rfl⟩) ?_
      refine aw_iconstZ dX5_worth_49 ?_
      refine aw_iconstZ dX5_worth_50 ?_
      show AW _ _ _ _ _ (.int (iZ ((1 : Nat) : Int)) :: .int (iZ ((1 : Nat) : Int)) :: _) _ _ _
      refine aw_callv vX5_148 dX5_worth_51 hb2 (t_closeAnswer g (d + 6) (r := 1) (w := 1) hb2 hGT2 (by omega)) (by rfl) (by rfl) (by omega) (Nat.le_of_ble_eq_true rfl) ?_
      rintro _ _ _ _ _ ⟨rfl, rfl, rfl, rfl, rfl⟩ -
      refine WE.stp (cl_wse hs2.1) ?_
      have hw3 := (cl_wse (r := 1) (w := if 0 < 1 then 1 else 0) hs2.1).1
      obtain ⟨ld3, ρ3, hG3, hM3⟩ := hcx.2.2.2.2.1
      have hb3 := hcx.1.1
      obtain ⟨ugd, ura, -, urow, uRS, uinj⟩ := id hG3
      obtain ⟨ur1, ur2, -⟩ := urow _ (uRS 0 (show 0 < 10 by omega))
      have hcu := ((gst_T b X).2.2.2.2.1 _ (uRS 0 (show 0 < 10 by omega)) 0 (show 0 < 5 by omega)).1.1
      obtain ⟨nu, Fu, hWu⟩ := hw3.raw hcu
      have hz3 : upF Z ((GT b).ga (ρT 0) 0) (det (S.c n) (TM (S.N n))) ((GT b).ga (ρ3 0) 0) = det (S.c n) (TM (S.N n)) := hM3 0 0 (show 0 < 1 by omega) (show 0 < 1 by omega)
      refine aw_aload_n dX5_worth_54 (by rfl) (Or.inr ⟨_, rfl⟩) ?_
      refine aw_get fX5_27 dX5_worth_55 hb3 (by rfl) ?_
      refine aw_get fX5_141 dX5_worth_58 ugd (by rfl) ?_
      refine aw_iconstZ dX5_worth_61 ?_
      refine aw_aaldZ (t0 := 4) (0) (by rfl) dX5_worth_62 ura (by omega) (show 0 < 10 by omega) (show (10 : Nat) < 2147483648 by omega) ?_
      refine aw_get fX5_151 dX5_worth_63 ur1 (by rfl) ?_
      refine aw_iconstZ dX5_worth_66 ?_
      refine aw_aaldZ (t0 := 5) (0) (by rfl) dX5_worth_67 ur2 (by omega) (show 0 < 5 by omega) (show (5 : Nat) < 2147483648 by omega) ?_
      refine aw_get fX5_121 dX5_worth_68 hWu.1 (by rfl) ?_
      refine aw_iret dX5_worth_71 rfl (by rfl) ?_
      refine WE.ret hw3 ⟨S, _, hcx, rfl, Or.inl ⟨n, hn, rfl, hr, by omega, ?_, hAI⟩⟩
      rw [hz3]
    · refine aw_bipushZ dX5_worth_21 (by decide) ?_
      refine aw_iret dX5_worth_23 rfl (by rfl) ?_
      have hne : ∀ k : Nat, k < 12 → (n : Int) = (k : Int) → 0 < S.r k → S.r k ≠ S.c k := fun k _ e1 _ => by
        have e : n = k := by omega
        subst e
        omega
      exact WE.ret hw0 ⟨S, A, h, rfl, Or.inr ⟨hne, rfl, rfl⟩⟩
  · skip
    refine AMet.of rfl rfl (Nat.le_of_ble_eq_true rfl) ?_
    show AW g mX5_worth (d + 8) 0 [(0, .ref b), (1, .int (iZ t))] [] V sz _
    refine aw_aload_n dX5_worth_0 (by rfl) (Or.inr ⟨_, rfl⟩) ?_
    refine aw_iload_n dX5_worth_1 (by rfl) ?_
    refine aw_callv vX5_72 dX5_worth_2 hb (t_find (d + 6) h ht (Or.inr ⟨hno, rfl⟩)) (by rfl) (by rfl) (by omega) (Nat.le_of_ble_eq_true rfl) ?_
    rintro _ _ _ _ _ ⟨rfl, rfl, rfl, rfl, rfl⟩ -
    refine q0 ?_
    refine aw_astore_n dX5_worth_5 (by decide) (Or.inl rfl) ?_
    refine aw_aload_n dX5_worth_6 (by rfl) (Or.inl rfl) ?_
    refine aw_ifnull_n (tgt := 21) dX5_worth_7 (by decide) ?_
    refine aw_bipushZ dX5_worth_21 (by decide) ?_
    refine aw_iret dX5_worth_23 rfl (by rfl) ?_
    exact WE.ret hw0 ⟨S, A, h, rfl, Or.inr ⟨fun k hk e1 e2 => absurd (hno k hk e1) (by omega), rfl, rfl⟩⟩
abbrev mX5_isTurning : MI := (yX5_isTurning, cX5_isTurning, 2, (some FieldType.boolean), noX)
theorem dX5_isTurning_0 : decode cX5_isTurning 0 = .ok (.aload_n 1, 1) := by decide +kernel
theorem dX5_isTurning_1 : decode cX5_isTurning 1 = .ok (.getfield 96, 3) := by decide +kernel
theorem dX5_isTurning_4 : decode cX5_isTurning 4 = .ok (.aload_n 1, 1) := by decide +kernel
theorem dX5_isTurning_5 : decode cX5_isTurning 5 = .ok (.getfield 79, 3) := by decide +kernel
theorem dX5_isTurning_8 : decode cX5_isTurning 8 = .ok (.if_icmp .ne 22, 3) := by decide +kernel
theorem dX5_isTurning_11 : decode cX5_isTurning 11 = .ok (.aload_n 0, 1) := by decide +kernel
theorem dX5_isTurning_12 : decode cX5_isTurning 12 = .ok (.aload_n 1, 1) := by decide +kernel
theorem dX5_isTurning_13 : decode cX5_isTurning 13 = .ok (.iconst (-1), 1) := by decide +kernel
theorem dX5_isTurning_14 : decode cX5_isTurning 14 = .ok (.iconst (-1), 1) := by decide +kernel
theorem dX5_isTurning_15 : decode cX5_isTurning 15 = .ok (.invokevirtual 155, 3) := by decide +kernel
theorem dX5_isTurning_18 : decode cX5_isTurning 18 = .ok (.invokestatic 224, 3) := by decide +kernel
theorem dX5_isTurning_21 : decode cX5_isTurning 21 = .ok (.lconst 1, 1) := by decide +kernel
theorem dX5_isTurning_22 : decode cX5_isTurning 22 = .ok (.lcmp, 1) := by decide +kernel
theorem dX5_isTurning_23 : decode cX5_isTurning 23 = .ok (.ifCond .ne 7, 3) := by decide +kernel
theorem dX5_isTurning_26 : decode cX5_isTurning 26 = .ok (.iconst 1, 1) := by decide +kernel
theorem dX5_isTurning_27 : decode cX5_isTurning 27 = .ok (.goto 4, 3) := by decide +kernel
theorem dX5_isTurning_30 : decode cX5_isTurning 30 = .ok (.iconst 0, 1) := by decide +kernel
theorem dX5_isTurning_31 : decode cX5_isTurning 31 = .ok (.ireturn, 1) := by decide +kernel
/-- what isTurning answers -/
def IuQ (g : GX) (b : Nat) (V : AH) (sz : Nat) (q : Int) : AQ := fun r V' sz' mc ms => ∃ F : Nat → Int, some (.int (iZ q)) = r ∧ V' = AHu V (b + 646) (aJz g 32 F) ∧ sz' = sz ∧ mc = 0 ∧ ms = 0
/-- whether a table is TURNING -/
def TuP (S : TSt) (n : Nat) : Prop := S.r n = S.c n ∧ (det (S.c n) (TM (S.N n)) = 1 ∨ det (S.c n) (TM (S.N n)) = -1)
set_option maxRecDepth 20000 in
theorem t_isTurning {g : GX} {b : Nat} {X : Nat → Prop} {V : AH} {sz : Nat} {Z : Nat → Int} {S : TSt} {A : ASt} (d : Nat) {n : Nat} {q : Int} (h : CX g b X V Z S A) (hn : n < 12) (hr : 0 < S.r n) (hq : (q = 1 ∧ TuP S n) ∨ (q = 0 ∧ ¬ TuP S n)) : AMet g mX5_isTurning (d + 2) [.ref b, .ref (b + 647 + 3 * n)] V sz (IuQ g b V sz q) := by
  obtain ⟨⟨hb, hb1⟩, hTb, hOk, -⟩ := id h
  obtain ⟨hr5, hc5, -, qx, -⟩ := hOk n hn
  obtain ⟨x1, x2, x3⟩ := id (hTb n hn)
  obtain ⟨F0, hMi⟩ := h.2.2.2.2.2.2.2.2.2.2.2.2
  have hdr := det_R hc5 qx
  have hdr2 : -9223372036854775808 < det (S.c n) (TM (S.N n)) ∧ det (S.c n) (TM (S.N n)) < 9223372036854775808 := by unfold ab at hdr; omega
  unfold TuP at hq
  refine AMet.of rfl rfl (Nat.le_of_ble_eq_true rfl) ?_
  show AW g mX5_isTurning (d + 2) 0 [(0, .ref b), (1, .ref (b + 647 + 3 * n))] [] V sz _
  refine aw_aload_n dX5_isTurning_0 (by rfl) (Or.inr ⟨_, rfl⟩) ?_
  refine aw_get fX5_96 dX5_isTurning_1 x1 (by rfl) ?_
  refine aw_aload_n dX5_isTurning_4 (by rfl) (Or.inr ⟨_, rfl⟩) ?_
  refine aw_get fX5_79 dX5_isTurning_5 x1 (by rfl) ?_
  refine aw_icmp_neZ (tgt := 30) dX5_isTurning_8 (by decide) (by omega) (by omega) (fun hc_8 => ?_) (fun hc_8 => ?_)
  · refine aw_iconstZ dX5_isTurning_30 ?_
    refine aw_iret dX5_isTurning_31 rfl (by rfl) ?_
    first
    | (refine ⟨F1, ?_, rfl, rfl, rfl, rfl⟩
       rcases hq with ⟨rfl, h2⟩ | ⟨rfl, h2⟩
       · first | rfl | exact absurd h2.2 (by omega)
       · first | rfl | exact absurd ⟨by omega, by omega⟩ h2)
    | (refine ⟨F0, ?_, ahu_of (fun _ _ => rfl) hMi, rfl, rfl, rfl⟩
       rcases hq with ⟨rfl, h2⟩ | ⟨rfl, h2⟩
       · exact absurd h2.1 (by omega)
       · rfl)
  · refine aw_aload_n dX5_isTurning_11 (by rfl) (Or.inr ⟨_, rfl⟩) ?_
    refine aw_aload_n dX5_isTurning_12 (by rfl) (Or.inr ⟨_, rfl⟩) ?_
    refine aw_iconstZ dX5_isTurning_13 ?_
    refine aw_iconstZ dX5_isTurning_14 ?_
    refine aw_callv vX5_155 dX5_isTurning_15 hb (t_minorF d h hn hr) (by rfl) (by rfl) (by omega) (Nat.le_of_ble_eq_true rfl) ?_
    rintro _ _ _ _ _ ⟨F1, rfl, rfl, rfl, rfl, rfl⟩ -
    refine q0 ?_
    refine aw_absl sX5_224.2.2 dX5_isTurning_18 (by omega) (by omega) (Nat.le_of_ble_eq_true rfl) ?_
    refine aw_lconstZ (z := 1) dX5_isTurning_21 (by decide) ?_
    refine aw_lcmpZ dX5_isTurning_22 (by omega) (by omega) ?_
    refine aw_if_neZ (tgt := 30) dX5_isTurning_23 (by decide) (by unfold cmpZ; split <;> (try split) <;> omega) (fun hc_23 => ?_) (fun hc_23 => ?_)
    · have hcd : ¬ ((det (S.c n) (TM (S.N n))).natAbs : Int) = 1 := fun z => hc_23 (cmpZ_eq.mpr z)
      refine aw_iconstZ dX5_isTurning_30 ?_
      refine aw_iret dX5_isTurning_31 rfl (by rfl) ?_
      first
      | (refine ⟨F1, ?_, rfl, rfl, rfl, rfl⟩
         rcases hq with ⟨rfl, h2⟩ | ⟨rfl, h2⟩
         · first | rfl | exact absurd h2.2 (by omega)
         · first | rfl | exact absurd ⟨by omega, by omega⟩ h2)
      | (refine ⟨F0, ?_, ahu_of (fun _ _ => rfl) hMi, rfl, rfl, rfl⟩
         rcases hq with ⟨rfl, h2⟩ | ⟨rfl, h2⟩
         · exact absurd h2.1 (by omega)
         · rfl)
    · have hcd : ((det (S.c n) (TM (S.N n))).natAbs : Int) = 1 := cmpZ_eq.mp hc_23
      refine aw_iconstZ dX5_isTurning_26 ?_
      refine aw_goto (tgt := 31) dX5_isTurning_27 (by decide) ?_
      refine aw_iret dX5_isTurning_31 rfl (by rfl) ?_
      first
      | (refine ⟨F1, ?_, rfl, rfl, rfl, rfl⟩
         rcases hq with ⟨rfl, h2⟩ | ⟨rfl, h2⟩
         · first | rfl | exact absurd h2.2 (by omega)
         · first | rfl | exact absurd ⟨by omega, by omega⟩ h2)
      | (refine ⟨F0, ?_, ahu_of (fun _ _ => rfl) hMi, rfl, rfl, rfl⟩
         rcases hq with ⟨rfl, h2⟩ | ⟨rfl, h2⟩
         · exact absurd h2.1 (by omega)
         · rfl)
abbrev mX5_back : MI := (yX5_back, cX5_back, 3, (some FieldType.boolean), noX)
theorem dX5_back_0 : decode cX5_back 0 = .ok (.aload_n 0, 1) := by decide +kernel
theorem dX5_back_1 : decode cX5_back 1 = .ok (.iload_n 1, 1) := by decide +kernel
theorem dX5_back_2 : decode cX5_back 2 = .ok (.invokevirtual 72, 3) := by decide +kernel
theorem dX5_back_5 : decode cX5_back 5 = .ok (.astore_n 2, 1) := by decide +kernel
theorem dX5_back_6 : decode cX5_back 6 = .ok (.aload_n 2, 1) := by decide +kernel
theorem dX5_back_7 : decode cX5_back 7 = .ok (.ifnull 11, 3) := by decide +kernel
theorem dX5_back_10 : decode cX5_back 10 = .ok (.aload_n 0, 1) := by decide +kernel
theorem dX5_back_11 : decode cX5_back 11 = .ok (.aload_n 2, 1) := by decide +kernel
theorem dX5_back_12 : decode cX5_back 12 = .ok (.invokevirtual 181, 3) := by decide +kernel
theorem dX5_back_15 : decode cX5_back 15 = .ok (.ifCond .ne 5, 3) := by decide +kernel
theorem dX5_back_18 : decode cX5_back 18 = .ok (.iconst 0, 1) := by decide +kernel
theorem dX5_back_19 : decode cX5_back 19 = .ok (.ireturn, 1) := by decide +kernel
theorem dX5_back_20 : decode cX5_back 20 = .ok (.aload_n 0, 1) := by decide +kernel
theorem dX5_back_21 : decode cX5_back 21 = .ok (.getfield 35, 3) := by decide +kernel
theorem dX5_back_24 : decode cX5_back 24 = .ok (.aload_n 2, 1) := by decide +kernel
theorem dX5_back_25 : decode cX5_back 25 = .ok (.invokevirtual 175, 3) := by decide +kernel
theorem dX5_back_28 : decode cX5_back 28 = .ok (.aload_n 0, 1) := by decide +kernel
theorem dX5_back_29 : decode cX5_back 29 = .ok (.aload_n 0, 1) := by decide +kernel
theorem dX5_back_30 : decode cX5_back 30 = .ok (.getfield 35, 3) := by decide +kernel
theorem dX5_back_33 : decode cX5_back 33 = .ok (.iconst 0, 1) := by decide +kernel
theorem dX5_back_34 : decode cX5_back 34 = .ok (.aload_n 2, 1) := by decide +kernel
theorem dX5_back_35 : decode cX5_back 35 = .ok (.getfield 79, 3) := by decide +kernel
theorem dX5_back_38 : decode cX5_back 38 = .ok (.invokevirtual 163, 3) := by decide +kernel
theorem dX5_back_41 : decode cX5_back 41 = .ok (.pop, 1) := by decide +kernel
theorem dX5_back_42 : decode cX5_back 42 = .ok (.iconst 1, 1) := by decide +kernel
theorem dX5_back_43 : decode cX5_back 43 = .ok (.ireturn, 1) := by decide +kernel
set_option maxRecDepth 20000 in
theorem c_back {g : GX} {b : Nat} {X : Nat → Prop} {V : AH} {sz : Nat} {Z : Nat → Int} {S : TSt} {A : ASt} (d : Nat) {t : Int} {P L : Nat → Nat} (hw0 : WG g (wsB b) (SAB b X) V sz Z P L) (h : CX g b X V Z S A) (ht : R32 t) : AMet g mX5_back (d + 8) [.ref b, .int (iZ t)] V sz (CE g b X V sz L (BckR S A t)) := by
  obtain ⟨⟨hb, hb1⟩, hTb, hOk, -⟩ := id h
  obtain ⟨v, hv⟩ := FindV.ex S b t
  rcases hv with ⟨n, hn, rfl, hr, rfl⟩ | ⟨hno, rfl⟩
  · obtain ⟨hr5, hc5, -, qx, -⟩ := hOk n hn
    by_cases hT : TuP S n
    · skip
      refine AMet.of rfl rfl (Nat.le_of_ble_eq_true rfl) ?_
      show AW g mX5_back (d + 8) 0 [(0, .ref b), (1, .int (iZ n))] [] V sz _
      refine aw_aload_n dX5_back_0 (by rfl) (Or.inr ⟨_, rfl⟩) ?_
      refine aw_iload_n dX5_back_1 (by rfl) ?_
      refine aw_callv vX5_72 dX5_back_2 hb (t_find (d + 6) h ht (Or.inl ⟨n, hn, rfl, hr, rfl⟩)) (by rfl) (by rfl) (by omega) (Nat.le_of_ble_eq_true rfl) ?_
      rintro _ _ _ _ _ ⟨rfl, rfl, rfl, rfl, rfl⟩ -
      refine q0 ?_
      refine aw_astore_n dX5_back_5 (by decide) (Or.inr ⟨_, rfl⟩) ?_
      refine aw_aload_n dX5_back_6 (by rfl) (Or.inr ⟨_, rfl⟩) ?_
      refine aw_ifnull_r dX5_back_7 ?_
      refine aw_aload_n dX5_back_10 (by rfl) (Or.inr ⟨_, rfl⟩) ?_
      refine aw_aload_n dX5_back_11 (by rfl) (Or.inr ⟨_, rfl⟩) ?_
      refine aw_callv vX5_181 dX5_back_12 hb (t_isTurning (d + 5) (q := 1) h hn hr (Or.inl ⟨rfl, hT⟩)) (by rfl) (by rfl) (by omega) (Nat.le_of_ble_eq_true rfl) ?_
      rintro _ _ _ _ _ ⟨F1, rfl, rfl, rfl, rfl, rfl⟩ -
      refine q0 ?_
      refine WE.stp0 (WSE.sto hw0 (sab_t (show b + 645 ≤ b + 646 ∧ b + 646 < b + 683 by omega)) (⟨by omega, by omega⟩ : EB b (b + 646))) ?_
      have hw1 := hw0.sto (e := aJz g 32 F1) (sab_t (b := b) (X := X) (show b + 645 ≤ b + 646 ∧ b + 646 < b + 683 by omega))
      have hcx1 := h.mw (F := F1)
      have hb1' := hcx1.1.1
      obtain ⟨h0, w0, ld0, ρ0, hG0⟩ := hcx1.2.2.2.2.2.2.1
      have hgd0 : AHu V (b + 646) (aJz g 32 F1) (b + 159) = _ := hG0.1
      refine aw_if_neZ (tgt := 20) dX5_back_15 (by decide) (by decide) (fun hc_15 => ?_) (fun hc_15 => ?_)
      · refine aw_aload_n dX5_back_20 (by rfl) (Or.inr ⟨_, rfl⟩) ?_
        refine aw_get fX5_35 dX5_back_21 hb1' (by rfl) ?_
        refine aw_aload_n dX5_back_24 (by rfl) (Or.inr ⟨_, rfl⟩) ?_
        refine aw_callv vX5_175 dX5_back_25 hgd0 (c_reachM d hw1 hcx1 hn) (by rfl) (by rfl) (by omega) (Nat.le_of_ble_eq_true rfl) ?_
        rintro _ V2 sz2 mc2 ms2 ⟨Z2, P2, L2, ⟨rfl, hcx2, ⟨h2, ld2, l2, ρ2, hg2⟩, -⟩, hs2⟩ -
        refine WE.stp hs2 ?_
        obtain ⟨⟨hb2, -⟩, -, -, -, ⟨ldT, ρT, hGT, -⟩, hAo, -⟩ := id hcx2
        have hle := hg2.2.2.1.1.le_w
        obtain ⟨y1, y2, y3⟩ := id (hcx2.2.1 n hn)
        have hsq : S.c n + S.r n = S.c n + S.c n := by rw [hT.1]
        have hst2 := hg2.2.2.1
        have hsp2 := hg2.2.2.2
        rw [hsq] at hst2 hsp2
        rw [hT.1] at hsp2
        obtain ⟨eh, eB⟩ := back_stair hT.2 hst2 hsp2
        refine aw_aload_n dX5_back_28 (by rfl) (Or.inr ⟨_, rfl⟩) ?_
        refine aw_aload_n dX5_back_29 (by rfl) (Or.inr ⟨_, rfl⟩) ?_
        refine aw_get fX5_35 dX5_back_30 hb2 (by rfl) ?_
        refine aw_iconstZ dX5_back_33 ?_
        refine aw_aload_n dX5_back_34 (by rfl) (Or.inr ⟨_, rfl⟩) ?_
        refine aw_get fX5_79 dX5_back_35 y1 (by rfl) ?_
        refine aw_callv vX5_163 dX5_back_38 hb2 (t_tellRows (d + 3) (fr := 0) (fc := S.c n) hcx2 hGT hg2.1 (by omega) (hg2.sm (by omega) (hOk.tu hn)).2 hAo hs2.1) (by rfl) (by rfl) (by omega) (Nat.le_of_ble_eq_true rfl) ?_
        rintro r3 V3 sz3 mc3 ms3 ⟨Z3, P3, L3, ⟨S3, A3, hcx3, e3, hr3, hAI⟩, hs3⟩ -
        refine WE.stp hs3 ?_
        rw [e3] at hcx3
        subst hr3
        refine aw_pop dX5_back_41 rfl ?_
        refine aw_iconstZ dX5_back_42 ?_
        refine aw_iret dX5_back_43 rfl (by rfl) ?_
        refine WE.ret hs3.1 ⟨S, A3, hcx3, rfl, Or.inl ⟨n, hn, rfl, hr, hT.1, hT.2, rfl, ?_⟩⟩
        rw [Nat.sub_zero, show S.c n + S.r n - S.c n = S.c n by rw [hT.1]; omega, eh] at hAI
        exact hAI.cong (fun i j hi hj => by rw [Nat.zero_add]; exact eB i j hi hj)
      · exact absurd hc_15 (by decide)
    · skip
      refine AMet.of rfl rfl (Nat.le_of_ble_eq_true rfl) ?_
      show AW g mX5_back (d + 8) 0 [(0, .ref b), (1, .int (iZ n))] [] V sz _
      refine aw_aload_n dX5_back_0 (by rfl) (Or.inr ⟨_, rfl⟩) ?_
      refine aw_iload_n dX5_back_1 (by rfl) ?_
      refine aw_callv vX5_72 dX5_back_2 hb (t_find (d + 6) h ht (Or.inl ⟨n, hn, rfl, hr, rfl⟩)) (by rfl) (by rfl) (by omega) (Nat.le_of_ble_eq_true rfl) ?_
      rintro _ _ _ _ _ ⟨rfl, rfl, rfl, rfl, rfl⟩ -
      refine q0 ?_
      refine aw_astore_n dX5_back_5 (by decide) (Or.inr ⟨_, rfl⟩) ?_
      refine aw_aload_n dX5_back_6 (by rfl) (Or.inr ⟨_, rfl⟩) ?_
      refine aw_ifnull_r dX5_back_7 ?_
      refine aw_aload_n dX5_back_10 (by rfl) (Or.inr ⟨_, rfl⟩) ?_
      refine aw_aload_n dX5_back_11 (by rfl) (Or.inr ⟨_, rfl⟩) ?_
      refine aw_callv vX5_181 dX5_back_12 hb (t_isTurning (d + 5) (q := 0) h hn hr (Or.inr ⟨rfl, hT⟩)) (by rfl) (by rfl) (by omega) (Nat.le_of_ble_eq_true rfl) ?_
      rintro _ _ _ _ _ ⟨F1, rfl, rfl, rfl, rfl, rfl⟩ -
      refine q0 ?_
      refine WE.stp0 (WSE.sto hw0 (sab_t (show b + 645 ≤ b + 646 ∧ b + 646 < b + 683 by omega)) (⟨by omega, by omega⟩ : EB b (b + 646))) ?_
      have hw1 := hw0.sto (e := aJz g 32 F1) (sab_t (b := b) (X := X) (show b + 645 ≤ b + 646 ∧ b + 646 < b + 683 by omega))
      have hcx1 := h.mw (F := F1)
      have hb1' := hcx1.1.1
      obtain ⟨h0, w0, ld0, ρ0, hG0⟩ := hcx1.2.2.2.2.2.2.1
      have hgd0 : AHu V (b + 646) (aJz g 32 F1) (b + 159) = _ := hG0.1
      refine aw_if_neZ (tgt := 20) dX5_back_15 (by decide) (by decide) (fun hc_15 => ?_) (fun hc_15 => ?_)
      · exact absurd rfl hc_15
      · refine aw_iconstZ dX5_back_18 ?_
        refine aw_iret dX5_back_19 rfl (by rfl) ?_
        exact WE.ret hw1 ⟨S, A, hcx1, rfl, Or.inr ⟨fun k _ e1 _ => (by omega : n = k) ▸ hT, rfl, rfl⟩⟩
  · skip
    refine AMet.of rfl rfl (Nat.le_of_ble_eq_true rfl) ?_
    show AW g mX5_back (d + 8) 0 [(0, .ref b), (1, .int (iZ t))] [] V sz _
    refine aw_aload_n dX5_back_0 (by rfl) (Or.inr ⟨_, rfl⟩) ?_
    refine aw_iload_n dX5_back_1 (by rfl) ?_
    refine aw_callv vX5_72 dX5_back_2 hb (t_find (d + 6) h ht (Or.inr ⟨hno, rfl⟩)) (by rfl) (by rfl) (by omega) (Nat.le_of_ble_eq_true rfl) ?_
    rintro _ _ _ _ _ ⟨rfl, rfl, rfl, rfl, rfl⟩ -
    refine q0 ?_
    refine aw_astore_n dX5_back_5 (by decide) (Or.inl rfl) ?_
    refine aw_aload_n dX5_back_6 (by rfl) (Or.inl rfl) ?_
    refine aw_ifnull_n (tgt := 18) dX5_back_7 (by decide) ?_
    refine aw_iconstZ dX5_back_18 ?_
    refine aw_iret dX5_back_19 rfl (by rfl) ?_
    exact WE.ret hw0 ⟨S, A, h, rfl, Or.inr ⟨fun k hk e1 e2 => absurd (hno k hk e1) (by omega), rfl, rfl⟩⟩
