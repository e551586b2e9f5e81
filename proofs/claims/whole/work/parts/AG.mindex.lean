/-! ===== the reference: leadsOf, index ===== -/
theorem pd_bd {f : Nat → Int} {K : Int} (hK : 1 ≤ K) : ∀ {n : Nat}, (∀ i, i < n → 0 < f i ∧ f i ≤ K) → 0 < Pd f n ∧ Pd f n ≤ K ^ n
  | 0, _ => by show (0 : Int) < 1 ∧ (1 : Int) ≤ K ^ 0; rw [Int.pow_zero]; omega
  | n + 1, h => by
    obtain ⟨h1, h2⟩ := pd_bd hK (fun i hi => h i (Nat.lt_succ_of_lt hi))
    obtain ⟨h3, h4⟩ := h n (Nat.lt_succ_self n)
    show 0 < Pd f n * f n ∧ Pd f n * f n ≤ K ^ (n + 1)
    rw [Int.pow_succ]
    exact ⟨Int.mul_pos h1 h3, Int.mul_le_mul h2 h4 (by omega) (by omega)⟩
theorem ld_sm : SmM ((10 * TM10) ^ 5) := by
  unfold SmM
  decide +kernel
abbrev mX6_leadsOf : MI := (yX6_leadsOf, cX6_leadsOf, 3, none, noX)
theorem dX6_leadsOf_0 : decode cX6_leadsOf 0 = .ok (.aload_n 0, 1) := by decide +kernel
theorem dX6_leadsOf_1 : decode cX6_leadsOf 1 = .ok (.iload_n 1, 1) := by decide +kernel
theorem dX6_leadsOf_2 : decode cX6_leadsOf 2 = .ok (.lconst 1, 1) := by decide +kernel
theorem dX6_leadsOf_3 : decode cX6_leadsOf 3 = .ok (.invokevirtual 83, 3) := by decide +kernel
theorem dX6_leadsOf_6 : decode cX6_leadsOf 6 = .ok (.iconst 0, 1) := by decide +kernel
theorem dX6_leadsOf_7 : decode cX6_leadsOf 7 = .ok (.istore_n 2, 1) := by decide +kernel
theorem dX6_leadsOf_8 : decode cX6_leadsOf 8 = .ok (.iload_n 2, 1) := by decide +kernel
theorem dX6_leadsOf_9 : decode cX6_leadsOf 9 = .ok (.aload_n 0, 1) := by decide +kernel
theorem dX6_leadsOf_10 : decode cX6_leadsOf 10 = .ok (.getfield 117, 3) := by decide +kernel
theorem dX6_leadsOf_13 : decode cX6_leadsOf 13 = .ok (.if_icmp .ge 26, 3) := by decide +kernel
theorem dX6_leadsOf_16 : decode cX6_leadsOf 16 = .ok (.aload_n 0, 1) := by decide +kernel
theorem dX6_leadsOf_17 : decode cX6_leadsOf 17 = .ok (.iload_n 1, 1) := by decide +kernel
theorem dX6_leadsOf_18 : decode cX6_leadsOf 18 = .ok (.bipush 15, 2) := by decide +kernel
theorem dX6_leadsOf_20 : decode cX6_leadsOf 20 = .ok (.iload_n 2, 1) := by decide +kernel
theorem dX6_leadsOf_21 : decode cX6_leadsOf 21 = .ok (.imul, 1) := by decide +kernel
theorem dX6_leadsOf_22 : decode cX6_leadsOf 22 = .ok (.aload_n 0, 1) := by decide +kernel
theorem dX6_leadsOf_23 : decode cX6_leadsOf 23 = .ok (.getfield 27, 3) := by decide +kernel
theorem dX6_leadsOf_26 : decode cX6_leadsOf 26 = .ok (.iload_n 2, 1) := by decide +kernel
theorem dX6_leadsOf_27 : decode cX6_leadsOf 27 = .ok (.iaload, 1) := by decide +kernel
theorem dX6_leadsOf_28 : decode cX6_leadsOf 28 = .ok (.iadd, 1) := by decide +kernel
theorem dX6_leadsOf_29 : decode cX6_leadsOf 29 = .ok (.iload_n 1, 1) := by decide +kernel
theorem dX6_leadsOf_30 : decode cX6_leadsOf 30 = .ok (.invokevirtual 97, 3) := by decide +kernel
theorem dX6_leadsOf_33 : decode cX6_leadsOf 33 = .ok (.iinc 2 1, 3) := by decide +kernel
theorem dX6_leadsOf_36 : decode cX6_leadsOf 36 = .ok (.goto (-28), 3) := by decide +kernel
theorem dX6_leadsOf_39 : decode cX6_leadsOf 39 = .ok (.return_, 1) := by decide +kernel
theorem lo_loop (d : Nat) {g : GX} {V0 : AH} {mo sz r κ c : Nat} {ar ac K : Int} {z0 RW : Nat → Int} {l : Nat → Nat} (hc : 150 ≤ c ∧ c < 460) (hr : r ≤ 5) (hl5 : ∀ i, i < r → l i < 5) (hra : V0 (mo + 6) = some (aIz g 11 RW)) (hl : ∀ i, i < r → RW i = (l i : Int)) (hK1 : 1 ≤ K) (hb : ∀ i, i < r → 0 < z0 (15 * i + l i) ∧ z0 (15 * i + l i) ≤ K) (hSm : SmM (K ^ 5)) : ∀ (y k : Nat), k + y = r → ∀ {V : AH}, V mo = some (moO mo r κ ar ac) → MN g mo V (upF z0 c (Pd (fun k => z0 (15 * k + l k)) k)) → (∀ a, ¬ EN mo a → V a = V0 a) → AW g mX6_leadsOf (d + 2) 8 [(2, .int (iZ k)), (0, .ref mo), (1, .int (iZ c))] [] V sz (VX V0 sz (EN mo) (fun q V' => none = q ∧ MN g mo V' (upF z0 c (Pd (fun k => z0 (15 * k + l k)) r))))
  | 0, k, hy, V, hmo, hM, hV => by
    obtain rfl : k = r := by omega
    refine aw_iload_n dX6_leadsOf_8 (by rfl) ?_
    refine aw_aload_n dX6_leadsOf_9 (by rfl) (Or.inr ⟨_, rfl⟩) ?_
    refine aw_get fX6_117 dX6_leadsOf_10 hmo (by rfl) ?_
    refine aw_icmp_geZ (tgt := 39) dX6_leadsOf_13 (by decide) (by omega) (by omega) (fun hc_13 => ?_) (fun hc_13 => ?_)
    · refine aw_ret dX6_leadsOf_39 rfl ?_
      exact ⟨rfl, rfl, rfl, hV, rfl, hM⟩
    · exact absurd hc_13 (by omega)
  | y + 1, k, hy, V, hmo, hM, hV => by
    have IH := fun k hk => @lo_loop d g V0 mo sz r κ c ar ac K z0 RW l hc hr hl5 hra hl hK1 hb hSm y k hk
    have hraV := (hV (mo + 6) (by unfold EN; omega)).trans hra
    have hlk := hl k (by omega)
    have hl5k := hl5 k (by omega)
    have hpd := pd_bd hK1 (n := k + 1) (f := (fun k => z0 (15 * k + l k))) (fun i hi => hb i (by omega))
    refine aw_iload_n dX6_leadsOf_8 (by rfl) ?_
    refine aw_aload_n dX6_leadsOf_9 (by rfl) (Or.inr ⟨_, rfl⟩) ?_
    refine aw_get fX6_117 dX6_leadsOf_10 hmo (by rfl) ?_
    refine aw_icmp_geZ (tgt := 39) dX6_leadsOf_13 (by decide) (by omega) (by omega) (fun hc_13 => ?_) (fun hc_13 => ?_)
    · exact absurd hc_13 (by omega)
    · refine aw_aload_n dX6_leadsOf_16 (by rfl) (Or.inr ⟨_, rfl⟩) ?_
      refine aw_iload_n dX6_leadsOf_17 (by rfl) ?_
      refine aw_bipushZ dX6_leadsOf_18 (by decide) ?_
      refine aw_iload_n dX6_leadsOf_20 (by rfl) ?_
      refine aw_imulZ dX6_leadsOf_21 ?_
      refine aw_aload_n dX6_leadsOf_22 (by rfl) (Or.inr ⟨_, rfl⟩) ?_
      refine aw_get fX6_27 dX6_leadsOf_23 hmo (by rfl) ?_
      refine aw_iload_n dX6_leadsOf_26 (by rfl) ?_
      refine aw_ialdZ (k) dX6_leadsOf_27 hraV (by omega) (by omega) (by omega) ?_
      refine aw_iaddZ dX6_leadsOf_28 ?_
      refine aw_iload_n dX6_leadsOf_29 (by rfl) ?_
      rw [hlk, show (15 : Int) * (k : Int) + (l k : Int) = ((15 * k + l k : Nat) : Int) by omega]
      refine aw_callv vX6_97 dX6_leadsOf_30 hmo (m_multiplies g d (a := c) (e := 15 * k + l k) (c := c) ⟨_, _, _, _, hmo⟩ hM (by omega) (by omega) (by omega) (by rw [upF_self, upF_ne _ _ (by omega)]; refine sm_le ?_ hSm; show ab (Pd (fun k => z0 (15 * k + l k)) (k + 1)) ≤ K ^ 5; rw [ab_pos (Int.le_of_lt hpd.1)]; exact Int.le_trans hpd.2 (pw_mono hK1 (by omega)))) (by rfl) (by rfl) (by omega) (Nat.le_of_ble_eq_true rfl) ?_
      rintro _ V1 _ _ _ ⟨rfl, rfl, rfl, hE1, rfl, hM1⟩ -
      refine q0 ?_
      rw [upF_self, upF_ne _ _ (show 15 * k + l k ≠ c by omega), upF_up] at hM1
      refine aw_iincZ dX6_leadsOf_33 (by rfl) (by decide) ?_
      refine aw_goto (tgt := 8) dX6_leadsOf_36 (by decide) ?_
      rw [show ((k : Int) + 1) = ((k + 1 : Nat) : Int) by omega]
      refine aw_pk [2, 0, 1] (by rfl) ?_
      exact IH (k + 1) (by omega) ((hE1 mo (by unfold EN; omega)).trans hmo) hM1 (fun a ha => (hE1 a ha).trans (hV a ha))
theorem m_leadsOf (g : GX) (d : Nat) {V0 : AH} {mo sz r κ c : Nat} {ar ac K : Int} {z0 RW : Nat → Int} {l : Nat → Nat} (hc : 150 ≤ c ∧ c < 460) (hr : r ≤ 5) (hl5 : ∀ i, i < r → l i < 5) (hra : V0 (mo + 6) = some (aIz g 11 RW)) (hl : ∀ i, i < r → RW i = (l i : Int)) (hK1 : 1 ≤ K) (hb : ∀ i, i < r → 0 < z0 (15 * i + l i) ∧ z0 (15 * i + l i) ≤ K) (hSm : SmM (K ^ 5)) (hmo : V0 mo = some (moO mo r κ ar ac)) (hM : MN g mo V0 z0) : AMet g mX6_leadsOf (d + 2) [.ref mo, .int (iZ c)] V0 sz (VX V0 sz (EN mo) (fun q V' => none = q ∧ MN g mo V' (upF z0 c (Pd (fun k => z0 (15 * k + l k)) r)))) := by
  refine AMet.of rfl rfl (Nat.le_of_ble_eq_true rfl) ?_
  show AW g mX6_leadsOf (d + 2) 0 [(0, .ref mo), (1, .int (iZ c))] [] V0 sz _
  refine aw_aload_n dX6_leadsOf_0 (by rfl) (Or.inr ⟨_, rfl⟩) ?_
  refine aw_iload_n dX6_leadsOf_1 (by rfl) ?_
  refine aw_lconstZ (z := 1) dX6_leadsOf_2 (by decide) ?_
  refine aw_callv vX6_83 dX6_leadsOf_3 hmo (m_becomes g (d + 1) (c := c) (v := 1) ⟨_, _, _, _, hmo⟩ hM (by omega) (by omega)) (by rfl) (by rfl) (by omega) (Nat.le_of_ble_eq_true rfl) ?_
  rintro _ V1 _ _ _ ⟨rfl, rfl, rfl, hE1, rfl, hM1⟩ -
  refine q0 ?_
  refine aw_iconstZ dX6_leadsOf_6 ?_
  refine aw_istore_n dX6_leadsOf_7 (by decide) ?_
  refine aw_pk [2, 0, 1] (by rfl) ?_
  refine (lo_loop d (V0 := V1) (κ := κ) hc hr hl5 ((hE1 _ (by unfold EN; omega)).trans hra) hl hK1 hb hSm r 0 (by omega) ((hE1 _ (by unfold EN; omega)).trans hmo) hM1 (fun _ _ => rfl)).mono ?_
  rintro q V' sz' dc ds ⟨rfl, rfl, rfl, hV, rfl, hM'⟩
  exact ⟨rfl, rfl, rfl, fun a ha => (hV a ha).trans (hE1 a ha), rfl, hM'⟩
abbrev mX6_index : MI := (yX6_index, cX6_index, 4, (some FieldType.int), noX)
theorem dX6_index_0 : decode cX6_index 0 = .ok (.aload_n 0, 1) := by decide +kernel
theorem dX6_index_1 : decode cX6_index 1 = .ok (.iload_n 1, 1) := by decide +kernel
theorem dX6_index_2 : decode cX6_index 2 = .ok (.iload_n 2, 1) := by decide +kernel
theorem dX6_index_3 : decode cX6_index 3 = .ok (.invokevirtual 186, 3) := by decide +kernel
theorem dX6_index_6 : decode cX6_index 6 = .ok (.ifCond .ne 5, 3) := by decide +kernel
theorem dX6_index_9 : decode cX6_index 9 = .ok (.iconst (-1), 1) := by decide +kernel
theorem dX6_index_10 : decode cX6_index 10 = .ok (.ireturn, 1) := by decide +kernel
theorem dX6_index_11 : decode cX6_index 11 = .ok (.aload_n 0, 1) := by decide +kernel
theorem dX6_index_12 : decode cX6_index 12 = .ok (.iload_n 1, 1) := by decide +kernel
theorem dX6_index_13 : decode cX6_index 13 = .ok (.iload_n 2, 1) := by decide +kernel
theorem dX6_index_14 : decode cX6_index 14 = .ok (.invokevirtual 227, 3) := by decide +kernel
theorem dX6_index_17 : decode cX6_index 17 = .ok (.ifCond .ne 5, 3) := by decide +kernel
theorem dX6_index_20 : decode cX6_index 20 = .ok (.iconst 0, 1) := by decide +kernel
theorem dX6_index_21 : decode cX6_index 21 = .ok (.ireturn, 1) := by decide +kernel
theorem dX6_index_22 : decode cX6_index 22 = .ok (.aload_n 0, 1) := by decide +kernel
theorem dX6_index_23 : decode cX6_index 23 = .ok (.getfield 117, 3) := by decide +kernel
theorem dX6_index_26 : decode cX6_index 26 = .ok (.istore_n 3, 1) := by decide +kernel
theorem dX6_index_27 : decode cX6_index 27 = .ok (.aload_n 0, 1) := by decide +kernel
theorem dX6_index_28 : decode cX6_index 28 = .ok (.sipush 365, 3) := by decide +kernel
theorem dX6_index_31 : decode cX6_index 31 = .ok (.invokevirtual 230, 3) := by decide +kernel
theorem dX6_index_34 : decode cX6_index 34 = .ok (.aload_n 0, 1) := by decide +kernel
theorem dX6_index_35 : decode cX6_index 35 = .ok (.iload_n 1, 1) := by decide +kernel
theorem dX6_index_36 : decode cX6_index 36 = .ok (.invokevirtual 165, 3) := by decide +kernel
theorem dX6_index_39 : decode cX6_index 39 = .ok (.aload_n 0, 1) := by decide +kernel
theorem dX6_index_40 : decode cX6_index 40 = .ok (.getfield 117, 3) := by decide +kernel
theorem dX6_index_43 : decode cX6_index 43 = .ok (.iload_n 3, 1) := by decide +kernel
theorem dX6_index_44 : decode cX6_index 44 = .ok (.if_icmp .ge 6, 3) := by decide +kernel
theorem dX6_index_47 : decode cX6_index 47 = .ok (.bipush (-2), 2) := by decide +kernel
theorem dX6_index_49 : decode cX6_index 49 = .ok (.ireturn, 1) := by decide +kernel
theorem dX6_index_50 : decode cX6_index 50 = .ok (.aload_n 0, 1) := by decide +kernel
theorem dX6_index_51 : decode cX6_index 51 = .ok (.sipush 390, 3) := by decide +kernel
theorem dX6_index_54 : decode cX6_index 54 = .ok (.invokevirtual 230, 3) := by decide +kernel
theorem dX6_index_57 : decode cX6_index 57 = .ok (.aload_n 0, 1) := by decide +kernel
theorem dX6_index_58 : decode cX6_index 58 = .ok (.sipush 390, 3) := by decide +kernel
theorem dX6_index_61 : decode cX6_index 61 = .ok (.sipush 365, 3) := by decide +kernel
theorem dX6_index_64 : decode cX6_index 64 = .ok (.sipush 265, 3) := by decide +kernel
theorem dX6_index_67 : decode cX6_index 67 = .ok (.invokevirtual 91, 3) := by decide +kernel
theorem dX6_index_70 : decode cX6_index 70 = .ok (.aload_n 0, 1) := by decide +kernel
theorem dX6_index_71 : decode cX6_index 71 = .ok (.iconst 1, 1) := by decide +kernel
theorem dX6_index_72 : decode cX6_index 72 = .ok (.iconst 1, 1) := by decide +kernel
theorem dX6_index_73 : decode cX6_index 73 = .ok (.invokevirtual 189, 3) := by decide +kernel
theorem dX6_index_76 : decode cX6_index 76 = .ok (.iconst 1, 1) := by decide +kernel
theorem dX6_index_77 : decode cX6_index 77 = .ok (.ireturn, 1) := by decide +kernel
/-- a STAIR of table x -/
def StT (S : TSt) (x h : Nat) (l : Nat → Nat) (B : Mat) : Prop := Stair B h (S.c x) l ∧ SpEq (TM (S.N x)) (S.r x) B h (S.c x)
def IdxR (S : TSt) (A : ASt) (x y : Nat) (q : Option Value) (A' : ASt) : Prop := (some (.int (iZ 0)) = q ∧ ¬ WinP S x y ∧ A' = A) ∨ (WinP S x y ∧ ∃ (h1 h2 : Nat) (l1 l2 : Nat → Nat) (B1 B2 : Mat), StT S x h1 l1 B1 ∧ StT S y h2 l2 B2 ∧ ((h1 < h2 ∧ some (.int (iZ (-2))) = q ∧ A' = A) ∨ (¬ h1 < h2 ∧ some (.int (iZ 1)) = q ∧ AIs A' 1 1 (fun _ _ => Pd (fun k => B1 k (l1 k)) h1 / Pd (fun k => B2 k (l2 k)) h2))))
/-- the reference's combined STAIR gives the table's -/
theorem stt_of {S : TSt} (o1 : TOK S) {y r κ : Nat} {z1 : Nat → Int} {l lk : Nat → Nat} (hy : y < 12) (hl5 : ∀ i, i < r → l i < 5) (hst2 : Stair (CMx r z1) (r + κ) 15 (lcx r l lk)) (hsp2 : SpEq (GTx (TM (S.N y))) (S.r y) (CMx r z1) (r + κ) 15) (hn : r + κ ≤ S.r y) : StT S y r l (CPx (S.c y) r z1) ∧ (∀ i, i < r → l i < S.c y) ∧ r ≤ 5 ∧ (∀ i, i < r → 0 < z1 (15 * i + l i) ∧ z1 (15 * i + l i) ≤ 10 * TM10) := by
  have q1 := (o1 y hy).1
  have q3 := (o1 y hy).2.1
  have hNb : ∀ i j, i < S.r y → j < 5 → ab (TM (S.N y) i j) ≤ 1000 := fun a b ha hb => by
    have := (o1 y hy).2.2.2.1 (5 * a + b) (by omega)
    show ab (S.N y (5 * a + b)) ≤ 1000
    unfold ab; omega
  obtain ⟨k1, k2, k3, k4⟩ := cp_main q3 (by omega) hst2 hl5 hsp2 (N := S.N y) (c := S.c y) (fun i j hi hj => by
    split
    · rfl
    · exact (o1 y hy).2.2.2.2.2.1 i j (by omega) hj (Or.inr (Or.inl (by omega))))
  obtain ⟨s1, s2⟩ := stair_of k1 k2 (cp_split k3)
  have hle : r ≤ S.c y := s1.1.le_w
  refine ⟨⟨⟨⟨fun i hi => ?_, fun i k h1 h2 => ?_⟩, fun i hi => ?_, fun i k h1 h2 => ?_⟩, s2⟩, k3, by omega, fun i hi => ?_⟩
  all_goals have hlx : ∀ i, i < r → lpx (S.c y) r l lk i = l i := fun i hi => by unfold lpx; rw [if_pos hi]
  · have := s1.1.1 i hi; rw [hlx i hi] at this; exact this
  · have := s1.1.2 i k h1 h2; rw [hlx i (by omega), hlx k h2] at this; exact this
  · have := s1.2.1 i hi; rw [hlx i hi] at this; exact this
  · have := s1.2.2 i k h1 h2; rw [hlx k h2] at this; exact this
  · have h1 := s1.2.1 i hi
    rw [hlx i hi, cp_s hi (k3 i hi)] at h1
    have h2 := hst2.bdm (tu_lbm hNb) hsp2 (by omega) (i := i) (by omega) (j := l i) (by have := hl5 i hi; omega)
    rw [cm_s hi] at h2
    exact ⟨h1, by rw [ab_pos (by omega)] at h2; exact h2⟩
theorem m_index (g : GX) (d : Nat) {V : AH} {mo sz : Nat} {zs : Nat → Int} {S : TSt} {A : ASt} {t u : Int} (hR : RX g mo V zs S A) (ht : R32 t) (hu : R32 u) : AMet g mX6_index (d + 10) [.ref mo, .int (iZ t), .int (iZ u)] V sz (RE g mo V sz (AlkR S A t u (-1) (IdxR S A))) := by
  obtain ⟨⟨rk, kn, hmo⟩, -, -, -, -, -, hT, -, -, o1, -⟩ := id hR
  have hcb : ∀ n, n < 12 → S.c n ≤ 5 := fun n hn => (o1 n hn).2.1
  refine AMet.of rfl rfl (Nat.le_of_ble_eq_true rfl) ?_
  show AW g mX6_index (d + 10) 0 [(0, .ref mo), (1, .int (iZ t)), (2, .int (iZ u))] [] V sz _
  refine aw_aload_n dX6_index_0 (by rfl) (Or.inr ⟨_, rfl⟩) ?_
  refine aw_iload_n dX6_index_1 (by rfl) ?_
  refine aw_iload_n dX6_index_2 (by rfl) ?_
  refine aw_callv vX6_186 dX6_index_3 hmo (m_areAlike g (d + 8) (t := t) (u := u) hmo hT ht hu hcb) (by rfl) (by rfl) (by omega) (Nat.le_of_ble_eq_true rfl) ?_
  rintro _ _ _ _ _ ⟨rfl, rfl, rfl, rfl, rfl⟩ -
  refine q0 ?_
  refine aw_if_neZ (tgt := 11) dX6_index_6 (by decide) (alZ_R _ _ _) (fun hc_6 => ?_) (fun hc_6 => ?_)
  · obtain ⟨x, y, hx, hy, rfl, rfl, hrx, hry, hcc⟩ := alZ_yes hc_6
    refine aw_aload_n dX6_index_11 (by rfl) (Or.inr ⟨_, rfl⟩) ?_
    refine aw_iload_n dX6_index_12 (by rfl) ?_
    refine aw_iload_n dX6_index_13 (by rfl) ?_
    refine aw_callv vX6_227 dX6_index_14 hmo (m_isWithin g d (x := x) (y := y) hR hx hy hcc) (by rfl) (by rfl) (by omega) (Nat.le_of_ble_eq_true rfl) ?_
    rintro _ V1 _ _ _ ⟨rfl, rfl, rfl, hE1, ⟨r1, κ1, l1, lk1, z1, z2, hC1, hst1, hsp1, hn1, hF1, hF2⟩, hres⟩ -
    refine q0 ?_
    have hRX := hR.calc hC1 hE1 (fun q h1 h2 => by rw [hF1 q (by unfold InW; omega), hF2 q (by unfold InC; omega)])
    obtain ⟨RW1, RK1, hmo1, hra1, hrk1, hl1, hlk1, hM1, hl51⟩ := id hC1
    rcases hres with ⟨rfl, hw⟩ | ⟨rfl, hw⟩
    · refine aw_if_neZ (tgt := 22) dX6_index_17 (by decide) (by omega) (fun _ => ?_) (fun h => absurd h (by decide))
      obtain ⟨y1, y2, y3, y4⟩ := stt_of o1 hy hl51 hst1 hsp1 hn1
      have hz12 : ∀ i, i < r1 → z2 (15 * i + l1 i) = z1 (15 * i + l1 i) := fun i hi => hF1 _ (by have := hl51 i hi; unfold InW; omega)
      refine aw_aload_n dX6_index_22 (by rfl) (Or.inr ⟨_, rfl⟩) ?_
      refine aw_get fX6_117 dX6_index_23 hmo1 (by rfl) ?_
      refine aw_istore_n dX6_index_26 (by decide) ?_
      refine aw_aload_n dX6_index_27 (by rfl) (Or.inr ⟨_, rfl⟩) ?_
      refine aw_sipushZ dX6_index_28 (by decide) ?_
      show AW _ _ _ _ _ (.int (iZ ((365 : Nat) : Int)) :: _) _ _ _
      refine aw_callv vX6_230 dX6_index_31 hmo1 (m_leadsOf g (d + 7) (V0 := V1) (r := r1) (κ := κ1) (c := 365) (K := 10 * TM10) (z0 := z2) (RW := RW1) (l := l1) (by omega) y3 hl51 hra1 hl1 (by have := tm10; omega) (fun i hi => by rw [hz12 i hi]; exact y4 i hi) ld_sm hmo1 hM1) (by rfl) (by rfl) (by omega) (Nat.le_of_ble_eq_true rfl) ?_
      rintro _ V2 _ _ _ ⟨rfl, rfl, rfl, hE2, rfl, hM2⟩ -
      refine q0 ?_
      have hmo2 := (hE2 mo (by unfold EN; omega)).trans hmo1
      have hC2 : CSt g mo V2 r1 κ1 (arZ A) (acZ A) l1 lk1 (upF z2 365 (Pd (fun k => z2 (15 * k + l1 k)) r1)) := ⟨RW1, RK1, hmo2, (hE2 _ (by unfold EN; omega)).trans hra1, (hE2 _ (by unfold EN; omega)).trans hrk1, hl1, hlk1, hM2, hl51⟩
      have hRX2 := hRX.calc hC2 (fun a ha => hE2 a (fun z => ha (by unfold EN at z; unfold EC; omega))) (fun q h1 h2 => upF_ne _ _ (by omega))
      refine aw_aload_n dX6_index_34 (by rfl) (Or.inr ⟨_, rfl⟩) ?_
      refine aw_iload_n dX6_index_35 (by rfl) ?_
      refine aw_callv vX6_165 dX6_index_36 hmo2 (m_stairOf g (d + 1) (t := x) hRX2 hx) (by rfl) (by rfl) (by omega) (Nat.le_of_ble_eq_true rfl) ?_
      rintro _ V3 _ _ _ ⟨rfl, rfl, rfl, hE3, rfl, r3, κ3, l3, lk3, z3, hC3, -, -, -, -, hst3, hsp3, hn3, hF3⟩ -
      refine q0 ?_
      obtain ⟨RW3, RK3, hmo3, hra3, hrk3, hl3, hlk3, hM3, hl53⟩ := id hC3
      obtain ⟨x1, x2, x3, x4⟩ := stt_of o1 hx hl53 hst3 hsp3 hn3
      have hRX3 := hRX2.calc hC3 hE3 (fun q h1 h2 => hF3 q (by unfold InC; omega))
      have hVA : ∀ a, ¬ EC mo a → V3 a = V a := fun a ha => (hE3 a ha).trans ((hE2 a (fun z => ha (by unfold EN at z; unfold EC; omega))).trans (hE1 a ha))
      have hP1 : Pd (fun k => z2 (15 * k + l1 k)) r1 = Pd (fun k => CPx (S.c y) r1 z1 k (l1 k)) r1 := Pd_congr (fun i hi => by show z2 (15 * i + l1 i) = _; rw [hz12 i hi, cp_s hi (y2 i hi)])
      have hP3 : Pd (fun k => z3 (15 * k + l3 k)) r3 = Pd (fun k => CPx (S.c x) r3 z3 k (l3 k)) r3 := Pd_congr (fun i hi => by show z3 (15 * i + l3 i) = _; rw [cp_s hi (x2 i hi)])
      have p1 := (pd_bd (K := 10 * TM10) (f := fun k => z2 (15 * k + l1 k)) (n := r1) (by have := tm10; omega) (fun i hi => by show 0 < z2 _ ∧ z2 _ ≤ _; rw [hz12 i hi]; exact y4 i hi)).1
      have p3 := (pd_bd (K := 10 * TM10) (f := fun k => z3 (15 * k + l3 k)) (n := r3) (by have := tm10; omega) (fun i hi => x4 i hi)).1
      refine aw_aload_n dX6_index_39 (by rfl) (Or.inr ⟨_, rfl⟩) ?_
      refine aw_get fX6_117 dX6_index_40 hmo3 (by rfl) ?_
      refine aw_iload_n dX6_index_43 (by rfl) ?_
      refine aw_icmp_geZ (tgt := 50) dX6_index_44 (by decide) (by omega) (by omega) (fun hc_44 => ?_) (fun hc_44 => ?_)
      · refine aw_aload_n dX6_index_50 (by rfl) (Or.inr ⟨_, rfl⟩) ?_
        refine aw_sipushZ dX6_index_51 (by decide) ?_
        show AW _ _ _ _ _ (.int (iZ ((390 : Nat) : Int)) :: _) _ _ _
        refine aw_callv vX6_230 dX6_index_54 hmo3 (m_leadsOf g (d + 7) (V0 := V3) (r := r3) (κ := κ3) (c := 390) (K := 10 * TM10) (z0 := z3) (RW := RW3) (l := l3) (by omega) x3 hl53 hra3 hl3 (by have := tm10; omega) x4 ld_sm hmo3 hM3) (by rfl) (by rfl) (by omega) (Nat.le_of_ble_eq_true rfl) ?_
        rintro _ V4 _ _ _ ⟨rfl, rfl, rfl, hE4, rfl, hM4⟩ -
        refine q0 ?_
        have hmo4 := (hE4 mo (by unfold EN; omega)).trans hmo3
        have h365 : upF z3 390 (Pd (fun k => z3 (15 * k + l3 k)) r3) 365 = Pd (fun k => z2 (15 * k + l1 k)) r1 := by rw [upF_ne _ _ (by omega), hF3 _ (by unfold InC; omega), upF_self]
        refine aw_aload_n dX6_index_57 (by rfl) (Or.inr ⟨_, rfl⟩) ?_
        refine aw_sipushZ dX6_index_58 (by decide) ?_
        refine aw_sipushZ dX6_index_61 (by decide) ?_
        refine aw_sipushZ dX6_index_64 (by decide) ?_
        show AW _ _ _ _ _ (.int (iZ ((265 : Nat) : Int)) :: .int (iZ ((365 : Nat) : Int)) :: .int (iZ ((390 : Nat) : Int)) :: _) _ _ _
        refine aw_callv vX6_91 dX6_index_67 hmo4 (m_div g (d + 8) (a := 390) (e := 365) (c := 265) hmo4 hM4 (by omega) (by omega) (by omega) (by omega) (by omega) (by rw [h365]; omega)) (by rfl) (by rfl) (by omega) (Nat.le_of_ble_eq_true rfl) ?_
        rintro _ V5 _ _ _ ⟨rfl, rfl, rfl, hE5, rfl, hM5⟩ -
        refine q0 ?_
        rw [h365, upF_self, Int.tdiv_eq_ediv_of_nonneg (Int.le_of_lt p3), hP1, hP3] at hM5
        have hmo5 := (hE5 mo (by unfold EN; omega)).trans hmo4
        refine aw_aload_n dX6_index_70 (by rfl) (Or.inr ⟨_, rfl⟩) ?_
        refine aw_iconstZ dX6_index_71 ?_
        refine aw_iconstZ dX6_index_72 ?_
        show AW _ _ _ _ _ (.int (iZ ((1 : Nat) : Int)) :: .int (iZ ((1 : Nat) : Int)) :: _) _ _ _
        refine aw_callv vX6_189 dX6_index_73 hmo5 (m_tells g (d + 9) (h := 1) (w := 1) hmo5 (by omega)) (by rfl) (by rfl) (by omega) (Nat.le_of_ble_eq_true rfl) ?_
        rintro _ V6 _ _ _ ⟨rfl, rfl, rfl, hE6, rfl, hmo6⟩ -
        refine q0 ?_
        refine aw_iconstZ dX6_index_76 ?_
        refine aw_iret dX6_index_77 rfl (by rfl) ?_
        exact ⟨rfl, rfl, rfl, fun a ha => (hE6 a (fun z => ha (by unfold EM; omega))).trans ((hE5 a (fun z => ha (by unfold EN at z; unfold EM; omega))).trans ((hE4 a (fun z => ha (by unfold EN at z; unfold EM; omega))).trans (hVA a (fun z => ha (by unfold EC at z; unfold EM; omega))))), _, S, _, hR.tell (h := 1) (w := 1) (B := fun _ _ => Pd (fun k => CPx (S.c x) r3 z3 k (l3 k)) r3 / Pd (fun k => CPx (S.c y) r1 z1 k (l1 k)) r1) hmo6 ((hE6 _ (by omega)).trans ((hE5 _ (by unfold EN; omega)).trans ((hE4 _ (by unfold EN; omega)).trans hra3))) ((hE6 _ (by omega)).trans ((hE5 _ (by unfold EN; omega)).trans ((hE4 _ (by unfold EN; omega)).trans hrk3))) (fun a h1 h2 => (hE6 a (by omega)).trans ((hE5 a (by unfold EN; omega)).trans ((hE4 a (by unfold EN; omega)).trans (hVA a (by unfold EC; omega))))) (hM5.kept (fun a ha => hE6 a (by unfold EN at ha; omega))) (fun i j hi hj => by rw [show 265 + 10 * i + j = 265 by omega, upF_self]) (by omega) (by omega), rfl, Or.inl ⟨x, y, hx, hy, rfl, rfl, hrx, hry, hcc, Or.inr ⟨hw, r3, r1, l3, l1, _, _, x1, y1, Or.inr ⟨by omega, rfl, rfl, rfl, rfl, fun _ _ _ _ => rfl⟩⟩⟩⟩
      · refine aw_bipushZ dX6_index_47 (by decide) ?_
        refine aw_iret dX6_index_49 rfl (by rfl) ?_
        exact ⟨rfl, rfl, rfl, fun a ha => hVA a (fun z => ha (by unfold EC at z; unfold EM; omega)), z3, S, A, hRX3, rfl, Or.inl ⟨x, y, hx, hy, rfl, rfl, hrx, hry, hcc, Or.inr ⟨hw, r3, r1, l3, l1, _, _, x1, y1, Or.inl ⟨by omega, rfl, rfl⟩⟩⟩⟩
    · refine aw_if_neZ (tgt := 22) dX6_index_17 (by decide) (by omega) (fun h => absurd rfl h) (fun _ => ?_)
      refine aw_iconstZ dX6_index_20 ?_
      refine aw_iret dX6_index_21 rfl (by rfl) ?_
      exact ⟨rfl, rfl, rfl, fun a ha => hE1 a (fun z => ha (by unfold EC at z; unfold EM; omega)), z2, S, A, hRX, rfl, Or.inl ⟨x, y, hx, hy, rfl, rfl, hrx, hry, hcc, Or.inl ⟨rfl, hw, rfl⟩⟩⟩
  · have hno := alZ_no hc_6
    refine aw_iconstZ dX6_index_9 ?_
    refine aw_iret dX6_index_10 rfl (by rfl) ?_
    exact ⟨rfl, rfl, rfl, fun _ _ => rfl, zs, S, A, hR, rfl, Or.inr ⟨hno, rfl, rfl⟩⟩
