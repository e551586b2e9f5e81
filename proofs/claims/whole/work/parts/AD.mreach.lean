/-! ===== a table and an asked row; the reference: reach ===== -/
def AskP (S : TSt) (t u i : Int) (x y k : Nat) : Prop := x < 12 ∧ y < 12 ∧ t = (x : Int) ∧ u = (y : Int) ∧ i = (k : Int) ∧ 0 < S.r x ∧ 0 < S.r y ∧ S.c x = S.c y ∧ k < S.r y
def AskR (S : TSt) (A : ASt) (t u i : Int) (R : Nat → Nat → Nat → Option Value → ASt → Prop) : Option Value → TSt → ASt → Prop := fun q S' A' => S' = S ∧ ((∃ x y k : Nat, AskP S t u i x y k ∧ R x y k q A') ∨ ((¬ ∃ x y k : Nat, AskP S t u i x y k) ∧ some (.int (iZ (-1))) = q ∧ A' = A))
def asZ (S : TSt) (t u i : Int) : Int := if alZ S t u = 1 ∧ rwZ S u i = 1 then 1 else 0
theorem asZ_R (S : TSt) (t u i : Int) : R32 (asZ S t u i) := by unfold asZ; split <;> omega
theorem asZ_yes {S : TSt} {t u i : Int} (h : ¬ asZ S t u i = 0) : ∃ x y k : Nat, AskP S t u i x y k := by
  have hh : alZ S t u = 1 ∧ rwZ S u i = 1 := Classical.byContradiction (fun z => h (if_neg z))
  obtain ⟨x, y, h1, h2, h3, h4, h5, h6, h7⟩ := alZ_yes (S := S) (t := t) (u := u) (by omega)
  obtain ⟨n, k, k1, k2, k3, k4⟩ := rwZ_yes (S := S) (t := u) (i := i) (by omega)
  obtain rfl : n = y := by omega
  exact ⟨x, n, k, h1, h2, h3, h4, k3, h5, h6, h7, k4⟩
theorem asZ_no {S : TSt} {t u i : Int} (h : asZ S t u i = 0) : ¬ ∃ x y k : Nat, AskP S t u i x y k := by
  rintro ⟨x, y, k, h1, h2, rfl, rfl, rfl, h6, h7, h8, h9⟩
  rw [show asZ S x y k = 1 from if_pos ⟨if_pos ⟨⟨by omega, by omega, h6⟩, ⟨by omega, by omega, h7⟩, h8⟩, if_pos ⟨by omega, by omega, h7, by omega, by show (k : Int) < (S.r y : Int); omega⟩⟩] at h
  omega
/-- row k of table y is in the lattice of table x, by the reference's numbers -/
theorem ask_sp {S : TSt} (o1 : TOK S) {x y k r κ : Nat} {z1 : Nat → Int} {l lk : Nat → Nat} (hx : x < 12) (hy : y < 12) (hk : k < S.r y) (hcc : S.c x = S.c y) (hst1 : Stair (CPx (S.c x) r z1) (r + κ) (S.c x + S.r x) (lpx (S.c x) r l lk)) (hsp1 : SpEq (TU (S.N x) (S.c x)) (S.r x) (CPx (S.c x) r z1) (r + κ) (S.c x + S.r x)) (hlc1 : ∀ i, i < r → l i < S.c x) (hsp2 : SpEq (GTx (TM (S.N x))) (S.r x) (CMx r z1) (r + κ) 15) (hn1 : r + κ ≤ S.r x) : (Span (B5 (rowZ z1 (S.N y) k 5)) r 5 (fun j => rowZ z1 (S.N y) k 5 (450 + j)) ↔ Span (TM (S.N x)) (S.r x) (S.c x) (TM (S.N y) k)) := by
  obtain ⟨s1, s2⟩ := stair_of hst1 hsp1 (cp_split hlc1)
  have q1 := (o1 x hx).1
  have q2 := (o1 y hy).1
  have q3 := (o1 x hx).2.1
  have hB0 : ∀ i j, i < r → S.c x ≤ j → j < 5 → z1 (15 * i + j) = 0 := fun i j hi h1 h2 => by
    obtain ⟨cf, hcf⟩ := (hsp2 (CMx r z1 i)).mpr (Span.row (by omega))
    have h9 := hcf j (by omega)
    rw [cm_s hi] at h9
    rw [h9]
    refine Sg_zero (fun k hk => ?_)
    unfold GTx
    rw [if_pos h2]
    show cf k * S.N x (5 * k + j) = 0
    rw [(o1 x hx).2.2.2.2.2.1 k j (by omega) h2 (Or.inr (Or.inl h1)), Int.mul_zero]
  have hsb := b5_sp (z' := rowZ z1 (S.N y) k 5) (R := fun j => rowZ z1 (S.N y) k 5 (450 + j)) q3 (by omega) s2 (fun q hq => rowZ.ne (by omega)) hB0 (fun j h1 h2 => by
    show rowZ z1 (S.N y) k 5 (450 + j) = 0
    rw [rowZ.at h2]
    exact (o1 y hy).2.2.2.2.2.1 k j (by omega) h2 (Or.inr (Or.inl (by omega))))
  refine hsb.trans ⟨fun h => h.congr (fun j hj => rowZ.at (by omega)), fun h => h.congr (fun j hj => (rowZ.at (by omega)).symm)⟩
/-- the multiples of a STAIR's rows are bounded by what they make -/
theorem sg_abp {m c : Nat → Int} {p : Int} (hp : 0 ≤ p) : ∀ {k : Nat}, (∀ i, i < k → ab (c i) ≤ p) → ab (Sg (fun i => m i * c i) k) ≤ Sg (fun i => ab (m i)) k * p
  | 0, _ => by show ab 0 ≤ 0 * p; unfold ab; simp
  | k + 1, h => by
    have h1 := sg_abp (m := m) hp (fun i hi => h i (Nat.lt_succ_of_lt hi))
    have h2 := h k (Nat.lt_succ_self k)
    show ab (Sg (fun i => m i * c i) k + m k * c k) ≤ (Sg (fun i => ab (m i)) k + ab (m k)) * p
    have h3 : ab (Sg (fun i => m i * c i) k + m k * c k) ≤ ab (Sg (fun i => m i * c i) k) + ab (m k * c k) := by unfold ab; omega
    have h4 : ab (m k) * ab (c k) ≤ ab (m k) * p := Int.mul_le_mul_of_nonneg_left h2 (ab0 _)
    rw [ab_mul] at h3
    rw [Int.add_mul]
    omega
theorem mul_bd {B : Mat} {h w : Nat} {l : Nat → Nat} {m b : Nat → Int} {X : Int} (s : Stair B h w l) (hb : ∀ j, j < w → b j = Sg (fun i => m i * B i j) h) (hX : ∀ j, j < w → ab (b j) ≤ X) (hX0 : 0 ≤ X) : ∀ k, k ≤ h → Sg (fun i => ab (m i)) k ≤ X * (2 ^ k - 1)
  | 0, _ => by show (0 : Int) ≤ X * (2 ^ 0 - 1); simp
  | k + 1, hk => by
    have ih := mul_bd s hb hX hX0 k (by omega)
    obtain ⟨⟨se1, se2⟩, sp, sr⟩ := s
    have hlk := (se1 k (by omega)).1
    have hp := sp k (by omega)
    have e1 := hb (l k) hlk
    rw [Sg_cut (m := k + 1) hk (fun i h1 h2 => by rw [(se1 i h2).2.2 (l k) (se2 k i (by omega) h2), Int.mul_zero])] at e1
    have e2 : b (l k) = Sg (fun i => m i * B i (l k)) k + m k * B k (l k) := e1
    have e3 := sg_abp (m := m) (c := fun i => B i (l k)) (p := B k (l k)) (by omega) (k := k) (fun i hi => by have := sr i k hi (by omega); rw [ab_pos this.1]; omega)
    have e4 := hX (l k) hlk
    have e5 : ab (m k * B k (l k)) ≤ ab (b (l k)) + ab (Sg (fun i => m i * B i (l k)) k) := by rw [e2]; unfold ab; omega
    rw [ab_mul, ab_pos (show 0 ≤ B k (l k) by omega)] at e5
    have e6 : X * 1 ≤ X * B k (l k) := Int.mul_le_mul_of_nonneg_left (by omega) hX0
    have e7 : ab (m k) * B k (l k) ≤ (X + Sg (fun i => ab (m i)) k) * B k (l k) := by rw [Int.add_mul]; omega
    have e8 : ab (m k) ≤ X + Sg (fun i => ab (m i)) k := Int.le_of_mul_le_mul_right e7 hp
    show Sg (fun i => ab (m i)) k + ab (m k) ≤ X * (2 ^ (k + 1) - 1)
    rw [Int.pow_succ, show X * (2 ^ k * 2 - 1) = 2 * (X * (2 ^ k - 1)) + X by rw [Int.mul_sub, Int.mul_sub, ← Int.mul_assoc, Int.mul_one]; omega]
    omega
def RchR (S : TSt) (A : ASt) (x y k : Nat) (q : Option Value) (A' : ASt) : Prop := (some (.int (iZ 1)) = q ∧ ∃ (h1 : Nat) (l1 : Nat → Nat) (B : Mat) (cf : Nat → Int), Stair B h1 (S.c x) l1 ∧ SpEq (TM (S.N x)) (S.r x) B h1 (S.c x) ∧ (∀ j, j < S.c x → TM (S.N y) k j = Sg (fun i => cf i * B i j) h1) ∧ AIs A' (if h1 = 0 then 0 else 1) h1 (fun _ j => cf j)) ∨ (some (.int (iZ 0)) = q ∧ ¬ Span (TM (S.N x)) (S.r x) (S.c x) (TM (S.N y) k) ∧ A' = A)
abbrev mX6_reach : MI := (yX6_reach, cX6_reach, 5, (some FieldType.int), noX)
theorem dX6_reach_0 : decode cX6_reach 0 = .ok (.aload_n 0, 1) := by decide +kernel
theorem dX6_reach_1 : decode cX6_reach 1 = .ok (.iload_n 1, 1) := by decide +kernel
theorem dX6_reach_2 : decode cX6_reach 2 = .ok (.iload_n 2, 1) := by decide +kernel
theorem dX6_reach_3 : decode cX6_reach 3 = .ok (.iload_n 3, 1) := by decide +kernel
theorem dX6_reach_4 : decode cX6_reach 4 = .ok (.invokevirtual 215, 3) := by decide +kernel
theorem dX6_reach_7 : decode cX6_reach 7 = .ok (.ifCond .ne 5, 3) := by decide +kernel
theorem dX6_reach_10 : decode cX6_reach 10 = .ok (.iconst (-1), 1) := by decide +kernel
theorem dX6_reach_11 : decode cX6_reach 11 = .ok (.ireturn, 1) := by decide +kernel
theorem dX6_reach_12 : decode cX6_reach 12 = .ok (.aload_n 0, 1) := by decide +kernel
theorem dX6_reach_13 : decode cX6_reach 13 = .ok (.iload_n 1, 1) := by decide +kernel
theorem dX6_reach_14 : decode cX6_reach 14 = .ok (.invokevirtual 165, 3) := by decide +kernel
theorem dX6_reach_17 : decode cX6_reach 17 = .ok (.aload_n 0, 1) := by decide +kernel
theorem dX6_reach_18 : decode cX6_reach 18 = .ok (.iload_n 2, 1) := by decide +kernel
theorem dX6_reach_19 : decode cX6_reach 19 = .ok (.iload_n 3, 1) := by decide +kernel
theorem dX6_reach_20 : decode cX6_reach 20 = .ok (.invokevirtual 218, 3) := by decide +kernel
theorem dX6_reach_23 : decode cX6_reach 23 = .ok (.aload_n 0, 1) := by decide +kernel
theorem dX6_reach_24 : decode cX6_reach 24 = .ok (.sipush 450, 3) := by decide +kernel
theorem dX6_reach_27 : decode cX6_reach 27 = .ok (.invokevirtual 221, 3) := by decide +kernel
theorem dX6_reach_30 : decode cX6_reach 30 = .ok (.ifCond .ne 5, 3) := by decide +kernel
theorem dX6_reach_33 : decode cX6_reach 33 = .ok (.iconst 0, 1) := by decide +kernel
theorem dX6_reach_34 : decode cX6_reach 34 = .ok (.ireturn, 1) := by decide +kernel
theorem dX6_reach_35 : decode cX6_reach 35 = .ok (.iconst 0, 1) := by decide +kernel
theorem dX6_reach_36 : decode cX6_reach 36 = .ok (.istore 4, 2) := by decide +kernel
theorem dX6_reach_38 : decode cX6_reach 38 = .ok (.iload 4, 2) := by decide +kernel
theorem dX6_reach_40 : decode cX6_reach 40 = .ok (.aload_n 0, 1) := by decide +kernel
theorem dX6_reach_41 : decode cX6_reach 41 = .ok (.getfield 117, 3) := by decide +kernel
theorem dX6_reach_44 : decode cX6_reach 44 = .ok (.if_icmp .ge 25, 3) := by decide +kernel
theorem dX6_reach_47 : decode cX6_reach 47 = .ok (.aload_n 0, 1) := by decide +kernel
theorem dX6_reach_48 : decode cX6_reach 48 = .ok (.sipush 440, 3) := by decide +kernel
theorem dX6_reach_51 : decode cX6_reach 51 = .ok (.iload 4, 2) := by decide +kernel
theorem dX6_reach_53 : decode cX6_reach 53 = .ok (.iadd, 1) := by decide +kernel
theorem dX6_reach_54 : decode cX6_reach 54 = .ok (.sipush 265, 3) := by decide +kernel
theorem dX6_reach_57 : decode cX6_reach 57 = .ok (.iload 4, 2) := by decide +kernel
theorem dX6_reach_59 : decode cX6_reach 59 = .ok (.iadd, 1) := by decide +kernel
theorem dX6_reach_60 : decode cX6_reach 60 = .ok (.invokevirtual 67, 3) := by decide +kernel
theorem dX6_reach_63 : decode cX6_reach 63 = .ok (.iinc 4 1, 3) := by decide +kernel
theorem dX6_reach_66 : decode cX6_reach 66 = .ok (.goto (-28), 3) := by decide +kernel
theorem dX6_reach_69 : decode cX6_reach 69 = .ok (.aload_n 0, 1) := by decide +kernel
theorem dX6_reach_70 : decode cX6_reach 70 = .ok (.aload_n 0, 1) := by decide +kernel
theorem dX6_reach_71 : decode cX6_reach 71 = .ok (.getfield 117, 3) := by decide +kernel
theorem dX6_reach_74 : decode cX6_reach 74 = .ok (.ifCond .ne 7, 3) := by decide +kernel
theorem dX6_reach_77 : decode cX6_reach 77 = .ok (.iconst 0, 1) := by decide +kernel
theorem dX6_reach_78 : decode cX6_reach 78 = .ok (.goto 4, 3) := by decide +kernel
theorem dX6_reach_81 : decode cX6_reach 81 = .ok (.iconst 1, 1) := by decide +kernel
theorem dX6_reach_82 : decode cX6_reach 82 = .ok (.aload_n 0, 1) := by decide +kernel
theorem dX6_reach_83 : decode cX6_reach 83 = .ok (.getfield 117, 3) := by decide +kernel
theorem dX6_reach_86 : decode cX6_reach 86 = .ok (.invokevirtual 189, 3) := by decide +kernel
theorem dX6_reach_89 : decode cX6_reach 89 = .ok (.iconst 1, 1) := by decide +kernel
theorem dX6_reach_90 : decode cX6_reach 90 = .ok (.ireturn, 1) := by decide +kernel
theorem rcm_loop (d : Nat) {g : GX} {V0 : AH} {mo sz x y e r κ : Nat} {ar ac : Int} {zs : Nat → Int} {Q : AQ} (hr : r ≤ 5) (hKK : ∀ {V : AH} {z : Nat → Int}, V mo = some (moO mo r κ ar ac) → MN g mo V z → (∀ a, ¬ EN mo a → V a = V0 a) → TdI (fun _ b => 440 + b) 10 zs z 0 r → AW g mX6_reach (d + 1) 69 [(4, .int (iZ r)), (0, .ref mo), (1, .int (iZ x)), (2, .int (iZ y)), (3, .int (iZ e))] [] V sz Q) : ∀ (f k : Nat), k + f = r → ∀ {V : AH} {z : Nat → Int}, V mo = some (moO mo r κ ar ac) → MN g mo V z → (∀ a, ¬ EN mo a → V a = V0 a) → TdI (fun _ b => 440 + b) 10 zs z 0 k → AW g mX6_reach (d + 1) 38 [(4, .int (iZ k)), (0, .ref mo), (1, .int (iZ x)), (2, .int (iZ y)), (3, .int (iZ e))] [] V sz Q
  | 0, k, hf, V, z, hmo, hM, hV, hI => by
    obtain rfl : k = r := by omega
    refine aw_iload dX6_reach_38 (by rfl) ?_
    refine aw_aload_n dX6_reach_40 (by rfl) (Or.inr ⟨_, rfl⟩) ?_
    refine aw_get fX6_117 dX6_reach_41 hmo (by rfl) ?_
    refine aw_icmp_geZ (tgt := 69) dX6_reach_44 (by decide) (by omega) (by omega) (fun hc_44 => ?_) (fun hc_44 => ?_)
    · exact hKK hmo hM hV hI
    · exact absurd hc_44 (by omega)
  | f + 1, k, hf, V, z, hmo, hM, hV, hI => by
    have IH := fun k hk => @rcm_loop d g V0 mo sz x y e r κ ar ac zs Q hr hKK f k hk
    refine aw_iload dX6_reach_38 (by rfl) ?_
    refine aw_aload_n dX6_reach_40 (by rfl) (Or.inr ⟨_, rfl⟩) ?_
    refine aw_get fX6_117 dX6_reach_41 hmo (by rfl) ?_
    refine aw_icmp_geZ (tgt := 69) dX6_reach_44 (by decide) (by omega) (by omega) (fun hc_44 => ?_) (fun hc_44 => ?_)
    · exact absurd hc_44 (by omega)
    · refine aw_aload_n dX6_reach_47 (by rfl) (Or.inr ⟨_, rfl⟩) ?_
      refine aw_sipushZ dX6_reach_48 (by decide) ?_
      refine aw_iload dX6_reach_51 (by rfl) ?_
      refine aw_iaddZ dX6_reach_53 ?_
      refine aw_sipushZ dX6_reach_54 (by decide) ?_
      refine aw_iload dX6_reach_57 (by rfl) ?_
      refine aw_iaddZ dX6_reach_59 ?_
      rw [show (440 : Int) + (k : Int) = ((440 + k : Nat) : Int) by omega, show (265 : Int) + (k : Int) = ((265 + k : Nat) : Int) by omega]
      refine aw_callv vX6_67 dX6_reach_60 hmo (m_copies g d (a := 440 + k) (c := 265 + k) ⟨_, _, _, _, hmo⟩ hM (by omega) (by omega)) (by rfl) (by rfl) (by omega) (Nat.le_of_ble_eq_true rfl) ?_
      rintro _ V1 _ _ _ ⟨rfl, rfl, rfl, hE1, rfl, hM1⟩ -
      refine q0 ?_
      refine aw_iincZ dX6_reach_63 (by rfl) (by decide) ?_
      refine aw_goto (tgt := 38) dX6_reach_66 (by decide) ?_
      rw [show ((k : Int) + 1) = ((k + 1 : Nat) : Int) by omega]
      refine aw_pk [4, 0, 1, 2, 3] (by rfl) ?_
      exact IH (k + 1) (by omega) ((hE1 mo (by unfold EN; omega)).trans hmo) hM1 (fun a ha => (hE1 a ha).trans (hV a ha)) (by have := hI.up (s := 440 + k) (by omega) (by omega) (by omega) rfl (by omega); rwa [show 265 + 10 * 0 + k = 265 + k by omega] at this)
theorem m_reach (g : GX) (d : Nat) {V : AH} {mo sz : Nat} {zs : Nat → Int} {S : TSt} {A : ASt} {t u i : Int} (hR : RX g mo V zs S A) (ht : R32 t) (hu : R32 u) (hi : R32 i) : AMet g mX6_reach (d + 9) [.ref mo, .int (iZ t), .int (iZ u), .int (iZ i)] V sz (RE g mo V sz (AskR S A t u i (RchR S A))) := by
  obtain ⟨⟨rk, kn, hmo⟩, -, -, -, -, -, hT, -, -, o1, -⟩ := id hR
  have hrb : ∀ n, n < 12 → S.r n ≤ 5 := fun n hn => (o1 n hn).1
  have hcb : ∀ n, n < 12 → S.c n ≤ 5 := fun n hn => (o1 n hn).2.1
  refine AMet.of rfl rfl (Nat.le_of_ble_eq_true rfl) ?_
  show AW g mX6_reach (d + 9) 0 [(0, .ref mo), (1, .int (iZ t)), (2, .int (iZ u)), (3, .int (iZ i))] [] V sz _
  refine aw_aload_n dX6_reach_0 (by rfl) (Or.inr ⟨_, rfl⟩) ?_
  refine aw_iload_n dX6_reach_1 (by rfl) ?_
  refine aw_iload_n dX6_reach_2 (by rfl) ?_
  refine aw_iload_n dX6_reach_3 (by rfl) ?_
  refine aw_callv vX6_215 dX6_reach_4 hmo (m_isAsked g (d + 6) (t := t) (u := u) (i := i) hmo hT ht hu hi hrb hcb) (by rfl) (by rfl) (by omega) (Nat.le_of_ble_eq_true rfl) ?_
  rintro _ _ _ _ _ ⟨rfl, rfl, rfl, rfl, rfl⟩ -
  refine q0 ?_
  show AW g mX6_reach (d + 9) _ _ (.int (iZ (asZ S t u i)) :: _) _ _ _
  refine aw_if_neZ (tgt := 12) dX6_reach_7 (by decide) (asZ_R _ _ _ _) (fun hc_7 => ?_) (fun hc_7 => ?_)
  · obtain ⟨x, y, k, hAsk⟩ := asZ_yes hc_7
    obtain ⟨hx, hy, rfl, rfl, rfl, hrx, hry, hcc, hk⟩ := id hAsk
    have q1 := (o1 x hx).1
    have q2 := (o1 y hy).1
    have q3 := (o1 x hx).2.1
    refine aw_aload_n dX6_reach_12 (by rfl) (Or.inr ⟨_, rfl⟩) ?_
    refine aw_iload_n dX6_reach_13 (by rfl) ?_
    refine aw_callv vX6_165 dX6_reach_14 hmo (m_stairOf g (d + 0) (t := x) hR hx) (by rfl) (by rfl) (by omega) (Nat.le_of_ble_eq_true rfl) ?_
    rintro _ V1 _ _ _ ⟨rfl, rfl, rfl, hE1, rfl, r1, κ1, l1, lk1, z1, ⟨RW1, RK1, hmo1, hra1, hrk1, hl1, hlk1, hM1, hl51⟩, hst1, hsp1, hlc1, hln1, hst2, hsp2, hn1, hF1⟩ -
    refine q0 ?_
    obtain ⟨s1, s2⟩ := stair_of hst1 hsp1 (cp_split hlc1)
    have hNb : ∀ i j, i < S.r x → j < 5 → ab (TM (S.N x) i j) ≤ 1000 := fun a b ha hb => by
      have := (o1 x hx).2.2.2.1 (5 * a + b) (by omega)
      show ab (S.N x (5 * a + b)) ≤ 1000
      unfold ab; omega
    refine aw_aload_n dX6_reach_17 (by rfl) (Or.inr ⟨_, rfl⟩) ?_
    refine aw_iload_n dX6_reach_18 (by rfl) ?_
    refine aw_iload_n dX6_reach_19 (by rfl) ?_
    refine aw_callv vX6_218 dX6_reach_20 hmo1 (m_takesTableRow g (d + 7) (u := y) (i := k) hmo1 hM1 (hT.kept (fun a h1 h2 => hE1 a (by unfold EC; omega))) hy (by omega) (o1 y hy).2.2.2.1) (by rfl) (by rfl) (by omega) (Nat.le_of_ble_eq_true rfl) ?_
    rintro _ V2 _ _ _ ⟨rfl, rfl, rfl, hE2, rfl, hM2⟩ -
    refine q0 ?_
    have hmo2 := (hE2 mo (by unfold EN; omega)).trans hmo1
    have hp1 := rcp_of (z' := rowZ z1 (S.N y) k 5) hst2 hl51 hsp2 hNb (by omega) (fun q hq => rowZ.ne (by omega)) (fun j hj => by rw [rowZ.at hj]; have := (o1 y hy).2.2.2.1 (5 * k + j) (by omega); unfold ab; omega)
    have hask := ask_sp o1 hx hy hk hcc hst1 hsp1 hlc1 hsp2 hn1
    refine aw_aload_n dX6_reach_23 (by rfl) (Or.inr ⟨_, rfl⟩) ?_
    refine aw_sipushZ dX6_reach_24 (by decide) ?_
    refine aw_callv vX6_221 dX6_reach_27 hmo2 (m_reaches g (d + 5) hp1 hmo2 hM2 ((hE2 _ (by unfold EN; omega)).trans hra1) hl1 rc_sm) (by rfl) (by rfl) (by omega) (Nat.le_of_ble_eq_true rfl) ?_
    rintro _ V3 _ _ _ ⟨rfl, rfl, rfl, hE3, z3, hM3, hF3, hr3⟩ -
    refine q0 ?_
    have hmo3 := (hE3 mo (by unfold EN; omega)).trans hmo2
    have hz31 : ∀ q, ¬ InW q → z3 q = z1 q := fun q hq => (hF3 q hq).trans (rowZ.ne (by unfold InW at hq; omega))
    have hE : ∀ a, ¬ EC mo a → V3 a = V a := fun a ha => (hE3 a (fun z => ha (by unfold EN at z; unfold EC; omega))).trans ((hE2 a (fun z => ha (by unfold EN at z; unfold EC; omega))).trans (hE1 a ha))
    have hC3 : CSt g mo V3 r1 κ1 (arZ A) (acZ A) l1 lk1 z3 := ⟨RW1, RK1, hmo3, (hE3 _ (by unfold EN; omega)).trans ((hE2 _ (by unfold EN; omega)).trans hra1), (hE3 _ (by unfold EN; omega)).trans ((hE2 _ (by unfold EN; omega)).trans hrk1), hl1, hlk1, hM3, hl51⟩
    rcases hr3 with ⟨rfl, hr3⟩ | ⟨rfl, hr3⟩
    · refine aw_if_neZ (tgt := 35) dX6_reach_30 (by decide) (by omega) (fun _ => ?_) (fun h => absurd h (by decide))
      have hmul : ∀ j, j < S.c x → TM (S.N y) k j = Sg (fun i => z3 (440 + i) * CPx (S.c x) r1 z1 i j) r1 := fun j hj => by
        have := hr3 j (by omega)
        rw [rowZ.at (by omega)] at this
        show S.N y (5 * k + j) = _
        rw [this]
        exact Sg_congr (fun i hi => by rw [cp_s hi hj, rowZ.ne (by omega)])
      refine aw_iconstZ dX6_reach_35 ?_
      refine aw_istore dX6_reach_36 (by decide) ?_
      refine aw_pk [4, 0, 1, 2, 3] (by rfl) ?_
      refine rcm_loop (d + 8) (V0 := V3) (zs := z3) (r := r1) (κ := κ1) (by omega) (fun {V4 z4} hmo4 hM4 hV4 hI4 => ?_) r1 0 (by omega) hmo3 hM3 (fun _ _ => rfl) TdI.nil
      by_cases h0 : r1 = 0
      · refine aw_aload_n dX6_reach_69 (by rfl) (Or.inr ⟨_, rfl⟩) ?_
        refine aw_aload_n dX6_reach_70 (by rfl) (Or.inr ⟨_, rfl⟩) ?_
        refine aw_get fX6_117 dX6_reach_71 hmo4 (by rfl) ?_
        refine aw_if_neZ (tgt := 81) dX6_reach_74 (by decide) (by omega) (fun hc_74 => ?_) (fun hc_74 => ?_)
        · exact absurd (show (r1 : Int) = 0 by omega) hc_74
        · refine aw_iconstZ dX6_reach_77 ?_
          refine aw_goto (tgt := 82) dX6_reach_78 (by decide) ?_
          refine aw_aload_n dX6_reach_82 (by rfl) (Or.inr ⟨_, rfl⟩) ?_
          refine aw_get fX6_117 dX6_reach_83 hmo4 (by rfl) ?_
          show AW _ _ _ _ _ (.int (iZ r1) :: .int (iZ ((0 : Nat) : Int)) :: _) _ _ _
          refine aw_callv vX6_189 dX6_reach_86 hmo4 (m_tells g (d + 8) (h := 0) (w := r1) hmo4 (by omega)) (by rfl) (by rfl) (by omega) (Nat.le_of_ble_eq_true rfl) ?_
          rintro _ V5 _ _ _ ⟨rfl, rfl, rfl, hE5, rfl, hmo5⟩ -
          refine q0 ?_
          refine aw_iconstZ dX6_reach_89 ?_
          refine aw_iret dX6_reach_90 rfl (by rfl) ?_
          exact ⟨rfl, rfl, rfl, fun a ha => (hE5 a (fun z => ha (by unfold EM; omega))).trans ((hV4 a (fun z => ha (by unfold EN at z; unfold EM; omega))).trans (hE a (fun z => ha (by unfold EC at z; unfold EM; omega)))), z4, S, _, hR.tell (h := 0) (w := r1) (B := fun _ j => z3 (440 + j)) hmo5 ((hE5 _ (by omega)).trans ((hV4 _ (by unfold EN; omega)).trans ((hE3 _ (by unfold EN; omega)).trans ((hE2 _ (by unfold EN; omega)).trans hra1)))) ((hE5 _ (by omega)).trans ((hV4 _ (by unfold EN; omega)).trans ((hE3 _ (by unfold EN; omega)).trans ((hE2 _ (by unfold EN; omega)).trans hrk1)))) (fun a h1 h2 => (hE5 a (by omega)).trans ((hV4 a (by unfold EN; omega)).trans (hE a (by unfold EC; omega)))) (hM4.kept (fun a ha => hE5 a (by unfold EN at ha; omega))) (fun i j hi hj => absurd hi (by omega)) (by omega) (by omega), rfl, Or.inl ⟨x, y, k, hAsk, Or.inl ⟨rfl, r1, _, _, fun j => z3 (440 + j), s1, s2, hmul, rfl, by show 0 = (if r1 = 0 then 0 else 1); rw [if_pos h0], by show 0 = (if (if r1 = 0 then 0 else 1) = 0 then 0 else r1); rw [if_pos h0, if_pos rfl], fun _ _ _ _ => rfl⟩⟩⟩
      · refine aw_aload_n dX6_reach_69 (by rfl) (Or.inr ⟨_, rfl⟩) ?_
        refine aw_aload_n dX6_reach_70 (by rfl) (Or.inr ⟨_, rfl⟩) ?_
        refine aw_get fX6_117 dX6_reach_71 hmo4 (by rfl) ?_
        refine aw_if_neZ (tgt := 81) dX6_reach_74 (by decide) (by omega) (fun hc_74 => ?_) (fun hc_74 => ?_)
        · refine aw_iconstZ dX6_reach_81 ?_
          refine aw_aload_n dX6_reach_82 (by rfl) (Or.inr ⟨_, rfl⟩) ?_
          refine aw_get fX6_117 dX6_reach_83 hmo4 (by rfl) ?_
          show AW _ _ _ _ _ (.int (iZ r1) :: .int (iZ ((1 : Nat) : Int)) :: _) _ _ _
          refine aw_callv vX6_189 dX6_reach_86 hmo4 (m_tells g (d + 8) (h := 1) (w := r1) hmo4 (by omega)) (by rfl) (by rfl) (by omega) (Nat.le_of_ble_eq_true rfl) ?_
          rintro _ V5 _ _ _ ⟨rfl, rfl, rfl, hE5, rfl, hmo5⟩ -
          refine q0 ?_
          refine aw_iconstZ dX6_reach_89 ?_
          refine aw_iret dX6_reach_90 rfl (by rfl) ?_
          exact ⟨rfl, rfl, rfl, fun a ha => (hE5 a (fun z => ha (by unfold EM; omega))).trans ((hV4 a (fun z => ha (by unfold EN at z; unfold EM; omega))).trans (hE a (fun z => ha (by unfold EC at z; unfold EM; omega)))), z4, S, _, hR.tell (h := 1) (w := r1) (B := fun _ j => z3 (440 + j)) hmo5 ((hE5 _ (by omega)).trans ((hV4 _ (by unfold EN; omega)).trans ((hE3 _ (by unfold EN; omega)).trans ((hE2 _ (by unfold EN; omega)).trans hra1)))) ((hE5 _ (by omega)).trans ((hV4 _ (by unfold EN; omega)).trans ((hE3 _ (by unfold EN; omega)).trans ((hE2 _ (by unfold EN; omega)).trans hrk1)))) (fun a h1 h2 => (hE5 a (by omega)).trans ((hV4 a (by unfold EN; omega)).trans (hE a (by unfold EC; omega)))) (hM4.kept (fun a ha => hE5 a (by unfold EN at ha; omega))) (fun i j hi hj => (show z4 (265 + 10 * i + j) = z3 (440 + j) by rw [show i = 0 by omega]; exact hI4.1 0 j (by omega))) (by omega) (by omega), rfl, Or.inl ⟨x, y, k, hAsk, Or.inl ⟨rfl, r1, _, _, fun j => z3 (440 + j), s1, s2, hmul, rfl, by show 1 = (if r1 = 0 then 0 else 1); rw [if_neg h0], by show r1 = (if (if r1 = 0 then 0 else 1) = 0 then 0 else r1); rw [if_neg h0, if_neg (by decide)], fun _ _ _ _ => rfl⟩⟩⟩
        · exact absurd hc_74 (by omega)
    · refine aw_if_neZ (tgt := 35) dX6_reach_30 (by decide) (by omega) (fun h => absurd rfl h) (fun _ => ?_)
      refine aw_iconstZ dX6_reach_33 ?_
      refine aw_iret dX6_reach_34 rfl (by rfl) ?_
      exact ⟨rfl, rfl, rfl, fun a ha => hE a (fun z => ha (by unfold EC at z; unfold EM; omega)), z3, S, A, hR.calc hC3 hE (fun q h1 h2 => (hz31 q (by unfold InW; omega)).trans (hF1 q (by unfold InC; omega))), rfl, Or.inl ⟨x, y, k, hAsk, Or.inr ⟨rfl, fun z => hr3 (hask.mpr z), rfl⟩⟩⟩
  · have hno := asZ_no hc_7
    refine aw_iconstZ dX6_reach_10 ?_
    refine aw_iret dX6_reach_11 rfl (by rfl) ?_
    exact ⟨rfl, rfl, rfl, fun _ _ => rfl, zs, S, A, hR, rfl, Or.inr ⟨hno, rfl, rfl⟩⟩
