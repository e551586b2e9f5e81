/-! ===== the reference: tear, leaf, count ===== -/
/-- the same tables, as far as they are read -/
def SEq (S S2 : TSt) : Prop := ∀ t, t < 12 → S.r t = S2.r t ∧ S.c t = S2.c t ∧ (∀ k, k < 25 → S.N t k = S2.N t k) ∧ ∀ i, i < 5 → S.H t i = S2.H t i
theorem RTq.cong {S S2 : TSt} {TH RR CC NN HH : Nat → Int} (h : RTq S TH RR CC NN HH) (e : SEq S S2) : RTq S2 TH RR CC NN HH := fun t ht => by
  obtain ⟨h1, h2, h3, h4, h5⟩ := h t ht
  obtain ⟨e1, e2, e3, e4⟩ := e t ht
  exact ⟨e1 ▸ h1, e1 ▸ h2, e2 ▸ h3, fun k hk => (h4 k hk).trans (e3 k hk), fun i hi => (h5 i hi).trans (e4 i hi)⟩
theorem RX.congS {g : GX} {mo : Nat} {V : AH} {zs : Nat → Int} {S S2 : TSt} {A : ASt} (h : RX g mo V zs S A) (e : SEq S S2) (hO : TOK S2) : RX g mo V zs S2 A := by
  obtain ⟨a1, a2, a3, a4, a5, a6, ⟨TH, RR, CC, NN, HH, t1, t2, t3, t4, t5, t6⟩, a8, a9, a10, a11⟩ := h
  exact ⟨a1, a2, a3, a4, a5, a6, ⟨TH, RR, CC, NN, HH, t1, t2, t3, t4, t5, RTq.cong t6 e⟩, a8, a9, hO, a11⟩
theorem Sg_cut {f : Nat → Int} {m : Nat} : ∀ {n : Nat}, m ≤ n → (∀ i, m ≤ i → i < n → f i = 0) → Sg f n = Sg f m
  | 0, h, _ => by rw [show m = 0 by omega]
  | n + 1, h, k => by
    by_cases e : m = n + 1
    · rw [e]
    · show Sg f n + f n = _
      rw [k n (by omega) (by omega), Int.add_zero]
      exact Sg_cut (by omega) (fun i h1 h2 => k i h1 (by omega))
theorem rwZ_R (S : TSt) (t i : Int) : R32 (rwZ S t i) := by unfold rwZ; split <;> omega
theorem rwZ_yes {S : TSt} {t i : Int} (h : ¬ rwZ S t i = 0) : ∃ n k : Nat, n < 12 ∧ t = (n : Int) ∧ i = (k : Int) ∧ k < S.r n := by
  have : 0 ≤ t ∧ t < 12 ∧ 0 < S.r t.toNat ∧ 0 ≤ i ∧ i < S.r t.toNat := Classical.byContradiction (fun z => h (if_neg z))
  exact ⟨t.toNat, i.toNat, by omega, by omega, by omega, by omega⟩
theorem rwZ_no {S : TSt} {t i : Int} (h : rwZ S t i = 0) : ¬ (0 ≤ t ∧ t < 12 ∧ 0 ≤ i ∧ i < S.r t.toNat) := fun z => by
  rw [show rwZ S t i = 1 from if_pos ⟨z.1, z.2.1, by omega, z.2.2.1, z.2.2.2⟩] at h
  omega
abbrev mX6_tear : MI := (yX6_tear, cX6_tear, 4, (some FieldType.boolean), noX)
theorem dX6_tear_0 : decode cX6_tear 0 = .ok (.aload_n 0, 1) := by decide +kernel
theorem dX6_tear_1 : decode cX6_tear 1 = .ok (.iload_n 1, 1) := by decide +kernel
theorem dX6_tear_2 : decode cX6_tear 2 = .ok (.iload_n 2, 1) := by decide +kernel
theorem dX6_tear_3 : decode cX6_tear 3 = .ok (.invokevirtual 141, 3) := by decide +kernel
theorem dX6_tear_6 : decode cX6_tear 6 = .ok (.ifCond .eq 16, 3) := by decide +kernel
theorem dX6_tear_9 : decode cX6_tear 9 = .ok (.aload_n 0, 1) := by decide +kernel
theorem dX6_tear_10 : decode cX6_tear 10 = .ok (.getfield 46, 3) := by decide +kernel
theorem dX6_tear_13 : decode cX6_tear 13 = .ok (.iconst 5, 1) := by decide +kernel
theorem dX6_tear_14 : decode cX6_tear 14 = .ok (.iload_n 1, 1) := by decide +kernel
theorem dX6_tear_15 : decode cX6_tear 15 = .ok (.imul, 1) := by decide +kernel
theorem dX6_tear_16 : decode cX6_tear 16 = .ok (.iload_n 2, 1) := by decide +kernel
theorem dX6_tear_17 : decode cX6_tear 17 = .ok (.iadd, 1) := by decide +kernel
theorem dX6_tear_18 : decode cX6_tear 18 = .ok (.baload, 1) := by decide +kernel
theorem dX6_tear_19 : decode cX6_tear 19 = .ok (.ifCond .ne 5, 3) := by decide +kernel
theorem dX6_tear_22 : decode cX6_tear 22 = .ok (.iconst 0, 1) := by decide +kernel
theorem dX6_tear_23 : decode cX6_tear 23 = .ok (.ireturn, 1) := by decide +kernel
theorem dX6_tear_24 : decode cX6_tear 24 = .ok (.aload_n 0, 1) := by decide +kernel
theorem dX6_tear_25 : decode cX6_tear 25 = .ok (.getfield 46, 3) := by decide +kernel
theorem dX6_tear_28 : decode cX6_tear 28 = .ok (.iconst 5, 1) := by decide +kernel
theorem dX6_tear_29 : decode cX6_tear 29 = .ok (.iload_n 1, 1) := by decide +kernel
theorem dX6_tear_30 : decode cX6_tear 30 = .ok (.imul, 1) := by decide +kernel
theorem dX6_tear_31 : decode cX6_tear 31 = .ok (.iload_n 2, 1) := by decide +kernel
theorem dX6_tear_32 : decode cX6_tear 32 = .ok (.iadd, 1) := by decide +kernel
theorem dX6_tear_33 : decode cX6_tear 33 = .ok (.iconst 0, 1) := by decide +kernel
theorem dX6_tear_34 : decode cX6_tear 34 = .ok (.bastore, 1) := by decide +kernel
theorem dX6_tear_35 : decode cX6_tear 35 = .ok (.iconst 0, 1) := by decide +kernel
theorem dX6_tear_36 : decode cX6_tear 36 = .ok (.istore_n 3, 1) := by decide +kernel
theorem dX6_tear_37 : decode cX6_tear 37 = .ok (.iload_n 3, 1) := by decide +kernel
theorem dX6_tear_38 : decode cX6_tear 38 = .ok (.iconst 5, 1) := by decide +kernel
theorem dX6_tear_39 : decode cX6_tear 39 = .ok (.if_icmp .ge 25, 3) := by decide +kernel
theorem dX6_tear_42 : decode cX6_tear 42 = .ok (.aload_n 0, 1) := by decide +kernel
theorem dX6_tear_43 : decode cX6_tear 43 = .ok (.getfield 43, 3) := by decide +kernel
theorem dX6_tear_46 : decode cX6_tear 46 = .ok (.bipush 25, 2) := by decide +kernel
theorem dX6_tear_48 : decode cX6_tear 48 = .ok (.iload_n 1, 1) := by decide +kernel
theorem dX6_tear_49 : decode cX6_tear 49 = .ok (.imul, 1) := by decide +kernel
theorem dX6_tear_50 : decode cX6_tear 50 = .ok (.iconst 5, 1) := by decide +kernel
theorem dX6_tear_51 : decode cX6_tear 51 = .ok (.iload_n 2, 1) := by decide +kernel
theorem dX6_tear_52 : decode cX6_tear 52 = .ok (.imul, 1) := by decide +kernel
theorem dX6_tear_53 : decode cX6_tear 53 = .ok (.iadd, 1) := by decide +kernel
theorem dX6_tear_54 : decode cX6_tear 54 = .ok (.iload_n 3, 1) := by decide +kernel
theorem dX6_tear_55 : decode cX6_tear 55 = .ok (.iadd, 1) := by decide +kernel
theorem dX6_tear_56 : decode cX6_tear 56 = .ok (.iconst 0, 1) := by decide +kernel
theorem dX6_tear_57 : decode cX6_tear 57 = .ok (.iastore, 1) := by decide +kernel
theorem dX6_tear_58 : decode cX6_tear 58 = .ok (.iinc 3 1, 3) := by decide +kernel
theorem dX6_tear_61 : decode cX6_tear 61 = .ok (.goto (-24), 3) := by decide +kernel
theorem dX6_tear_64 : decode cX6_tear 64 = .ok (.iconst 1, 1) := by decide +kernel
theorem dX6_tear_65 : decode cX6_tear 65 = .ok (.ireturn, 1) := by decide +kernel
theorem te_loop (d : Nat) {g : GX} {V0 : AH} {mo sz t i : Nat} {rk kn ar ac : Int} {NN : Nat → Int} (ht : t < 12) (hi : i < 5) : ∀ (y j : Nat), j + y = 5 → ∀ {V : AH}, V mo = some (moO mo rk kn ar ac) → V (mo + 11) = some (aIz g 300 (zrN NN (25 * t + 5 * i) j)) → (∀ a, a ≠ mo + 11 → V a = V0 a) → AW g mX6_tear d 37 [(3, .int (iZ j)), (0, .ref mo), (1, .int (iZ t)), (2, .int (iZ i))] [] V sz (VX V0 sz (fun a => a = mo + 11) (fun q V' => some (.int (iZ 1)) = q ∧ V' (mo + 11) = some (aIz g 300 (zrN NN (25 * t + 5 * i) 5))))
  | 0, j, hy, V, hmo, hN, hV => by
    obtain rfl : j = 5 := by omega
    refine aw_iload_n dX6_tear_37 (by rfl) ?_
    refine aw_iconstZ dX6_tear_38 ?_
    refine aw_icmp_geZ (tgt := 64) dX6_tear_39 (by decide) (by omega) (by omega) (fun hc_39 => ?_) (fun hc_39 => ?_)
    · refine aw_iconstZ dX6_tear_64 ?_
      refine aw_iret dX6_tear_65 rfl (by rfl) ?_
      exact ⟨rfl, rfl, rfl, fun a ha => hV a ha, rfl, hN⟩
    · exact absurd hc_39 (by omega)
  | y + 1, j, hy, V, hmo, hN, hV => by
    have IH := fun j hj => @te_loop d g V0 mo sz t i rk kn ar ac NN ht hi y j hj
    refine aw_iload_n dX6_tear_37 (by rfl) ?_
    refine aw_iconstZ dX6_tear_38 ?_
    refine aw_icmp_geZ (tgt := 64) dX6_tear_39 (by decide) (by omega) (by omega) (fun hc_39 => ?_) (fun hc_39 => ?_)
    · exact absurd hc_39 (by omega)
    · refine aw_aload_n dX6_tear_42 (by rfl) (Or.inr ⟨_, rfl⟩) ?_
      refine aw_get fX6_43 dX6_tear_43 hmo (by rfl) ?_
      refine aw_bipushZ dX6_tear_46 (by decide) ?_
      refine aw_iload_n dX6_tear_48 (by rfl) ?_
      refine aw_imulZ dX6_tear_49 ?_
      refine aw_iconstZ dX6_tear_50 ?_
      refine aw_iload_n dX6_tear_51 (by rfl) ?_
      refine aw_imulZ dX6_tear_52 ?_
      refine aw_iaddZ dX6_tear_53 ?_
      refine aw_iload_n dX6_tear_54 (by rfl) ?_
      refine aw_iaddZ dX6_tear_55 ?_
      refine aw_iconstZ dX6_tear_56 ?_
      refine aw_iastZ (25 * t + 5 * i + j) dX6_tear_57 hN (by omega) (by omega) (by omega) ?_
      rw [zrN.up]
      refine aw_iincZ dX6_tear_58 (by rfl) (by decide) ?_
      refine aw_goto (tgt := 37) dX6_tear_61 (by decide) ?_
      rw [show ((j : Int) + 1) = ((j + 1 : Nat) : Int) by omega]
      exact IH (j + 1) (by omega) ((AHu_ne (by omega)).trans hmo) (AHu_self _ _ _) (fun a ha => (AHu_ne ha).trans (hV a ha))
theorem tear_ok {S : TSt} (o1 : TOK S) {n k : Nat} (hn : n < 12) (hk : k < S.r n) : TOK (upT S n (S.r n) (S.c n) (drN (S.N n) k 5) (upF (S.H n) k 0)) := by
  obtain ⟨p1, p2, p3, p4, p5, p6, p7⟩ := o1 n hn
  refine o1.up ⟨p1, p2, p3, fun q hq => ?_, fun q => ?_, fun a e ha he hz => ?_, fun a ha hr => ?_⟩
  · unfold drN; split
    · omega
    · exact p4 q hq
  · by_cases e : q = k
    · rw [e, upF_self]; exact Or.inl rfl
    · rw [upF_ne _ _ e]; exact p5 q
  · unfold drN
    split
    · rfl
    · rename_i hne
      refine p6 a e ha he ?_
      rcases hz with hz | hz | hz
      · exact Or.inl hz
      · exact Or.inr (Or.inl hz)
      · by_cases q : a = k
        · exact absurd (show 5 * k ≤ 5 * a + e ∧ 5 * a + e < 5 * k + 5 by omega) hne
        · rw [upF_ne _ _ q] at hz
          exact Or.inr (Or.inr hz)
  · by_cases e : a = k
    · rw [e, upF_self]
    · rw [upF_ne _ _ e]; exact p7 a ha hr
theorem m_tear (g : GX) (d : Nat) {V : AH} {mo sz : Nat} {zs : Nat → Int} {S : TSt} {A : ASt} {t i : Int} (hR : RX g mo V zs S A) (ht : R32 t) (hi : R32 i) : AMet g mX6_tear (d + 2) [.ref mo, .int (iZ t), .int (iZ i)] V sz (RE g mo V sz (fun q S' A' => A' = A ∧ ((0 ≤ t ∧ t < 12 ∧ 0 ≤ i ∧ i < S.r t.toNat) ∧ some (.int (iZ (S.H t.toNat i.toNat))) = q ∧ S' = upT S t.toNat (S.r t.toNat) (S.c t.toNat) (drN (S.N t.toNat) i.toNat 5) (upF (S.H t.toNat) i.toNat 0) ∨ ¬ (0 ≤ t ∧ t < 12 ∧ 0 ≤ i ∧ i < S.r t.toNat) ∧ some (.int (iZ 0)) = q ∧ S' = S))) := by
  obtain ⟨⟨rk, kn, hmo⟩, -, -, -, -, ⟨F5, a5⟩, hT, -, -, o1, -⟩ := id hR
  obtain ⟨TH, RR, CC, NN, HH, t1, t2, t3, t4, t5, t6⟩ := id hT
  have hrb : ∀ n, n < 12 → S.r n ≤ 5 := fun n hn => (o1 n hn).1
  refine AMet.of rfl rfl (Nat.le_of_ble_eq_true rfl) ?_
  show AW g mX6_tear (d + 2) 0 [(0, .ref mo), (1, .int (iZ t)), (2, .int (iZ i))] [] V sz _
  refine aw_aload_n dX6_tear_0 (by rfl) (Or.inr ⟨_, rfl⟩) ?_
  refine aw_iload_n dX6_tear_1 (by rfl) ?_
  refine aw_iload_n dX6_tear_2 (by rfl) ?_
  refine aw_callv vX6_141 dX6_tear_3 hmo (m_isRow g d (t := t) (i := i) hmo hT ht hi hrb) (by rfl) (by rfl) (by omega) (Nat.le_of_ble_eq_true rfl) ?_
  rintro _ _ _ _ _ ⟨rfl, rfl, rfl, rfl, rfl⟩ -
  refine q0 ?_
  refine aw_if_eqZ (tgt := 22) dX6_tear_6 (by decide) (rwZ_R _ _ _) (fun hc_6 => ?_) (fun hc_6 => ?_)
  · have hno := rwZ_no hc_6
    refine aw_iconstZ dX6_tear_22 ?_
    refine aw_iret dX6_tear_23 rfl (by rfl) ?_
    first
    | exact ⟨rfl, rfl, rfl, fun _ _ => rfl, zs, S, A, hR, rfl, Or.inr ⟨hno, rfl, rfl⟩⟩
    | (refine ⟨rfl, rfl, rfl, fun _ _ => rfl, zs, _, A, hR.congS (fun q hq => ?_) (tear_ok o1 hn hk), rfl, Or.inl ⟨⟨by omega, by omega, by omega, by rw [show ((n : Int)).toNat = n from rfl]; omega⟩, ?_, rfl⟩⟩
       · by_cases e : q = n
         · subst e
           unfold upT TSt.r TSt.c TSt.N TSt.H
           simp only [upF_self]
           refine ⟨trivial, trivial, fun a ha => ?_, fun a ha => ?_⟩
           · unfold drN
             split
             · have := p6 (a / 5) (a % 5) (by omega) (by omega) (Or.inr (Or.inr (by rw [show a / 5 = k by omega]; omega)))
               rwa [show 5 * (a / 5) + a % 5 = a by omega] at this
             · rfl
           · by_cases e : a = k
             · subst e; rw [upF_self]; omega
             · rw [upF_ne _ _ e]
         · unfold upT TSt.r TSt.c TSt.N TSt.H
           simp only [upF_ne _ _ e]
           exact ⟨trivial, trivial, fun _ _ => trivial, fun _ _ => trivial⟩
       · rw [show ((n : Int)).toNat = n from rfl, show ((k : Int)).toNat = k from rfl, show S.H n k = 0 by omega])
  · obtain ⟨n, k, hn, rfl, rfl, hk⟩ := rwZ_yes hc_6
    obtain ⟨p1, p2, p3, p4, p5, p6, p7⟩ := o1 n hn
    refine aw_aload_n dX6_tear_9 (by rfl) (Or.inr ⟨_, rfl⟩) ?_
    refine aw_get fX6_46 dX6_tear_10 hmo (by rfl) ?_
    refine aw_iconstZ dX6_tear_13 ?_
    refine aw_iload_n dX6_tear_14 (by rfl) ?_
    refine aw_imulZ dX6_tear_15 ?_
    refine aw_iload_n dX6_tear_16 (by rfl) ?_
    refine aw_iaddZ dX6_tear_17 ?_
    refine aw_zaldZ (5 * n + k) dX6_tear_18 t5 (by omega) (by omega) (by omega) ?_
    refine aw_if_neZ (tgt := 24) dX6_tear_19 (by decide) (by rw [(t6 n hn).2.2.2.2 k (by omega)]; have := p5 k; omega) (fun hc_19 => ?_) (fun hc_19 => ?_)
    · rw [(t6 n hn).2.2.2.2 k (by omega)] at hc_19
      refine aw_aload_n dX6_tear_24 (by rfl) (Or.inr ⟨_, rfl⟩) ?_
      refine aw_get fX6_46 dX6_tear_25 hmo (by rfl) ?_
      refine aw_iconstZ dX6_tear_28 ?_
      refine aw_iload_n dX6_tear_29 (by rfl) ?_
      refine aw_imulZ dX6_tear_30 ?_
      refine aw_iload_n dX6_tear_31 (by rfl) ?_
      refine aw_iaddZ dX6_tear_32 ?_
      refine aw_iconstZ dX6_tear_33 ?_
      refine aw_zastZ (5 * n + k) dX6_tear_34 t5 (by omega) (by omega) (by omega) (by omega) ?_
      refine aw_iconstZ dX6_tear_35 ?_
      refine aw_istore_n dX6_tear_36 (by decide) ?_
      refine aw_pk [3, 0, 1, 2] (by rfl) ?_
      refine (te_loop (d + 2) (t := n) (i := k) (NN := NN) hn (by omega) 5 0 (by omega) ((AHu_ne (by omega)).trans hmo) (by rw [zrN.nil]; exact (AHu_ne (by omega)).trans t4) (fun _ _ => rfl)).mono ?_
      rintro q V' sz' dc ds ⟨rfl, rfl, rfl, hV, rfl, hN⟩
      have hH1 : S.H n k = 1 := by have := p5 k; omega
      refine ⟨rfl, rfl, rfl, fun a ha => (hV a (fun z => ha (by unfold EM; omega))).trans (AHu_ne (fun z => ha (by unfold EM; omega))), zs, _, A, (hR.tabs (S' := upT S n (S.r n) (S.c n) (drN (S.N n) k 5) (upF (S.H n) k 0)) (fun a ha => (hV a (fun z => ha (by unfold ETb; omega))).trans (AHu_ne (fun z => ha (by unfold ETb; omega)))) ⟨F5, (hV _ (by omega)).trans ((AHu_ne (by omega)).trans a5)⟩ ⟨(hV _ (by omega)).trans ((AHu_ne (by omega)).trans t1), (hV _ (by omega)).trans ((AHu_ne (by omega)).trans t2), (hV _ (by omega)).trans ((AHu_ne (by omega)).trans t3), hN, (hV _ (by omega)).trans (AHu_self _ _ _)⟩ (fun q hq => ?_) (tear_ok o1 hn hk)), rfl, Or.inl ⟨⟨by omega, by omega, by omega, by rw [show ((n : Int)).toNat = n from rfl]; omega⟩, ?_, rfl⟩⟩
      · obtain ⟨h1, h2, h3, h4, h5⟩ := t6 q hq
        by_cases e : q = n
        · subst e
          unfold upT TSt.r TSt.c TSt.N TSt.H
          simp only [upF_self]
          refine ⟨h1, h2, h3, fun a ha => ?_, fun a ha => ?_⟩
          · unfold zrN drN
            by_cases e : 5 * k ≤ a ∧ a < 5 * k + 5
            · rw [if_pos (by omega), if_pos e]
            · rw [if_neg (by omega), if_neg e]
              exact h4 a ha
          · by_cases e : a = k
            · subst e; rw [upF_self, upF_self]
            · rw [upF_ne _ _ e, upF_ne _ _ (by omega)]
              exact h5 a ha
        · unfold upT TSt.r TSt.c TSt.N TSt.H
          simp only [upF_ne _ _ e]
          refine ⟨h1, h2, h3, fun a ha => ?_, fun a ha => ?_⟩
          · unfold zrN
            rw [if_neg (by omega)]
            exact h4 a ha
          · rw [upF_ne _ _ (by omega)]
            exact h5 a ha
      · rw [show ((n : Int)).toNat = n from rfl, show ((k : Int)).toNat = k from rfl, hH1]
    · rw [(t6 n hn).2.2.2.2 k (by omega)] at hc_19
      refine aw_iconstZ dX6_tear_22 ?_
      refine aw_iret dX6_tear_23 rfl (by rfl) ?_
      first
      | exact ⟨rfl, rfl, rfl, fun _ _ => rfl, zs, S, A, hR, rfl, Or.inr ⟨hno, rfl, rfl⟩⟩
      | (refine ⟨rfl, rfl, rfl, fun _ _ => rfl, zs, _, A, hR.congS (fun q hq => ?_) (tear_ok o1 hn hk), rfl, Or.inl ⟨⟨by omega, by omega, by omega, by rw [show ((n : Int)).toNat = n from rfl]; omega⟩, ?_, rfl⟩⟩
         · by_cases e : q = n
           · subst e
             unfold upT TSt.r TSt.c TSt.N TSt.H
             simp only [upF_self]
             refine ⟨trivial, trivial, fun a ha => ?_, fun a ha => ?_⟩
             · unfold drN
               split
               · have := p6 (a / 5) (a % 5) (by omega) (by omega) (Or.inr (Or.inr (by rw [show a / 5 = k by omega]; omega)))
                 rwa [show 5 * (a / 5) + a % 5 = a by omega] at this
               · rfl
             · by_cases e : a = k
               · subst e; rw [upF_self]; omega
               · rw [upF_ne _ _ e]
           · unfold upT TSt.r TSt.c TSt.N TSt.H
             simp only [upF_ne _ _ e]
             exact ⟨trivial, trivial, fun _ _ => trivial, fun _ _ => trivial⟩
         · rw [show ((n : Int)).toNat = n from rfl, show ((k : Int)).toNat = k from rfl, show S.H n k = 0 by omega])
abbrev mX6_count : MI := (yX6_count, cX6_count, 5, (some FieldType.int), noX)
theorem dX6_count_0 : decode cX6_count 0 = .ok (.iconst 0, 1) := by decide +kernel
theorem dX6_count_1 : decode cX6_count 1 = .ok (.istore_n 2, 1) := by decide +kernel
theorem dX6_count_2 : decode cX6_count 2 = .ok (.iconst 0, 1) := by decide +kernel
theorem dX6_count_3 : decode cX6_count 3 = .ok (.istore_n 3, 1) := by decide +kernel
theorem dX6_count_4 : decode cX6_count 4 = .ok (.iload_n 3, 1) := by decide +kernel
theorem dX6_count_5 : decode cX6_count 5 = .ok (.bipush 12, 2) := by decide +kernel
theorem dX6_count_7 : decode cX6_count 7 = .ok (.if_icmp .ge 65, 3) := by decide +kernel
theorem dX6_count_10 : decode cX6_count 10 = .ok (.aload_n 0, 1) := by decide +kernel
theorem dX6_count_11 : decode cX6_count 11 = .ok (.getfield 33, 3) := by decide +kernel
theorem dX6_count_14 : decode cX6_count 14 = .ok (.iload_n 3, 1) := by decide +kernel
theorem dX6_count_15 : decode cX6_count 15 = .ok (.baload, 1) := by decide +kernel
theorem dX6_count_16 : decode cX6_count 16 = .ok (.ifCond .ne 6, 3) := by decide +kernel
theorem dX6_count_19 : decode cX6_count 19 = .ok (.goto 47, 3) := by decide +kernel
theorem dX6_count_22 : decode cX6_count 22 = .ok (.iload_n 1, 1) := by decide +kernel
theorem dX6_count_23 : decode cX6_count 23 = .ok (.ifCond .ne 6, 3) := by decide +kernel
theorem dX6_count_26 : decode cX6_count 26 = .ok (.iinc 2 1, 3) := by decide +kernel
theorem dX6_count_29 : decode cX6_count 29 = .ok (.iconst 0, 1) := by decide +kernel
theorem dX6_count_30 : decode cX6_count 30 = .ok (.istore 4, 2) := by decide +kernel
theorem dX6_count_32 : decode cX6_count 32 = .ok (.iload 4, 2) := by decide +kernel
theorem dX6_count_34 : decode cX6_count 34 = .ok (.iconst 5, 1) := by decide +kernel
theorem dX6_count_35 : decode cX6_count 35 = .ok (.if_icmp .ge 31, 3) := by decide +kernel
theorem dX6_count_38 : decode cX6_count 38 = .ok (.iload_n 1, 1) := by decide +kernel
theorem dX6_count_39 : decode cX6_count 39 = .ok (.iconst 1, 1) := by decide +kernel
theorem dX6_count_40 : decode cX6_count 40 = .ok (.if_icmp .ne 26, 3) := by decide +kernel
theorem dX6_count_43 : decode cX6_count 43 = .ok (.aload_n 0, 1) := by decide +kernel
theorem dX6_count_44 : decode cX6_count 44 = .ok (.getfield 46, 3) := by decide +kernel
theorem dX6_count_47 : decode cX6_count 47 = .ok (.iconst 5, 1) := by decide +kernel
theorem dX6_count_48 : decode cX6_count 48 = .ok (.iload_n 3, 1) := by decide +kernel
theorem dX6_count_49 : decode cX6_count 49 = .ok (.imul, 1) := by decide +kernel
theorem dX6_count_50 : decode cX6_count 50 = .ok (.iload 4, 2) := by decide +kernel
theorem dX6_count_52 : decode cX6_count 52 = .ok (.iadd, 1) := by decide +kernel
theorem dX6_count_53 : decode cX6_count 53 = .ok (.baload, 1) := by decide +kernel
theorem dX6_count_54 : decode cX6_count 54 = .ok (.ifCond .eq 6, 3) := by decide +kernel
theorem dX6_count_57 : decode cX6_count 57 = .ok (.iinc 2 1, 3) := by decide +kernel
theorem dX6_count_60 : decode cX6_count 60 = .ok (.iinc 4 1, 3) := by decide +kernel
theorem dX6_count_63 : decode cX6_count 63 = .ok (.goto (-31), 3) := by decide +kernel
theorem dX6_count_66 : decode cX6_count 66 = .ok (.iinc 3 1, 3) := by decide +kernel
theorem dX6_count_69 : decode cX6_count 69 = .ok (.goto (-65), 3) := by decide +kernel
theorem dX6_count_72 : decode cX6_count 72 = .ok (.iload_n 1, 1) := by decide +kernel
theorem dX6_count_73 : decode cX6_count 73 = .ok (.ifCond .eq 8, 3) := by decide +kernel
theorem dX6_count_76 : decode cX6_count 76 = .ok (.iload_n 1, 1) := by decide +kernel
theorem dX6_count_77 : decode cX6_count 77 = .ok (.iconst 1, 1) := by decide +kernel
theorem dX6_count_78 : decode cX6_count 78 = .ok (.if_icmp .ne 7, 3) := by decide +kernel
theorem dX6_count_81 : decode cX6_count 81 = .ok (.iload_n 2, 1) := by decide +kernel
theorem dX6_count_82 : decode cX6_count 82 = .ok (.goto 4, 3) := by decide +kernel
theorem dX6_count_85 : decode cX6_count 85 = .ok (.iconst (-1), 1) := by decide +kernel
theorem dX6_count_86 : decode cX6_count 86 = .ok (.ireturn, 1) := by decide +kernel
def ctR (S : TSt) (q : Int) (n : Nat) : Int := if q = 0 then cnS S n else if q = 1 then lvS S n else 0
theorem ctR_up {S : TSt} {q : Int} {n : Nat} : ctR S q (n + 1) = ctR S q n + (if 0 < S.r n then (if q = 0 then 1 else if q = 1 then Sg (S.H n) (S.r n) else 0) else 0) := by
  unfold ctR cnS lvS
  by_cases e : q = 0
  · rw [if_pos e, if_pos e, if_pos e]; rfl
  · rw [if_neg e, if_neg e, if_neg e]
    by_cases e1 : q = 1
    · rw [if_pos e1, if_pos e1, if_pos e1]; rfl
    · rw [if_neg e1, if_neg e1, if_neg e1]; split <;> rfl
theorem ctm_in (d : Nat) {g : GX} {V : AH} {mo sz t : Nat} {rk kn ar ac c0 : Int} {S : TSt} {Q : AQ} (hmo : V mo = some (moO mo rk kn ar ac)) (hT : RTb g mo V S) (o1 : TOK S) (ht : t < 12) (hKK : AW g mX6_count d 66 [(4, .int (iZ (5 : Nat))), (3, .int (iZ t)), (2, .int (iZ (c0 + Sg (S.H t) 5))), (0, .ref mo), (1, .int (iZ 1))] [] V sz Q) : ∀ (y i : Nat), i + y = 5 → AW g mX6_count d 32 [(4, .int (iZ i)), (3, .int (iZ t)), (2, .int (iZ (c0 + Sg (S.H t) i))), (0, .ref mo), (1, .int (iZ 1))] [] V sz Q
  | 0, i, hy => by
    obtain rfl : i = 5 := by omega
    refine aw_iload dX6_count_32 (by rfl) ?_
    refine aw_iconstZ dX6_count_34 ?_
    refine aw_icmp_geZ (tgt := 66) dX6_count_35 (by decide) (by omega) (by omega) (fun hc_35 => ?_) (fun hc_35 => ?_)
    · exact hKK
    · exact absurd hc_35 (by omega)
  | y + 1, i, hy => by
    have IH := @ctm_in d g V mo sz t rk kn ar ac c0 S Q hmo hT o1 ht hKK y (i + 1) (by omega)
    obtain ⟨TH, RR, CC, NN, HH, t1, t2, t3, t4, t5, t6⟩ := id hT
    have h01 := (o1 t ht).2.2.2.2.1 i
    have hHi := (t6 t ht).2.2.2.2 i (by omega)
    refine aw_iload dX6_count_32 (by rfl) ?_
    refine aw_iconstZ dX6_count_34 ?_
    refine aw_icmp_geZ (tgt := 66) dX6_count_35 (by decide) (by omega) (by omega) (fun hc_35 => ?_) (fun hc_35 => ?_)
    · exact absurd hc_35 (by omega)
    · refine aw_iload_n dX6_count_38 (by rfl) ?_
      refine aw_iconstZ dX6_count_39 ?_
      refine aw_icmp_neZ (tgt := 66) dX6_count_40 (by decide) (by omega) (by omega) (fun hc_40 => ?_) (fun hc_40 => ?_)
      · exact absurd rfl hc_40
      · refine aw_aload_n dX6_count_43 (by rfl) (Or.inr ⟨_, rfl⟩) ?_
        refine aw_get fX6_46 dX6_count_44 hmo (by rfl) ?_
        refine aw_iconstZ dX6_count_47 ?_
        refine aw_iload_n dX6_count_48 (by rfl) ?_
        refine aw_imulZ dX6_count_49 ?_
        refine aw_iload dX6_count_50 (by rfl) ?_
        refine aw_iaddZ dX6_count_52 ?_
        refine aw_zaldZ (5 * t + i) dX6_count_53 t5 (by omega) (by omega) (by omega) ?_
        refine aw_if_eqZ (tgt := 60) dX6_count_54 (by decide) (by rw [hHi]; omega) (fun hc_54 => ?_) (fun hc_54 => ?_)
        · rw [hHi] at hc_54
          refine aw_iincZ dX6_count_60 (by rfl) (by decide) ?_
          refine aw_goto (tgt := 32) dX6_count_63 (by decide) ?_
          rw [show ((i : Int) + 1) = ((i + 1 : Nat) : Int) by omega]
          first
          | (rw [show c0 + Sg (S.H t) i + 1 = c0 + Sg (S.H t) (i + 1) by show _ = c0 + (Sg (S.H t) i + S.H t i); omega]; refine aw_pk [4, 3, 2, 0, 1] (by rfl) ?_; exact IH)
          | (rw [show c0 + Sg (S.H t) i = c0 + Sg (S.H t) (i + 1) by show _ = c0 + (Sg (S.H t) i + S.H t i); omega]; refine aw_pk [4, 3, 2, 0, 1] (by rfl) ?_; exact IH)
        · rw [hHi] at hc_54
          refine aw_iincZ dX6_count_57 (by rfl) (by decide) ?_
          refine aw_iincZ dX6_count_60 (by rfl) (by decide) ?_
          refine aw_goto (tgt := 32) dX6_count_63 (by decide) ?_
          rw [show ((i : Int) + 1) = ((i + 1 : Nat) : Int) by omega]
          first
          | (rw [show c0 + Sg (S.H t) i + 1 = c0 + Sg (S.H t) (i + 1) by show _ = c0 + (Sg (S.H t) i + S.H t i); omega]; refine aw_pk [4, 3, 2, 0, 1] (by rfl) ?_; exact IH)
          | (rw [show c0 + Sg (S.H t) i = c0 + Sg (S.H t) (i + 1) by show _ = c0 + (Sg (S.H t) i + S.H t i); omega]; refine aw_pk [4, 3, 2, 0, 1] (by rfl) ?_; exact IH)
theorem ctm_loop (d : Nat) {g : GX} {V : AH} {mo sz : Nat} {rk kn ar ac q : Int} {S : TSt} (hmo : V mo = some (moO mo rk kn ar ac)) (hT : RTb g mo V S) (o1 : TOK S) (hq : R32 q) : ∀ (y t : Nat), t + y = 12 → AW g mX6_count d 4 [(3, .int (iZ t)), (2, .int (iZ (ctR S q t))), (0, .ref mo), (1, .int (iZ q))] [] V sz (Ex (some (.int (iZ (spCnt S q)))) V sz 0 0)
  | 0, t, hy => by
    obtain rfl : t = 12 := by omega
    refine aw_iload_n dX6_count_4 (by rfl) ?_
    refine aw_bipushZ dX6_count_5 (by decide) ?_
    refine aw_icmp_geZ (tgt := 72) dX6_count_7 (by decide) (by omega) (by omega) (fun hc_7 => ?_) (fun hc_7 => ?_)
    · refine aw_iload_n dX6_count_72 (by rfl) ?_
      refine aw_if_eqZ (tgt := 81) dX6_count_73 (by decide) hq (fun hc_73 => ?_) (fun hc_73 => ?_)
      · refine aw_iload_n dX6_count_81 (by rfl) ?_
        refine aw_goto (tgt := 86) dX6_count_82 (by decide) ?_
        refine aw_iret dX6_count_86 rfl (by rfl) ?_
        first
        | (rw [show spCnt S q = ctR S q 12 by unfold spCnt ctR; rw [if_pos (show q = 0 by omega), if_pos (show q = 0 by omega)]]; exact ⟨rfl, rfl, rfl, rfl, rfl⟩)
        | (rw [show spCnt S q = ctR S q 12 by unfold spCnt ctR; rw [if_neg (show ¬ q = 0 by omega), if_neg (show ¬ q = 0 by omega), if_pos (show q = 1 by omega), if_pos (show q = 1 by omega)]]; exact ⟨rfl, rfl, rfl, rfl, rfl⟩)
        | (rw [show spCnt S q = -1 by unfold spCnt; rw [if_neg (show ¬ q = 0 by omega), if_neg (show ¬ q = 1 by omega)]]; exact ⟨rfl, rfl, rfl, rfl, rfl⟩)
      · refine aw_iload_n dX6_count_76 (by rfl) ?_
        refine aw_iconstZ dX6_count_77 ?_
        refine aw_icmp_neZ (tgt := 85) dX6_count_78 (by decide) hq (by omega) (fun hc_78 => ?_) (fun hc_78 => ?_)
        · refine aw_iconstZ dX6_count_85 ?_
          refine aw_iret dX6_count_86 rfl (by rfl) ?_
          first
          | (rw [show spCnt S q = ctR S q 12 by unfold spCnt ctR; rw [if_pos (show q = 0 by omega), if_pos (show q = 0 by omega)]]; exact ⟨rfl, rfl, rfl, rfl, rfl⟩)
          | (rw [show spCnt S q = ctR S q 12 by unfold spCnt ctR; rw [if_neg (show ¬ q = 0 by omega), if_neg (show ¬ q = 0 by omega), if_pos (show q = 1 by omega), if_pos (show q = 1 by omega)]]; exact ⟨rfl, rfl, rfl, rfl, rfl⟩)
          | (rw [show spCnt S q = -1 by unfold spCnt; rw [if_neg (show ¬ q = 0 by omega), if_neg (show ¬ q = 1 by omega)]]; exact ⟨rfl, rfl, rfl, rfl, rfl⟩)
        · refine aw_iload_n dX6_count_81 (by rfl) ?_
          refine aw_goto (tgt := 86) dX6_count_82 (by decide) ?_
          refine aw_iret dX6_count_86 rfl (by rfl) ?_
          first
          | (rw [show spCnt S q = ctR S q 12 by unfold spCnt ctR; rw [if_pos (show q = 0 by omega), if_pos (show q = 0 by omega)]]; exact ⟨rfl, rfl, rfl, rfl, rfl⟩)
          | (rw [show spCnt S q = ctR S q 12 by unfold spCnt ctR; rw [if_neg (show ¬ q = 0 by omega), if_neg (show ¬ q = 0 by omega), if_pos (show q = 1 by omega), if_pos (show q = 1 by omega)]]; exact ⟨rfl, rfl, rfl, rfl, rfl⟩)
          | (rw [show spCnt S q = -1 by unfold spCnt; rw [if_neg (show ¬ q = 0 by omega), if_neg (show ¬ q = 1 by omega)]]; exact ⟨rfl, rfl, rfl, rfl, rfl⟩)
    · exact absurd hc_7 (by omega)
  | y + 1, t, hy => by
    have IH := @ctm_loop d g V mo sz rk kn ar ac q S hmo hT o1 hq y (t + 1) (by omega)
    obtain ⟨TH, RR, CC, NN, HH, t1, t2, t3, t4, t5, t6⟩ := id hT
    have hth := (t6 t (by omega)).1
    have hcut : Sg (S.H t) 5 = Sg (S.H t) (S.r t) := Sg_cut (o1 t (by omega)).1 (fun i h1 h2 => (o1 t (by omega)).2.2.2.2.2.2 i h2 h1)
    rw [ctR_up] at IH
    refine aw_iload_n dX6_count_4 (by rfl) ?_
    refine aw_bipushZ dX6_count_5 (by decide) ?_
    refine aw_icmp_geZ (tgt := 72) dX6_count_7 (by decide) (by omega) (by omega) (fun hc_7 => ?_) (fun hc_7 => ?_)
    · exact absurd hc_7 (by omega)
    · refine aw_aload_n dX6_count_10 (by rfl) (Or.inr ⟨_, rfl⟩) ?_
      refine aw_get fX6_33 dX6_count_11 hmo (by rfl) ?_
      refine aw_iload_n dX6_count_14 (by rfl) ?_
      refine aw_zaldZ (t) dX6_count_15 t1 (by omega) (by omega) (by omega) ?_
      refine aw_if_neZ (tgt := 22) dX6_count_16 (by decide) (by rw [hth]; split <;> omega) (fun hc_16 => ?_) (fun hc_16 => ?_)
      · have hrt : 0 < S.r t := Classical.byContradiction (fun z => hc_16 (by rw [hth, if_neg z]))
        rw [if_pos hrt] at IH
        refine aw_iload_n dX6_count_22 (by rfl) ?_
        refine aw_if_neZ (tgt := 29) dX6_count_23 (by decide) hq (fun hc_23 => ?_) (fun hc_23 => ?_)
        · rw [if_neg hc_23] at IH
          refine aw_iconstZ dX6_count_29 ?_
          refine aw_istore dX6_count_30 (by decide) ?_
          by_cases e1 : q = 1
          · subst e1
            rw [if_pos rfl, ← hcut] at IH
            refine aw_pk [4, 3, 2, 0, 1] (by rfl) ?_
            rw [show ctR S 1 t = ctR S 1 t + Sg (S.H t) 0 by show _ = ctR S 1 t + 0; omega]
            refine ctm_in d (c0 := ctR S 1 t) hmo hT o1 (by omega) ?_ 5 0 (by omega)
            refine aw_iincZ dX6_count_66 (by rfl) (by decide) ?_
            refine aw_goto (tgt := 4) dX6_count_69 (by decide) ?_
            rw [show ((t : Int) + 1) = ((t + 1 : Nat) : Int) by omega]
            refine aw_pk [3, 2, 0, 1] (by rfl) ?_
            exact IH
          · rw [if_neg e1, Int.add_zero] at IH
            refine aw_iload dX6_count_32 (by rfl) ?_
            refine aw_iconstZ dX6_count_34 ?_
            refine aw_icmp_geZ (tgt := 66) dX6_count_35 (by decide) (by omega) (by omega) (fun hc_35 => ?_) (fun hc_35 => ?_)
            · exact absurd hc_35 (by omega)
            · refine aw_iload_n dX6_count_38 (by rfl) ?_
              refine aw_iconstZ dX6_count_39 ?_
              refine aw_icmp_neZ (tgt := 66) dX6_count_40 (by decide) hq (by omega) (fun hc_40 => ?_) (fun hc_40 => ?_)
              · refine aw_iincZ dX6_count_66 (by rfl) (by decide) ?_
                refine aw_goto (tgt := 4) dX6_count_69 (by decide) ?_
                rw [show ((t : Int) + 1) = ((t + 1 : Nat) : Int) by omega]
                refine aw_pk [3, 2, 0, 1] (by rfl) ?_
                exact IH
              · exact absurd hc_40 (by omega)
        · obtain rfl : q = 0 := by omega
          rw [if_pos rfl] at IH
          refine aw_iincZ dX6_count_26 (by rfl) (by decide) ?_
          refine aw_iconstZ dX6_count_29 ?_
          refine aw_istore dX6_count_30 (by decide) ?_
          refine aw_iload dX6_count_32 (by rfl) ?_
          refine aw_iconstZ dX6_count_34 ?_
          refine aw_icmp_geZ (tgt := 66) dX6_count_35 (by decide) (by omega) (by omega) (fun hc_35 => ?_) (fun hc_35 => ?_)
          · exact absurd hc_35 (by omega)
          · refine aw_iload_n dX6_count_38 (by rfl) ?_
            refine aw_iconstZ dX6_count_39 ?_
            refine aw_icmp_neZ (tgt := 66) dX6_count_40 (by decide) (by omega) (by omega) (fun hc_40 => ?_) (fun hc_40 => ?_)
            · refine aw_iincZ dX6_count_66 (by rfl) (by decide) ?_
              refine aw_goto (tgt := 4) dX6_count_69 (by decide) ?_
              rw [show ((t : Int) + 1) = ((t + 1 : Nat) : Int) by omega]
              refine aw_pk [3, 2, 0, 1] (by rfl) ?_
              exact IH
            · exact absurd hc_40 (by decide)
      · have hrt : ¬ 0 < S.r t := fun z => by rw [hth, if_pos z] at hc_16; omega
        rw [if_neg hrt, Int.add_zero] at IH
        refine aw_goto (tgt := 66) dX6_count_19 (by decide) ?_
        refine aw_iincZ dX6_count_66 (by rfl) (by decide) ?_
        refine aw_goto (tgt := 4) dX6_count_69 (by decide) ?_
        rw [show ((t : Int) + 1) = ((t + 1 : Nat) : Int) by omega]
        refine aw_pk [3, 2, 0, 1] (by rfl) ?_
        exact IH
theorem m_count (g : GX) (d : Nat) {V : AH} {mo sz : Nat} {zs : Nat → Int} {S : TSt} {A : ASt} {q : Int} (hR : RX g mo V zs S A) (hq : R32 q) : AMet g mX6_count d [.ref mo, .int (iZ q)] V sz (Ex (some (.int (iZ (spCnt S q)))) V sz 0 0) := by
  obtain ⟨⟨rk, kn, hmo⟩, -, -, -, -, -, hT, -, -, o1, -⟩ := id hR
  refine AMet.of rfl rfl (Nat.le_of_ble_eq_true rfl) ?_
  show AW g mX6_count d 0 [(0, .ref mo), (1, .int (iZ q))] [] V sz _
  refine aw_iconstZ dX6_count_0 ?_
  refine aw_istore_n dX6_count_1 (by decide) ?_
  refine aw_iconstZ dX6_count_2 ?_
  refine aw_istore_n dX6_count_3 (by decide) ?_
  refine aw_pk [3, 2, 0, 1] (by rfl) ?_
  have := ctm_loop d (sz := sz) hmo hT o1 hq 12 0 (by omega)
  rw [show ctR S q 0 = 0 by show (if q = 0 then (0 : Int) else if q = 1 then 0 else 0) = 0; simp] at this
  exact this
