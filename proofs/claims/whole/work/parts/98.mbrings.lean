/-! ===== the reference: its tables; brings, stairOf ===== -/
def uI (a q : Nat) : Int := if q = a then 1 else 0
/-- the reference's tables stand for S -/
def RTb (g : GX) (mo : Nat) (V : AH) (S : TSt) : Prop := ∃ TH RR CC NN HH : Nat → Int, V (mo + 8) = some (aZz g 12 TH) ∧ V (mo + 9) = some (aIz g 12 RR) ∧ V (mo + 10) = some (aIz g 12 CC) ∧ V (mo + 11) = some (aIz g 300 NN) ∧ V (mo + 12) = some (aZz g 60 HH) ∧ ∀ t, t < 12 → TH t = (if 0 < S.r t then 1 else 0) ∧ RR t = (S.r t : Int) ∧ CC t = (S.c t : Int) ∧ (∀ k, k < 25 → NN (25 * t + k) = S.N t k) ∧ ∀ i, i < 5 → HH (5 * t + i) = S.H t i
theorem RTb.kept {g : GX} {mo : Nat} {V V' : AH} {S : TSt} (h : RTb g mo V S) (hV : ∀ a, mo + 8 ≤ a → a ≤ mo + 12 → V' a = V a) : RTb g mo V' S := by
  obtain ⟨TH, RR, CC, NN, HH, h1, h2, h3, h4, h5, h6⟩ := h
  exact ⟨TH, RR, CC, NN, HH, (hV _ (by omega) (by omega)).trans h1, (hV _ (by omega) (by omega)).trans h2, (hV _ (by omega) (by omega)).trans h3, (hV _ (by omega) (by omega)).trans h4, (hV _ (by omega) (by omega)).trans h5, h6⟩
theorem LBM.eq {A A' : Mat} {n n' w hm : Nat} {K M : Int} (h : LBM A n w hm K M) (e : SpEq A n A' n' w) : LBM A' n' w hm K M := fun B k l hB hs => h B k l hB (e.tr hs)
theorem ci_snoc {A : Mat} {n r κ : Nat} {z : Nat → Int} (h : SpEq A n (CMx r z) (r + κ) 15) (hR : ∀ j, j < 15 → A n j = z (150 + j)) : SpEq A (n + 1) (CIx r z) (r + 1 + κ) 15 := by
  have hcm : ∀ i, i < r + κ → Span (CIx r z) (r + 1 + κ) 15 (CMx r z i) := fun i hi => by
    by_cases e : i < r
    · have := Span.row (A := CIx r z) (h := r + 1 + κ) (w := 15) (i := i) (by omega)
      unfold CIx at this ⊢
      rw [stk_lt (by omega), gm_row e] at this
      unfold CMx
      rw [stk_lt e]
      exact this
    · have := Span.row (A := CIx r z) (h := r + 1 + κ) (w := 15) (i := i + 1) (by omega)
      unfold CIx at this ⊢
      rw [stk_ge (by omega), show i + 1 - (r + 1) = i - r by omega] at this
      unfold CMx
      rw [stk_ge (by omega)]
      exact this
  refine SpEq.of (fun i hi => ?_) (fun i hi => ?_)
  · by_cases e : i = n
    · subst e
      have := Span.row (A := CIx r z) (h := r + 1 + κ) (w := 15) (i := r) (by omega)
      have e2 : CIx r z r = fun t => z (150 + t) := by unfold CIx; rw [stk_lt (by omega), gm_com]
      rw [e2] at this
      exact this.congr (fun j hj => (hR j hj).symm)
    · exact span_sub hcm ((h _).mp (Span.row (by omega)))
  · have hup : ∀ x, Span A n 15 x → Span A (n + 1) 15 x := fun x hx => span_sub (fun k hk => Span.row (by omega)) hx
    by_cases e : i < r
    · have : CIx r z i = CMx r z i := by unfold CIx CMx; rw [stk_lt (by omega), gm_row e, stk_lt e]; rfl
      rw [this]
      exact hup _ ((h _).mpr (Span.row (by omega)))
    · by_cases e2 : i = r
      · subst e2
        have e3 : CIx i z i = fun t => z (150 + t) := by unfold CIx; rw [stk_lt (by omega), gm_com]
        rw [e3]
        exact (Span.row (i := n) (by omega)).congr (fun j hj => hR j hj)
      · have : CIx r z i = CMx r z (i - 1) := by
          unfold CIx CMx
          rw [stk_ge (by omega), stk_ge (by omega), show i - 1 - r = i - (r + 1) by omega]
        rw [this]
        exact hup _ ((h _).mpr (Span.row (by omega)))
abbrev mX6_at_ : MI := (yX6_at_, cX6_at_, 4, (some FieldType.int), noX)
theorem dX6_at__0 : decode cX6_at_ 0 = .ok (.aload_n 0, 1) := by decide +kernel
theorem dX6_at__1 : decode cX6_at_ 1 = .ok (.getfield 43, 3) := by decide +kernel
theorem dX6_at__4 : decode cX6_at_ 4 = .ok (.bipush 25, 2) := by decide +kernel
theorem dX6_at__6 : decode cX6_at_ 6 = .ok (.iload_n 1, 1) := by decide +kernel
theorem dX6_at__7 : decode cX6_at_ 7 = .ok (.imul, 1) := by decide +kernel
theorem dX6_at__8 : decode cX6_at_ 8 = .ok (.iconst 5, 1) := by decide +kernel
theorem dX6_at__9 : decode cX6_at_ 9 = .ok (.iload_n 2, 1) := by decide +kernel
theorem dX6_at__10 : decode cX6_at_ 10 = .ok (.imul, 1) := by decide +kernel
theorem dX6_at__11 : decode cX6_at_ 11 = .ok (.iadd, 1) := by decide +kernel
theorem dX6_at__12 : decode cX6_at_ 12 = .ok (.iload_n 3, 1) := by decide +kernel
theorem dX6_at__13 : decode cX6_at_ 13 = .ok (.iadd, 1) := by decide +kernel
theorem dX6_at__14 : decode cX6_at_ 14 = .ok (.iaload, 1) := by decide +kernel
theorem dX6_at__15 : decode cX6_at_ 15 = .ok (.ireturn, 1) := by decide +kernel
theorem m_at3 (g : GX) (d : Nat) {V : AH} {mo sz t i j : Nat} {rk kn ar ac : Int} {S : TSt} (hmo : V mo = some (moO mo rk kn ar ac)) (hT : RTb g mo V S) (ht : t < 12) (hi : i < 5) (hj : j < 5) : AMet g mX6_at_ d [.ref mo, .int (iZ t), .int (iZ i), .int (iZ j)] V sz (Ex (some (.int (iZ (S.N t (5 * i + j))))) V sz 0 0) := by
  obtain ⟨TH, RR, CC, NN, HH, h1, h2, h3, h4, h5, h6⟩ := hT
  rw [← (h6 t ht).2.2.2.1 (5 * i + j) (by omega)]
  refine AMet.of rfl rfl (Nat.le_of_ble_eq_true rfl) ?_
  show AW g mX6_at_ d 0 [(0, .ref mo), (1, .int (iZ t)), (2, .int (iZ i)), (3, .int (iZ j))] [] V sz _
  refine aw_aload_n dX6_at__0 (by rfl) (Or.inr ⟨_, rfl⟩) ?_
  refine aw_get fX6_43 dX6_at__1 hmo (by rfl) ?_
  refine aw_bipushZ dX6_at__4 (by decide) ?_
  refine aw_iload_n dX6_at__6 (by rfl) ?_
  refine aw_imulZ dX6_at__7 ?_
  refine aw_iconstZ dX6_at__8 ?_
  refine aw_iload_n dX6_at__9 (by rfl) ?_
  refine aw_imulZ dX6_at__10 ?_
  refine aw_iaddZ dX6_at__11 ?_
  refine aw_iload_n dX6_at__12 (by rfl) ?_
  refine aw_iaddZ dX6_at__13 ?_
  refine aw_ialdZ (25 * t + (5 * i + j)) dX6_at__14 h4 (by omega) (by omega) (by omega) ?_
  refine aw_iret dX6_at__15 rfl (by rfl) ?_
  exact ⟨rfl, rfl, rfl, rfl, rfl⟩
abbrev mX6_none : MI := (yX6_none, cX6_none, 1, none, noX)
theorem dX6_none_0 : decode cX6_none 0 = .ok (.aload_n 0, 1) := by decide +kernel
theorem dX6_none_1 : decode cX6_none 1 = .ok (.iconst 0, 1) := by decide +kernel
theorem dX6_none_2 : decode cX6_none 2 = .ok (.putfield 117, 3) := by decide +kernel
theorem dX6_none_5 : decode cX6_none 5 = .ok (.aload_n 0, 1) := by decide +kernel
theorem dX6_none_6 : decode cX6_none 6 = .ok (.iconst 0, 1) := by decide +kernel
theorem dX6_none_7 : decode cX6_none 7 = .ok (.putfield 131, 3) := by decide +kernel
theorem dX6_none_10 : decode cX6_none 10 = .ok (.return_, 1) := by decide +kernel
theorem m_none (g : GX) (d : Nat) {V : AH} {mo sz : Nat} {rk kn ar ac : Int} (hmo : V mo = some (moO mo rk kn ar ac)) : AMet g mX6_none d [.ref mo] V sz (VX V sz (fun a => a = mo) (fun r V' => none = r ∧ V' mo = some (moO mo 0 0 ar ac))) := by
  refine AMet.of rfl rfl (Nat.le_of_ble_eq_true rfl) ?_
  show AW g mX6_none d 0 [(0, .ref mo)] [] V sz _
  refine aw_aload_n dX6_none_0 (by rfl) (Or.inr ⟨_, rfl⟩) ?_
  refine aw_iconstZ dX6_none_1 ?_
  refine aw_put fX6_117 dX6_none_2 hmo (by rfl) (by rfl) (Nat.le_of_ble_eq_true rfl) ?_
  refine aw_aload_n dX6_none_5 (by rfl) (Or.inr ⟨_, rfl⟩) ?_
  refine aw_iconstZ dX6_none_6 ?_
  refine aw_put fX6_131 dX6_none_7 (AHu_self _ _ _) (by rfl) (by rfl) (Nat.le_of_ble_eq_true rfl) ?_
  refine aw_ret dX6_none_10 rfl ?_
  exact ⟨rfl, rfl, rfl, fun a ha => (AHu_ne ha).trans (AHu_ne ha), rfl, AHu_self _ _ _⟩
abbrev mX6_brings : MI := (yX6_brings, cX6_brings, 5, none, noX)
theorem dX6_brings_0 : decode cX6_brings 0 = .ok (.iconst 0, 1) := by decide +kernel
theorem dX6_brings_1 : decode cX6_brings 1 = .ok (.istore_n 3, 1) := by decide +kernel
theorem dX6_brings_2 : decode cX6_brings 2 = .ok (.iload_n 3, 1) := by decide +kernel
theorem dX6_brings_3 : decode cX6_brings 3 = .ok (.aload_n 0, 1) := by decide +kernel
theorem dX6_brings_4 : decode cX6_brings 4 = .ok (.getfield 37, 3) := by decide +kernel
theorem dX6_brings_7 : decode cX6_brings 7 = .ok (.iload_n 1, 1) := by decide +kernel
theorem dX6_brings_8 : decode cX6_brings 8 = .ok (.iaload, 1) := by decide +kernel
theorem dX6_brings_9 : decode cX6_brings 9 = .ok (.if_icmp .ge 86, 3) := by decide +kernel
theorem dX6_brings_12 : decode cX6_brings 12 = .ok (.iconst 0, 1) := by decide +kernel
theorem dX6_brings_13 : decode cX6_brings 13 = .ok (.istore 4, 2) := by decide +kernel
theorem dX6_brings_15 : decode cX6_brings 15 = .ok (.iload 4, 2) := by decide +kernel
theorem dX6_brings_17 : decode cX6_brings 17 = .ok (.iconst 5, 1) := by decide +kernel
theorem dX6_brings_18 : decode cX6_brings 18 = .ok (.if_icmp .ge 28, 3) := by decide +kernel
theorem dX6_brings_21 : decode cX6_brings 21 = .ok (.aload_n 0, 1) := by decide +kernel
theorem dX6_brings_22 : decode cX6_brings 22 = .ok (.sipush 150, 3) := by decide +kernel
theorem dX6_brings_25 : decode cX6_brings 25 = .ok (.iload 4, 2) := by decide +kernel
theorem dX6_brings_27 : decode cX6_brings 27 = .ok (.iadd, 1) := by decide +kernel
theorem dX6_brings_28 : decode cX6_brings 28 = .ok (.aload_n 0, 1) := by decide +kernel
theorem dX6_brings_29 : decode cX6_brings 29 = .ok (.iload_n 1, 1) := by decide +kernel
theorem dX6_brings_30 : decode cX6_brings 30 = .ok (.iload_n 3, 1) := by decide +kernel
theorem dX6_brings_31 : decode cX6_brings 31 = .ok (.iload 4, 2) := by decide +kernel
theorem dX6_brings_33 : decode cX6_brings 33 = .ok (.invokevirtual 148, 3) := by decide +kernel
theorem dX6_brings_36 : decode cX6_brings 36 = .ok (.i2l, 1) := by decide +kernel
theorem dX6_brings_37 : decode cX6_brings 37 = .ok (.invokevirtual 83, 3) := by decide +kernel
theorem dX6_brings_40 : decode cX6_brings 40 = .ok (.iinc 4 1, 3) := by decide +kernel
theorem dX6_brings_43 : decode cX6_brings 43 = .ok (.goto (-28), 3) := by decide +kernel
theorem dX6_brings_46 : decode cX6_brings 46 = .ok (.iconst 0, 1) := by decide +kernel
theorem dX6_brings_47 : decode cX6_brings 47 = .ok (.istore 4, 2) := by decide +kernel
theorem dX6_brings_49 : decode cX6_brings 49 = .ok (.iload 4, 2) := by decide +kernel
theorem dX6_brings_51 : decode cX6_brings 51 = .ok (.bipush 10, 2) := by decide +kernel
theorem dX6_brings_53 : decode cX6_brings 53 = .ok (.if_icmp .ge 32, 3) := by decide +kernel
theorem dX6_brings_56 : decode cX6_brings 56 = .ok (.aload_n 0, 1) := by decide +kernel
theorem dX6_brings_57 : decode cX6_brings 57 = .ok (.sipush 155, 3) := by decide +kernel
theorem dX6_brings_60 : decode cX6_brings 60 = .ok (.iload 4, 2) := by decide +kernel
theorem dX6_brings_62 : decode cX6_brings 62 = .ok (.iadd, 1) := by decide +kernel
theorem dX6_brings_63 : decode cX6_brings 63 = .ok (.iload 4, 2) := by decide +kernel
theorem dX6_brings_65 : decode cX6_brings 65 = .ok (.iload_n 2, 1) := by decide +kernel
theorem dX6_brings_66 : decode cX6_brings 66 = .ok (.iload_n 3, 1) := by decide +kernel
theorem dX6_brings_67 : decode cX6_brings 67 = .ok (.iadd, 1) := by decide +kernel
theorem dX6_brings_68 : decode cX6_brings 68 = .ok (.if_icmp .ne 7, 3) := by decide +kernel
theorem dX6_brings_71 : decode cX6_brings 71 = .ok (.lconst 1, 1) := by decide +kernel
theorem dX6_brings_72 : decode cX6_brings 72 = .ok (.goto 4, 3) := by decide +kernel
theorem dX6_brings_75 : decode cX6_brings 75 = .ok (.lconst 0, 1) := by decide +kernel
theorem dX6_brings_76 : decode cX6_brings 76 = .ok (.invokevirtual 83, 3) := by decide +kernel
theorem dX6_brings_79 : decode cX6_brings 79 = .ok (.iinc 4 1, 3) := by decide +kernel
theorem dX6_brings_82 : decode cX6_brings 82 = .ok (.goto (-33), 3) := by decide +kernel
theorem dX6_brings_85 : decode cX6_brings 85 = .ok (.aload_n 0, 1) := by decide +kernel
theorem dX6_brings_86 : decode cX6_brings 86 = .ok (.invokevirtual 192, 3) := by decide +kernel
theorem dX6_brings_89 : decode cX6_brings 89 = .ok (.iinc 3 1, 3) := by decide +kernel
theorem dX6_brings_92 : decode cX6_brings 92 = .ok (.goto (-90), 3) := by decide +kernel
theorem dX6_brings_95 : decode cX6_brings 95 = .ok (.return_, 1) := by decide +kernel
theorem bt_loop (d : Nat) {g : GX} {V0 : AH} {mo sz t i fr : Nat} {rk kn ar ac : Int} {zs : Nat → Int} {S : TSt} {Q : AQ} (hT0 : RTb g mo V0 S) (ht : t < 12) (hi : i < 5) (hNb : ∀ k, k < 25 → -1000 ≤ S.N t k ∧ S.N t k ≤ 1000) 
    (hKK : ∀ {V : AH} {z : Nat → Int}, V mo = some (moO mo rk kn ar ac) → MN g mo V z → (∀ a, ¬ EN mo a → V a = V0 a) → (∀ q, z q = if 150 ≤ q ∧ q < 150 + 5 then S.N t (5 * i + (q - 150)) else zs q) → AW g mX6_brings (d + 7) 46 [(3, .int (iZ i)), (0, .ref mo), (1, .int (iZ t)), (2, .int (iZ fr))] [] V sz Q) : ∀ (y j : Nat), j + y = 5 → ∀ {V : AH} {z : Nat → Int}, V mo = some (moO mo rk kn ar ac) → MN g mo V z → (∀ a, ¬ EN mo a → V a = V0 a) → (∀ q, z q = if 150 ≤ q ∧ q < 150 + j then S.N t (5 * i + (q - 150)) else zs q) → AW g mX6_brings (d + 7) 15 [(4, .int (iZ j)), (3, .int (iZ i)), (0, .ref mo), (1, .int (iZ t)), (2, .int (iZ fr))] [] V sz Q
  | 0, j, hy, V, z, hmo, hM, hV, hC => by
    refine aw_iload dX6_brings_15 (by rfl) ?_
    refine aw_iconstZ dX6_brings_17 ?_
    refine aw_icmp_geZ (tgt := 46) dX6_brings_18 (by decide) (by omega) (by omega) (fun hc_18 => ?_) (fun hc_18 => ?_)
    · obtain rfl : j = 5 := by omega
      refine aw_pk [3, 0, 1, 2] (by rfl) ?_
      exact hKK hmo hM hV hC
    · exact absurd hc_18 (by omega)
  | y + 1, j, hy, V, z, hmo, hM, hV, hC => by
    have IH := fun j hj => @bt_loop d g V0 mo sz t i fr rk kn ar ac zs S Q hT0 ht hi hNb hKK y j hj
    clear hKK
    refine aw_iload dX6_brings_15 (by rfl) ?_
    refine aw_iconstZ dX6_brings_17 ?_
    refine aw_icmp_geZ (tgt := 46) dX6_brings_18 (by decide) (by omega) (by omega) (fun hc_18 => ?_) (fun hc_18 => ?_)
    · exact absurd hc_18 (by omega)
    · refine aw_aload_n dX6_brings_21 (by rfl) (Or.inr ⟨_, rfl⟩) ?_
      refine aw_sipushZ dX6_brings_22 (by decide) ?_
      refine aw_iload dX6_brings_25 (by rfl) ?_
      refine aw_iaddZ dX6_brings_27 ?_
      refine aw_topi (y := ((150 + j : Nat) : Int)) (by omega) ?_
      refine aw_aload_n dX6_brings_28 (by rfl) (Or.inr ⟨_, rfl⟩) ?_
      refine aw_iload_n dX6_brings_29 (by rfl) ?_
      refine aw_iload_n dX6_brings_30 (by rfl) ?_
      refine aw_iload dX6_brings_31 (by rfl) ?_
      refine aw_callv vX6_148 dX6_brings_33 hmo (m_at3 g (d + 6) (t := t) (i := i) (j := j) hmo (hT0.kept (fun a h1 h2 => hV a (by unfold EN; omega))) ht hi (by omega)) (by rfl) (by rfl) (by omega) (Nat.le_of_ble_eq_true rfl) ?_
      rintro _ _ _ _ _ ⟨rfl, rfl, rfl, rfl, rfl⟩ -
      refine q0 ?_
      refine aw_i2lZ dX6_brings_36 (by have := hNb (5 * i + j) (by omega); omega) ?_
      refine aw_callv vX6_83 dX6_brings_37 hmo (m_becomes g (d + 6) (c := 150 + j) (v := S.N t (5 * i + j)) ⟨rk, kn, ar, ac, hmo⟩ hM (by omega) (by have := hNb (5 * i + j) (by omega); omega)) (by rfl) (by rfl) (by omega) (Nat.le_of_ble_eq_true rfl) ?_
      rintro _ V1 _ _ _ ⟨rfl, rfl, rfl, hE1, rfl, hM1⟩ -
      refine q0 ?_
      refine aw_iincZ dX6_brings_40 (by rfl) (by decide) ?_
      refine aw_goto (tgt := 15) dX6_brings_43 (by decide) ?_
      rw [show ((j : Int) + 1) = ((j + 1 : Nat) : Int) by omega]
      refine aw_pk [4, 3, 0, 1, 2] (by rfl) ?_
      exact IH (j + 1) (by omega) ((hE1 mo (by unfold EN; omega)).trans hmo) hM1 (fun a ha => (hE1 a ha).trans (hV a ha)) (fun q => by
        by_cases e1 : q = 150 + j
        · rw [e1, upF_self, if_pos (by omega), show 150 + j - 150 = j by omega]
        · rw [upF_ne _ _ e1, hC q]
          by_cases e2 : 150 ≤ q ∧ q < 150 + j
          · rw [if_pos e2, if_pos (by omega)]
          · rw [if_neg e2, if_neg (by omega)])
theorem bu_loop (d : Nat) {g : GX} {V0 : AH} {mo sz t i fr : Nat} {rk kn ar ac : Int} {zs : Nat → Int} {S : TSt} {Q : AQ} (hfi : fr + i < 10) 
    (hKK : ∀ {V : AH} {z : Nat → Int}, V mo = some (moO mo rk kn ar ac) → MN g mo V z → (∀ a, ¬ EN mo a → V a = V0 a) → (∀ q, z q = if 155 ≤ q ∧ q < 155 + 10 then uI (fr + i) (q - 155) else zs q) → AW g mX6_brings (d + 7) 85 [(3, .int (iZ i)), (0, .ref mo), (1, .int (iZ t)), (2, .int (iZ fr))] [] V sz Q) : ∀ (y j : Nat), j + y = 10 → ∀ {V : AH} {z : Nat → Int}, V mo = some (moO mo rk kn ar ac) → MN g mo V z → (∀ a, ¬ EN mo a → V a = V0 a) → (∀ q, z q = if 155 ≤ q ∧ q < 155 + j then uI (fr + i) (q - 155) else zs q) → AW g mX6_brings (d + 7) 49 [(4, .int (iZ j)), (3, .int (iZ i)), (0, .ref mo), (1, .int (iZ t)), (2, .int (iZ fr))] [] V sz Q
  | 0, j, hy, V, z, hmo, hM, hV, hC => by
    refine aw_iload dX6_brings_49 (by rfl) ?_
    refine aw_bipushZ dX6_brings_51 (by decide) ?_
    refine aw_icmp_geZ (tgt := 85) dX6_brings_53 (by decide) (by omega) (by omega) (fun hc_53 => ?_) (fun hc_53 => ?_)
    · obtain rfl : j = 10 := by omega
      refine aw_pk [3, 0, 1, 2] (by rfl) ?_
      exact hKK hmo hM hV hC
    · exact absurd hc_53 (by omega)
  | y + 1, j, hy, V, z, hmo, hM, hV, hC => by
    have IH := fun j hj => @bu_loop d g V0 mo sz t i fr rk kn ar ac zs S Q hfi hKK y j hj
    clear hKK
    refine aw_iload dX6_brings_49 (by rfl) ?_
    refine aw_bipushZ dX6_brings_51 (by decide) ?_
    refine aw_icmp_geZ (tgt := 85) dX6_brings_53 (by decide) (by omega) (by omega) (fun hc_53 => ?_) (fun hc_53 => ?_)
    · exact absurd hc_53 (by omega)
    · refine aw_aload_n dX6_brings_56 (by rfl) (Or.inr ⟨_, rfl⟩) ?_
      refine aw_sipushZ dX6_brings_57 (by decide) ?_
      refine aw_iload dX6_brings_60 (by rfl) ?_
      refine aw_iaddZ dX6_brings_62 ?_
      refine aw_topi (y := ((155 + j : Nat) : Int)) (by omega) ?_
      refine aw_iload dX6_brings_63 (by rfl) ?_
      refine aw_iload_n dX6_brings_65 (by rfl) ?_
      refine aw_iload_n dX6_brings_66 (by rfl) ?_
      refine aw_iaddZ dX6_brings_67 ?_
      refine aw_icmp_neZ (tgt := 75) dX6_brings_68 (by decide) (by omega) (by omega) (fun hc_68 => ?_) (fun hc_68 => ?_)
      · refine aw_lconstZ (z := 0) dX6_brings_75 (by decide) ?_
        first
        | (refine aw_topl (y := uI (fr + i) j) (by unfold uI; rw [if_neg (by omega)]) ?_)
        | (refine aw_topl (y := uI (fr + i) j) (by unfold uI; rw [if_pos (by omega)]) ?_)
        refine aw_callv vX6_83 dX6_brings_76 hmo (m_becomes g (d + 6) (c := 155 + j) (v := uI (fr + i) j) ⟨rk, kn, ar, ac, hmo⟩ hM (by omega) (by unfold uI; split <;> omega)) (by rfl) (by rfl) (by omega) (Nat.le_of_ble_eq_true rfl) ?_
        rintro _ V1 _ _ _ ⟨rfl, rfl, rfl, hE1, rfl, hM1⟩ -
        refine q0 ?_
        refine aw_iincZ dX6_brings_79 (by rfl) (by decide) ?_
        refine aw_goto (tgt := 49) dX6_brings_82 (by decide) ?_
        rw [show ((j : Int) + 1) = ((j + 1 : Nat) : Int) by omega]
        refine aw_pk [4, 3, 0, 1, 2] (by rfl) ?_
        exact IH (j + 1) (by omega) ((hE1 mo (by unfold EN; omega)).trans hmo) hM1 (fun a ha => (hE1 a ha).trans (hV a ha)) (fun q => by
          by_cases e1 : q = 155 + j
          · rw [e1, upF_self, if_pos (by omega), show 155 + j - 155 = j by omega]
          · rw [upF_ne _ _ e1, hC q]
            by_cases e2 : 155 ≤ q ∧ q < 155 + j
            · rw [if_pos e2, if_pos (by omega)]
            · rw [if_neg e2, if_neg (by omega)])
      · refine aw_lconstZ (z := 1) dX6_brings_71 (by decide) ?_
        refine aw_goto (tgt := 76) dX6_brings_72 (by decide) ?_
        first
        | (refine aw_topl (y := uI (fr + i) j) (by unfold uI; rw [if_neg (by omega)]) ?_)
        | (refine aw_topl (y := uI (fr + i) j) (by unfold uI; rw [if_pos (by omega)]) ?_)
        refine aw_callv vX6_83 dX6_brings_76 hmo (m_becomes g (d + 6) (c := 155 + j) (v := uI (fr + i) j) ⟨rk, kn, ar, ac, hmo⟩ hM (by omega) (by unfold uI; split <;> omega)) (by rfl) (by rfl) (by omega) (Nat.le_of_ble_eq_true rfl) ?_
        rintro _ V1 _ _ _ ⟨rfl, rfl, rfl, hE1, rfl, hM1⟩ -
        refine q0 ?_
        refine aw_iincZ dX6_brings_79 (by rfl) (by decide) ?_
        refine aw_goto (tgt := 49) dX6_brings_82 (by decide) ?_
        rw [show ((j : Int) + 1) = ((j + 1 : Nat) : Int) by omega]
        refine aw_pk [4, 3, 0, 1, 2] (by rfl) ?_
        exact IH (j + 1) (by omega) ((hE1 mo (by unfold EN; omega)).trans hmo) hM1 (fun a ha => (hE1 a ha).trans (hV a ha)) (fun q => by
          by_cases e1 : q = 155 + j
          · rw [e1, upF_self, if_pos (by omega), show 155 + j - 155 = j by omega]
          · rw [upF_ne _ _ e1, hC q]
            by_cases e2 : 155 ≤ q ∧ q < 155 + j
            · rw [if_pos e2, if_pos (by omega)]
            · rw [if_neg e2, if_neg (by omega)])
theorem br_loop (d : Nat) {g : GX} {V0 : AH} {mo sz t fr : Nat} {ar ac : Int} {z0 : Nat → Int} {NJ : Mat} {S : TSt} (hT0 : RTb g mo V0 S) (ht : t < 12) (hrb : S.r t ≤ 5) (hfr : fr + S.r t ≤ 10) (hNb : ∀ k, k < 25 → -1000 ≤ S.N t k ∧ S.N t k ≤ 1000) (hNN : ∀ a b, a < fr + S.r t → b < 5 → ab (NJ a b) ≤ 1000) (hNJ : ∀ i j, i < S.r t → j < 5 → NJ (fr + i) j = S.N t (5 * i + j)) : ∀ (y i : Nat), i + y = S.r t → ∀ {V : AH} {zs : Nat → Int} {r κ : Nat} {l lk : Nat → Nat}, CSt g mo V r κ ar ac l lk zs → Stair (CMx r zs) (r + κ) 15 (lcx r l lk) → SpEq (GTx NJ) (fr + i) (CMx r zs) (r + κ) 15 → r + κ ≤ fr + i → (∀ a, ¬ EC mo a → V a = V0 a) → Frm z0 zs InC → AW g mX6_brings (d + 7) 2 [(3, .int (iZ i)), (0, .ref mo), (1, .int (iZ t)), (2, .int (iZ fr))] [] V sz (VX V0 sz (EC mo) (fun q V' => none = q ∧ ∃ (r κ : Nat) (l lk : Nat → Nat) (z' : Nat → Int), CSt g mo V' r κ ar ac l lk z' ∧ Stair (CMx r z') (r + κ) 15 (lcx r l lk) ∧ SpEq (GTx NJ) (fr + S.r t) (CMx r z') (r + κ) 15 ∧ r + κ ≤ fr + S.r t ∧ Frm z0 z' InC))
  | 0, i, hy, V, zs, r, κ, l, lk, hC, hst, hsp, hn, hV, hF => by
    obtain ⟨RW, RK, hmo, hra, hrk, hl, hlk, hM, hl5⟩ := hC
    obtain ⟨TH, RR, CC, NN, HH, h1, h2, h3, h4, h5, h6⟩ := id hT0
    have hRR := (hV (mo + 9) (by unfold EC; omega)).trans h2
    have hrt := (h6 t ht).2.1
    refine aw_iload_n dX6_brings_2 (by rfl) ?_
    refine aw_aload_n dX6_brings_3 (by rfl) (Or.inr ⟨_, rfl⟩) ?_
    refine aw_get fX6_37 dX6_brings_4 hmo (by rfl) ?_
    refine aw_iload_n dX6_brings_7 (by rfl) ?_
    refine aw_ialdZ (t) dX6_brings_8 hRR (by omega) (by omega) (by omega) ?_
    rw [hrt]
    refine aw_icmp_geZ (tgt := 95) dX6_brings_9 (by decide) (by omega) (by omega) (fun hc_9 => ?_) (fun hc_9 => ?_)
    · refine aw_ret dX6_brings_95 rfl ?_
      obtain rfl : i = S.r t := by omega
      exact ⟨rfl, rfl, rfl, hV, rfl, r, κ, l, lk, zs, ⟨RW, RK, hmo, hra, hrk, hl, hlk, hM, hl5⟩, hst, hsp, hn, hF⟩
    · exact absurd hc_9 (by omega)
  | y + 1, i, hy, V, zs, r, κ, l, lk, hC, hst, hsp, hn, hV, hF => by
    have IH := fun i hi => @br_loop d g V0 mo sz t fr ar ac z0 NJ S hT0 ht hrb hfr hNb hNN hNJ y i hi
    obtain ⟨RW, RK, hmo, hra, hrk, hl, hlk, hM, hl5⟩ := hC
    obtain ⟨TH, RR, CC, NN, HH, h1, h2, h3, h4, h5, h6⟩ := id hT0
    have hRR := (hV (mo + 9) (by unfold EC; omega)).trans h2
    have hrt := (h6 t ht).2.1
    refine aw_iload_n dX6_brings_2 (by rfl) ?_
    refine aw_aload_n dX6_brings_3 (by rfl) (Or.inr ⟨_, rfl⟩) ?_
    refine aw_get fX6_37 dX6_brings_4 hmo (by rfl) ?_
    refine aw_iload_n dX6_brings_7 (by rfl) ?_
    refine aw_ialdZ (t) dX6_brings_8 hRR (by omega) (by omega) (by omega) ?_
    rw [hrt]
    refine aw_icmp_geZ (tgt := 95) dX6_brings_9 (by decide) (by omega) (by omega) (fun hc_9 => ?_) (fun hc_9 => ?_)
    · exact absurd hc_9 (by omega)
    · refine aw_iconstZ dX6_brings_12 ?_
      refine aw_istore dX6_brings_13 (by decide) ?_
      refine aw_pk [4, 3, 0, 1, 2] (by rfl) ?_
      refine bt_loop d (V0 := V) (zs := zs) (fr := fr) (S := S) (hT0.kept (fun a h1 h2 => hV a (by unfold EC; omega))) ht (by omega) hNb (fun {V1 z1} hmo1 hM1 hV1 hC1 => ?_) 5 0 (by omega) hmo hM (fun _ _ => rfl) (fun q => by rw [if_neg (by omega)])
      refine aw_iconstZ dX6_brings_46 ?_
      refine aw_istore dX6_brings_47 (by decide) ?_
      refine aw_pk [4, 3, 0, 1, 2] (by rfl) ?_
      refine bu_loop d (V0 := V1) (zs := z1) (fr := fr) (i := i) (t := t) (S := S) (by omega) (fun {V2 z2} hmo2 hM2 hV2 hC2 => ?_) 10 0 (by omega) hmo1 hM1 (fun _ _ => rfl) (fun q => by rw [if_neg (by omega)])
      have hcm : ∀ a b, a < r + κ → b < 15 → CMx r z2 a b = CMx r zs a b := fun a b ha hb => by
        by_cases e : a < r
        · rw [cm_s e, cm_s e, hC2 _, if_neg (by omega), hC1 _, if_neg (by omega)]
        · obtain ⟨f, rfl⟩ : ∃ f, a = r + f := ⟨a - r, by omega⟩
          rw [cm_k, cm_k]
          split
          · rfl
          · rw [hC2 _, if_neg (by omega), hC1 _, if_neg (by omega)]
      have hsp2 : SpEq (GTx NJ) (fr + i) (CMx r z2) (r + κ) 15 := hsp.tr (SpEq.cong (fun a ha b hb => (hcm a b ha hb).symm))
      have hR : ∀ q, q < 15 → GTx NJ (fr + i) q = z2 (150 + q) := fun q hq => by
        have h9 := hC2 (150 + q)
        by_cases e : q < 5
        · rw [if_neg (by omega), hC1 _, if_pos (by omega), show 150 + q - 150 = q by omega] at h9
          rw [h9]
          unfold GTx
          rw [if_pos e]
          exact hNJ i q (by omega) e
        · rw [if_pos (by omega), show 150 + q - 155 = q - 5 by omega] at h9
          rw [h9]
          unfold GTx uI
          rw [if_neg e]
      have hsp3 : SpEq (GTx NJ) (fr + i + 1) (CIx r z2) (r + 1 + κ) 15 := ci_snoc hsp2 hR
      refine aw_aload_n dX6_brings_85 (by rfl) (Or.inr ⟨_, rfl⟩) ?_
      refine aw_callv vX6_192 dX6_brings_86 hmo2 (m_comesIn g d (r := r) (κ := κ) (l := l) (lk := lk) (X := 1000) (K := 10 * TM10) (M := TM10) ⟨RW, RK, hmo2, (hV2 _ (by unfold EN; omega)).trans ((hV1 _ (by unfold EN; omega)).trans hra), (hV2 _ (by unfold EN; omega)).trans ((hV1 _ (by unfold EN; omega)).trans hrk), hl, hlk, hM2, hl5⟩ (hst.cong (fun a ha b hb => hcm a b ha hb)) (by omega) ((tu_lbm (fun a b ha hb => hNN a b (by omega) hb)).eq hsp2) ((tu_lbm (fun a b ha hb => hNN a b (by omega) hb)).eq hsp3) (by omega) (by have := tm10; omega) tm10 (fun q hq => ?_) tu_sm) (by rfl) (by rfl) (by omega) (Nat.le_of_ble_eq_true rfl) ?_
      · rw [← hR q hq]; unfold GTx; split
        · exact hNN _ _ (by omega) (by assumption)
        · split <;> decide
      rintro _ V3 _ _ _ ⟨rfl, rfl, rfl, hE3, rfl, r3, κ3, l3, lk3, z3, hC3, hst3, hs3, hrk3, hF3⟩ -
      refine q0 ?_
      refine aw_iincZ dX6_brings_89 (by rfl) (by decide) ?_
      refine aw_goto (tgt := 2) dX6_brings_92 (by decide) ?_
      rw [show ((i : Int) + 1) = ((i + 1 : Nat) : Int) by omega]
      refine aw_pk [3, 0, 1, 2] (by rfl) ?_
      exact IH (i + 1) (by omega) hC3 hst3 (hsp3.tr hs3) (by omega) (fun a ha => (hE3 a ha).trans ((hV2 a (fun z => ha (by unfold EN at z; unfold EC; omega))).trans ((hV1 a (fun z => ha (by unfold EN at z; unfold EC; omega))).trans (hV a ha)))) (fun q hq => (hF3 q hq).trans ((by unfold InC at hq; rw [hC2 q, if_neg (by omega), hC1 q, if_neg (by omega)] : z2 q = zs q).trans (hF q hq)))
theorem m_brings (g : GX) (d : Nat) {V0 : AH} {mo sz t fr r κ : Nat} {ar ac : Int} {z0 : Nat → Int} {NJ : Mat} {S : TSt} {l lk : Nat → Nat} (hC : CSt g mo V0 r κ ar ac l lk z0) (hst : Stair (CMx r z0) (r + κ) 15 (lcx r l lk)) (hsp : SpEq (GTx NJ) fr (CMx r z0) (r + κ) 15) (hn : r + κ ≤ fr) (hT0 : RTb g mo V0 S) (ht : t < 12) (hrb : S.r t ≤ 5) (hfr : fr + S.r t ≤ 10) (hNb : ∀ k, k < 25 → -1000 ≤ S.N t k ∧ S.N t k ≤ 1000) (hNN : ∀ a b, a < fr + S.r t → b < 5 → ab (NJ a b) ≤ 1000) (hNJ : ∀ i j, i < S.r t → j < 5 → NJ (fr + i) j = S.N t (5 * i + j)) : AMet g mX6_brings (d + 7) [.ref mo, .int (iZ t), .int (iZ fr)] V0 sz (VX V0 sz (EC mo) (fun q V' => none = q ∧ ∃ (r κ : Nat) (l lk : Nat → Nat) (z' : Nat → Int), CSt g mo V' r κ ar ac l lk z' ∧ Stair (CMx r z') (r + κ) 15 (lcx r l lk) ∧ SpEq (GTx NJ) (fr + S.r t) (CMx r z') (r + κ) 15 ∧ r + κ ≤ fr + S.r t ∧ Frm z0 z' InC)) := by
  refine AMet.of rfl rfl (Nat.le_of_ble_eq_true rfl) ?_
  show AW g mX6_brings (d + 7) 0 [(0, .ref mo), (1, .int (iZ t)), (2, .int (iZ fr))] [] V0 sz _
  refine aw_iconstZ dX6_brings_0 ?_
  refine aw_istore_n dX6_brings_1 (by decide) ?_
  refine aw_pk [3, 0, 1, 2] (by rfl) ?_
  exact br_loop d hT0 ht hrb hfr hNb hNN hNJ (S.r t) 0 (by omega) hC hst hsp hn (fun _ _ => rfl) (fun _ _ => rfl)
