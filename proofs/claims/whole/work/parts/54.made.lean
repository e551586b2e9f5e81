/-! ===== madeCanBe, keepMade ===== -/
abbrev mX5_madeCanBe : MI := (yX5_madeCanBe, cX5_madeCanBe, 3, (some FieldType.boolean), noX)
theorem dX5_madeCanBe_0 : decode cX5_madeCanBe 0 = .ok (.iconst 0, 1) := by decide +kernel
theorem dX5_madeCanBe_1 : decode cX5_madeCanBe 1 = .ok (.istore_n 2, 1) := by decide +kernel
theorem dX5_madeCanBe_2 : decode cX5_madeCanBe 2 = .ok (.iload_n 2, 1) := by decide +kernel
theorem dX5_madeCanBe_3 : decode cX5_madeCanBe 3 = .ok (.iload_n 1, 1) := by decide +kernel
theorem dX5_madeCanBe_4 : decode cX5_madeCanBe 4 = .ok (.if_icmp .ge 35, 3) := by decide +kernel
theorem dX5_madeCanBe_7 : decode cX5_madeCanBe 7 = .ok (.aload_n 0, 1) := by decide +kernel
theorem dX5_madeCanBe_8 : decode cX5_madeCanBe 8 = .ok (.getfield 56, 3) := by decide +kernel
theorem dX5_madeCanBe_11 : decode cX5_madeCanBe 11 = .ok (.iload_n 2, 1) := by decide +kernel
theorem dX5_madeCanBe_12 : decode cX5_madeCanBe 12 = .ok (.iaload, 1) := by decide +kernel
theorem dX5_madeCanBe_13 : decode cX5_madeCanBe 13 = .ok (.sipush (-1000), 3) := by decide +kernel
theorem dX5_madeCanBe_16 : decode cX5_madeCanBe 16 = .ok (.if_icmp .lt 15, 3) := by decide +kernel
theorem dX5_madeCanBe_19 : decode cX5_madeCanBe 19 = .ok (.aload_n 0, 1) := by decide +kernel
theorem dX5_madeCanBe_20 : decode cX5_madeCanBe 20 = .ok (.getfield 56, 3) := by decide +kernel
theorem dX5_madeCanBe_23 : decode cX5_madeCanBe 23 = .ok (.iload_n 2, 1) := by decide +kernel
theorem dX5_madeCanBe_24 : decode cX5_madeCanBe 24 = .ok (.iaload, 1) := by decide +kernel
theorem dX5_madeCanBe_25 : decode cX5_madeCanBe 25 = .ok (.sipush 1000, 3) := by decide +kernel
theorem dX5_madeCanBe_28 : decode cX5_madeCanBe 28 = .ok (.if_icmp .le 5, 3) := by decide +kernel
theorem dX5_madeCanBe_31 : decode cX5_madeCanBe 31 = .ok (.iconst 0, 1) := by decide +kernel
theorem dX5_madeCanBe_32 : decode cX5_madeCanBe 32 = .ok (.ireturn, 1) := by decide +kernel
theorem dX5_madeCanBe_33 : decode cX5_madeCanBe 33 = .ok (.iinc 2 1, 3) := by decide +kernel
theorem dX5_madeCanBe_36 : decode cX5_madeCanBe 36 = .ok (.goto (-34), 3) := by decide +kernel
theorem dX5_madeCanBe_39 : decode cX5_madeCanBe 39 = .ok (.iconst 1, 1) := by decide +kernel
theorem dX5_madeCanBe_40 : decode cX5_madeCanBe 40 = .ok (.ireturn, 1) := by decide +kernel
theorem mb_loop (g : GX) (d : Nat) {V : AH} {sz b n : Nat} {t q : Int} {F : Nat → Int} (hb : V b = some (bnO b t)) (hM : V (b + 645) = some (aIz g 25 F)) (hn : n ≤ 25) (hFr : ∀ k, k < n → R32 (F k)) (hq : (q = 1 ∧ (∀ k, k < n → -1000 ≤ F k ∧ F k ≤ 1000)) ∨ (q = 0 ∧ ¬ (∀ k, k < n → -1000 ≤ F k ∧ F k ≤ 1000))) : ∀ (x k : Nat), k + x = n → (∀ i, i < k → -1000 ≤ F i ∧ F i ≤ 1000) → AW g mX5_madeCanBe d 2 [(2, .int (iZ k)), (0, .ref b), (1, .int (iZ n))] [] V sz (Ex (some (.int (iZ q))) V sz 0 0)
  | 0, k, hx, hpre => by
    refine aw_iload_n dX5_madeCanBe_2 (by rfl) ?_
    refine aw_iload_n dX5_madeCanBe_3 (by rfl) ?_
    refine aw_icmp_geZ (tgt := 39) dX5_madeCanBe_4 (by decide) (by omega) (by omega) (fun hc_4 => ?_) (fun hc_4 => ?_)
    · obtain rfl : q = 1 := by
        rcases hq with ⟨z, _⟩ | ⟨_, z⟩
        · exact z
        · exact absurd (fun i hi => hpre i (by omega)) z
      refine aw_iconstZ dX5_madeCanBe_39 ?_
      refine aw_iret dX5_madeCanBe_40 rfl (by rfl) ?_
      exact ⟨rfl, rfl, rfl, rfl, rfl⟩
    · exact absurd hc_4 (by omega)
  | x + 1, k, hx, hpre => by
    have IH := fun k hk => mb_loop g d (sz := sz) hb hM hn hFr hq x k hk
    refine aw_iload_n dX5_madeCanBe_2 (by rfl) ?_
    refine aw_iload_n dX5_madeCanBe_3 (by rfl) ?_
    refine aw_icmp_geZ (tgt := 39) dX5_madeCanBe_4 (by decide) (by omega) (by omega) (fun hc_4 => ?_) (fun hc_4 => ?_)
    · exact absurd hc_4 (by omega)
    · have hFk := hFr k (by omega)
      refine aw_aload_n dX5_madeCanBe_7 (by rfl) (Or.inr ⟨_, rfl⟩) ?_
      refine aw_get fX5_56 dX5_madeCanBe_8 (by assumption) (by rfl) ?_
      refine aw_iload_n dX5_madeCanBe_11 (by rfl) ?_
      refine aw_ialdZ (k) dX5_madeCanBe_12 (by assumption) (by omega) (by omega) (by omega) ?_
      refine aw_sipushZ dX5_madeCanBe_13 (by decide) ?_
      refine aw_icmp_ltZ (tgt := 31) dX5_madeCanBe_16 (by decide) (by omega) (by omega) (fun hc_16 => ?_) (fun hc_16 => ?_)
      · obtain rfl : q = 0 := by
          rcases hq with ⟨_, z⟩ | ⟨z, _⟩
          · have := z k (by omega)
            omega
          · exact z
        refine aw_iconstZ dX5_madeCanBe_31 ?_
        refine aw_iret dX5_madeCanBe_32 rfl (by rfl) ?_
        exact ⟨rfl, rfl, rfl, rfl, rfl⟩
      · refine aw_aload_n dX5_madeCanBe_19 (by rfl) (Or.inr ⟨_, rfl⟩) ?_
        refine aw_get fX5_56 dX5_madeCanBe_20 (by assumption) (by rfl) ?_
        refine aw_iload_n dX5_madeCanBe_23 (by rfl) ?_
        refine aw_ialdZ (k) dX5_madeCanBe_24 (by assumption) (by omega) (by omega) (by omega) ?_
        refine aw_sipushZ dX5_madeCanBe_25 (by decide) ?_
        refine aw_icmp_leZ (tgt := 33) dX5_madeCanBe_28 (by decide) (by omega) (by omega) (fun hc_28 => ?_) (fun hc_28 => ?_)
        · refine aw_iincZ dX5_madeCanBe_33 (by rfl) (by decide) ?_
          refine aw_goto (tgt := 2) dX5_madeCanBe_36 (by decide) ?_
          rw [show ((k : Int) + 1) = ((k + 1 : Nat) : Int) by omega]
          refine aw_pk [2, 0, 1] (by rfl) ?_
          exact IH (k + 1) (by omega) (fun i hi => (Nat.lt_or_eq_of_le (Nat.le_of_lt_succ hi)).elim (hpre i) (fun z => by rw [z]; omega))
        · obtain rfl : q = 0 := by
            rcases hq with ⟨_, z⟩ | ⟨z, _⟩
            · have := z k (by omega)
              omega
            · exact z
          refine aw_iconstZ dX5_madeCanBe_31 ?_
          refine aw_iret dX5_madeCanBe_32 rfl (by rfl) ?_
          exact ⟨rfl, rfl, rfl, rfl, rfl⟩
theorem t_madeCanBe (g : GX) (d : Nat) {V : AH} {sz b n : Nat} {t q : Int} {F : Nat → Int} (hb : V b = some (bnO b t)) (hM : V (b + 645) = some (aIz g 25 F)) (hn : n ≤ 25) (hFr : ∀ k, k < n → R32 (F k)) (hq : (q = 1 ∧ (∀ k, k < n → -1000 ≤ F k ∧ F k ≤ 1000)) ∨ (q = 0 ∧ ¬ (∀ k, k < n → -1000 ≤ F k ∧ F k ≤ 1000))) : AMet g mX5_madeCanBe d [.ref b, .int (iZ n)] V sz (Ex (some (.int (iZ q))) V sz 0 0) := by
  refine AMet.of rfl rfl (Nat.le_of_ble_eq_true rfl) ?_
  show AW g mX5_madeCanBe d 0 [(0, .ref b), (1, .int (iZ n))] [] V sz _
  refine aw_iconstZ dX5_madeCanBe_0 ?_
  refine aw_istore_n dX5_madeCanBe_1 (by decide) ?_
  refine aw_pk [2, 0, 1] (by rfl) ?_
  exact mb_loop g d hb hM hn hFr hq n 0 (by omega) (fun i hi => absurd hi (by omega))
abbrev mX5_keepMade : MI := (yX5_keepMade, cX5_keepMade, 7, (some FieldType.boolean), noX)
theorem dX5_keepMade_0 : decode cX5_keepMade 0 = .ok (.aload_n 0, 1) := by decide +kernel
theorem dX5_keepMade_1 : decode cX5_keepMade 1 = .ok (.iload_n 2, 1) := by decide +kernel
theorem dX5_keepMade_2 : decode cX5_keepMade 2 = .ok (.iload_n 3, 1) := by decide +kernel
theorem dX5_keepMade_3 : decode cX5_keepMade 3 = .ok (.imul, 1) := by decide +kernel
theorem dX5_keepMade_4 : decode cX5_keepMade 4 = .ok (.invokevirtual 83, 3) := by decide +kernel
theorem dX5_keepMade_7 : decode cX5_keepMade 7 = .ok (.ifCond .ne 5, 3) := by decide +kernel
theorem dX5_keepMade_10 : decode cX5_keepMade 10 = .ok (.iconst 0, 1) := by decide +kernel
theorem dX5_keepMade_11 : decode cX5_keepMade 11 = .ok (.ireturn, 1) := by decide +kernel
theorem dX5_keepMade_12 : decode cX5_keepMade 12 = .ok (.aload_n 0, 1) := by decide +kernel
theorem dX5_keepMade_13 : decode cX5_keepMade 13 = .ok (.getfield 11, 3) := by decide +kernel
theorem dX5_keepMade_16 : decode cX5_keepMade 16 = .ok (.iload_n 1, 1) := by decide +kernel
theorem dX5_keepMade_17 : decode cX5_keepMade 17 = .ok (.aaload, 1) := by decide +kernel
theorem dX5_keepMade_18 : decode cX5_keepMade 18 = .ok (.astore 4, 2) := by decide +kernel
theorem dX5_keepMade_20 : decode cX5_keepMade 20 = .ok (.aload 4, 2) := by decide +kernel
theorem dX5_keepMade_22 : decode cX5_keepMade 22 = .ok (.iload_n 2, 1) := by decide +kernel
theorem dX5_keepMade_23 : decode cX5_keepMade 23 = .ok (.iload_n 3, 1) := by decide +kernel
theorem dX5_keepMade_24 : decode cX5_keepMade 24 = .ok (.invokevirtual 69, 3) := by decide +kernel
theorem dX5_keepMade_27 : decode cX5_keepMade 27 = .ok (.iconst 0, 1) := by decide +kernel
theorem dX5_keepMade_28 : decode cX5_keepMade 28 = .ok (.istore 5, 2) := by decide +kernel
theorem dX5_keepMade_30 : decode cX5_keepMade 30 = .ok (.iload 5, 2) := by decide +kernel
theorem dX5_keepMade_32 : decode cX5_keepMade 32 = .ok (.iload_n 2, 1) := by decide +kernel
theorem dX5_keepMade_33 : decode cX5_keepMade 33 = .ok (.if_icmp .ge 58, 3) := by decide +kernel
theorem dX5_keepMade_36 : decode cX5_keepMade 36 = .ok (.iconst 0, 1) := by decide +kernel
theorem dX5_keepMade_37 : decode cX5_keepMade 37 = .ok (.istore 6, 2) := by decide +kernel
theorem dX5_keepMade_39 : decode cX5_keepMade 39 = .ok (.iload 6, 2) := by decide +kernel
theorem dX5_keepMade_41 : decode cX5_keepMade 41 = .ok (.iload_n 3, 1) := by decide +kernel
theorem dX5_keepMade_42 : decode cX5_keepMade 42 = .ok (.if_icmp .ge 34, 3) := by decide +kernel
theorem dX5_keepMade_45 : decode cX5_keepMade 45 = .ok (.aload 4, 2) := by decide +kernel
theorem dX5_keepMade_47 : decode cX5_keepMade 47 = .ok (.getfield 86, 3) := by decide +kernel
theorem dX5_keepMade_50 : decode cX5_keepMade 50 = .ok (.iload 5, 2) := by decide +kernel
theorem dX5_keepMade_52 : decode cX5_keepMade 52 = .ok (.iconst 5, 1) := by decide +kernel
theorem dX5_keepMade_53 : decode cX5_keepMade 53 = .ok (.imul, 1) := by decide +kernel
theorem dX5_keepMade_54 : decode cX5_keepMade 54 = .ok (.iload 6, 2) := by decide +kernel
theorem dX5_keepMade_56 : decode cX5_keepMade 56 = .ok (.iadd, 1) := by decide +kernel
theorem dX5_keepMade_57 : decode cX5_keepMade 57 = .ok (.aload_n 0, 1) := by decide +kernel
theorem dX5_keepMade_58 : decode cX5_keepMade 58 = .ok (.getfield 56, 3) := by decide +kernel
theorem dX5_keepMade_61 : decode cX5_keepMade 61 = .ok (.iload 5, 2) := by decide +kernel
theorem dX5_keepMade_63 : decode cX5_keepMade 63 = .ok (.iload_n 3, 1) := by decide +kernel
theorem dX5_keepMade_64 : decode cX5_keepMade 64 = .ok (.imul, 1) := by decide +kernel
theorem dX5_keepMade_65 : decode cX5_keepMade 65 = .ok (.iload 6, 2) := by decide +kernel
theorem dX5_keepMade_67 : decode cX5_keepMade 67 = .ok (.iadd, 1) := by decide +kernel
theorem dX5_keepMade_68 : decode cX5_keepMade 68 = .ok (.iaload, 1) := by decide +kernel
theorem dX5_keepMade_69 : decode cX5_keepMade 69 = .ok (.iastore, 1) := by decide +kernel
theorem dX5_keepMade_70 : decode cX5_keepMade 70 = .ok (.iinc 6 1, 3) := by decide +kernel
theorem dX5_keepMade_73 : decode cX5_keepMade 73 = .ok (.goto (-34), 3) := by decide +kernel
theorem dX5_keepMade_76 : decode cX5_keepMade 76 = .ok (.aload 4, 2) := by decide +kernel
theorem dX5_keepMade_78 : decode cX5_keepMade 78 = .ok (.getfield 89, 3) := by decide +kernel
theorem dX5_keepMade_81 : decode cX5_keepMade 81 = .ok (.iload 5, 2) := by decide +kernel
theorem dX5_keepMade_83 : decode cX5_keepMade 83 = .ok (.iconst 1, 1) := by decide +kernel
theorem dX5_keepMade_84 : decode cX5_keepMade 84 = .ok (.bastore, 1) := by decide +kernel
theorem dX5_keepMade_85 : decode cX5_keepMade 85 = .ok (.iinc 5 1, 3) := by decide +kernel
theorem dX5_keepMade_88 : decode cX5_keepMade 88 = .ok (.goto (-58), 3) := by decide +kernel
theorem dX5_keepMade_91 : decode cX5_keepMade 91 = .ok (.iconst 1, 1) := by decide +kernel
theorem dX5_keepMade_92 : decode cX5_keepMade 92 = .ok (.ireturn, 1) := by decide +kernel
theorem idx_inj {c i j i' j' : Nat} (hj : j < c) (hj' : j' < c) (e : i * c + j = i' * c + j') : i = i' ∧ j = j' := by
  have hi : i = i' := by
    rcases Nat.lt_trichotomy i i' with h | h | h
    · have h1 : (i + 1) * c ≤ i' * c := Nat.mul_le_mul_right _ h
      rw [Nat.add_mul] at h1
      omega
    · exact h
    · have h1 : (i' + 1) * c ≤ i * c := Nat.mul_le_mul_right _ h
      rw [Nat.add_mul] at h1
      omega
  subst hi
  exact ⟨rfl, by omega⟩
theorem idx_lt {c i j rn : Nat} (hc : c ≤ 5) (hi : i < rn) (hj : j < c) : i * c + j < rn * c ∧ rn * c ≤ 5 * rn := by
  have h1 : (i + 1) * c ≤ rn * c := Nat.mul_le_mul_right _ hi
  have h2 : rn * c ≤ rn * 5 := Nat.mul_le_mul_left _ hc
  rw [Nat.add_mul] at h1
  omega
/-- what keepMade has written: rows before i, and of row i what is before j -/
def KM (F : Nat → Int) (cn i j : Nat) (N H : Nat → Int) : Prop := (∀ a e, a < 5 → e < 5 → N (5 * a + e) = if (a < i ∧ e < cn) ∨ (a = i ∧ e < j) then F (a * cn + e) else 0) ∧ (∀ a, a < 5 → H a = if a < i then 1 else 0) ∧ ∀ a, H a = 0 ∨ H a = 1
theorem KM.step {F : Nat → Int} {cn i j : Nat} {N H : Nat → Int} (h : KM F cn i j N H) (hi : i < 5) (hj : j < 5) : KM F cn i (j + 1) (upF N (5 * i + j) (F (i * cn + j))) H := by
  refine ⟨fun a e ha he => ?_, h.2⟩
  by_cases q : 5 * a + e = 5 * i + j
  · obtain rfl : a = i := by omega
    obtain rfl : e = j := by omega
    rw [upF_self, if_pos (by omega)]
  · rw [upF_ne _ _ q, h.1 a e ha he]
    by_cases q2 : (a < i ∧ e < cn) ∨ (a = i ∧ e < j)
    · rw [if_pos q2, if_pos (by omega)]
    · rw [if_neg q2, if_neg (by omega)]
theorem KM.next {F : Nat → Int} {cn i : Nat} {N H : Nat → Int} (h : KM F cn i cn N H) (hi : i < 5) : KM F cn (i + 1) 0 N (upF H i 1) := by
  refine ⟨fun a e ha he => ?_, fun a ha => ?_, fun a => ?_⟩
  · rw [h.1 a e ha he]
    by_cases q2 : (a < i ∧ e < cn) ∨ (a = i ∧ e < cn)
    · rw [if_pos q2, if_pos (by omega)]
    · rw [if_neg q2, if_neg (by omega)]
  · by_cases q : a = i
    · subst q; rw [upF_self, if_pos (by omega)]
    · rw [upF_ne _ _ q, h.2.1 a ha]
      by_cases q2 : a < i
      · rw [if_pos q2, if_pos (by omega)]
      · rw [if_neg q2, if_neg (by omega)]
  · unfold upF
    split
    · exact Or.inr rfl
    · exact h.2.2 a
theorem km_in (g : GX) (d : Nat) {sz b to rn cn : Nat} {t : Int} {F : Nat → Int} (hto : to < 12) (hrc : rn ≤ 5 ∧ cn ≤ 5) {i : Nat} (hi : i < rn) (hKK : ∀ {V : AH} {N H : Nat → Int}, V b = some (bnO b t) → V (b + 645) = some (aIz g 25 F) → TbV g V (b + 647 + 3 * to) (b + 647 + 3 * to + 1) (b + 647 + 3 * to + 2) rn cn N H → KM F cn i cn N H → AW g mX5_keepMade (d + 2) 76 [(5, .int (iZ i)), (4, .ref (b + 647 + 3 * to)), (0, .ref b), (2, .int (iZ rn)), (3, .int (iZ cn))] [] V sz (VX V sz (ET (b + 647 + 3 * to) (b + 647 + 3 * to + 1) (b + 647 + 3 * to + 2)) (fun r V' => some (.int (iZ 1)) = r ∧ ∃ N H : Nat → Int, TbV g V' (b + 647 + 3 * to) (b + 647 + 3 * to + 1) (b + 647 + 3 * to + 2) rn cn N H ∧ KM F cn rn 0 N H))) : ∀ (x j : Nat), j + x = cn → ∀ {V : AH} {N H : Nat → Int}, V b = some (bnO b t) → V (b + 645) = some (aIz g 25 F) → TbV g V (b + 647 + 3 * to) (b + 647 + 3 * to + 1) (b + 647 + 3 * to + 2) rn cn N H → KM F cn i j N H → AW g mX5_keepMade (d + 2) 39 [(6, .int (iZ j)), (5, .int (iZ i)), (4, .ref (b + 647 + 3 * to)), (0, .ref b), (2, .int (iZ rn)), (3, .int (iZ cn))] [] V sz (VX V sz (ET (b + 647 + 3 * to) (b + 647 + 3 * to + 1) (b + 647 + 3 * to + 2)) (fun r V' => some (.int (iZ 1)) = r ∧ ∃ N H : Nat → Int, TbV g V' (b + 647 + 3 * to) (b + 647 + 3 * to + 1) (b + 647 + 3 * to + 2) rn cn N H ∧ KM F cn rn 0 N H))
  | 0, j, hx, V, N, H, hb, hM, hT, hKM => by
    obtain ⟨hT1, hT2, hT3, -⟩ := id hT
    refine aw_iload dX5_keepMade_39 (by rfl) ?_
    refine aw_iload_n dX5_keepMade_41 (by rfl) ?_
    refine aw_icmp_geZ (tgt := 76) dX5_keepMade_42 (by decide) (by omega) (by omega) (fun hc_42 => ?_) (fun hc_42 => ?_)
    · obtain rfl : j = cn := by omega
      exact aw_pk [5, 4, 0, 2, 3] (by rfl) (hKK hb hM hT hKM)
    · exact absurd hc_42 (by omega)
  | x + 1, j, hx, V, N, H, hb, hM, hT, hKM => by
    obtain ⟨hT1, hT2, hT3, -⟩ := id hT
    have IH := fun j hj => @km_in g d sz b to rn cn t F hto hrc i hi hKK x j hj
    clear hKK
    refine aw_iload dX5_keepMade_39 (by rfl) ?_
    refine aw_iload_n dX5_keepMade_41 (by rfl) ?_
    refine aw_icmp_geZ (tgt := 76) dX5_keepMade_42 (by decide) (by omega) (by omega) (fun hc_42 => ?_) (fun hc_42 => ?_)
    · exact absurd hc_42 (by omega)
    · have hidx := idx_lt (rn := 5) (by omega) (show i < 5 by omega) (show j < cn by omega)
      refine aw_aload dX5_keepMade_45 (by rfl) (Or.inr ⟨_, rfl⟩) ?_
      refine aw_get fX5_86 dX5_keepMade_47 (by assumption) (by rfl) ?_
      refine aw_iload dX5_keepMade_50 (by rfl) ?_
      refine aw_iconstZ dX5_keepMade_52 ?_
      refine aw_imulZ dX5_keepMade_53 ?_
      refine aw_iload dX5_keepMade_54 (by rfl) ?_
      refine aw_iaddZ dX5_keepMade_56 ?_
      refine aw_aload_n dX5_keepMade_57 (by rfl) (Or.inr ⟨_, rfl⟩) ?_
      refine aw_get fX5_56 dX5_keepMade_58 (by assumption) (by rfl) ?_
      refine aw_iload dX5_keepMade_61 (by rfl) ?_
      refine aw_iload_n dX5_keepMade_63 (by rfl) ?_
      refine aw_imulZ dX5_keepMade_64 ?_
      refine aw_iload dX5_keepMade_65 (by rfl) ?_
      refine aw_iaddZ dX5_keepMade_67 ?_
      refine aw_ialdZ (i * cn + j) dX5_keepMade_68 (by assumption) (by rw [Int.natCast_add, Int.natCast_mul]) (by omega) (by omega) ?_
      refine aw_iastZ (5 * i + j) dX5_keepMade_69 (by assumption) (by omega) (by omega) (by omega) ?_
      refine VX.stp (V1 := AHu V (b + 647 + 3 * to + 1) _) (fun a ha => AHu_ne (fun q => ha (Or.inr (Or.inl q)))) ?_
      refine aw_iincZ dX5_keepMade_70 (by rfl) (by decide) ?_
      refine aw_goto (tgt := 39) dX5_keepMade_73 (by decide) ?_
      rw [show ((j : Int) + 1) = ((j + 1 : Nat) : Int) by omega]
      refine aw_pk [6, 5, 4, 0, 2, 3] (by rfl) ?_
      exact IH (j + 1) (by omega) ((AHu_ne (by omega)).trans hb) ((AHu_ne (by omega)).trans hM) hT.num (hKM.step (by omega) (by omega))
theorem km_out (g : GX) (d : Nat) {sz b to rn cn : Nat} {t : Int} {F : Nat → Int} (hto : to < 12) (hrc : rn ≤ 5 ∧ cn ≤ 5) : ∀ (x i : Nat), i + x = rn → ∀ {V : AH} {N H : Nat → Int}, V b = some (bnO b t) → V (b + 645) = some (aIz g 25 F) → TbV g V (b + 647 + 3 * to) (b + 647 + 3 * to + 1) (b + 647 + 3 * to + 2) rn cn N H → KM F cn i 0 N H → AW g mX5_keepMade (d + 2) 30 [(5, .int (iZ i)), (4, .ref (b + 647 + 3 * to)), (0, .ref b), (2, .int (iZ rn)), (3, .int (iZ cn))] [] V sz (VX V sz (ET (b + 647 + 3 * to) (b + 647 + 3 * to + 1) (b + 647 + 3 * to + 2)) (fun r V' => some (.int (iZ 1)) = r ∧ ∃ N H : Nat → Int, TbV g V' (b + 647 + 3 * to) (b + 647 + 3 * to + 1) (b + 647 + 3 * to + 2) rn cn N H ∧ KM F cn rn 0 N H))
  | 0, i, hx, V, N, H, hb, hM, hT, hKM => by
    obtain ⟨hT1, hT2, hT3, -⟩ := id hT
    refine aw_iload dX5_keepMade_30 (by rfl) ?_
    refine aw_iload_n dX5_keepMade_32 (by rfl) ?_
    refine aw_icmp_geZ (tgt := 91) dX5_keepMade_33 (by decide) (by omega) (by omega) (fun hc_33 => ?_) (fun hc_33 => ?_)
    · refine aw_iconstZ dX5_keepMade_91 ?_
      refine aw_iret dX5_keepMade_92 rfl (by rfl) ?_
      obtain rfl : i = rn := by omega
      exact VX.ret ⟨rfl, N, H, hT, hKM⟩
    · exact absurd hc_33 (by omega)
  | x + 1, i, hx, V, N, H, hb, hM, hT, hKM => by
    obtain ⟨hT1, hT2, hT3, -⟩ := id hT
    have IH := fun i hi => @km_out g d sz b to rn cn t F hto hrc x i hi
    have IN := @km_in g d sz b to rn cn t F hto hrc i (by omega) (fun {V N H} hb hM hT hKM => by
      obtain ⟨hT1, hT2, hT3, -⟩ := id hT
      refine aw_aload dX5_keepMade_76 (by rfl) (Or.inr ⟨_, rfl⟩) ?_
      refine aw_get fX5_89 dX5_keepMade_78 (by assumption) (by rfl) ?_
      refine aw_iload dX5_keepMade_81 (by rfl) ?_
      refine aw_iconstZ dX5_keepMade_83 ?_
      refine aw_zastZ (i) dX5_keepMade_84 (by assumption) (by omega) (by omega) (by omega) (Or.inr rfl) ?_
      refine VX.stp (V1 := AHu V (b + 647 + 3 * to + 2) _) (fun a ha => AHu_ne (fun q => ha (Or.inr (Or.inr q)))) ?_
      refine aw_iincZ dX5_keepMade_85 (by rfl) (by decide) ?_
      refine aw_goto (tgt := 30) dX5_keepMade_88 (by decide) ?_
      rw [show ((i : Int) + 1) = ((i + 1 : Nat) : Int) by omega]
      refine aw_pk [5, 4, 0, 2, 3] (by rfl) ?_
      exact IH (i + 1) (by omega) ((AHu_ne (by omega)).trans hb) ((AHu_ne (by omega)).trans hM) hT.the (hKM.next (by omega)))
    clear IH
    refine aw_iload dX5_keepMade_30 (by rfl) ?_
    refine aw_iload_n dX5_keepMade_32 (by rfl) ?_
    refine aw_icmp_geZ (tgt := 91) dX5_keepMade_33 (by decide) (by omega) (by omega) (fun hc_33 => ?_) (fun hc_33 => ?_)
    · exact absurd hc_33 (by omega)
    · refine aw_iconstZ dX5_keepMade_36 ?_
      refine aw_istore dX5_keepMade_37 (by decide) ?_
      refine aw_pk [6, 5, 4, 0, 2, 3] (by rfl) ?_
      exact IN cn 0 (by omega) hb hM hT hKM
theorem KM.nil {F N H : Nat → Int} {cn : Nat} (hH : ∀ i, H i = 0 ∨ H i = 1) : KM F cn 0 0 (fun k => if k < 25 then 0 else N k) (fun k => if k < 5 then 0 else H k) := by
  refine ⟨fun a e ha he => ?_, fun a ha => ?_, fun a => ?_⟩
  · show (if 5 * a + e < 25 then 0 else N (5 * a + e)) = _
    rw [if_pos (by omega), if_neg (by omega)]
  · show (if a < 5 then 0 else H a) = _
    rw [if_pos ha, if_neg (by omega)]
  · show (if a < 5 then 0 else H a) = 0 ∨ (if a < 5 then 0 else H a) = 1
    split
    · exact Or.inl rfl
    · exact hH a
theorem t_keepYes (g : GX) (d : Nat) {sz b to rn cn : Nat} {t : Int} {F : Nat → Int} (hto : to < 12) (hrc : rn ≤ 5 ∧ cn ≤ 5) {V : AH} {r0 c0 : Int} {N H : Nat → Int} (hb : V b = some (bnO b t)) (hb1 : V (b + 1) = some (aQ g 3 12 (fun t => some (b + 647 + 3 * t)))) (hM : V (b + 645) = some (aIz g 25 F)) (hT : TbV g V (b + 647 + 3 * to) (b + 647 + 3 * to + 1) (b + 647 + 3 * to + 2) r0 c0 N H) (hH : ∀ i, H i = 0 ∨ H i = 1) (hok : ∀ k, k < rn * cn → -1000 ≤ F k ∧ F k ≤ 1000) : AMet g mX5_keepMade (d + 2) [.ref b, .int (iZ to), .int (iZ rn), .int (iZ cn)] V sz (VX V sz (ET (b + 647 + 3 * to) (b + 647 + 3 * to + 1) (b + 647 + 3 * to + 2)) (fun r V' => some (.int (iZ 1)) = r ∧ ∃ N H : Nat → Int, TbV g V' (b + 647 + 3 * to) (b + 647 + 3 * to + 1) (b + 647 + 3 * to + 2) rn cn N H ∧ KM F cn rn 0 N H)) := by
  have hmul : rn * cn ≤ 5 * 5 := Nat.mul_le_mul hrc.1 hrc.2
  have hT1 := hT.1
  refine AMet.of rfl rfl (Nat.le_of_ble_eq_true rfl) ?_
  show AW g mX5_keepMade (d + 2) 0 [(0, .ref b), (1, .int (iZ to)), (2, .int (iZ rn)), (3, .int (iZ cn))] [] V sz _
  refine aw_aload_n dX5_keepMade_0 (by rfl) (Or.inr ⟨_, rfl⟩) ?_
  refine aw_iload_n dX5_keepMade_1 (by rfl) ?_
  refine aw_iload_n dX5_keepMade_2 (by rfl) ?_
  refine aw_imulZ dX5_keepMade_3 ?_
  rw [show (rn : Int) * (cn : Int) = ((rn * cn : Nat) : Int) by rw [Int.natCast_mul]]
  refine aw_callv vX5_83 dX5_keepMade_4 hb (t_madeCanBe g (d + 1) (n := rn * cn) (q := 1) hb hM (by omega) (fun k hk => by have := hok k hk; omega) (Or.inl ⟨rfl, hok⟩)) (by rfl) (by rfl) (by omega) (Nat.le_of_ble_eq_true rfl) ?_
  rintro _ _ _ _ _ ⟨rfl, rfl, rfl, rfl, rfl⟩ -
  refine q0 ?_
  refine aw_if_neZ (tgt := 12) dX5_keepMade_7 (by decide) (by decide) (fun hc_7 => ?_) (fun hc_7 => ?_)
  · refine aw_aload_n dX5_keepMade_12 (by rfl) (Or.inr ⟨_, rfl⟩) ?_
    refine aw_get fX5_11 dX5_keepMade_13 (by assumption) (by rfl) ?_
    refine aw_iload_n dX5_keepMade_16 (by rfl) ?_
    refine aw_aaldZ (t0 := 3) (to) (by rfl) dX5_keepMade_17 (by assumption) (by omega) (by omega) (by omega) ?_
    refine aw_astore dX5_keepMade_18 (by decide) (Or.inr ⟨_, rfl⟩) ?_
    refine aw_aload dX5_keepMade_20 (by rfl) (Or.inr ⟨_, rfl⟩) ?_
    refine aw_iload_n dX5_keepMade_22 (by rfl) ?_
    refine aw_iload_n dX5_keepMade_23 (by rfl) ?_
    refine aw_callv vX5_69 dX5_keepMade_24 hT1 (t_tbegin g d (rr := rn) (cc := cn) hT) (by rfl) (by rfl) (by omega) (Nat.le_of_ble_eq_true rfl) ?_
    rintro _ V1 _ _ _ ⟨rfl, rfl, rfl, hE, rfl, hT2⟩ -
    refine VX.call hE ?_
    refine aw_iconstZ dX5_keepMade_27 ?_
    refine aw_istore dX5_keepMade_28 (by decide) ?_
    refine aw_pk [5, 4, 0, 2, 3] (by rfl) ?_
    exact km_out g d hto hrc rn 0 (by omega) ((hE _ (fun q => by rcases q with q | q | q <;> omega)).trans hb) ((hE _ (fun q => by rcases q with q | q | q <;> omega)).trans hM) hT2 (KM.nil hH)
  · exact absurd hc_7 (by decide)
theorem t_keepNo (g : GX) (d : Nat) {sz b to rn cn : Nat} {t : Int} {F : Nat → Int} (hto : to < 12) (hrc : rn ≤ 5 ∧ cn ≤ 5) {V : AH} (hb : V b = some (bnO b t)) (hM : V (b + 645) = some (aIz g 25 F)) (hFr : ∀ k, k < rn * cn → R32 (F k)) (hok : ¬ ∀ k, k < rn * cn → -1000 ≤ F k ∧ F k ≤ 1000) : AMet g mX5_keepMade (d + 2) [.ref b, .int (iZ to), .int (iZ rn), .int (iZ cn)] V sz (Ex (some (.int (iZ 0))) V sz 0 0) := by
  have hmul : rn * cn ≤ 5 * 5 := Nat.mul_le_mul hrc.1 hrc.2
  refine AMet.of rfl rfl (Nat.le_of_ble_eq_true rfl) ?_
  show AW g mX5_keepMade (d + 2) 0 [(0, .ref b), (1, .int (iZ to)), (2, .int (iZ rn)), (3, .int (iZ cn))] [] V sz _
  refine aw_aload_n dX5_keepMade_0 (by rfl) (Or.inr ⟨_, rfl⟩) ?_
  refine aw_iload_n dX5_keepMade_1 (by rfl) ?_
  refine aw_iload_n dX5_keepMade_2 (by rfl) ?_
  refine aw_imulZ dX5_keepMade_3 ?_
  rw [show (rn : Int) * (cn : Int) = ((rn * cn : Nat) : Int) by rw [Int.natCast_mul]]
  refine aw_callv vX5_83 dX5_keepMade_4 hb (t_madeCanBe g (d + 1) (n := rn * cn) (q := 0) hb hM (by omega) hFr (Or.inr ⟨rfl, hok⟩)) (by rfl) (by rfl) (by omega) (Nat.le_of_ble_eq_true rfl) ?_
  rintro _ _ _ _ _ ⟨rfl, rfl, rfl, rfl, rfl⟩ -
  refine q0 ?_
  refine aw_if_neZ (tgt := 12) dX5_keepMade_7 (by decide) (by decide) (fun hc_7 => ?_) (fun hc_7 => ?_)
  · exact absurd rfl hc_7
  · refine aw_iconstZ dX5_keepMade_10 ?_
    refine aw_iret dX5_keepMade_11 rfl (by rfl) ?_
    exact ⟨rfl, rfl, rfl, rfl, rfl⟩
