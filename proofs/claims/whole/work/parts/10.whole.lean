/-! ===== Whole: the leaves ===== -/
abbrev whO (s n : Int) (p : Nat) : va_E := .inr (4, [.int (iZ s), .int (iZ n), .ref p])
/-- all known cells lie below the heap's end -/
def DL (V : AH) (sz : Nat) : Prop := ∀ a, V a ≠ none → a < sz
/-- nothing that was there has changed but two cells -/
def Fr (V : AH) (sz : Nat) (V' : AH) (w p : Nat) : Prop := ∀ a, a < sz → a ≠ w → a ≠ p → V' a = V a
/-- a Whole as its cells are -/
def Whl (g : GX) (V : AH) (w : Nat) (s : Int) (n p L : Nat) (F : Nat → Int) : Prop := V w = some (whO s n p) ∧ V p = some (aIz g L F) ∧ w ≠ p ∧ n ≤ L ∧ 4 ≤ L ∧ L ≤ 160 ∧ ∀ k, k < L → 0 ≤ F k ∧ F k < 2147483648
/-- a Whole that holds the number z -/
def WhV (g : GX) (V : AH) (w : Nat) (z : Int) (p L : Nat) : Prop := ∃ (n : Nat) (F : Nat → Int), Whl g V w z.sign n p L F ∧ mg 2147483648 F n = (z.natAbs : Int) ∧ (n = 0 ∨ F (n - 1) ≠ 0)
/-- behind a method that writes a Whole: its number, its cost by what it has grown, what stays -/
def WPost (g : GX) (V : AH) (sz w p L : Nat) (z : Int) : AQ := fun r V' sz' mc ms => r = none ∧ ∃ p' L' : Nat, WhV g V' w z p' L' ∧ L + mc ≤ L' ∧ L * L + ms ≤ L' * L' ∧ (p' = p ∨ sz ≤ p') ∧ Fr V sz V' w p ∧ DL V' sz'
theorem DL.lt {V : AH} {sz a : Nat} {e : va_E} (h : DL V sz) (ha : V a = some e) : a < sz := h a (ne_of_some ha)
theorem DL.upd {V : AH} {sz a : Nat} {e : va_E} (h : DL V sz) (ha : a < sz) : DL (AHu V a e) sz := fun b hb => by
  by_cases hq : b = a
  · subst hq; exact ha
  · rw [AHu_ne hq] at hb; exact h b hb
theorem DL.new {V : AH} {sz : Nat} {e : va_E} (h : DL V sz) : DL (AHu V sz e) (sz + 1) := fun b hb => by
  by_cases hq : b = sz
  · subst hq; omega
  · rw [AHu_ne hq] at hb; have := h b hb; omega
theorem Fr.rf {V : AH} {sz w p : Nat} : Fr V sz V w p := fun _ _ _ _ => rfl
theorem Fr.upd {V V' : AH} {sz w p a : Nat} {e : va_E} (h : Fr V sz V' w p) (ha : a = w ∨ a = p ∨ sz ≤ a) : Fr V sz (AHu V' a e) w p := fun b h1 h2 h3 => by
  rw [AHu_ne (by omega)]; exact h b h1 h2 h3
theorem Whl.set {g : GX} {V : AH} {w : Nat} {s : Int} {n p L : Nat} {F : Nat → Int} {s' : Int} {n' : Nat} (h : Whl g V w s n p L F) (hn : n' ≤ L) : Whl g (AHu V w (whO s' n' p)) w s' n' p L F := by
  obtain ⟨h1, h2, h3, h4, h5, h6, h7⟩ := h
  exact ⟨AHu_self _ _ _, by rw [AHu_ne h3.symm]; exact h2, h3, hn, h5, h6, h7⟩
theorem Whl.arr {g : GX} {V : AH} {w : Nat} {s : Int} {n p L : Nat} {F F' : Nat → Int} (h : Whl g V w s n p L F) (hF : ∀ k, k < L → 0 ≤ F' k ∧ F' k < 2147483648) : Whl g (AHu V p (aIz g L F')) w s n p L F' := by
  obtain ⟨h1, h2, h3, h4, h5, h6, h7⟩ := h
  exact ⟨by rw [AHu_ne h3]; exact h1, AHu_self _ _ _, h3, h4, h5, h6, hF⟩
theorem Whl.kept {g : GX} {V V' : AH} {w : Nat} {s : Int} {n p L : Nat} {F : Nat → Int} (h : Whl g V w s n p L F) (h1 : V' w = V w) (h2 : V' p = V p) : Whl g V' w s n p L F := by
  obtain ⟨a1, a2, a3⟩ := h
  exact ⟨h1.trans a1, h2.trans a2, a3⟩
theorem WhV.kept {g : GX} {V V' : AH} {w : Nat} {z : Int} {p L : Nat} (h : WhV g V w z p L) (h1 : V' w = V w) (h2 : V' p = V p) : WhV g V' w z p L := by
  obtain ⟨n, F, a1, a2⟩ := h
  exact ⟨n, F, a1.kept h1 h2, a2⟩
theorem sgn_R (z : Int) : R32 z.sign := by
  rcases Int.lt_trichotomy z 0 with h | h | h
  · rw [Int.sign_eq_neg_one_of_neg h]; omega
  · subst h; decide
  · rw [Int.sign_eq_one_of_pos h]; omega
theorem upF_lim {L : Nat} {F : Nat → Int} {k : Nat} {x : Int} (h : ∀ k, k < L → 0 ≤ F k ∧ F k < 2147483648) (hx : 0 ≤ x ∧ x < 2147483648) : ∀ j, j < L → 0 ≤ upF F k x j ∧ upF F k x j < 2147483648 := fun j hj => by
  unfold upF; split
  · exact hx
  · exact h j hj
theorem mg_upF {B : Int} {F : Nat → Int} {k : Nat} {x : Int} : mg B (upF F k x) k = mg B F k := mg_congr (fun j hj => upF_ne F x (by omega))
abbrev mX4_trim : MI := (yX4_trim, cX4_trim, 1, none, noX)
theorem dX4_trim_0 : decode cX4_trim 0 = .ok (.aload_n 0, 1) := by decide +kernel
theorem dX4_trim_1 : decode cX4_trim 1 = .ok (.getfield 15, 3) := by decide +kernel
theorem dX4_trim_4 : decode cX4_trim 4 = .ok (.ifCond .le 30, 3) := by decide +kernel
theorem dX4_trim_7 : decode cX4_trim 7 = .ok (.aload_n 0, 1) := by decide +kernel
theorem dX4_trim_8 : decode cX4_trim 8 = .ok (.getfield 18, 3) := by decide +kernel
theorem dX4_trim_11 : decode cX4_trim 11 = .ok (.aload_n 0, 1) := by decide +kernel
theorem dX4_trim_12 : decode cX4_trim 12 = .ok (.getfield 15, 3) := by decide +kernel
theorem dX4_trim_15 : decode cX4_trim 15 = .ok (.iconst 1, 1) := by decide +kernel
theorem dX4_trim_16 : decode cX4_trim 16 = .ok (.isub, 1) := by decide +kernel
theorem dX4_trim_17 : decode cX4_trim 17 = .ok (.iaload, 1) := by decide +kernel
theorem dX4_trim_18 : decode cX4_trim 18 = .ok (.ifCond .ne 16, 3) := by decide +kernel
theorem dX4_trim_21 : decode cX4_trim 21 = .ok (.aload_n 0, 1) := by decide +kernel
theorem dX4_trim_22 : decode cX4_trim 22 = .ok (.dup, 1) := by decide +kernel
theorem dX4_trim_23 : decode cX4_trim 23 = .ok (.getfield 15, 3) := by decide +kernel
theorem dX4_trim_26 : decode cX4_trim 26 = .ok (.iconst 1, 1) := by decide +kernel
theorem dX4_trim_27 : decode cX4_trim 27 = .ok (.isub, 1) := by decide +kernel
theorem dX4_trim_28 : decode cX4_trim 28 = .ok (.putfield 15, 3) := by decide +kernel
theorem dX4_trim_31 : decode cX4_trim 31 = .ok (.goto (-31), 3) := by decide +kernel
theorem dX4_trim_34 : decode cX4_trim 34 = .ok (.aload_n 0, 1) := by decide +kernel
theorem dX4_trim_35 : decode cX4_trim 35 = .ok (.getfield 15, 3) := by decide +kernel
theorem dX4_trim_38 : decode cX4_trim 38 = .ok (.ifCond .ne 8, 3) := by decide +kernel
theorem dX4_trim_41 : decode cX4_trim 41 = .ok (.aload_n 0, 1) := by decide +kernel
theorem dX4_trim_42 : decode cX4_trim 42 = .ok (.iconst 0, 1) := by decide +kernel
theorem dX4_trim_43 : decode cX4_trim 43 = .ok (.putfield 9, 3) := by decide +kernel
theorem dX4_trim_46 : decode cX4_trim 46 = .ok (.return_, 1) := by decide +kernel
theorem trim_loop (g : GX) (d : Nat) {w p L : Nat} {F : Nat → Int} {s : Int} {V : AH} {sz : Nat} (hwp : w ≠ p) (hp : V p = some (aIz g L F)) (hF : ∀ k, k < L → 0 ≤ F k ∧ F k < 2147483648) (hL : L < 2147483648) : ∀ n : Nat, n ≤ L → AW g mX4_trim d 0 [(0, .ref w)] [] (AHu V w (whO s n p)) sz (Ex none (AHu V w (whO (if trimN F n = 0 then 0 else s) (trimN F n) p)) sz 0 0)
  | 0, hn => by
    have h1 : (AHu V w (whO s (0 : Nat) p)) w = some (whO s (0 : Nat) p) := AHu_self _ _ _
    have h2 : (AHu V w (whO s (0 : Nat) p)) p = some (aIz g L F) := by rw [AHu_ne hwp.symm]; exact hp
    refine aw_aload_n dX4_trim_0 (by rfl) (Or.inr ⟨_, rfl⟩) ?_
    refine aw_get fX4_15 dX4_trim_1 (by assumption) (by rfl) ?_
    refine aw_if_leZ (tgt := 34) dX4_trim_4 (by decide) (by omega) (fun hc_4 => ?_) (fun hc_4 => ?_)
    · refine aw_aload_n dX4_trim_34 (by rfl) (Or.inr ⟨_, rfl⟩) ?_
      refine aw_get fX4_15 dX4_trim_35 (by assumption) (by rfl) ?_
      refine aw_if_neZ (tgt := 46) dX4_trim_38 (by decide) (by omega) (fun hc_38 => ?_) (fun hc_38 => ?_)
      · exact absurd hc_38 (by omega)
      · refine aw_aload_n dX4_trim_41 (by rfl) (Or.inr ⟨_, rfl⟩) ?_
        refine aw_iconstZ dX4_trim_42 ?_
        refine aw_put fX4_9 dX4_trim_43 (by assumption) (by rfl) (by rfl) (Nat.le_of_ble_eq_true rfl) ?_
        refine aw_ret dX4_trim_46 rfl ?_
        exact ⟨rfl, by rw [AHu_AHu]; rfl, rfl, rfl, rfl⟩
    · exact absurd hc_4 (by omega)
  | n + 1, hn => by
    have h1 : (AHu V w (whO s (n + 1 : Nat) p)) w = some (whO s (n + 1 : Nat) p) := AHu_self _ _ _
    have h2 : (AHu V w (whO s (n + 1 : Nat) p)) p = some (aIz g L F) := by rw [AHu_ne hwp.symm]; exact hp
    have hR := hF n (by omega)
    refine aw_aload_n dX4_trim_0 (by rfl) (Or.inr ⟨_, rfl⟩) ?_
    refine aw_get fX4_15 dX4_trim_1 (by assumption) (by rfl) ?_
    refine aw_if_leZ (tgt := 34) dX4_trim_4 (by decide) (by omega) (fun hc_4 => ?_) (fun hc_4 => ?_)
    · exact absurd hc_4 (by omega)
    · refine aw_aload_n dX4_trim_7 (by rfl) (Or.inr ⟨_, rfl⟩) ?_
      refine aw_get fX4_18 dX4_trim_8 (by assumption) (by rfl) ?_
      refine aw_aload_n dX4_trim_11 (by rfl) (Or.inr ⟨_, rfl⟩) ?_
      refine aw_get fX4_15 dX4_trim_12 (by assumption) (by rfl) ?_
      refine aw_iconstZ dX4_trim_15 ?_
      refine aw_isubZ dX4_trim_16 ?_
      refine aw_ialdZ (n) dX4_trim_17 (by assumption) (by omega) (by omega) (by omega) ?_
      refine aw_if_neZ (tgt := 34) dX4_trim_18 (by decide) (by omega) (fun hc_18 => ?_) (fun hc_18 => ?_)
      · refine aw_aload_n dX4_trim_34 (by rfl) (Or.inr ⟨_, rfl⟩) ?_
        refine aw_get fX4_15 dX4_trim_35 (by assumption) (by rfl) ?_
        refine aw_if_neZ (tgt := 46) dX4_trim_38 (by decide) (by omega) (fun hc_38 => ?_) (fun hc_38 => ?_)
        · refine aw_ret dX4_trim_46 rfl ?_
          rw [show trimN F (n + 1) = n + 1 by simp [trimN, hc_18], if_neg (by omega)]
          exact ⟨rfl, rfl, rfl, rfl, rfl⟩
        · exact absurd hc_38 (by omega)
      · refine aw_aload_n dX4_trim_21 (by rfl) (Or.inr ⟨_, rfl⟩) ?_
        refine aw_dup dX4_trim_22 rfl ?_
        refine aw_get fX4_15 dX4_trim_23 (by assumption) (by rfl) ?_
        refine aw_iconstZ dX4_trim_26 ?_
        refine aw_isubZ dX4_trim_27 ?_
        refine aw_put fX4_15 dX4_trim_28 (by assumption) (by rfl) (by rfl) (Nat.le_of_ble_eq_true rfl) ?_
        refine aw_goto (tgt := 0) dX4_trim_31 (by decide) ?_
        refine aw_V (V' := AHu V w (whO s n p)) (by rw [AHu_AHu, show ((n + 1 : Nat) : Int) - 1 = (n : Int) by omega]; rfl) ?_
        have ih := trim_loop g d (s := s) (sz := sz) hwp hp hF hL n (by omega)
        rw [show trimN F (n + 1) = trimN F n by simp [trimN, hc_18]]
        exact ih
theorem t_trim (g : GX) (d : Nat) {w p L n : Nat} {F : Nat → Int} {s : Int} {V : AH} {sz : Nat} (hW : Whl g V w s n p L F) : AMet g mX4_trim d [.ref w] V sz (Ex none (AHu V w (whO (if trimN F n = 0 then 0 else s) (trimN F n) p)) sz 0 0) := by
  obtain ⟨hw, hp, hwp, hn, -, hL, hF⟩ := hW
  have h := trim_loop g d (s := s) (sz := sz) hwp hp hF (by omega) n hn
  rw [AHu_same hw] at h
  exact AMet.of rfl rfl (Nat.le_of_ble_eq_true rfl) h
abbrev mX4_makeRoom : MI := (yX4_makeRoom, cX4_makeRoom, 2, none, noX)
theorem dX4_makeRoom_0 : decode cX4_makeRoom 0 = .ok (.aload_n 0, 1) := by decide +kernel
theorem dX4_makeRoom_1 : decode cX4_makeRoom 1 = .ok (.getfield 18, 3) := by decide +kernel
theorem dX4_makeRoom_4 : decode cX4_makeRoom 4 = .ok (.arraylength, 1) := by decide +kernel
theorem dX4_makeRoom_5 : decode cX4_makeRoom 5 = .ok (.iload_n 1, 1) := by decide +kernel
theorem dX4_makeRoom_6 : decode cX4_makeRoom 6 = .ok (.if_icmp .ge 17, 3) := by decide +kernel
theorem dX4_makeRoom_9 : decode cX4_makeRoom 9 = .ok (.aload_n 0, 1) := by decide +kernel
theorem dX4_makeRoom_10 : decode cX4_makeRoom 10 = .ok (.aload_n 0, 1) := by decide +kernel
theorem dX4_makeRoom_11 : decode cX4_makeRoom 11 = .ok (.getfield 18, 3) := by decide +kernel
theorem dX4_makeRoom_14 : decode cX4_makeRoom 14 = .ok (.iload_n 1, 1) := by decide +kernel
theorem dX4_makeRoom_15 : decode cX4_makeRoom 15 = .ok (.iconst 4, 1) := by decide +kernel
theorem dX4_makeRoom_16 : decode cX4_makeRoom 16 = .ok (.iadd, 1) := by decide +kernel
theorem dX4_makeRoom_17 : decode cX4_makeRoom 17 = .ok (.invokestatic 22, 3) := by decide +kernel
theorem dX4_makeRoom_20 : decode cX4_makeRoom 20 = .ok (.putfield 18, 3) := by decide +kernel
theorem dX4_makeRoom_23 : decode cX4_makeRoom 23 = .ok (.return_, 1) := by decide +kernel
/-- behind makeRoom -/
def MR (g : GX) (V : AH) (sz w : Nat) (s : Int) (n p L : Nat) (F : Nat → Int) (len : Nat) : AQ := fun r V' sz' mc ms => r = none ∧ ∃ (p' L' : Nat) (F' : Nat → Int), Whl g V' w s n p' L' F' ∧ len ≤ L' ∧ L + mc ≤ L' ∧ L * L + ms ≤ L' * L' ∧ (∀ k, k < L → F' k = F k) ∧ (p' = p ∨ sz ≤ p') ∧ Fr V sz V' w p ∧ DL V' sz'
theorem t_makeRoom (g : GX) (d : Nat) {w p L n len : Nat} {F : Nat → Int} {s : Int} {V : AH} {sz : Nat} (hW : Whl g V w s n p L F) (hD : DL V sz) (hl : len ≤ 156) : AMet g mX4_makeRoom (d + 2) [.ref w, .int (iZ len)] V sz (MR g V sz w s n p L F len) := by
  obtain ⟨hw, hp, hwp, hn, h4, hL, hF⟩ := hW
  refine AMet.of rfl rfl (Nat.le_of_ble_eq_true rfl) ?_
  show AW g mX4_makeRoom (d + 2) 0 [(0, .ref w), (1, .int (iZ len))] [] V sz _
  refine aw_aload_n dX4_makeRoom_0 (by rfl) (Or.inr ⟨_, rfl⟩) ?_
  refine aw_get fX4_18 dX4_makeRoom_1 (by assumption) (by rfl) ?_
  refine aw_alenZ (t0 := 0) (by rfl) dX4_makeRoom_4 (by assumption) ?_
  refine aw_iload_n dX4_makeRoom_5 (by rfl) ?_
  refine aw_icmp_geZ (tgt := 23) dX4_makeRoom_6 (by decide) (by omega) (by omega) (fun hc_6 => ?_) (fun hc_6 => ?_)
  · refine aw_ret dX4_makeRoom_23 rfl ?_
    exact ⟨rfl, p, L, F, ⟨hw, hp, hwp, hn, h4, hL, hF⟩, by omega, by omega, by omega, fun _ _ => rfl, Or.inl rfl, Fr.rf, hD⟩
  · refine aw_aload_n dX4_makeRoom_9 (by rfl) (Or.inr ⟨_, rfl⟩) ?_
    refine aw_aload_n dX4_makeRoom_10 (by rfl) (Or.inr ⟨_, rfl⟩) ?_
    refine aw_get fX4_18 dX4_makeRoom_11 (by assumption) (by rfl) ?_
    refine aw_iload_n dX4_makeRoom_14 (by rfl) ?_
    refine aw_iconstZ dX4_makeRoom_15 ?_
    refine aw_iaddZ dX4_makeRoom_16 ?_
    refine aw_topi (y := ((len + 4 : Nat) : Int)) (by omega) ?_
    refine aw_calls sX4_22 dX4_makeRoom_17 (t_copyOf g d hp (by have := hD.lt hp; omega) (len := len + 4) (by omega) (by omega)) (by rfl) (by rfl) (by omega) (Nat.le_of_ble_eq_true rfl) ?_
    rintro _ _ _ _ _ ⟨rfl, rfl, rfl, rfl, rfl⟩ -
    have hw1 : (AHu V sz (aIz g (len + 4) (fun k => if k < L then F k else 0))) w = some (whO s n p) := by rw [AHu_ne (by have := hD.lt hw; omega)]; exact hw
    refine aw_put fX4_18 dX4_makeRoom_20 (by assumption) (by rfl) (by rfl) (Nat.le_of_ble_eq_true rfl) ?_
    refine aw_ret dX4_makeRoom_23 rfl ?_
    have hws := hD.lt hw
    refine ⟨rfl, sz, len + 4, fun k => if k < L then F k else 0, ⟨AHu_self _ _ _, by rw [AHu_ne (by omega)]; exact AHu_self _ _ _, by omega, by omega, by omega, by omega, fun k _ => ?_⟩, by omega, by omega, ?_, fun k hk => by simp [hk], Or.inr (Nat.le_refl _), (Fr.rf.upd (Or.inr (Or.inr (Nat.le_refl _)))).upd (Or.inl rfl), hD.new.upd (by omega)⟩
    · dsimp only
      split
      · rename_i hk; exact hF k hk
      · omega
    · have e1 : L * L ≤ (len + 3) * (len + 4) := Nat.mul_le_mul (by omega) (by omega)
      have e2 : (len + 4) * (len + 4) = (len + 3) * (len + 4) + (len + 4) := by rw [← Nat.succ_mul]
      omega
abbrev mX4_put : MI := (yX4_put, cX4_put, 6, none, noX)
theorem dX4_put_0 : decode cX4_put 0 = .ok (.lload_n 1, 1) := by decide +kernel
theorem dX4_put_1 : decode cX4_put 1 = .ok (.lconst 0, 1) := by decide +kernel
theorem dX4_put_2 : decode cX4_put 2 = .ok (.lcmp, 1) := by decide +kernel
theorem dX4_put_3 : decode cX4_put 3 = .ok (.ifCond .ge 8, 3) := by decide +kernel
theorem dX4_put_6 : decode cX4_put 6 = .ok (.lload_n 1, 1) := by decide +kernel
theorem dX4_put_7 : decode cX4_put 7 = .ok (.lneg, 1) := by decide +kernel
theorem dX4_put_8 : decode cX4_put 8 = .ok (.goto 4, 3) := by decide +kernel
theorem dX4_put_11 : decode cX4_put 11 = .ok (.lload_n 1, 1) := by decide +kernel
theorem dX4_put_12 : decode cX4_put 12 = .ok (.lstore_n 3, 1) := by decide +kernel
theorem dX4_put_13 : decode cX4_put 13 = .ok (.aload_n 0, 1) := by decide +kernel
theorem dX4_put_14 : decode cX4_put 14 = .ok (.lload_n 1, 1) := by decide +kernel
theorem dX4_put_15 : decode cX4_put 15 = .ok (.invokestatic 28, 3) := by decide +kernel
theorem dX4_put_18 : decode cX4_put 18 = .ok (.putfield 9, 3) := by decide +kernel
theorem dX4_put_21 : decode cX4_put 21 = .ok (.aload_n 0, 1) := by decide +kernel
theorem dX4_put_22 : decode cX4_put 22 = .ok (.iconst 0, 1) := by decide +kernel
theorem dX4_put_23 : decode cX4_put 23 = .ok (.putfield 15, 3) := by decide +kernel
theorem dX4_put_26 : decode cX4_put 26 = .ok (.iconst 0, 1) := by decide +kernel
theorem dX4_put_27 : decode cX4_put 27 = .ok (.istore 5, 2) := by decide +kernel
theorem dX4_put_29 : decode cX4_put 29 = .ok (.iload 5, 2) := by decide +kernel
theorem dX4_put_31 : decode cX4_put 31 = .ok (.iconst 4, 1) := by decide +kernel
theorem dX4_put_32 : decode cX4_put 32 = .ok (.if_icmp .ge 41, 3) := by decide +kernel
theorem dX4_put_35 : decode cX4_put 35 = .ok (.lload_n 3, 1) := by decide +kernel
theorem dX4_put_36 : decode cX4_put 36 = .ok (.lconst 0, 1) := by decide +kernel
theorem dX4_put_37 : decode cX4_put 37 = .ok (.lcmp, 1) := by decide +kernel
theorem dX4_put_38 : decode cX4_put 38 = .ok (.ifCond .eq 35, 3) := by decide +kernel
theorem dX4_put_41 : decode cX4_put 41 = .ok (.aload_n 0, 1) := by decide +kernel
theorem dX4_put_42 : decode cX4_put 42 = .ok (.getfield 18, 3) := by decide +kernel
theorem dX4_put_45 : decode cX4_put 45 = .ok (.iload 5, 2) := by decide +kernel
theorem dX4_put_47 : decode cX4_put 47 = .ok (.lload_n 3, 1) := by decide +kernel
theorem dX4_put_48 : decode cX4_put 48 = .ok (.ldc2_w 34, 3) := by decide +kernel
theorem dX4_put_51 : decode cX4_put 51 = .ok (.land, 1) := by decide +kernel
theorem dX4_put_52 : decode cX4_put 52 = .ok (.l2i, 1) := by decide +kernel
theorem dX4_put_53 : decode cX4_put 53 = .ok (.iastore, 1) := by decide +kernel
theorem dX4_put_54 : decode cX4_put 54 = .ok (.lload_n 3, 1) := by decide +kernel
theorem dX4_put_55 : decode cX4_put 55 = .ok (.bipush 31, 2) := by decide +kernel
theorem dX4_put_57 : decode cX4_put 57 = .ok (.lushr, 1) := by decide +kernel
theorem dX4_put_58 : decode cX4_put 58 = .ok (.lstore_n 3, 1) := by decide +kernel
theorem dX4_put_59 : decode cX4_put 59 = .ok (.aload_n 0, 1) := by decide +kernel
theorem dX4_put_60 : decode cX4_put 60 = .ok (.iload 5, 2) := by decide +kernel
theorem dX4_put_62 : decode cX4_put 62 = .ok (.iconst 1, 1) := by decide +kernel
theorem dX4_put_63 : decode cX4_put 63 = .ok (.iadd, 1) := by decide +kernel
theorem dX4_put_64 : decode cX4_put 64 = .ok (.putfield 15, 3) := by decide +kernel
theorem dX4_put_67 : decode cX4_put 67 = .ok (.iinc 5 1, 3) := by decide +kernel
theorem dX4_put_70 : decode cX4_put 70 = .ok (.goto (-41), 3) := by decide +kernel
theorem dX4_put_73 : decode cX4_put 73 = .ok (.return_, 1) := by decide +kernel
theorem put_loop (g : GX) (d : Nat) {V0 : AH} {sz0 sz : Nat} (hV0 : True) {p L w : Nat} {z u : Int} {s : Int} (hu0 : u = (z.natAbs : Int)) (hu1 : u < 9223372036854775808) (hsg : s = z.sign) : ∀ (j k : Nat), k + j = 4 → ∀ {V : AH} {n : Nat} {r : Int} {F : Nat → Int}, Whl g V w s n p L F → n = k → (0 ≤ r ∧ r ≤ u) → mg 2147483648 F k + r * 2147483648 ^ k = u → (r = 0 → k = 0 ∨ F (k - 1) ≠ 0) → Fr V0 sz0 V w p → DL V sz → AW g mX4_put (d + 1) 29 [(5, .int (iZ k)), (3, .long (jZ r)), (0, .ref w), (1, .long (jZ z))] [] V sz (WPost g V0 sz0 w p L z)
  | 0, k, hj, V, n, r, F, hW, hk, hr, hmg, htop, hfr, hD => by
    obtain rfl : k = 4 := by omega
    obtain ⟨hw, hp, hwp, hn, h4, hL, hF⟩ := hW
    have hpk : (2147483648 : Int) ^ 4 = 21267647932558653966460912964485513216 := by decide
    have hmb := (mg_bd (show (0 : Int) < 2147483648 by omega) (F := F) (n := 4) (fun j hj => hF j (by omega))).1
    have hr0 : r = 0 := by
      rw [hpk] at hmg
      omega
    rw [hr0, Int.zero_mul, Int.add_zero] at hmg
    refine aw_iload dX4_put_29 (by rfl) ?_
    refine aw_iconstZ dX4_put_31 ?_
    refine aw_icmp_geZ (tgt := 73) dX4_put_32 (by decide) (by omega) (by omega) (fun hc_32 => ?_) (fun hc_32 => ?_)
    · refine aw_ret dX4_put_73 rfl ?_
      exact ⟨rfl, p, L, ⟨4, F, hk ▸ hsg ▸ ⟨hw, hp, hwp, hn, h4, hL, hF⟩, by rw [hmg, hu0], htop hr0⟩, by omega, by omega, Or.inl rfl, hfr, hD⟩
    · exact absurd (Int.le_refl _) hc_32
  | j + 1, k, hj, V, n, r, F, hW, hk, hr, hmg, htop, hfr, hD => by
    obtain ⟨hw, hp, hwp, hn, h4, hL, hF⟩ := id hW
    refine aw_iload dX4_put_29 (by rfl) ?_
    refine aw_iconstZ dX4_put_31 ?_
    refine aw_icmp_geZ (tgt := 73) dX4_put_32 (by decide) (by omega) (by omega) (fun hc_32 => ?_) (fun hc_32 => ?_)
    · exact absurd hc_32 (by omega)
    · refine aw_lload_n dX4_put_35 (by rfl) ?_
      refine aw_lconstZ (z := 0) dX4_put_36 (by decide) ?_
      refine aw_lcmpZ dX4_put_37 (by omega) (by omega) ?_
      refine aw_if_eqZ (tgt := 73) dX4_put_38 (by decide) (cmpZ_R _ _) (fun hc_38 => ?_) (fun hc_38 => ?_)
      · have hr0 : r = 0 := cmpZ_eq.mp hc_38
        refine aw_ret dX4_put_73 rfl ?_
        rw [hr0, Int.zero_mul, Int.add_zero] at hmg
        exact ⟨rfl, p, L, ⟨k, F, hk ▸ hsg ▸ ⟨hw, hp, hwp, hn, h4, hL, hF⟩, by rw [hmg, hu0], htop hr0⟩, by omega, by omega, Or.inl rfl, hfr, hD⟩
      · have hr0 : r ≠ 0 := fun h => hc_38 (cmpZ_eq.mpr h)
        have hpk := pw_pos (show (0 : Int) < 2147483648 by omega) k
        have hm0 := Int.emod_nonneg r (show (2 : Int) ^ 31 ≠ 0 by decide)
        have hm1 := Int.emod_lt_of_pos r (show (0 : Int) < 2 ^ 31 by decide)
        have e31 : (2 : Int) ^ 31 = 2147483648 := by decide
        rw [e31] at hm0 hm1
        have hrd := Int.emod_add_mul_ediv r 2147483648
        refine aw_aload_n dX4_put_41 (by rfl) (Or.inr ⟨_, rfl⟩) ?_
        refine aw_get fX4_18 dX4_put_42 (by assumption) (by rfl) ?_
        refine aw_iload dX4_put_45 (by rfl) ?_
        refine aw_lload_n dX4_put_47 (by rfl) ?_
        refine aw_ldc2Z (z := 2147483647) qX4_34 dX4_put_48 (by decide) ?_
        refine aw_landM 31 dX4_put_51 (by decide) (by decide) ?_
        refine aw_l2iZ dX4_put_52 ?_
        refine aw_iastZ (k) dX4_put_53 (by assumption) (by omega) (by omega) (by omega) ?_
        refine aw_lload_n dX4_put_54 (by rfl) ?_
        refine aw_bipushZ dX4_put_55 (by decide) ?_
        refine aw_lushrZ 31 dX4_put_57 (by rfl) (by decide) hr.1 (by omega) ?_
        refine aw_lstore_n dX4_put_58 (by decide) ?_
        rw [e31]
        have hw1 : (AHu V p (aIz g L (upF F k (r % 2147483648)))) w = some (whO s n p) := by rw [AHu_ne hwp]; exact hw
        refine aw_aload_n dX4_put_59 (by rfl) (Or.inr ⟨_, rfl⟩) ?_
        refine aw_iload dX4_put_60 (by rfl) ?_
        refine aw_iconstZ dX4_put_62 ?_
        refine aw_iaddZ dX4_put_63 ?_
        refine aw_put fX4_15 dX4_put_64 (by assumption) (by rfl) (by rfl) (Nat.le_of_ble_eq_true rfl) ?_
        refine aw_iincZ dX4_put_67 (by rfl) (by decide) ?_
        refine aw_goto (tgt := 29) dX4_put_70 (by decide) ?_
        have hW2 : Whl g (AHu (AHu V p (aIz g L (upF F k (r % 2147483648)))) w (whO s (k + 1 : Nat) p)) w s (k + 1) p L (upF F k (r % 2147483648)) := (hW.arr (upF_lim hF ⟨hm0, hm1⟩)).set (by omega)
        have hmg : mg 2147483648 (upF F k (r % 2147483648)) (k + 1) + r / 2147483648 * 2147483648 ^ (k + 1) = u := by
          simp only [mg]
          rw [mg_upF, upF_self, Int.pow_succ]
          have e2 : r / 2147483648 * (2147483648 ^ k * 2147483648) = 2147483648 * (r / 2147483648) * 2147483648 ^ k := by
            rw [Int.mul_comm (2147483648 ^ k) 2147483648, ← Int.mul_assoc, Int.mul_comm (r / 2147483648) 2147483648]
          have e3 : (r % 2147483648 + 2147483648 * (r / 2147483648)) * 2147483648 ^ k = r * 2147483648 ^ k := by rw [hrd]
          rw [Int.add_mul] at e3
          omega
        have ht : r / 2147483648 = 0 → upF F k (r % 2147483648) (k + 1 - 1) ≠ 0 := fun h => by
          rw [Nat.add_sub_cancel, upF_self]
          omega
        have hn1 : ((k : Int) + 1) = ((k + 1 : Nat) : Int) := by omega
        have ih := put_loop g d hV0 (p := p) (L := L) (w := w) (z := z) (u := u) hu0 hu1 hsg j (k + 1) (by omega) (V := AHu (AHu V p (aIz g L (upF F k (r % 2147483648)))) w (whO s (k + 1 : Nat) p)) (n := k + 1) (r := r / 2147483648) (F := upF F k (r % 2147483648)) hW2 (by rfl) ⟨by omega, by omega⟩ hmg (fun h => Or.inr (ht h)) ((hfr.upd (Or.inr (Or.inl rfl))).upd (Or.inl rfl)) ((hD.upd (hD.lt hp)).upd (by have := hD.lt hw; exact this))
        rw [hn1]
        exact ih
theorem t_put (g : GX) (d : Nat) {w p L n : Nat} {F : Nat → Int} {s : Int} {z : Int} {V : AH} {sz : Nat} (hW : Whl g V w s n p L F) (hD : DL V sz) (hz : -9223372036854775808 < z ∧ z < 9223372036854775808) : AMet g mX4_put (d + 1) [.ref w, .long (jZ z)] V sz (WPost g V sz w p L z) := by
  obtain ⟨hw, hp, hwp, hn, h4, hL, hF⟩ := hW
  have hz : R64 z := by omega
  refine AMet.of rfl rfl (Nat.le_of_ble_eq_true rfl) ?_
  show AW g mX4_put (d + 1) 0 [(0, .ref w), (1, .long (jZ z))] [] V sz _
  refine aw_lload_n dX4_put_0 (by rfl) ?_
  refine aw_lconstZ (z := 0) dX4_put_1 (by decide) ?_
  refine aw_lcmpZ dX4_put_2 (by omega) (by omega) ?_
  refine aw_if_geZ (tgt := 11) dX4_put_3 (by decide) (cmpZ_R _ _) (fun hc_3 => ?_) (fun hc_3 => ?_)
  · have hc := cmpZ_ge.mp hc_3
    have hu : z = (z.natAbs : Int) := by omega
    refine aw_lload_n dX4_put_11 (by rfl) ?_
    refine aw_topl (y := (z.natAbs : Int)) hu ?_
    refine aw_lstore_n dX4_put_12 (by decide) ?_
    refine aw_aload_n dX4_put_13 (by rfl) (Or.inr ⟨_, rfl⟩) ?_
    refine aw_lload_n dX4_put_14 (by rfl) ?_
    refine aw_calls sX4_28 dX4_put_15 (t_signum g d hz (by omega)) (by rfl) (by rfl) (by omega) (Nat.le_of_ble_eq_true rfl) ?_
    rintro _ _ _ _ _ ⟨rfl, rfl, rfl, rfl, rfl⟩ -
    refine aw_put fX4_9 dX4_put_18 (by assumption) (by rfl) (by rfl) (Nat.le_of_ble_eq_true rfl) ?_
    refine aw_aload_n dX4_put_21 (by rfl) (Or.inr ⟨_, rfl⟩) ?_
    refine aw_iconstZ dX4_put_22 ?_
    have hw1 : (AHu V w (.inr (4, [Value.int (iZ z.sign), Value.int (iZ n), Value.ref p]))) w = some (whO z.sign n p) := AHu_self _ _ _
    refine aw_put fX4_15 dX4_put_23 (by assumption) (by rfl) (by rfl) (Nat.le_of_ble_eq_true rfl) ?_
    refine aw_iconstZ dX4_put_26 ?_
    refine aw_istore dX4_put_27 (by decide) ?_
    have hW2 : Whl g (AHu V w (whO z.sign (0 : Nat) p)) w z.sign 0 p L F := Whl.set ⟨hw, hp, hwp, hn, h4, hL, hF⟩ (by omega)
    have ih := put_loop g d (V0 := V) (sz0 := sz) (sz := sz) (s := z.sign) trivial (p := p) (L := L) (w := w) (z := z) (u := (z.natAbs : Int)) rfl (by omega) rfl 4 0 (by omega) (V := AHu V w (whO z.sign (0 : Nat) p)) (n := 0) (r := (z.natAbs : Int)) (F := F) hW2 rfl ⟨by omega, by omega⟩ (by simp [mg]) (fun _ => Or.inl rfl) (Fr.rf.upd (Or.inl rfl)) (hD.upd (hD.lt hw))
    refine aw_V (V' := AHu V w (whO z.sign (0 : Nat) p)) (by rw [AHu_AHu]; rfl) ?_
    refine AW.mono (fun r V' sz' dc ds h => by simpa using h) (aw_lv (by rfl) ih)
  · have hc : ¬ 0 ≤ z := fun h => hc_3 (cmpZ_ge.mpr h)
    have hu : -z = (z.natAbs : Int) := by omega
    refine aw_lload_n dX4_put_6 (by rfl) ?_
    refine aw_lnegZ dX4_put_7 ?_
    refine aw_goto (tgt := 12) dX4_put_8 (by decide) ?_
    refine aw_topl (y := (z.natAbs : Int)) hu ?_
    refine aw_lstore_n dX4_put_12 (by decide) ?_
    refine aw_aload_n dX4_put_13 (by rfl) (Or.inr ⟨_, rfl⟩) ?_
    refine aw_lload_n dX4_put_14 (by rfl) ?_
    refine aw_calls sX4_28 dX4_put_15 (t_signum g d hz (by omega)) (by rfl) (by rfl) (by omega) (Nat.le_of_ble_eq_true rfl) ?_
    rintro _ _ _ _ _ ⟨rfl, rfl, rfl, rfl, rfl⟩ -
    refine aw_put fX4_9 dX4_put_18 (by assumption) (by rfl) (by rfl) (Nat.le_of_ble_eq_true rfl) ?_
    refine aw_aload_n dX4_put_21 (by rfl) (Or.inr ⟨_, rfl⟩) ?_
    refine aw_iconstZ dX4_put_22 ?_
    have hw1 : (AHu V w (.inr (4, [Value.int (iZ z.sign), Value.int (iZ n), Value.ref p]))) w = some (whO z.sign n p) := AHu_self _ _ _
    refine aw_put fX4_15 dX4_put_23 (by assumption) (by rfl) (by rfl) (Nat.le_of_ble_eq_true rfl) ?_
    refine aw_iconstZ dX4_put_26 ?_
    refine aw_istore dX4_put_27 (by decide) ?_
    have hW2 : Whl g (AHu V w (whO z.sign (0 : Nat) p)) w z.sign 0 p L F := Whl.set ⟨hw, hp, hwp, hn, h4, hL, hF⟩ (by omega)
    have ih := put_loop g d (V0 := V) (sz0 := sz) (sz := sz) (s := z.sign) trivial (p := p) (L := L) (w := w) (z := z) (u := (z.natAbs : Int)) rfl (by omega) rfl 4 0 (by omega) (V := AHu V w (whO z.sign (0 : Nat) p)) (n := 0) (r := (z.natAbs : Int)) (F := F) hW2 rfl ⟨by omega, by omega⟩ (by simp [mg]) (fun _ => Or.inl rfl) (Fr.rf.upd (Or.inl rfl)) (hD.upd (hD.lt hw))
    refine aw_V (V' := AHu V w (whO z.sign (0 : Nat) p)) (by rw [AHu_AHu]; rfl) ?_
    refine AW.mono (fun r V' sz' dc ds h => by simpa using h) (aw_lv (by rfl) ih)
