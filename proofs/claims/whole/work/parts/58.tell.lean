/-! ===== closeAnswer, tellRows ===== -/
/-- the heap behind closeAnswer -/
def clV (V : AH) (b r w : Nat) : AH := AHu (AHu V (b + 17) (grO (b + 17 + 21) (b + 17 + 20) (b + 17 + 1) (b + 17 + 16) (b + 17 + 18) r w)) b (bnO b (1 : Nat))
theorem CX.close {g : GX} {b : Nat} {X : Nat → Prop} {V : AH} {Z : Nat → Int} {S : TSt} {A : ASt} {r w h0 w0 : Nat} {ld : Nat → Int} {ρ : Nat → Nat} {M : Mat} (h : CX g b X V Z S A) (hG : GD g V (b + 17 + 1) (GT b) h0 w0 ld ρ) (hr : r ≤ 10 ∧ w ≤ 5) (hM : ∀ i j, i < r → j < w → Z ((GT b).ga (ρ i) j) = M i j) : CX g b X (clV V b r w) Z S (1, r, w, M) := by
  have h1 := h.flag (t := 1) rfl
  unfold clV
  rw [AHu_comm (by omega)]
  refine h1.told rfl rfl ⟨fun a _ hn => AHu_ne (fun q => by omega), fun _ _ => rfl⟩ ?_ ⟨Or.inr rfl, hr.1, hr.2, fun q => absurd (show (1 : Nat) = 0 from q) (by omega)⟩ ⟨ld, ρ, ?_, fun i j hi hj => hM i j hi hj⟩
  · exact (AHu_ne (show b ≠ b + 17 by omega)).trans (AHu_self _ _ _)
  · have h2 : GD g (AHu V b (bnO b (1 : Nat))) (b + 17 + 1) (GT b) h0 w0 ld ρ := hG.kept2 (fun a ha => AHu_ne (by have := gs_in ha; omega))
    exact h2.begin (D := DG (b + 17)) (gso_T b X) r w
theorem cl_wse {g : GX} {b : Nat} {X : Nat → Prop} {V : AH} {sz : Nat} {Z : Nat → Int} {P L : Nat → Nat} {r w : Nat} (hw0 : WG g (wsB b) (SAB b X) V sz Z P L) : WSE g (wsB b) (SAB b X) (EB b) V sz L (clV V b r w) sz Z P L 0 0 := by
  have h17 : SAB b X (b + 17) := (sab_gT (X := X) (Or.inl rfl)).1
  have hbb : SAB b X b := Or.inl rfl
  have s1 : WSE g (wsB b) (SAB b X) (EB b) V sz L (AHu V (b + 17) (grO (b + 17 + 21) (b + 17 + 20) (b + 17 + 1) (b + 17 + 16) (b + 17 + 18) r w)) sz Z P L 0 0 := WSE.sto hw0 h17 ⟨by omega, by omega⟩
  have s2 : WSE g (wsB b) (SAB b X) (EB b) (AHu V (b + 17) (grO (b + 17 + 21) (b + 17 + 20) (b + 17 + 1) (b + 17 + 16) (b + 17 + 18) r w)) sz L (clV V b r w) sz Z P L 0 0 := WSE.sto s1.1 hbb ⟨by omega, by omega⟩
  have s3 := s1.tr s2
  rw [Nat.add_zero] at s3
  exact s3
abbrev mX5_closeAnswer : MI := (yX5_closeAnswer, cX5_closeAnswer, 3, none, noX)
theorem dX5_closeAnswer_0 : decode cX5_closeAnswer 0 = .ok (.aload_n 0, 1) := by decide +kernel
theorem dX5_closeAnswer_1 : decode cX5_closeAnswer 1 = .ok (.getfield 27, 3) := by decide +kernel
theorem dX5_closeAnswer_4 : decode cX5_closeAnswer 4 = .ok (.iload_n 1, 1) := by decide +kernel
theorem dX5_closeAnswer_5 : decode cX5_closeAnswer 5 = .ok (.putfield 111, 3) := by decide +kernel
theorem dX5_closeAnswer_8 : decode cX5_closeAnswer 8 = .ok (.aload_n 0, 1) := by decide +kernel
theorem dX5_closeAnswer_9 : decode cX5_closeAnswer 9 = .ok (.getfield 27, 3) := by decide +kernel
theorem dX5_closeAnswer_12 : decode cX5_closeAnswer 12 = .ok (.iload_n 1, 1) := by decide +kernel
theorem dX5_closeAnswer_13 : decode cX5_closeAnswer 13 = .ok (.ifCond .le 7, 3) := by decide +kernel
theorem dX5_closeAnswer_16 : decode cX5_closeAnswer 16 = .ok (.iload_n 2, 1) := by decide +kernel
theorem dX5_closeAnswer_17 : decode cX5_closeAnswer 17 = .ok (.goto 4, 3) := by decide +kernel
theorem dX5_closeAnswer_20 : decode cX5_closeAnswer 20 = .ok (.iconst 0, 1) := by decide +kernel
theorem dX5_closeAnswer_21 : decode cX5_closeAnswer 21 = .ok (.putfield 114, 3) := by decide +kernel
theorem dX5_closeAnswer_24 : decode cX5_closeAnswer 24 = .ok (.aload_n 0, 1) := by decide +kernel
theorem dX5_closeAnswer_25 : decode cX5_closeAnswer 25 = .ok (.iconst 1, 1) := by decide +kernel
theorem dX5_closeAnswer_26 : decode cX5_closeAnswer 26 = .ok (.putfield 31, 3) := by decide +kernel
theorem dX5_closeAnswer_29 : decode cX5_closeAnswer 29 = .ok (.return_, 1) := by decide +kernel
theorem t_closeAnswer (g : GX) (d : Nat) {V : AH} {sz b r w h0 w0 : Nat} {t : Int} {ld : Nat → Int} {ρ : Nat → Nat} (hb : V b = some (bnO b t)) (hG : GD g V (b + 17 + 1) (GT b) h0 w0 ld ρ) (hr : r ≤ 10 ∧ w ≤ 10) : AMet g mX5_closeAnswer d [.ref b, .int (iZ r), .int (iZ w)] V sz (Ex none (clV V b r (if 0 < r then w else 0)) sz 0 0) := by
  have hgd : V (b + 17) = some (grO (b + 17 + 21) (b + 17 + 20) (b + 17 + 1) (b + 17 + 16) (b + 17 + 18) h0 w0) := hG.1
  refine AMet.of rfl rfl (Nat.le_of_ble_eq_true rfl) ?_
  show AW g mX5_closeAnswer d 0 [(0, .ref b), (1, .int (iZ r)), (2, .int (iZ w))] [] V sz _
  refine aw_aload_n dX5_closeAnswer_0 (by rfl) (Or.inr ⟨_, rfl⟩) ?_
  refine aw_get fX5_27 dX5_closeAnswer_1 hb (by rfl) ?_
  refine aw_iload_n dX5_closeAnswer_4 (by rfl) ?_
  refine aw_put fX5_111 dX5_closeAnswer_5 hgd (by rfl) (by rfl) (Nat.le_of_ble_eq_true rfl) ?_
  have hb1 : (AHu V (b + 17) (grO (b + 17 + 21) (b + 17 + 20) (b + 17 + 1) (b + 17 + 16) (b + 17 + 18) r w0)) b = some (bnO b t) := (AHu_ne (by omega)).trans hb
  have hgd1 : (AHu V (b + 17) (grO (b + 17 + 21) (b + 17 + 20) (b + 17 + 1) (b + 17 + 16) (b + 17 + 18) r w0)) (b + 17) = some (grO (b + 17 + 21) (b + 17 + 20) (b + 17 + 1) (b + 17 + 16) (b + 17 + 18) r w0) := AHu_self _ _ _
  show AW g mX5_closeAnswer d _ _ _ (AHu V (b + 17) (grO (b + 17 + 21) (b + 17 + 20) (b + 17 + 1) (b + 17 + 16) (b + 17 + 18) r w0)) _ _
  refine aw_aload_n dX5_closeAnswer_8 (by rfl) (Or.inr ⟨_, rfl⟩) ?_
  refine aw_get fX5_27 dX5_closeAnswer_9 hb1 (by rfl) ?_
  refine aw_iload_n dX5_closeAnswer_12 (by rfl) ?_
  refine aw_if_leZ (tgt := 20) dX5_closeAnswer_13 (by decide) (by omega) (fun hc_13 => ?_) (fun hc_13 => ?_)
  · refine aw_iconstZ dX5_closeAnswer_20 ?_
    refine aw_topi (y := ((if 0 < r then w else 0 : Nat) : Int)) (by first | (rw [if_pos (by omega)]; done) | (rw [if_neg (by omega)]; done) | (rw [if_neg (by omega)]; rfl)) ?_
    refine aw_put fX5_114 dX5_closeAnswer_21 hgd1 (by rfl) (by rfl) (Nat.le_of_ble_eq_true rfl) ?_
    have hb2 : (AHu (AHu V (b + 17) (grO (b + 17 + 21) (b + 17 + 20) (b + 17 + 1) (b + 17 + 16) (b + 17 + 18) r w0)) (b + 17) (grO (b + 17 + 21) (b + 17 + 20) (b + 17 + 1) (b + 17 + 16) (b + 17 + 18) r (if 0 < r then w else 0 : Nat))) b = some (bnO b t) := (AHu_ne (by omega)).trans hb1
    show AW g mX5_closeAnswer d _ _ _ (AHu (AHu V (b + 17) (grO (b + 17 + 21) (b + 17 + 20) (b + 17 + 1) (b + 17 + 16) (b + 17 + 18) r w0)) (b + 17) (grO (b + 17 + 21) (b + 17 + 20) (b + 17 + 1) (b + 17 + 16) (b + 17 + 18) r (if 0 < r then w else 0 : Nat))) _ _
    refine aw_aload_n dX5_closeAnswer_24 (by rfl) (Or.inr ⟨_, rfl⟩) ?_
    refine aw_iconstZ dX5_closeAnswer_25 ?_
    refine aw_put fX5_31 dX5_closeAnswer_26 hb2 (by rfl) (by rfl) (Nat.le_of_ble_eq_true rfl) ?_
    refine aw_ret dX5_closeAnswer_29 rfl ?_
    show Ex none _ sz 0 0 none (AHu (AHu (AHu V (b + 17) (grO (b + 17 + 21) (b + 17 + 20) (b + 17 + 1) (b + 17 + 16) (b + 17 + 18) r w0)) (b + 17) (grO (b + 17 + 21) (b + 17 + 20) (b + 17 + 1) (b + 17 + 16) (b + 17 + 18) r (if 0 < r then w else 0 : Nat))) b (bnO b (1 : Nat))) sz 0 0
    rw [AHu_AHu]
    exact ⟨rfl, rfl, rfl, rfl, rfl⟩
  · refine aw_iload_n dX5_closeAnswer_16 (by rfl) ?_
    refine aw_goto (tgt := 21) dX5_closeAnswer_17 (by decide) ?_
    refine aw_topi (y := ((if 0 < r then w else 0 : Nat) : Int)) (by first | (rw [if_pos (by omega)]; done) | (rw [if_neg (by omega)]; done) | (rw [if_neg (by omega)]; rfl)) ?_
    refine aw_put fX5_114 dX5_closeAnswer_21 hgd1 (by rfl) (by rfl) (Nat.le_of_ble_eq_true rfl) ?_
    have hb2 : (AHu (AHu V (b + 17) (grO (b + 17 + 21) (b + 17 + 20) (b + 17 + 1) (b + 17 + 16) (b + 17 + 18) r w0)) (b + 17) (grO (b + 17 + 21) (b + 17 + 20) (b + 17 + 1) (b + 17 + 16) (b + 17 + 18) r (if 0 < r then w else 0 : Nat))) b = some (bnO b t) := (AHu_ne (by omega)).trans hb1
    show AW g mX5_closeAnswer d _ _ _ (AHu (AHu V (b + 17) (grO (b + 17 + 21) (b + 17 + 20) (b + 17 + 1) (b + 17 + 16) (b + 17 + 18) r w0)) (b + 17) (grO (b + 17 + 21) (b + 17 + 20) (b + 17 + 1) (b + 17 + 16) (b + 17 + 18) r (if 0 < r then w else 0 : Nat))) _ _
    refine aw_aload_n dX5_closeAnswer_24 (by rfl) (Or.inr ⟨_, rfl⟩) ?_
    refine aw_iconstZ dX5_closeAnswer_25 ?_
    refine aw_put fX5_31 dX5_closeAnswer_26 hb2 (by rfl) (by rfl) (Nat.le_of_ble_eq_true rfl) ?_
    refine aw_ret dX5_closeAnswer_29 rfl ?_
    show Ex none _ sz 0 0 none (AHu (AHu (AHu V (b + 17) (grO (b + 17 + 21) (b + 17 + 20) (b + 17 + 1) (b + 17 + 16) (b + 17 + 18) r w0)) (b + 17) (grO (b + 17 + 21) (b + 17 + 20) (b + 17 + 1) (b + 17 + 16) (b + 17 + 18) r (if 0 < r then w else 0 : Nat))) b (bnO b (1 : Nat))) sz 0 0
    rw [AHu_AHu]
    exact ⟨rfl, rfl, rfl, rfl, rfl⟩
abbrev mX5_tellRows : MI := (yX5_tellRows, cX5_tellRows, 8, (some FieldType.int), noX)
theorem dX5_tellRows_0 : decode cX5_tellRows 0 = .ok (.aload_n 1, 1) := by decide +kernel
theorem dX5_tellRows_1 : decode cX5_tellRows 1 = .ok (.getfield 111, 3) := by decide +kernel
theorem dX5_tellRows_4 : decode cX5_tellRows 4 = .ok (.iload_n 2, 1) := by decide +kernel
theorem dX5_tellRows_5 : decode cX5_tellRows 5 = .ok (.isub, 1) := by decide +kernel
theorem dX5_tellRows_6 : decode cX5_tellRows 6 = .ok (.istore 4, 2) := by decide +kernel
theorem dX5_tellRows_8 : decode cX5_tellRows 8 = .ok (.aload_n 1, 1) := by decide +kernel
theorem dX5_tellRows_9 : decode cX5_tellRows 9 = .ok (.getfield 114, 3) := by decide +kernel
theorem dX5_tellRows_12 : decode cX5_tellRows 12 = .ok (.iload_n 3, 1) := by decide +kernel
theorem dX5_tellRows_13 : decode cX5_tellRows 13 = .ok (.isub, 1) := by decide +kernel
theorem dX5_tellRows_14 : decode cX5_tellRows 14 = .ok (.istore 5, 2) := by decide +kernel
theorem dX5_tellRows_16 : decode cX5_tellRows 16 = .ok (.iconst 0, 1) := by decide +kernel
theorem dX5_tellRows_17 : decode cX5_tellRows 17 = .ok (.istore 6, 2) := by decide +kernel
theorem dX5_tellRows_19 : decode cX5_tellRows 19 = .ok (.iload 6, 2) := by decide +kernel
theorem dX5_tellRows_21 : decode cX5_tellRows 21 = .ok (.iload 4, 2) := by decide +kernel
theorem dX5_tellRows_23 : decode cX5_tellRows 23 = .ok (.if_icmp .ge 61, 3) := by decide +kernel
theorem dX5_tellRows_26 : decode cX5_tellRows 26 = .ok (.iconst 0, 1) := by decide +kernel
theorem dX5_tellRows_27 : decode cX5_tellRows 27 = .ok (.istore 7, 2) := by decide +kernel
theorem dX5_tellRows_29 : decode cX5_tellRows 29 = .ok (.iload 7, 2) := by decide +kernel
theorem dX5_tellRows_31 : decode cX5_tellRows 31 = .ok (.iload 5, 2) := by decide +kernel
theorem dX5_tellRows_33 : decode cX5_tellRows 33 = .ok (.if_icmp .ge 45, 3) := by decide +kernel
theorem dX5_tellRows_36 : decode cX5_tellRows 36 = .ok (.aload_n 0, 1) := by decide +kernel
theorem dX5_tellRows_37 : decode cX5_tellRows 37 = .ok (.getfield 27, 3) := by decide +kernel
theorem dX5_tellRows_40 : decode cX5_tellRows 40 = .ok (.getfield 141, 3) := by decide +kernel
theorem dX5_tellRows_43 : decode cX5_tellRows 43 = .ok (.iload 6, 2) := by decide +kernel
theorem dX5_tellRows_45 : decode cX5_tellRows 45 = .ok (.aaload, 1) := by decide +kernel
theorem dX5_tellRows_46 : decode cX5_tellRows 46 = .ok (.getfield 151, 3) := by decide +kernel
theorem dX5_tellRows_49 : decode cX5_tellRows 49 = .ok (.iload 7, 2) := by decide +kernel
theorem dX5_tellRows_51 : decode cX5_tellRows 51 = .ok (.aaload, 1) := by decide +kernel
theorem dX5_tellRows_52 : decode cX5_tellRows 52 = .ok (.aload_n 1, 1) := by decide +kernel
theorem dX5_tellRows_53 : decode cX5_tellRows 53 = .ok (.getfield 141, 3) := by decide +kernel
theorem dX5_tellRows_56 : decode cX5_tellRows 56 = .ok (.iload_n 2, 1) := by decide +kernel
theorem dX5_tellRows_57 : decode cX5_tellRows 57 = .ok (.iload 6, 2) := by decide +kernel
theorem dX5_tellRows_59 : decode cX5_tellRows 59 = .ok (.iadd, 1) := by decide +kernel
theorem dX5_tellRows_60 : decode cX5_tellRows 60 = .ok (.aaload, 1) := by decide +kernel
theorem dX5_tellRows_61 : decode cX5_tellRows 61 = .ok (.getfield 151, 3) := by decide +kernel
theorem dX5_tellRows_64 : decode cX5_tellRows 64 = .ok (.iload_n 3, 1) := by decide +kernel
theorem dX5_tellRows_65 : decode cX5_tellRows 65 = .ok (.iload 7, 2) := by decide +kernel
theorem dX5_tellRows_67 : decode cX5_tellRows 67 = .ok (.iadd, 1) := by decide +kernel
theorem dX5_tellRows_68 : decode cX5_tellRows 68 = .ok (.aaload, 1) := by decide +kernel
theorem dX5_tellRows_69 : decode cX5_tellRows 69 = .ok (.invokevirtual 192, 3) := by decide +kernel
theorem dX5_tellRows_72 : decode cX5_tellRows 72 = .ok (.iinc 7 1, 3) := by decide +kernel
theorem dX5_tellRows_75 : decode cX5_tellRows 75 = .ok (.goto (-46), 3) := by decide +kernel
theorem dX5_tellRows_78 : decode cX5_tellRows 78 = .ok (.iinc 6 1, 3) := by decide +kernel
theorem dX5_tellRows_81 : decode cX5_tellRows 81 = .ok (.goto (-62), 3) := by decide +kernel
theorem dX5_tellRows_84 : decode cX5_tellRows 84 = .ok (.aload_n 0, 1) := by decide +kernel
theorem dX5_tellRows_85 : decode cX5_tellRows 85 = .ok (.iload 4, 2) := by decide +kernel
theorem dX5_tellRows_87 : decode cX5_tellRows 87 = .ok (.iload 5, 2) := by decide +kernel
theorem dX5_tellRows_89 : decode cX5_tellRows 89 = .ok (.invokevirtual 148, 3) := by decide +kernel
theorem dX5_tellRows_92 : decode cX5_tellRows 92 = .ok (.iload 4, 2) := by decide +kernel
theorem dX5_tellRows_94 : decode cX5_tellRows 94 = .ok (.ireturn, 1) := by decide +kernel
/-- an ANSWER of h rows and w columns with the numbers M -/
def AIs (A : ASt) (h w : Nat) (M : Mat) : Prop := A.t = 1 ∧ A.h = h ∧ A.w = (if h = 0 then 0 else w) ∧ ∀ i j, i < h → j < w → A.m i j = M i j
/-- rows before i, and of row i what is before j, have been told -/
def TCp (b : Nat) (ρT : Nat → Nat) (Z0 : Nat → Int) (M : Mat) (h w i j : Nat) (Z : Nat → Int) : Prop := (∀ a e, a < h → e < w → (a < i ∨ (a = i ∧ e < j)) → Z ((GT b).ga (ρT a) e) = M a e) ∧ ∀ x, (x < b + 17 ∨ b + 159 ≤ x) → Z x = Z0 x
theorem TCp.step {b : Nat} {ρT : Nat → Nat} {Z0 Z : Nat → Int} {M : Mat} {h w i j : Nat} {z : Int} (k : TCp b ρT Z0 M h w i j Z) (hRS : ∀ i, i < (GT b).mr → (GT b).RS (ρT i)) (hinj : ∀ i j, i < (GT b).mr → j < (GT b).mr → i ≠ j → ρT i ≠ ρT j) (hi : i < h ∧ h ≤ 10) (hj : j < w ∧ w ≤ 5) (hz : z = M i j) : TCp b ρT Z0 M h w i (j + 1) (upF Z ((GT b).ga (ρT i) j) z) := by
  have hci := gl_cell (t0 := b + 17) (mr := 10) (mc := 5) (hRS i (show i < 10 by omega)) (show j < 5 by omega)
  have hci : b + 17 + 24 ≤ (GT b).ga (ρT i) j ∧ (GT b).ga (ρT i) j < b + 17 + 22 + (2 + 2 * 5) * 10 := hci
  refine ⟨fun a e ha he hae => ?_, fun x hx => ?_⟩
  · by_cases q : a = i ∧ e = j
    · obtain ⟨rfl, rfl⟩ := q
      rw [upF_self]; exact hz
    · rw [upF_ne _ _ (fun q2 => q ?_)]
      · exact k.1 a e ha he (by omega)
      · have := (gst_T b (fun _ => False)).2.2.2.2.2.1 _ _ _ _ (hRS a (show a < 10 by omega)) (hRS i (show i < 10 by omega)) (show e < 5 by omega) (show j < 5 by omega) q2
        refine ⟨?_, this.2⟩
        by_cases e2 : a = i
        · exact e2
        · exact absurd this.1 (hinj a i (show a < 10 by omega) (show i < 10 by omega) e2)
  · rw [upF_ne _ _ (by omega)]; exact k.2 x hx
theorem TCp.next {b : Nat} {ρT : Nat → Nat} {Z0 Z : Nat → Int} {M : Mat} {h w i : Nat} (k : TCp b ρT Z0 M h w i w Z) : TCp b ρT Z0 M h w (i + 1) 0 Z := ⟨fun a e ha he hae => k.1 a e ha he (by omega), k.2⟩
set_option maxRecDepth 20000 in
theorem tr_in (d : Nat) {g : GX} {b : Nat} {X : Nat → Prop} {Z0 : Nat → Int} {S : TSt} {A : ASt} {V0 : AH} {hh w fr fc hT wT : Nat} {ldT ld : Nat → Int} {ρT ρ : Nat → Nat} (h0 : CX g b X V0 Z0 S A) (hT0 : GD g V0 (b + 17 + 1) (GT b) hT wT ldT ρT) (hW0 : GD g V0 (b + 159 + 1) (GWd b) hh w ld ρ) (hb4 : fr ≤ hh ∧ hh ≤ 11 ∧ hh ≤ fr + 10 ∧ fc ≤ w ∧ w ≤ 10 ∧ w ≤ fc + 5) (hSm : ∀ i j, i < hh → j < w → Sm (AM (GWd b) Z0 ρ i j)) {i : Nat} (hi : i < hh - fr) (hKK : ∀ {V : AH} {sz : Nat} {Z : Nat → Int} {P L : Nat → Nat}, WG g (wsB b) (SAB b X) V sz Z P L → (∀ a, SAB b X a → V a = V0 a) → TCp b ρT Z0 (fun i j => AM (GWd b) Z0 ρ (fr + i) (fc + j)) (hh - fr) (w - fc) i (w - fc) Z → AW g mX5_tellRows (d + 4) 78 [(6, .int (iZ i)), (5, .int (iZ (w - fc : Nat))), (4, .int (iZ (hh - fr : Nat))), (0, .ref b), (1, .ref (b + 159)), (2, .int (iZ fr)), (3, .int (iZ fc))] [] V sz (CE g b X V sz L (fun q S' A' => S' = S ∧ some (.int (iZ (hh - fr : Nat))) = q ∧ AIs A' (hh - fr) (w - fc) (fun i j => AM (GWd b) Z0 ρ (fr + i) (fc + j))))) : ∀ (x j : Nat), j + x = w - fc → ∀ {V : AH} {sz : Nat} {Z : Nat → Int} {P L : Nat → Nat}, WG g (wsB b) (SAB b X) V sz Z P L → (∀ a, SAB b X a → V a = V0 a) → TCp b ρT Z0 (fun i j => AM (GWd b) Z0 ρ (fr + i) (fc + j)) (hh - fr) (w - fc) i j Z → AW g mX5_tellRows (d + 4) 29 [(7, .int (iZ j)), (6, .int (iZ i)), (5, .int (iZ (w - fc : Nat))), (4, .int (iZ (hh - fr : Nat))), (0, .ref b), (1, .ref (b + 159)), (2, .int (iZ fr)), (3, .int (iZ fc))] [] V sz (CE g b X V sz L (fun q S' A' => S' = S ∧ some (.int (iZ (hh - fr : Nat))) = q ∧ AIs A' (hh - fr) (w - fc) (fun i j => AM (GWd b) Z0 ρ (fr + i) (fc + j))))
  | 0, j, hx, V, sz, Z, P, L, hw0, hV, hTC => by
    refine aw_iload dX5_tellRows_29 (by rfl) ?_
    refine aw_iload dX5_tellRows_31 (by rfl) ?_
    refine aw_icmp_geZ (tgt := 78) dX5_tellRows_33 (by decide) (by omega) (by omega) (fun hc_33 => ?_) (fun hc_33 => ?_)
    · obtain rfl : j = w - fc := by omega
      exact aw_pk [6, 5, 4, 0, 1, 2, 3] (by rfl) (hKK hw0 hV hTC)
    · exact absurd hc_33 (by omega)
  | x + 1, j, hx, V, sz, Z, P, L, hw0, hV, hTC => by
    have IH := fun j hj => @tr_in d g b X Z0 S A V0 hh w fr fc hT wT ldT ld ρT ρ h0 hT0 hW0 hb4 hSm i hi hKK x j hj
    clear hKK
    have hb := (hV b (Or.inl rfl)).trans h0.1.1
    have hGT : GD g V (b + 17 + 1) (GT b) hT wT ldT ρT := hT0.kept2 (fun a ha => hV a (sab_gT ha).1)
    have hGW : GD g V (b + 159 + 1) (GWd b) hh w ld ρ := hW0.kept2 (fun a ha => hV a (sab_gW ha).1)
    obtain ⟨tgd, tra, -, trow, tRS, tinj⟩ := id hGT
    obtain ⟨wgd, wra, -, wrow, wRS, winj⟩ := id hGW
    have tgd : V (b + 17) = some (grO (b + 17 + 21) (b + 17 + 20) (b + 17 + 1) (b + 17 + 16) (b + 17 + 18) hT wT) := tgd
    have tra : V (b + 17 + 21) = some (aQ g 4 10 (fun i => some (ρT i))) := tra
    have wgd : V (b + 159) = some (grO (b + 159 + 21) (b + 159 + 20) (b + 159 + 1) (b + 159 + 16) (b + 159 + 18) hh w) := wgd
    have wra : V (b + 159 + 21) = some (aQ g 4 11 (fun i => some (ρ i))) := wra
    refine aw_iload dX5_tellRows_29 (by rfl) ?_
    refine aw_iload dX5_tellRows_31 (by rfl) ?_
    refine aw_icmp_geZ (tgt := 78) dX5_tellRows_33 (by decide) (by omega) (by omega) (fun hc_33 => ?_) (fun hc_33 => ?_)
    · exact absurd hc_33 (by omega)
    · obtain ⟨tr1, tr2, -⟩ := trow _ (tRS i (show i < 10 by omega))
      obtain ⟨wr1, wr2, -⟩ := wrow _ (wRS (fr + i) (show fr + i < 11 by omega))
      have tr2 : V ((GT b).ka (ρT i)) = some (aQ g 5 5 (fun j => some ((GT b).ga (ρT i) j))) := tr2
      have wr2 : V ((GWd b).ka (ρ (fr + i))) = some (aQ g 5 10 (fun j => some ((GWd b).ga (ρ (fr + i)) j))) := wr2
      have hct := ((gst_T b X).2.2.2.2.1 _ (tRS i (show i < 10 by omega)) j (show j < 5 by omega)).1.1
      have hcw := ((gst_W b X).2.2.2.2.1 _ (wRS (fr + i) (show fr + i < 11 by omega)) (fc + j) (show fc + j < 10 by omega)).1.1
      have hiw := gl_cell (t0 := b + 159) (mr := 11) (mc := 10) (wRS (fr + i) (show fr + i < 11 by omega)) (show fc + j < 10 by omega)
      have hit := gl_cell (t0 := b + 17) (mr := 10) (mc := 5) (tRS i (show i < 10 by omega)) (show j < 5 by omega)
      have htw : (GT b).ga (ρT i) j ≠ (GWd b).ga (ρ (fr + i)) (fc + j) := fun q => by
        have q : (GL (b + 17) 10 5).ga (ρT i) j = (GL (b + 159) 11 10).ga (ρ (fr + i)) (fc + j) := q
        omega
      have hzw : Z ((GWd b).ga (ρ (fr + i)) (fc + j)) = Z0 ((GWd b).ga (ρ (fr + i)) (fc + j)) := hTC.2 _ (Or.inr (by
        have : b + 159 + 24 ≤ (GWd b).ga (ρ (fr + i)) (fc + j) := hiw.1
        omega))
      obtain ⟨nt, Ft, hWt⟩ := hw0.raw hct
      refine aw_aload_n dX5_tellRows_36 (by rfl) (Or.inr ⟨_, rfl⟩) ?_
      refine aw_get fX5_27 dX5_tellRows_37 hb (by rfl) ?_
      refine aw_get fX5_141 dX5_tellRows_40 tgd (by rfl) ?_
      refine aw_iload dX5_tellRows_43 (by rfl) ?_
      refine aw_aaldZ (t0 := 4) (i) (by rfl) dX5_tellRows_45 tra (by omega) (by omega) (by omega) ?_
      refine aw_get fX5_151 dX5_tellRows_46 tr1 (by rfl) ?_
      refine aw_iload dX5_tellRows_49 (by rfl) ?_
      refine aw_aaldZ (t0 := 5) (j) (by rfl) dX5_tellRows_51 tr2 (by omega) (by omega) (by omega) ?_
      refine aw_aload_n dX5_tellRows_52 (by rfl) (Or.inr ⟨_, rfl⟩) ?_
      refine aw_get fX5_141 dX5_tellRows_53 wgd (by rfl) ?_
      refine aw_iload_n dX5_tellRows_56 (by rfl) ?_
      refine aw_iload dX5_tellRows_57 (by rfl) ?_
      refine aw_iaddZ dX5_tellRows_59 ?_
      refine aw_aaldZ (t0 := 4) (fr + i) (by rfl) dX5_tellRows_60 wra (by omega) (by omega) (by omega) ?_
      refine aw_get fX5_151 dX5_tellRows_61 wr1 (by rfl) ?_
      refine aw_iload_n dX5_tellRows_64 (by rfl) ?_
      refine aw_iload dX5_tellRows_65 (by rfl) ?_
      refine aw_iaddZ dX5_tellRows_67 ?_
      refine aw_aaldZ (t0 := 5) (fc + j) (by rfl) dX5_tellRows_68 wr2 (by omega) (by omega) (by omega) ?_
      refine aw_callv vX5_192 dX5_tellRows_69 hWt.1 (w_copy d hw0 hct hcw htw (Sm.u156 (by rw [hzw]; exact hSm (fr + i) (fc + j) (by omega) (by omega)))) (by rfl) (by rfl) (by omega) (Nat.le_of_ble_eq_true rfl) ?_
      rintro _ V1 sz1 mc1 ms1 ⟨rfl, P1, L1, hs1⟩ -
      refine WE.stp (WSE.of hs1) ?_
      refine aw_iincZ dX5_tellRows_72 (by rfl) (by decide) ?_
      refine aw_goto (tgt := 29) dX5_tellRows_75 (by decide) ?_
      rw [show ((j : Int) + 1) = ((j + 1 : Nat) : Int) by omega]
      refine aw_pk [7, 6, 5, 4, 0, 1, 2, 3] (by rfl) ?_
      exact IH (j + 1) (by omega) hs1.1 (fun a ha => (hs1.2.2.1 a ha).trans (hV a ha)) (hTC.step (b := b) tRS tinj (by omega) (by omega) hzw)
set_option maxRecDepth 20000 in
theorem tr_out (d : Nat) {g : GX} {b : Nat} {X : Nat → Prop} {Z0 : Nat → Int} {S : TSt} {A : ASt} {V0 : AH} {hh w fr fc hT wT : Nat} {ldT ld : Nat → Int} {ρT ρ : Nat → Nat} (h0 : CX g b X V0 Z0 S A) (hT0 : GD g V0 (b + 17 + 1) (GT b) hT wT ldT ρT) (hW0 : GD g V0 (b + 159 + 1) (GWd b) hh w ld ρ) (hb4 : fr ≤ hh ∧ hh ≤ 11 ∧ hh ≤ fr + 10 ∧ fc ≤ w ∧ w ≤ 10 ∧ w ≤ fc + 5) (hSm : ∀ i j, i < hh → j < w → Sm (AM (GWd b) Z0 ρ i j)) (hAo : AOK (A.t, hT, wT, fun _ _ => 0)) : ∀ (x i : Nat), i + x = hh - fr → ∀ {V : AH} {sz : Nat} {Z : Nat → Int} {P L : Nat → Nat}, WG g (wsB b) (SAB b X) V sz Z P L → (∀ a, SAB b X a → V a = V0 a) → TCp b ρT Z0 (fun i j => AM (GWd b) Z0 ρ (fr + i) (fc + j)) (hh - fr) (w - fc) i 0 Z → AW g mX5_tellRows (d + 4) 19 [(6, .int (iZ i)), (5, .int (iZ (w - fc : Nat))), (4, .int (iZ (hh - fr : Nat))), (0, .ref b), (1, .ref (b + 159)), (2, .int (iZ fr)), (3, .int (iZ fc))] [] V sz (CE g b X V sz L (fun q S' A' => S' = S ∧ some (.int (iZ (hh - fr : Nat))) = q ∧ AIs A' (hh - fr) (w - fc) (fun i j => AM (GWd b) Z0 ρ (fr + i) (fc + j))))
  | 0, i, hx, V, sz, Z, P, L, hw0, hV, hTC => by
    have hb := (hV b (Or.inl rfl)).trans h0.1.1
    have hGT : GD g V (b + 17 + 1) (GT b) hT wT ldT ρT := hT0.kept2 (fun a ha => hV a (sab_gT ha).1)
    have hGW : GD g V (b + 159 + 1) (GWd b) hh w ld ρ := hW0.kept2 (fun a ha => hV a (sab_gW ha).1)
    obtain ⟨tgd, tra, -, trow, tRS, tinj⟩ := id hGT
    obtain ⟨wgd, wra, -, wrow, wRS, winj⟩ := id hGW
    have tgd : V (b + 17) = some (grO (b + 17 + 21) (b + 17 + 20) (b + 17 + 1) (b + 17 + 16) (b + 17 + 18) hT wT) := tgd
    have tra : V (b + 17 + 21) = some (aQ g 4 10 (fun i => some (ρT i))) := tra
    have wgd : V (b + 159) = some (grO (b + 159 + 21) (b + 159 + 20) (b + 159 + 1) (b + 159 + 16) (b + 159 + 18) hh w) := wgd
    have wra : V (b + 159 + 21) = some (aQ g 4 11 (fun i => some (ρ i))) := wra
    refine aw_iload dX5_tellRows_19 (by rfl) ?_
    refine aw_iload dX5_tellRows_21 (by rfl) ?_
    refine aw_icmp_geZ (tgt := 84) dX5_tellRows_23 (by decide) (by omega) (by omega) (fun hc_23 => ?_) (fun hc_23 => ?_)
    · refine aw_aload_n dX5_tellRows_84 (by rfl) (Or.inr ⟨_, rfl⟩) ?_
      refine aw_iload dX5_tellRows_85 (by rfl) ?_
      refine aw_iload dX5_tellRows_87 (by rfl) ?_
      refine aw_callv vX5_148 dX5_tellRows_89 hb (t_closeAnswer g d (r := hh - fr) (w := w - fc) hb hGT (by omega)) (by rfl) (by rfl) (by omega) (Nat.le_of_ble_eq_true rfl) ?_
      rintro _ _ _ _ _ ⟨rfl, rfl, rfl, rfl, rfl⟩ -
      refine WE.stp (cl_wse hw0) ?_
      refine aw_iload dX5_tellRows_92 (by rfl) ?_
      refine aw_iret dX5_tellRows_94 rfl (by rfl) ?_
      obtain rfl : i = hh - fr := by omega
      have hcx : CX g b X V Z S (A.t, hT, wT, fun i j => Z ((GT b).ga (ρT i) j)) := h0.told (A2 := (A.t, hT, wT, fun i j => Z ((GT b).ga (ρT i) j))) rfl rfl ⟨fun a ha _ => hV a ha, fun x hx => hTC.2 x (by omega)⟩ hb hAo ⟨ldT, ρT, hGT, fun _ _ _ _ => rfl⟩
      refine WE.ret (cl_wse hw0).1 ⟨S, _, hcx.close hGT (M := fun i j => AM (GWd b) Z0 ρ (fr + i) (fc + j)) (by split <;> omega) (fun i j hi hj => hTC.1 i j (by omega) (by split at hj <;> omega) (Or.inl hi)), rfl, rfl, rfl, rfl, ?_, fun _ _ _ _ => rfl⟩
      show (if 0 < hh - fr then w - fc else 0) = if hh - fr = 0 then 0 else w - fc
      by_cases e : hh - fr = 0
      · rw [if_pos e, if_neg (by omega)]
      · rw [if_neg e, if_pos (by omega)]
    · exact absurd hc_23 (by omega)
  | x + 1, i, hx, V, sz, Z, P, L, hw0, hV, hTC => by
    have IH := fun i hi => @tr_out d g b X Z0 S A V0 hh w fr fc hT wT ldT ld ρT ρ h0 hT0 hW0 hb4 hSm hAo x i hi
    have IN := @tr_in d g b X Z0 S A V0 hh w fr fc hT wT ldT ld ρT ρ h0 hT0 hW0 hb4 hSm i (by omega) (fun {V sz Z P L} hw0 hV hTC => by
      refine aw_iincZ dX5_tellRows_78 (by rfl) (by decide) ?_
      refine aw_goto (tgt := 19) dX5_tellRows_81 (by decide) ?_
      rw [show ((i : Int) + 1) = ((i + 1 : Nat) : Int) by omega]
      refine aw_pk [6, 5, 4, 0, 1, 2, 3] (by rfl) ?_
      exact IH (i + 1) (by omega) hw0 hV hTC.next)
    clear IH
    refine aw_iload dX5_tellRows_19 (by rfl) ?_
    refine aw_iload dX5_tellRows_21 (by rfl) ?_
    refine aw_icmp_geZ (tgt := 84) dX5_tellRows_23 (by decide) (by omega) (by omega) (fun hc_23 => ?_) (fun hc_23 => ?_)
    · exact absurd hc_23 (by omega)
    · refine aw_iconstZ dX5_tellRows_26 ?_
      refine aw_istore dX5_tellRows_27 (by decide) ?_
      refine aw_pk [7, 6, 5, 4, 0, 1, 2, 3] (by rfl) ?_
      exact IN (w - fc) 0 (by omega) hw0 hV hTC
theorem t_tellRows (d : Nat) {g : GX} {b : Nat} {X : Nat → Prop} {Z0 : Nat → Int} {S : TSt} {A : ASt} {V0 : AH} {hh w fr fc hT wT : Nat} {ldT ld : Nat → Int} {ρT ρ : Nat → Nat} (h0 : CX g b X V0 Z0 S A) (hT0 : GD g V0 (b + 17 + 1) (GT b) hT wT ldT ρT) (hW0 : GD g V0 (b + 159 + 1) (GWd b) hh w ld ρ) (hb4 : fr ≤ hh ∧ hh ≤ 11 ∧ hh ≤ fr + 10 ∧ fc ≤ w ∧ w ≤ 10 ∧ w ≤ fc + 5) (hSm : ∀ i j, i < hh → j < w → Sm (AM (GWd b) Z0 ρ i j)) (hAo : AOK (A.t, hT, wT, fun _ _ => 0)) {sz : Nat} {P L : Nat → Nat} (hw0 : WG g (wsB b) (SAB b X) V0 sz Z0 P L) : AMet g mX5_tellRows (d + 4) [.ref b, .ref (b + 159), .int (iZ fr), .int (iZ fc)] V0 sz (CE g b X V0 sz L (fun q S' A' => S' = S ∧ some (.int (iZ (hh - fr : Nat))) = q ∧ AIs A' (hh - fr) (w - fc) (fun i j => AM (GWd b) Z0 ρ (fr + i) (fc + j)))) := by
  have wgd : V0 (b + 159) = some (grO (b + 159 + 21) (b + 159 + 20) (b + 159 + 1) (b + 159 + 16) (b + 159 + 18) hh w) := hW0.1
  refine AMet.of rfl rfl (Nat.le_of_ble_eq_true rfl) ?_
  show AW g mX5_tellRows (d + 4) 0 [(0, .ref b), (1, .ref (b + 159)), (2, .int (iZ fr)), (3, .int (iZ fc))] [] V0 sz _
  refine aw_aload_n dX5_tellRows_0 (by rfl) (Or.inr ⟨_, rfl⟩) ?_
  refine aw_get fX5_111 dX5_tellRows_1 (by assumption) (by rfl) ?_
  refine aw_iload_n dX5_tellRows_4 (by rfl) ?_
  refine aw_isubZ dX5_tellRows_5 ?_
  refine aw_topi (y := ((hh - fr : Nat) : Int)) (by omega) ?_
  refine aw_istore dX5_tellRows_6 (by decide) ?_
  refine aw_aload_n dX5_tellRows_8 (by rfl) (Or.inr ⟨_, rfl⟩) ?_
  refine aw_get fX5_114 dX5_tellRows_9 (by assumption) (by rfl) ?_
  refine aw_iload_n dX5_tellRows_12 (by rfl) ?_
  refine aw_isubZ dX5_tellRows_13 ?_
  refine aw_topi (y := ((w - fc : Nat) : Int)) (by omega) ?_
  refine aw_istore dX5_tellRows_14 (by decide) ?_
  refine aw_iconstZ dX5_tellRows_16 ?_
  refine aw_istore dX5_tellRows_17 (by decide) ?_
  refine aw_pk [6, 5, 4, 0, 1, 2, 3] (by rfl) ?_
  exact tr_out d h0 hT0 hW0 hb4 hSm hAo (hh - fr) 0 (by omega) hw0 (fun _ _ => rfl) ⟨fun a e _ _ q => absurd q (by omega), fun _ _ => rfl⟩
