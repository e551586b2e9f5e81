/-! ===== Grid.takeIn ===== -/
theorem w_clearLead (g : GX) (d : Nat) {ws : List Nat} {SA : Nat → Prop} {D : DT} {G : GG} {h w p l : Nat} {ld : Nat → Int} {ρ : Nat → Nat} {V : AH} {sz : Nat} {Z : Nat → Int} {P L : Nat → Nat} {b c : Int} (hS : GSt ws SA D G) (hlw : l < w) (hhm : h < G.mr) (hph : p < h) (hwm : w ≤ G.mc) (hb1 : 1 ≤ b) (hc1 : 1 ≤ c) (hT2 : Sm (2 * (b * c + (c + 2 * b) * b))) (hw0 : WG g ws SA V sz Z P L) (hD : DKV ws SA V Z D) (hG : GD g V D.dk G h w ld ρ) (h1 : 0 < AM G Z ρ p l) (h2 : ∀ j, j < l → AM G Z ρ p j = 0 ∧ AM G Z ρ h j = 0) (h3 : ∀ j, j < w → ab (AM G Z ρ p j) ≤ b ∧ ab (AM G Z ρ h j) ≤ c) : AMet g mX1_clearLead (d + 5) [.ref G.gd, .int (iZ p), .int (iZ l)] V sz (WE g ws SA (EG G) V sz L (fun r V' Z' => none = r ∧ ∃ ρ' : Nat → Nat, GD g V' D.dk G h w ld ρ' ∧ (AM G Z' ρ' h l = 0 ∧ 0 < AM G Z' ρ' p l ∧ (∀ j, j < l → AM G Z' ρ' p j = 0 ∧ AM G Z' ρ' h j = 0) ∧ ∀ j, j < w → ab (AM G Z' ρ' p j) ≤ b * c + (c + 2 * b) * b ∧ ab (AM G Z' ρ' h j) ≤ b * c + (c + 2 * b) * b) ∧ SpEq (AM G Z ρ) (h + 1) (AM G Z' ρ') (h + 1) w ∧ (∀ i, i < G.mr → i ≠ p → i ≠ h → ρ' i = ρ i ∧ ∀ j, j < G.mc → Z' (G.ga (ρ i) j) = Z (G.ga (ρ i) j)) ∧ NF G Z Z')) := by
  have e1 : 1 * c ≤ b * c := Int.mul_le_mul_of_nonneg_right hb1 (by omega)
  have e2 : b * 1 ≤ b * c := Int.mul_le_mul_of_nonneg_left hc1 (by omega)
  have e3 : 0 ≤ (c + 2 * b) * b := Int.mul_nonneg (by omega) (by omega)
  have hCL : CL (b * c + (c + 2 * b) * b) w l 9301 (fun j => Z (G.ga (ρ p) j)) (fun j => Z (G.ga (ρ h) j)) := by
    refine ⟨h1, h2, fun j hj => ?_, Or.inr (Or.inr ⟨rfl, ?_, b, c, hb1, hc1, h3, Int.le_refl _⟩)⟩
    · have h4 := h3 j hj
      have h5 : ab (Z (G.ga (ρ p) j)) ≤ b := h4.1
      have h6 : ab (Z (G.ga (ρ h) j)) ≤ c := h4.2
      exact ⟨Int.le_trans h5 (by omega), Int.le_trans h6 (by omega)⟩
    · exact Sm.of hT2 (by rw [ab_pos (by omega)]; omega)
  refine AMet.of rfl rfl (Nat.le_of_ble_eq_true rfl) ?_
  show AW g mX1_clearLead (d + 5) 0 [(0, .ref G.gd), (1, .int (iZ p)), (2, .int (iZ l))] [] V sz _
  refine aw_iconstZ dX1_clearLead_0 ?_
  refine aw_istore_n dX1_clearLead_1 (by decide) ?_
  refine aw_pk [3, 0, 1, 2] (by rfl) ?_
  exact cl_loop g d hS hlw (by omega) hhm hph hwm hT2 9301 0 (by omega) hw0 hD hG hCL SpEq.rf (fun i _ _ _ => ⟨rfl, fun _ _ => rfl⟩) NF.rf
def Cs (b c : Int) : Nat → Int
  | 0 => c
  | t + 1 => b * Cs b c t + (Cs b c t + 2 * b) * b
theorem Cs.up {b c : Int} (hb : 1 ≤ b) (hc : 1 ≤ c) : ∀ t, 1 ≤ Cs b c t ∧ Cs b c t ≤ Cs b c (t + 1) ∧ b ≤ Cs b c (t + 1)
  | 0 => by
    simp only [Cs]
    have e1 : 1 * c ≤ b * c := Int.mul_le_mul_of_nonneg_right hb (by omega)
    have e2 : b * 1 ≤ b * c := Int.mul_le_mul_of_nonneg_left hc (by omega)
    have e3 : 0 ≤ (c + 2 * b) * b := Int.mul_nonneg (by omega) (by omega)
    omega
  | t + 1 => by
    have h1 := Cs.up hb hc t
    have h2 : 1 ≤ Cs b c (t + 1) := by omega
    generalize hx : Cs b c (t + 1) = x at *
    have e0 : Cs b c (t + 1 + 1) = b * x + (x + 2 * b) * b := by rw [← hx]; rfl
    rw [e0]
    have e1 : 1 * x ≤ b * x := Int.mul_le_mul_of_nonneg_right hb (by omega)
    have e2 : b * 1 ≤ b * x := Int.mul_le_mul_of_nonneg_left h2 (by omega)
    have e3 : 0 ≤ (x + 2 * b) * b := Int.mul_nonneg (by omega) (by omega)
    omega
theorem Cs.mono {b c : Int} (hb : 1 ≤ b) (hc : 1 ≤ c) {t : Nat} : ∀ {n : Nat}, t ≤ n → Cs b c t ≤ Cs b c n
  | 0, h => by obtain rfl : t = 0 := by omega
               exact Int.le_refl _
  | n + 1, h => by
    by_cases hq : t = n + 1
    · subst hq; exact Int.le_refl _
    · exact Int.le_trans (Cs.mono hb hc (n := n) (by omega)) (Cs.up hb hc n).2.1
/-- where the new row is taken off: rows ahead of p are done -/
def P1 (A0 A : Mat) (h w : Nat) (l : Nat → Nat) (lf p : Nat) (b c : Int) : Prop :=
  (∀ i, i < h → l i < w ∧ 0 < A i (l i) ∧ ∀ j, j < l i → A i j = 0) ∧ SpEq A0 (h + 1) A (h + 1) w ∧ FF (A h) w lf ∧ (∀ i, i < p → l i < lf) ∧ (∀ i, i < h → ∀ j, j < w → ab (A i j) ≤ if i < p then Cs b c p else b) ∧ ∀ j, j < w → ab (A h j) ≤ Cs b c p
theorem P1.skip {A0 A : Mat} {h w : Nat} {l : Nat → Nat} {lf p : Nat} {b c : Int} (hb : 1 ≤ b) (hc : 1 ≤ c) (k : P1 A0 A h w l lf p b c) (hp : l p < lf) : P1 A0 A h w l lf (p + 1) b c := by
  obtain ⟨a1, a2, a3, a4, a5, a6⟩ := k
  have hu := Cs.up hb hc p
  refine ⟨a1, a2, a3, fun i hi => ?_, fun i hi j hj => ?_, fun j hj => Int.le_trans (a6 j hj) hu.2.1⟩
  · by_cases hq : i = p
    · subst hq; exact hp
    · exact a4 i (by omega)
  · have h1 := a5 i hi j hj
    revert h1
    split <;> split <;> intro h1 <;> omega
theorem P1.take {A0 A A' : Mat} {h w : Nat} {l : Nat → Nat} {lf lf' p : Nat} {b c : Int} (hb : 1 ≤ b) (hc : 1 ≤ c) (k : P1 A0 A h w l lf p b c) (hp : l p = lf) (hph : p < h) (h0 : A' h lf = 0 ∧ 0 < A' p lf ∧ (∀ j, j < lf → A' p j = 0 ∧ A' h j = 0) ∧ ∀ j, j < w → ab (A' p j) ≤ Cs b c (p + 1) ∧ ab (A' h j) ≤ Cs b c (p + 1)) (h1 : SpEq A (h + 1) A' (h + 1) w) (h2 : ∀ i, i < h → i ≠ p → ∀ j, j < w → A' i j = A i j) (h3 : FF (A' h) w lf') : P1 A0 A' h w l lf' (p + 1) b c := by
  obtain ⟨a1, a2, a3, a4, a5, a6⟩ := k
  have hu := Cs.up hb hc p
  have hlp := (a1 p hph).1
  have hlf : lf < lf' := by
    rcases Nat.lt_or_ge lf lf' with h4 | h4
    · exact h4
    · have h5 := h3.2.2 (by omega)
      by_cases hq : lf' = lf
      · rw [hq] at h5; exact absurd h0.1 h5
      · exact absurd (h0.2.2.1 lf' (by omega)).2 h5
  refine ⟨fun i hi => ?_, a2.tr h1, h3, fun i hi => ?_, fun i hi j hj => ?_, fun j hj => (h0.2.2.2 j hj).2⟩
  · by_cases hq : i = p
    · subst hq
      rw [hp]
      exact ⟨by omega, h0.2.1, fun j hj => (h0.2.2.1 j hj).1⟩
    · obtain ⟨b1, b2, b3⟩ := a1 i hi
      exact ⟨b1, by rw [h2 i hi hq _ b1]; exact b2, fun j hj => by rw [h2 i hi hq j (by omega)]; exact b3 j hj⟩
  · by_cases hq : i = p
    · subst hq; omega
    · have := a4 i (by omega); omega
  · by_cases hq : i = p
    · subst hq; rw [if_pos (by omega)]; exact (h0.2.2.2 j hj).1
    · rw [h2 i hi hq j hj]
      have h4 := a5 i hi j hj
      revert h4
      split <;> split <;> intro h4 <;> omega
/-- a row taken in between -/
def insF {α : Type} (f : Nat → α) (p h : Nat) (x : α) : Nat → α := fun i => if i = p then x else if p < i ∧ i ≤ h then f (i - 1) else f i
def shF {α : Type} (f : Nat → α) (i h : Nat) : Nat → α := fun k => if i < k ∧ k ≤ h then f (k - 1) else f k
theorem shF_top {α : Type} (f : Nat → α) (h : Nat) : shF f h h = f := by funext k; unfold shF; rw [if_neg (by omega)]
theorem shF_step {α : Type} (f : Nat → α) {i h : Nat} (hi : i < h) : upF (shF f (i + 1) h) (i + 1) (shF f (i + 1) h i) = shF f i h := by
  funext k
  unfold upF shF
  by_cases h1 : k = i + 1
  · rw [if_pos h1, if_neg (by omega), if_pos (by omega), h1]; rfl
  · rw [if_neg h1]
    by_cases h2 : i + 1 < k ∧ k ≤ h
    · rw [if_pos h2, if_pos (by omega)]
    · rw [if_neg h2, if_neg (by omega)]
theorem shF_ins {α : Type} (f : Nat → α) (p h : Nat) (x : α) : upF (shF f p h) p x = insF f p h x := by
  funext k
  unfold upF shF insF
  rfl
abbrev mX1_takeIn : MI := (yX1_takeIn, cX1_takeIn, 5, none, noX)
theorem dX1_takeIn_0 : decode cX1_takeIn 0 = .ok (.iconst 0, 1) := by decide +kernel
theorem dX1_takeIn_1 : decode cX1_takeIn 1 = .ok (.istore_n 1, 1) := by decide +kernel
theorem dX1_takeIn_2 : decode cX1_takeIn 2 = .ok (.aload_n 0, 1) := by decide +kernel
theorem dX1_takeIn_3 : decode cX1_takeIn 3 = .ok (.getfield 41, 3) := by decide +kernel
theorem dX1_takeIn_6 : decode cX1_takeIn 6 = .ok (.aload_n 0, 1) := by decide +kernel
theorem dX1_takeIn_7 : decode cX1_takeIn 7 = .ok (.getfield 28, 3) := by decide +kernel
theorem dX1_takeIn_10 : decode cX1_takeIn 10 = .ok (.aaload, 1) := by decide +kernel
theorem dX1_takeIn_11 : decode cX1_takeIn 11 = .ok (.aload_n 0, 1) := by decide +kernel
theorem dX1_takeIn_12 : decode cX1_takeIn 12 = .ok (.getfield 32, 3) := by decide +kernel
theorem dX1_takeIn_15 : decode cX1_takeIn 15 = .ok (.invokevirtual 73, 3) := by decide +kernel
theorem dX1_takeIn_18 : decode cX1_takeIn 18 = .ok (.istore_n 2, 1) := by decide +kernel
theorem dX1_takeIn_19 : decode cX1_takeIn 19 = .ok (.iload_n 1, 1) := by decide +kernel
theorem dX1_takeIn_20 : decode cX1_takeIn 20 = .ok (.aload_n 0, 1) := by decide +kernel
theorem dX1_takeIn_21 : decode cX1_takeIn 21 = .ok (.getfield 28, 3) := by decide +kernel
theorem dX1_takeIn_24 : decode cX1_takeIn 24 = .ok (.if_icmp .ge 52, 3) := by decide +kernel
theorem dX1_takeIn_27 : decode cX1_takeIn 27 = .ok (.aload_n 0, 1) := by decide +kernel
theorem dX1_takeIn_28 : decode cX1_takeIn 28 = .ok (.getfield 35, 3) := by decide +kernel
theorem dX1_takeIn_31 : decode cX1_takeIn 31 = .ok (.iload_n 1, 1) := by decide +kernel
theorem dX1_takeIn_32 : decode cX1_takeIn 32 = .ok (.iaload, 1) := by decide +kernel
theorem dX1_takeIn_33 : decode cX1_takeIn 33 = .ok (.iload_n 2, 1) := by decide +kernel
theorem dX1_takeIn_34 : decode cX1_takeIn 34 = .ok (.if_icmp .gt 42, 3) := by decide +kernel
theorem dX1_takeIn_37 : decode cX1_takeIn 37 = .ok (.aload_n 0, 1) := by decide +kernel
theorem dX1_takeIn_38 : decode cX1_takeIn 38 = .ok (.getfield 35, 3) := by decide +kernel
theorem dX1_takeIn_41 : decode cX1_takeIn 41 = .ok (.iload_n 1, 1) := by decide +kernel
theorem dX1_takeIn_42 : decode cX1_takeIn 42 = .ok (.iaload, 1) := by decide +kernel
theorem dX1_takeIn_43 : decode cX1_takeIn 43 = .ok (.iload_n 2, 1) := by decide +kernel
theorem dX1_takeIn_44 : decode cX1_takeIn 44 = .ok (.if_icmp .ne 26, 3) := by decide +kernel
theorem dX1_takeIn_47 : decode cX1_takeIn 47 = .ok (.aload_n 0, 1) := by decide +kernel
theorem dX1_takeIn_48 : decode cX1_takeIn 48 = .ok (.iload_n 1, 1) := by decide +kernel
theorem dX1_takeIn_49 : decode cX1_takeIn 49 = .ok (.iload_n 2, 1) := by decide +kernel
theorem dX1_takeIn_50 : decode cX1_takeIn 50 = .ok (.invokevirtual 77, 3) := by decide +kernel
theorem dX1_takeIn_53 : decode cX1_takeIn 53 = .ok (.aload_n 0, 1) := by decide +kernel
theorem dX1_takeIn_54 : decode cX1_takeIn 54 = .ok (.getfield 41, 3) := by decide +kernel
theorem dX1_takeIn_57 : decode cX1_takeIn 57 = .ok (.aload_n 0, 1) := by decide +kernel
theorem dX1_takeIn_58 : decode cX1_takeIn 58 = .ok (.getfield 28, 3) := by decide +kernel
theorem dX1_takeIn_61 : decode cX1_takeIn 61 = .ok (.aaload, 1) := by decide +kernel
theorem dX1_takeIn_62 : decode cX1_takeIn 62 = .ok (.aload_n 0, 1) := by decide +kernel
theorem dX1_takeIn_63 : decode cX1_takeIn 63 = .ok (.getfield 32, 3) := by decide +kernel
theorem dX1_takeIn_66 : decode cX1_takeIn 66 = .ok (.invokevirtual 73, 3) := by decide +kernel
theorem dX1_takeIn_69 : decode cX1_takeIn 69 = .ok (.istore_n 2, 1) := by decide +kernel
theorem dX1_takeIn_70 : decode cX1_takeIn 70 = .ok (.iinc 1 1, 3) := by decide +kernel
theorem dX1_takeIn_73 : decode cX1_takeIn 73 = .ok (.goto (-54), 3) := by decide +kernel
theorem dX1_takeIn_76 : decode cX1_takeIn 76 = .ok (.iload_n 2, 1) := by decide +kernel
theorem dX1_takeIn_77 : decode cX1_takeIn 77 = .ok (.aload_n 0, 1) := by decide +kernel
theorem dX1_takeIn_78 : decode cX1_takeIn 78 = .ok (.getfield 32, 3) := by decide +kernel
theorem dX1_takeIn_81 : decode cX1_takeIn 81 = .ok (.if_icmp .ge 101, 3) := by decide +kernel
theorem dX1_takeIn_84 : decode cX1_takeIn 84 = .ok (.aload_n 0, 1) := by decide +kernel
theorem dX1_takeIn_85 : decode cX1_takeIn 85 = .ok (.getfield 28, 3) := by decide +kernel
theorem dX1_takeIn_88 : decode cX1_takeIn 88 = .ok (.iconst 1, 1) := by decide +kernel
theorem dX1_takeIn_89 : decode cX1_takeIn 89 = .ok (.iadd, 1) := by decide +kernel
theorem dX1_takeIn_90 : decode cX1_takeIn 90 = .ok (.aload_n 0, 1) := by decide +kernel
theorem dX1_takeIn_91 : decode cX1_takeIn 91 = .ok (.getfield 41, 3) := by decide +kernel
theorem dX1_takeIn_94 : decode cX1_takeIn 94 = .ok (.arraylength, 1) := by decide +kernel
theorem dX1_takeIn_95 : decode cX1_takeIn 95 = .ok (.if_icmp .ge 87, 3) := by decide +kernel
theorem dX1_takeIn_98 : decode cX1_takeIn 98 = .ok (.aload_n 0, 1) := by decide +kernel
theorem dX1_takeIn_99 : decode cX1_takeIn 99 = .ok (.getfield 41, 3) := by decide +kernel
theorem dX1_takeIn_102 : decode cX1_takeIn 102 = .ok (.aload_n 0, 1) := by decide +kernel
theorem dX1_takeIn_103 : decode cX1_takeIn 103 = .ok (.getfield 28, 3) := by decide +kernel
theorem dX1_takeIn_106 : decode cX1_takeIn 106 = .ok (.aaload, 1) := by decide +kernel
theorem dX1_takeIn_107 : decode cX1_takeIn 107 = .ok (.astore_n 3, 1) := by decide +kernel
theorem dX1_takeIn_108 : decode cX1_takeIn 108 = .ok (.aload_n 0, 1) := by decide +kernel
theorem dX1_takeIn_109 : decode cX1_takeIn 109 = .ok (.getfield 28, 3) := by decide +kernel
theorem dX1_takeIn_112 : decode cX1_takeIn 112 = .ok (.istore 4, 2) := by decide +kernel
theorem dX1_takeIn_114 : decode cX1_takeIn 114 = .ok (.iload 4, 2) := by decide +kernel
theorem dX1_takeIn_116 : decode cX1_takeIn 116 = .ok (.iload_n 1, 1) := by decide +kernel
theorem dX1_takeIn_117 : decode cX1_takeIn 117 = .ok (.if_icmp .le 41, 3) := by decide +kernel
theorem dX1_takeIn_120 : decode cX1_takeIn 120 = .ok (.aload_n 0, 1) := by decide +kernel
theorem dX1_takeIn_121 : decode cX1_takeIn 121 = .ok (.getfield 41, 3) := by decide +kernel
theorem dX1_takeIn_124 : decode cX1_takeIn 124 = .ok (.iload 4, 2) := by decide +kernel
theorem dX1_takeIn_126 : decode cX1_takeIn 126 = .ok (.aload_n 0, 1) := by decide +kernel
theorem dX1_takeIn_127 : decode cX1_takeIn 127 = .ok (.getfield 41, 3) := by decide +kernel
theorem dX1_takeIn_130 : decode cX1_takeIn 130 = .ok (.iload 4, 2) := by decide +kernel
theorem dX1_takeIn_132 : decode cX1_takeIn 132 = .ok (.iconst 1, 1) := by decide +kernel
theorem dX1_takeIn_133 : decode cX1_takeIn 133 = .ok (.isub, 1) := by decide +kernel
theorem dX1_takeIn_134 : decode cX1_takeIn 134 = .ok (.aaload, 1) := by decide +kernel
theorem dX1_takeIn_135 : decode cX1_takeIn 135 = .ok (.aastore, 1) := by decide +kernel
theorem dX1_takeIn_136 : decode cX1_takeIn 136 = .ok (.aload_n 0, 1) := by decide +kernel
theorem dX1_takeIn_137 : decode cX1_takeIn 137 = .ok (.getfield 35, 3) := by decide +kernel
theorem dX1_takeIn_140 : decode cX1_takeIn 140 = .ok (.iload 4, 2) := by decide +kernel
theorem dX1_takeIn_142 : decode cX1_takeIn 142 = .ok (.aload_n 0, 1) := by decide +kernel
theorem dX1_takeIn_143 : decode cX1_takeIn 143 = .ok (.getfield 35, 3) := by decide +kernel
theorem dX1_takeIn_146 : decode cX1_takeIn 146 = .ok (.iload 4, 2) := by decide +kernel
theorem dX1_takeIn_148 : decode cX1_takeIn 148 = .ok (.iconst 1, 1) := by decide +kernel
theorem dX1_takeIn_149 : decode cX1_takeIn 149 = .ok (.isub, 1) := by decide +kernel
theorem dX1_takeIn_150 : decode cX1_takeIn 150 = .ok (.iaload, 1) := by decide +kernel
theorem dX1_takeIn_151 : decode cX1_takeIn 151 = .ok (.iastore, 1) := by decide +kernel
theorem dX1_takeIn_152 : decode cX1_takeIn 152 = .ok (.iinc 4 (-1), 3) := by decide +kernel
theorem dX1_takeIn_155 : decode cX1_takeIn 155 = .ok (.goto (-41), 3) := by decide +kernel
theorem dX1_takeIn_158 : decode cX1_takeIn 158 = .ok (.aload_n 0, 1) := by decide +kernel
theorem dX1_takeIn_159 : decode cX1_takeIn 159 = .ok (.getfield 41, 3) := by decide +kernel
theorem dX1_takeIn_162 : decode cX1_takeIn 162 = .ok (.iload_n 1, 1) := by decide +kernel
theorem dX1_takeIn_163 : decode cX1_takeIn 163 = .ok (.aload_n 3, 1) := by decide +kernel
theorem dX1_takeIn_164 : decode cX1_takeIn 164 = .ok (.aastore, 1) := by decide +kernel
theorem dX1_takeIn_165 : decode cX1_takeIn 165 = .ok (.aload_n 0, 1) := by decide +kernel
theorem dX1_takeIn_166 : decode cX1_takeIn 166 = .ok (.getfield 35, 3) := by decide +kernel
theorem dX1_takeIn_169 : decode cX1_takeIn 169 = .ok (.iload_n 1, 1) := by decide +kernel
theorem dX1_takeIn_170 : decode cX1_takeIn 170 = .ok (.iload_n 2, 1) := by decide +kernel
theorem dX1_takeIn_171 : decode cX1_takeIn 171 = .ok (.iastore, 1) := by decide +kernel
theorem dX1_takeIn_172 : decode cX1_takeIn 172 = .ok (.aload_n 0, 1) := by decide +kernel
theorem dX1_takeIn_173 : decode cX1_takeIn 173 = .ok (.dup, 1) := by decide +kernel
theorem dX1_takeIn_174 : decode cX1_takeIn 174 = .ok (.getfield 28, 3) := by decide +kernel
theorem dX1_takeIn_177 : decode cX1_takeIn 177 = .ok (.iconst 1, 1) := by decide +kernel
theorem dX1_takeIn_178 : decode cX1_takeIn 178 = .ok (.iadd, 1) := by decide +kernel
theorem dX1_takeIn_179 : decode cX1_takeIn 179 = .ok (.putfield 28, 3) := by decide +kernel
theorem dX1_takeIn_182 : decode cX1_takeIn 182 = .ok (.aload_n 0, 1) := by decide +kernel
theorem dX1_takeIn_183 : decode cX1_takeIn 183 = .ok (.invokevirtual 81, 3) := by decide +kernel
theorem dX1_takeIn_186 : decode cX1_takeIn 186 = .ok (.return_, 1) := by decide +kernel
theorem ti_ins (g : GX) (d : Nat) {ws : List Nat} {SA : Nat → Prop} {D : DT} {G : GG} {h w p lf nx : Nat} {ld : Nat → Int} {ρ : Nat → Nat} {V0 : AH} {R : Option Value → AH → (Nat → Int) → Prop} {Z : Nat → Int} {P L : Nat → Nat} {sz : Nat} (hS : GSt ws SA D G) (hhm : h < G.mr) (hph : p ≤ h) (hRS : ∀ i, i < G.mr → G.RS (ρ i))
    (hKK : ∀ {V : AH}, WG g ws SA V sz Z P L → V G.gd = some (grO G.ra G.la D.dk G.fa G.pr h w) → V G.ra = some (aQ g 4 G.mr (fun k => some (shF ρ (p) h k))) → V G.la = some (aIz g G.mr (shF ld (p) h)) → (∀ ro, G.RS ro → RowV g V ro (G.ka ro) G.mc (G.ga ro)) → (∀ a, SA a → ¬ EG G a → V a = V0 a) → AW g mX1_takeIn (d + 6) 158 [(3, .ref nx), (1, .int (iZ p)), (2, .int (iZ lf)), (0, .ref G.gd)] [] V sz (WE g ws SA (EG G) V sz L R)) : ∀ (x i : Nat), p + x = i → i ≤ h → ∀ {V : AH}, WG g ws SA V sz Z P L → V G.gd = some (grO G.ra G.la D.dk G.fa G.pr h w) → V G.ra = some (aQ g 4 G.mr (fun k => some (shF ρ i h k))) → V G.la = some (aIz g G.mr (shF ld i h)) → (∀ ro, G.RS ro → RowV g V ro (G.ka ro) G.mc (G.ga ro)) → (∀ a, SA a → ¬ EG G a → V a = V0 a) → AW g mX1_takeIn (d + 6) 114 [(4, .int (iZ i)), (3, .ref nx), (1, .int (iZ p)), (2, .int (iZ lf)), (0, .ref G.gd)] [] V sz (WE g ws SA (EG G) V sz L R)
  | 0, i, hx, hih, V, hw0, hgd, hra, hla, hrow, hV => by
    obtain ⟨-, -, -, -, -, -, hmr, hmc⟩ := id hS
    obtain rfl : p = i := by omega
    refine aw_iload dX1_takeIn_114 (by rfl) ?_
    refine aw_iload_n dX1_takeIn_116 (by rfl) ?_
    refine aw_icmp_leZ (tgt := 158) dX1_takeIn_117 (by decide) (by omega) (by omega) (fun hc_117 => ?_) (fun hc_117 => ?_)
    · refine aw_pk [3, 1, 2, 0] (by rfl) ?_
      exact hKK hw0 hgd hra hla hrow hV
    · exact absurd hc_117 (by omega)
  | x + 1, i, hx, hih, V, hw0, hgd, hra, hla, hrow, hV => by
    obtain ⟨-, -, -, -, -, -, hmr, hmc⟩ := id hS
    obtain ⟨i, rfl⟩ : ∃ i', i = i' + 1 := ⟨i - 1, by omega⟩
    have IH := fun i hi => @ti_ins g d ws SA D G h w p lf nx ld ρ V0 R Z P L sz hS hhm hph hRS hKK x i hi (by omega)
    clear hKK
    have hri : V (shF ρ (i + 1) h i) = _ := (hrow _ (by unfold shF; rw [if_neg (by omega)]; exact hRS i (by omega))).1
    rw [show ((i + 1 : Nat) : Int) = (i : Int) + 1 by omega]
    refine aw_iload dX1_takeIn_114 (by rfl) ?_
    refine aw_iload_n dX1_takeIn_116 (by rfl) ?_
    refine aw_icmp_leZ (tgt := 158) dX1_takeIn_117 (by decide) (by omega) (by omega) (fun hc_117 => ?_) (fun hc_117 => ?_)
    · exact absurd hc_117 (by omega)
    · refine aw_aload_n dX1_takeIn_120 (by rfl) (Or.inr ⟨_, rfl⟩) ?_
      refine aw_get fX1_41 dX1_takeIn_121 (by assumption) (by rfl) ?_
      refine aw_iload dX1_takeIn_124 (by rfl) ?_
      refine aw_aload_n dX1_takeIn_126 (by rfl) (Or.inr ⟨_, rfl⟩) ?_
      refine aw_get fX1_41 dX1_takeIn_127 (by assumption) (by rfl) ?_
      refine aw_iload dX1_takeIn_130 (by rfl) ?_
      refine aw_iconstZ dX1_takeIn_132 ?_
      refine aw_isubZ dX1_takeIn_133 ?_
      refine aw_topi (y := (i : Int)) (by omega) ?_
      refine aw_aaldZ (t0 := 4) (i) (by rfl) dX1_takeIn_134 (by assumption) (by omega) (by omega) (by omega) ?_
      refine aw_aastR (i + 1) dX1_takeIn_135 (by assumption) (by assumption) (by omega) (by omega) (by omega) ?_
      rw [shF_step ρ (by omega)]
      have hgd1 : (AHu V G.ra (aQ g 4 G.mr (fun k => some (shF ρ i h k)))) G.gd = _ := (AHu_ne hS.2.1.1).trans hgd
      have hla1 : (AHu V G.ra (aQ g 4 G.mr (fun k => some (shF ρ i h k)))) G.la = _ := (AHu_ne hS.2.1.2.2.1.symm).trans hla
      refine WE.stp0 (WSE.sto hw0 hS.1.2.1 (Or.inr (Or.inl rfl))) ?_
      have hw1 := hw0.sto (e := aQ g 4 G.mr (fun k => some (shF ρ i h k))) hS.1.2.1
      refine aw_aload_n dX1_takeIn_136 (by rfl) (Or.inr ⟨_, rfl⟩) ?_
      refine aw_get fX1_35 dX1_takeIn_137 (by assumption) (by rfl) ?_
      refine aw_iload dX1_takeIn_140 (by rfl) ?_
      refine aw_aload_n dX1_takeIn_142 (by rfl) (Or.inr ⟨_, rfl⟩) ?_
      refine aw_get fX1_35 dX1_takeIn_143 (by assumption) (by rfl) ?_
      refine aw_iload dX1_takeIn_146 (by rfl) ?_
      refine aw_iconstZ dX1_takeIn_148 ?_
      refine aw_isubZ dX1_takeIn_149 ?_
      refine aw_topi (y := (i : Int)) (by omega) ?_
      refine aw_ialdZ (i) dX1_takeIn_150 (by assumption) (by omega) (by omega) (by omega) ?_
      refine aw_iastZ (i + 1) dX1_takeIn_151 (by assumption) (by omega) (by omega) (by omega) ?_
      rw [shF_step ld (by omega)]
      refine WE.stp0 (WSE.sto hw1 hS.1.2.2 (Or.inr (Or.inr rfl))) ?_
      have hw2 := hw1.sto (e := aIz g G.mr (shF ld i h)) hS.1.2.2
      refine aw_iincZ dX1_takeIn_152 (by rfl) (by decide) ?_
      refine aw_goto (tgt := 114) dX1_takeIn_155 (by decide) ?_
      rw [show ((i : Int) + 1 + -1) = (i : Int) by omega]
      refine aw_pk [4, 3, 1, 2, 0] (by rfl) ?_
      exact IH i (by omega) hw2 (by rw [AHu_ne hS.2.1.2.1]; exact hgd1) (by rw [AHu_ne hS.2.1.2.2.1, AHu_self]) (AHu_self _ _ _) (fun ro hr => ((hrow ro hr).kept (by rw [AHu_ne (hS.2.2.2.1 ro hr).2.2.1.2.2, AHu_ne (hS.2.2.2.1 ro hr).2.2.1.2.1]) (by rw [AHu_ne (hS.2.2.2.1 ro hr).2.2.2.2.2, AHu_ne (hS.2.2.2.1 ro hr).2.2.2.2.1]))) (fun a ha hE => by rw [AHu_ne (fun q => hE (Or.inr (Or.inr q))), AHu_ne (fun q => hE (Or.inr (Or.inl q)))]; exact hV a ha hE)
