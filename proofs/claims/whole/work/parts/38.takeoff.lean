/-! ===== Grid.takeOff ===== -/
abbrev mX1_takeOff : MI := (yX1_takeOff, cX1_takeOff, 8, (some FieldType.boolean), noX)
theorem dX1_takeOff_0 : decode cX1_takeOff 0 = .ok (.iload_n 2, 1) := by decide +kernel
theorem dX1_takeOff_1 : decode cX1_takeOff 1 = .ok (.istore 5, 2) := by decide +kernel
theorem dX1_takeOff_3 : decode cX1_takeOff 3 = .ok (.iload 5, 2) := by decide +kernel
theorem dX1_takeOff_5 : decode cX1_takeOff 5 = .ok (.iload_n 3, 1) := by decide +kernel
theorem dX1_takeOff_6 : decode cX1_takeOff 6 = .ok (.if_icmp .ge 82, 3) := by decide +kernel
theorem dX1_takeOff_9 : decode cX1_takeOff 9 = .ok (.aload_n 0, 1) := by decide +kernel
theorem dX1_takeOff_10 : decode cX1_takeOff 10 = .ok (.getfield 35, 3) := by decide +kernel
theorem dX1_takeOff_13 : decode cX1_takeOff 13 = .ok (.iload 5, 2) := by decide +kernel
theorem dX1_takeOff_15 : decode cX1_takeOff 15 = .ok (.iaload, 1) := by decide +kernel
theorem dX1_takeOff_16 : decode cX1_takeOff 16 = .ok (.istore 6, 2) := by decide +kernel
theorem dX1_takeOff_18 : decode cX1_takeOff 18 = .ok (.aload 4, 2) := by decide +kernel
theorem dX1_takeOff_20 : decode cX1_takeOff 20 = .ok (.getfield 65, 3) := by decide +kernel
theorem dX1_takeOff_23 : decode cX1_takeOff 23 = .ok (.iload 5, 2) := by decide +kernel
theorem dX1_takeOff_25 : decode cX1_takeOff 25 = .ok (.iload_n 2, 1) := by decide +kernel
theorem dX1_takeOff_26 : decode cX1_takeOff 26 = .ok (.isub, 1) := by decide +kernel
theorem dX1_takeOff_27 : decode cX1_takeOff 27 = .ok (.aaload, 1) := by decide +kernel
theorem dX1_takeOff_28 : decode cX1_takeOff 28 = .ok (.astore 7, 2) := by decide +kernel
theorem dX1_takeOff_30 : decode cX1_takeOff 30 = .ok (.aload_n 0, 1) := by decide +kernel
theorem dX1_takeOff_31 : decode cX1_takeOff 31 = .ok (.getfield 12, 3) := by decide +kernel
theorem dX1_takeOff_34 : decode cX1_takeOff 34 = .ok (.aload_n 1, 1) := by decide +kernel
theorem dX1_takeOff_35 : decode cX1_takeOff 35 = .ok (.getfield 65, 3) := by decide +kernel
theorem dX1_takeOff_38 : decode cX1_takeOff 38 = .ok (.iload 6, 2) := by decide +kernel
theorem dX1_takeOff_40 : decode cX1_takeOff 40 = .ok (.aaload, 1) := by decide +kernel
theorem dX1_takeOff_41 : decode cX1_takeOff 41 = .ok (.aload_n 0, 1) := by decide +kernel
theorem dX1_takeOff_42 : decode cX1_takeOff 42 = .ok (.getfield 41, 3) := by decide +kernel
theorem dX1_takeOff_45 : decode cX1_takeOff 45 = .ok (.iload 5, 2) := by decide +kernel
theorem dX1_takeOff_47 : decode cX1_takeOff 47 = .ok (.aaload, 1) := by decide +kernel
theorem dX1_takeOff_48 : decode cX1_takeOff 48 = .ok (.getfield 65, 3) := by decide +kernel
theorem dX1_takeOff_51 : decode cX1_takeOff 51 = .ok (.iload 6, 2) := by decide +kernel
theorem dX1_takeOff_53 : decode cX1_takeOff 53 = .ok (.aaload, 1) := by decide +kernel
theorem dX1_takeOff_54 : decode cX1_takeOff 54 = .ok (.aload 7, 2) := by decide +kernel
theorem dX1_takeOff_56 : decode cX1_takeOff 56 = .ok (.invokevirtual 88, 3) := by decide +kernel
theorem dX1_takeOff_59 : decode cX1_takeOff 59 = .ok (.aload_n 1, 1) := by decide +kernel
theorem dX1_takeOff_60 : decode cX1_takeOff 60 = .ok (.aload 7, 2) := by decide +kernel
theorem dX1_takeOff_62 : decode cX1_takeOff 62 = .ok (.aload_n 0, 1) := by decide +kernel
theorem dX1_takeOff_63 : decode cX1_takeOff 63 = .ok (.getfield 41, 3) := by decide +kernel
theorem dX1_takeOff_66 : decode cX1_takeOff 66 = .ok (.iload 5, 2) := by decide +kernel
theorem dX1_takeOff_68 : decode cX1_takeOff 68 = .ok (.aaload, 1) := by decide +kernel
theorem dX1_takeOff_69 : decode cX1_takeOff 69 = .ok (.iload 6, 2) := by decide +kernel
theorem dX1_takeOff_71 : decode cX1_takeOff 71 = .ok (.aload_n 0, 1) := by decide +kernel
theorem dX1_takeOff_72 : decode cX1_takeOff 72 = .ok (.getfield 32, 3) := by decide +kernel
theorem dX1_takeOff_75 : decode cX1_takeOff 75 = .ok (.aload_n 0, 1) := by decide +kernel
theorem dX1_takeOff_76 : decode cX1_takeOff 76 = .ok (.getfield 25, 3) := by decide +kernel
theorem dX1_takeOff_79 : decode cX1_takeOff 79 = .ok (.invokevirtual 92, 3) := by decide +kernel
theorem dX1_takeOff_82 : decode cX1_takeOff 82 = .ok (.iinc 5 1, 3) := by decide +kernel
theorem dX1_takeOff_85 : decode cX1_takeOff 85 = .ok (.goto (-82), 3) := by decide +kernel
theorem dX1_takeOff_88 : decode cX1_takeOff 88 = .ok (.aload_n 1, 1) := by decide +kernel
theorem dX1_takeOff_89 : decode cX1_takeOff 89 = .ok (.aload_n 0, 1) := by decide +kernel
theorem dX1_takeOff_90 : decode cX1_takeOff 90 = .ok (.getfield 32, 3) := by decide +kernel
theorem dX1_takeOff_93 : decode cX1_takeOff 93 = .ok (.invokevirtual 73, 3) := by decide +kernel
theorem dX1_takeOff_96 : decode cX1_takeOff 96 = .ok (.aload_n 0, 1) := by decide +kernel
theorem dX1_takeOff_97 : decode cX1_takeOff 97 = .ok (.getfield 32, 3) := by decide +kernel
theorem dX1_takeOff_100 : decode cX1_takeOff 100 = .ok (.if_icmp .ne 7, 3) := by decide +kernel
theorem dX1_takeOff_103 : decode cX1_takeOff 103 = .ok (.iconst 1, 1) := by decide +kernel
theorem dX1_takeOff_104 : decode cX1_takeOff 104 = .ok (.goto 4, 3) := by decide +kernel
theorem dX1_takeOff_107 : decode cX1_takeOff 107 = .ok (.iconst 0, 1) := by decide +kernel
theorem dX1_takeOff_108 : decode cX1_takeOff 108 = .ok (.ireturn, 1) := by decide +kernel
theorem tk_K {C K : Int} (hK : 1 ≤ K) (hC : 1 ≤ C) (n : Nat) : K ≤ C * (1 + K) ^ (n + 1) := by
  have h1 : (1 : Int) ≤ (1 + K) ^ n := by have := pw_pos (show (0 : Int) < 1 + K by omega) n; omega
  rw [Int.pow_succ, ← Int.mul_assoc]
  have h2 : (1 : Int) * 1 ≤ C * (1 + K) ^ n := Int.mul_le_mul hC h1 (by omega) (by omega)
  have h3 : 1 * (1 + K) ≤ C * (1 + K) ^ n * (1 + K) := Int.mul_le_mul_of_nonneg_right (by omega) (by omega)
  omega
/-- sizes in a step of takeOff -/
theorem tk_bd {Z : Nat → Int} {c : Nat → Nat} {w l n : Nat} {C K q e : Int} {a : Nat → Int} (hb : ∀ j, j < w → ab (Z (c j)) ≤ C * (1 + K) ^ n) (he : e = Z (c l) / q) (hq : 0 < q) (hl : l < w) (ha : ∀ j, j < w → ab (a j) ≤ K) (hC : 1 ≤ C) (hK : 1 ≤ K) {T : Int} (hT : T = C * (1 + K) ^ n) : ab e ≤ T ∧ ∀ j, j < w → ab (e * a j) ≤ T * K := by
  subst hT
  have h1 : ab e ≤ ab (Z (c l)) := by
    rw [he]
    unfold ab
    have := Int.natAbs_ediv_le_natAbs (Z (c l)) q
    omega
  have h2 := Int.le_trans h1 (hb l hl)
  refine ⟨h2, fun j hj => ?_⟩
  rw [ab_mul]
  exact Int.mul_le_mul h2 (ha j hj) (ab0 _) (Int.le_trans (ab0 _) h2)
/-- how far takeOff has come: n rows from fr on have been taken off -/
def TKI (Z0 : Nat → Int) (A : Mat) (w : Nat) (l c fc : Nat → Nat) (pr : Nat) (C K : Int) (fr n : Nat) (q Z : Nat → Int) : Prop :=
  (∀ j, j < w → Z (c j) = Z0 (c j) - Sg (fun t => q t * A (fr + t) j) n) ∧ (∀ t, t < n → Z (fc t) = q t ∧ 0 ≤ Z (c (l (fr + t))) ∧ Z (c (l (fr + t))) < A (fr + t) (l (fr + t))) ∧ (∀ j, j < w → ab (Z (c j)) ≤ C * (1 + K) ^ n) ∧ ∀ x, x ≠ pr → (∀ j, j < w → x ≠ c j) → (∀ t, t < n → x ≠ fc t) → Z x = Z0 x
theorem TKI.step {Z0 : Nat → Int} {A : Mat} {h w : Nat} {l c fc : Nat → Nat} {pr : Nat} {C K : Int} {fr n nf nr : Nat} {q Z Z2 : Nat → Int} (hT : TKI Z0 A w l c fc pr C K fr n q Z) (hst : Stair A h w l) (hKb : ∀ i j, i < h → j < w → ab (A i j) ≤ K) (hK : 1 ≤ K) (hC : 1 ≤ C) (hn : fr + n < h) (hnf : n < nf) (hwn : w ≤ nr) (h1 : ∀ j, j < w → Z2 (c j) = Z (c j) - Z (c (l (fr + n))) / A (fr + n) (l (fr + n)) * A (fr + n) j) (h2 : Z2 (fc n) = Z (c (l (fr + n))) / A (fr + n) (l (fr + n))) (h3 : ∀ x, x ≠ pr → (∀ j, j < w → x ≠ c j) → x ≠ fc n → Z2 x = Z x) (hcf : ∀ i j, i < nf → j < nr → fc i ≠ c j) (hfi : ∀ i j, i < nf → j < nf → i ≠ j → fc i ≠ fc j) (hfp : ∀ i, i < nf → fc i ≠ pr) {Q : Int} (hQ : Q = Z (c (l (fr + n))) / A (fr + n) (l (fr + n)) := by rfl) : TKI Z0 A w l c fc pr C K fr (n + 1) (upF q n Q) Z2 := by
  subst hQ
  obtain ⟨a1, a2, a3, a4⟩ := hT
  have hp := hst.2.1 (fr + n) hn
  have hlw := (hst.1.1 (fr + n) hn).1
  have hm := Int.mul_ediv_add_emod (Z (c (l (fr + n)))) (A (fr + n) (l (fr + n)))
  have hr0 := Int.emod_nonneg (Z (c (l (fr + n)))) (show A (fr + n) (l (fr + n)) ≠ 0 by omega)
  have hr1 := Int.emod_lt_of_pos (Z (c (l (fr + n)))) hp
  have hbd := tk_bd (a := A (fr + n)) a3 rfl hp hlw (fun j hj => hKb (fr + n) j hn hj) hC hK rfl
  have hE := h1 _ hlw
  rw [Int.mul_comm] at hE
  generalize Z (c (l (fr + n))) / A (fr + n) (l (fr + n)) = Q at *
  refine ⟨fun j hj => ?_, fun t ht => ?_, fun j hj => ?_, fun x b1 b2 b3 => ?_⟩
  · rw [h1 j hj, a1 j hj]
    simp only [Sg]
    have e : Sg (fun t => upF q n Q t * A (fr + t) j) n = Sg (fun t => q t * A (fr + t) j) n := Sg_congr (fun i hi => by rw [upF_ne _ _ (show i ≠ n by omega)])
    rw [upF_self, e]
    omega
  · by_cases hq : t = n
    · subst hq
      rw [upF_self]
      exact ⟨h2, by rw [hE]; omega, by rw [hE]; omega⟩
    · rw [upF_ne _ _ hq]
      obtain ⟨b1, b2, b3⟩ := a2 t (by omega)
      have hz := (hst.1.1 (fr + n) hn).2.2 (l (fr + t)) (hst.1.2 (fr + t) (fr + n) (by omega) hn)
      have hlt := (hst.1.1 (fr + t) (by omega)).1
      refine ⟨?_, ?_, ?_⟩
      · rw [h3 _ (hfp t (by omega)) (fun j hj => hcf t j (by omega) (by omega)) (hfi t n (by omega) hnf (by omega))]; exact b1
      · rw [h1 _ hlt, hz]; omega
      · rw [h1 _ hlt, hz]; omega
  · rw [h1 j hj, Int.pow_succ, ← Int.mul_assoc]
    have e1 := ab_sub (Z (c j)) (Q * A (fr + n) j)
    have e2 := a3 j hj
    have e3 := hbd.2 j hj
    generalize C * (1 + K) ^ n = X at *
    rw [Int.mul_add, Int.mul_one]
    omega
  · rw [h3 x b1 b2 (b3 n (by omega))]; exact a4 x b1 b2 (fun t ht => b3 t (by omega))
set_option maxRecDepth 20000 in
theorem to_loop (g : GX) (d : Nat) {ws : List Nat} {SA : Nat → Prop} {D : DT} {G : GG} {h w fr to ro ca nr rf cf nf : Nat} {c fc : Nat → Nat} {l : Nat → Nat} {ld : Nat → Int} {ρ : Nat → Nat} {V0 : AH} {Z0 : Nat → Int} {C K : Int} (hS : GSt ws SA D G) (hG0 : GD g V0 D.dk G h w ld ρ) (hhm : h ≤ G.mr) (hwm : w ≤ G.mc) (hwn : w ≤ nr) (hto : fr ≤ to ∧ to ≤ h ∧ to ≤ fr + nf) (hld : ∀ i, i < h → ld i = (l i : Int)) (hst : Stair (AM G Z0 ρ) h w l) (hK1 : 1 ≤ K) (hC1 : 1 ≤ C) (hKb : ∀ i j, i < h → j < w → ab (AM G Z0 ρ i j) ≤ K) (hCb : ∀ j, j < w → ab (Z0 (c j)) ≤ C) (hT2 : Sm (2 * (C * (1 + K) ^ (to - fr)))) (hr0 : RowV g V0 ro ca nr c) (hf0 : RowV g V0 rf cf nf fc) (hSr : SA ro ∧ SA ca ∧ SA rf ∧ SA cf) (hcU : ∀ j, j < nr → US ws D (c j) ∧ c j ≠ G.pr ∧ (∀ rr, G.RS rr → ∀ i, i < G.mc → c j ≠ G.ga rr i) ∧ ∀ i, i < nf → c j ≠ fc i) (hfU : ∀ j, j < nf → US ws D (fc j) ∧ fc j ≠ G.pr ∧ ∀ rr, G.RS rr → ∀ i, i < G.mc → fc j ≠ G.ga rr i) (hci : ∀ i j, i < nr → j < nr → i ≠ j → c i ≠ c j) (hfi : ∀ i j, i < nf → j < nf → i ≠ j → fc i ≠ fc j) : ∀ (x n : Nat), fr + n + x = to → ∀ {V : AH} {sz : Nat} {Z : Nat → Int} {P L : Nat → Nat} {q : Nat → Int}, WG g ws SA V sz Z P L → DKV ws SA V Z D → (∀ a, SA a → V a = V0 a) → TKI Z0 (AM G Z0 ρ) w l c fc G.pr C K fr n q Z → AW g mX1_takeOff (d + 5) 3 [(5, .int (iZ (fr + n : Nat))), (0, .ref G.gd), (1, .ref ro), (2, .int (iZ fr)), (3, .int (iZ to)), (4, .ref rf)] [] V sz (WE g ws SA E0 V sz L (fun r V' Z' => ∃ q : Nat → Int, TKI Z0 (AM G Z0 ρ) w l c fc G.pr C K fr (to - fr) q Z' ∧ ((∀ j, j < w → Z' (c j) = 0) ∧ some (.int (iZ 1)) = r ∨ ¬ (∀ j, j < w → Z' (c j) = 0) ∧ some (.int (iZ 0)) = r)))
  | 0, n, hx, V, sz, Z, P, L, q, hw0, hD, hV, hTK => by
    obtain ⟨-, -, ⟨hfa, hpr, hfpr⟩, hSg, hcell, hginj, hmr, hmc⟩ := id hS
    have hG := hG0.kept hS hV
    obtain ⟨hgd, hra, hla, hrow, hRS, hinj⟩ := id hG
    have hr := hr0.kept (hV _ hSr.1) (hV _ hSr.2.1)
    obtain ⟨hra0, hrb0, hnr⟩ := id hr
    obtain ⟨hfa0, hfb0, hnf⟩ := id (hf0.kept (hV _ hSr.2.2.1) (hV _ hSr.2.2.2))
    have END : AW g mX1_takeOff (d + 5) 88 [(5, .int (iZ (fr + n : Nat))), (0, .ref G.gd), (1, .ref ro), (2, .int (iZ fr)), (3, .int (iZ to)), (4, .ref rf)] [] V sz (WE g ws SA E0 V sz L (fun r V' Z' => ∃ q : Nat → Int, TKI Z0 (AM G Z0 ρ) w l c fc G.pr C K fr (to - fr) q Z' ∧ ((∀ j, j < w → Z' (c j) = 0) ∧ some (.int (iZ 1)) = r ∨ ¬ (∀ j, j < w → Z' (c j) = 0) ∧ some (.int (iZ 0)) = r))) := by
      obtain ⟨jj, hFF⟩ := FF.ex (fun j => Z (c j)) w
      have hjw := hFF.1
      refine aw_aload_n dX1_takeOff_88 (by rfl) (Or.inr ⟨_, rfl⟩) ?_
      refine aw_aload_n dX1_takeOff_89 (by rfl) (Or.inr ⟨_, rfl⟩) ?_
      refine aw_get fX1_32 dX1_takeOff_90 (by assumption) (by rfl) ?_
      refine aw_callv vX1_73 dX1_takeOff_93 hr.1 (t_firstFilled d hw0 hr (fun j hj => (hcU j hj).1.1) hFF hwn) (by rfl) (by rfl) (by omega) (Nat.le_of_ble_eq_true rfl) ?_
      rintro _ _ _ _ _ ⟨rfl, rfl, rfl, rfl, rfl⟩ -
      refine q0 ?_
      refine aw_aload_n dX1_takeOff_96 (by rfl) (Or.inr ⟨_, rfl⟩) ?_
      refine aw_get fX1_32 dX1_takeOff_97 (by assumption) (by rfl) ?_
      refine aw_icmp_neZ (tgt := 107) dX1_takeOff_100 (by decide) (by omega) (by omega) (fun hc_100 => ?_) (fun hc_100 => ?_)
      · refine aw_iconstZ dX1_takeOff_107 ?_
        refine aw_iret dX1_takeOff_108 rfl (by rfl) ?_
        first | exact WE.ret hw0 ⟨q, by rw [show to - fr = n by omega]; exact hTK, Or.inl ⟨fun j hj => hFF.2.1 j (by omega), rfl⟩⟩ | exact WE.ret hw0 ⟨q, by rw [show to - fr = n by omega]; exact hTK, Or.inr ⟨fun q => hFF.2.2 (by omega) (q jj (by omega)), rfl⟩⟩
      · refine aw_iconstZ dX1_takeOff_103 ?_
        refine aw_goto (tgt := 108) dX1_takeOff_104 (by decide) ?_
        refine aw_iret dX1_takeOff_108 rfl (by rfl) ?_
        first | exact WE.ret hw0 ⟨q, by rw [show to - fr = n by omega]; exact hTK, Or.inl ⟨fun j hj => hFF.2.1 j (by omega), rfl⟩⟩ | exact WE.ret hw0 ⟨q, by rw [show to - fr = n by omega]; exact hTK, Or.inr ⟨fun q => hFF.2.2 (by omega) (q jj (by omega)), rfl⟩⟩
    refine aw_iload dX1_takeOff_3 (by rfl) ?_
    refine aw_iload_n dX1_takeOff_5 (by rfl) ?_
    refine aw_icmp_geZ (tgt := 88) dX1_takeOff_6 (by decide) (by omega) (by omega) (fun hc_6 => ?_) (fun hc_6 => ?_)
    · exact END
    · exact absurd hc_6 (by omega)
  | x + 1, n, hx, V, sz, Z, P, L, q, hw0, hD, hV, hTK => by
    have IH := fun n hn => @to_loop g d ws SA D G h w fr to ro ca nr rf cf nf c fc l ld ρ V0 Z0 C K hS hG0 hhm hwm hwn hto hld hst hK1 hC1 hKb hCb hT2 hr0 hf0 hSr hcU hfU hci hfi x n hn
    obtain ⟨-, -, ⟨hfa, hpr, hfpr⟩, hSg, hcell, hginj, hmr, hmc⟩ := id hS
    have hG := hG0.kept hS hV
    obtain ⟨hgd, hra, hla, hrow, hRS, hinj⟩ := id hG
    have hr := hr0.kept (hV _ hSr.1) (hV _ hSr.2.1)
    obtain ⟨hra0, hrb0, hnr⟩ := id hr
    obtain ⟨hfa0, hfb0, hnf⟩ := id (hf0.kept (hV _ hSr.2.2.1) (hV _ hSr.2.2.2))
    refine aw_iload dX1_takeOff_3 (by rfl) ?_
    refine aw_iload_n dX1_takeOff_5 (by rfl) ?_
    refine aw_icmp_geZ (tgt := 88) dX1_takeOff_6 (by decide) (by omega) (by omega) (fun hc_6 => ?_) (fun hc_6 => ?_)
    · exact absurd hc_6 (by omega)
    · have hRk := hRS (fr + n) (by omega)
      obtain ⟨hrk, hck, -⟩ := hrow _ hRk
      have hlk := (hst.1.1 (fr + n) (by omega)).1
      have hpw : C * (1 + K) ^ n ≤ C * (1 + K) ^ (to - fr) ∧ C * (1 + K) ^ (n + 1) ≤ C * (1 + K) ^ (to - fr) := ⟨Int.mul_le_mul_of_nonneg_left (pw_le (by omega) (by omega)) (by omega), Int.mul_le_mul_of_nonneg_left (pw_le (by omega) (by omega)) (by omega)⟩
      have hgZ : ∀ rr, G.RS rr → ∀ i, i < G.mc → Z (G.ga rr i) = Z0 (G.ga rr i) := fun rr hrr i hi => hTK.2.2.2 _ (hcell _ hrr i hi).2.2 (fun j hj => ((hcU j (by omega)).2.2.1 _ hrr i hi).symm) (fun t ht => ((hfU t (by omega)).2.2 _ hrr i hi).symm)
      have hbq := tk_bd (e := Z (c (l (fr + n))) / Z (G.ga (ρ (fr + n)) (l (fr + n)))) (q := Z (G.ga (ρ (fr + n)) (l (fr + n)))) (K := K) (hTK.2.2.1) rfl (by rw [hgZ _ hRk _ (by omega)]; exact hst.2.1 (fr + n) (by omega)) (l := l (fr + n)) (by omega) (a := fun j => Z (G.ga (ρ (fr + n)) j)) (fun j hj => by have := hKb (fr + n) j (by omega) hj; show ab (Z _) ≤ K; rw [hgZ _ hRk j (by omega)]; exact this) hC1 hK1 rfl
      have hpw3 : C * (1 + K) ^ n * K ≤ C * (1 + K) ^ (n + 1) := by
        rw [Int.pow_succ, ← Int.mul_assoc, Int.mul_add, Int.mul_one]
        have : 0 ≤ C * (1 + K) ^ n := Int.mul_nonneg (by omega) (Int.pow_nonneg (by omega))
        omega
      have hbT : ∀ j, j < w → ab (Z (c j)) ≤ C * (1 + K) ^ (to - fr) := fun j hj => Int.le_trans (hTK.2.2.1 j hj) hpw.1
      have hkT : ∀ j, j < w → ab (Z (G.ga (ρ (fr + n)) j)) ≤ C * (1 + K) ^ (to - fr) := fun j hj => by
        have h1 := hKb (fr + n) j (by omega) hj
        rw [hgZ _ hRk j (by omega)]
        exact Int.le_trans h1 (Int.le_trans (tk_K hK1 hC1 n) hpw.2)
      have hsq : Sm (Z (c (l (fr + n))) / Z (G.ga (ρ (fr + n)) (l (fr + n)))) := Sm.of hT2 (by have := hbq.1; have := ab0 (Z (c (l (fr + n))) / Z (G.ga (ρ (fr + n)) (l (fr + n)))); omega)
      have hsm : ∀ j, j < w → Sm (Z (c j)) ∧ Sm (Z (G.ga (ρ (fr + n)) j)) ∧ Sm (Z (c (l (fr + n))) / Z (G.ga (ρ (fr + n)) (l (fr + n))) * Z (G.ga (ρ (fr + n)) j)) := fun j hj => by
        have h1 := hbT j hj
        have h2 := hkT j hj
        have h3 := (hbq.2 j hj)
        refine ⟨Sm.of hT2 ?_, Sm.of hT2 ?_, Sm.of hT2 ?_⟩
        · have := ab0 (Z (c j)); omega
        · have := ab0 (Z (G.ga (ρ (fr + n)) j)); omega
        · refine Int.le_trans h3 ?_
          have := ab0 (Z (c j))
          omega
      refine aw_aload_n dX1_takeOff_9 (by rfl) (Or.inr ⟨_, rfl⟩) ?_
      refine aw_get fX1_35 dX1_takeOff_10 (by assumption) (by rfl) ?_
      refine aw_iload dX1_takeOff_13 (by rfl) ?_
      skip
      refine aw_ialdZ (fr + n) dX1_takeOff_15 (by assumption) (by omega) (by omega) (by omega) ?_
      refine aw_topi (hld (fr + n) (by omega)) ?_
      refine aw_istore dX1_takeOff_16 (by decide) ?_
      skip
      refine aw_aload dX1_takeOff_18 (by rfl) (Or.inr ⟨_, rfl⟩) ?_
      refine aw_get fX1_65 dX1_takeOff_20 (by assumption) (by rfl) ?_
      refine aw_iload dX1_takeOff_23 (by rfl) ?_
      refine aw_iload_n dX1_takeOff_25 (by rfl) ?_
      refine aw_isubZ dX1_takeOff_26 ?_
      refine aw_topi (y := (n : Int)) (by omega) ?_
      refine aw_aaldZ (t0 := 5) (n) (by rfl) dX1_takeOff_27 (by assumption) (by omega) (by omega) (by omega) ?_
      refine aw_astore dX1_takeOff_28 (by decide) (Or.inr ⟨_, rfl⟩) ?_
      refine aw_aload_n dX1_takeOff_30 (by rfl) (Or.inr ⟨_, rfl⟩) ?_
      refine aw_get fX1_12 dX1_takeOff_31 (by assumption) (by rfl) ?_
      refine aw_aload_n dX1_takeOff_34 (by rfl) (Or.inr ⟨_, rfl⟩) ?_
      refine aw_get fX1_65 dX1_takeOff_35 (by assumption) (by rfl) ?_
      refine aw_iload dX1_takeOff_38 (by rfl) ?_
      refine aw_aaldZ (t0 := 5) (l (fr + n)) (by rfl) dX1_takeOff_40 (by assumption) (by omega) (by omega) (by omega) ?_
      refine aw_aload_n dX1_takeOff_41 (by rfl) (Or.inr ⟨_, rfl⟩) ?_
      refine aw_get fX1_41 dX1_takeOff_42 (by assumption) (by rfl) ?_
      refine aw_iload dX1_takeOff_45 (by rfl) ?_
      refine aw_aaldZ (t0 := 4) (fr + n) (by rfl) dX1_takeOff_47 (by assumption) (by omega) (by omega) (by omega) ?_
      refine aw_get fX1_65 dX1_takeOff_48 (by assumption) (by rfl) ?_
      refine aw_iload dX1_takeOff_51 (by rfl) ?_
      refine aw_aaldZ (t0 := 5) (l (fr + n)) (by rfl) dX1_takeOff_53 (by assumption) (by omega) (by omega) (by omega) ?_
      skip
      refine aw_aload dX1_takeOff_54 (by rfl) (Or.inr ⟨_, rfl⟩) ?_
      refine aw_callv vX1_88 dX1_takeOff_56 hD.2.1 (w_div d hw0 hD (hcU (l (fr + n)) (by omega)).1 (hcell _ hRk (l (fr + n)) (by omega)).1 (hfU n (by omega)).1 (Sm.of hT2 (by have := hbT (l (fr + n)) (by omega); have := ab0 (Z (c (l (fr + n)))); omega))) (by rfl) (by rfl) (by omega) (Nat.le_of_ble_eq_true rfl) ?_
      rintro _ V1 sz1 mc1 ms1 ⟨rfl, P1, L1, hs1⟩ -
      have hG1 := hG.kept hS hs1.2.2.1
      obtain ⟨hgd1, hra1, hla1, hrow1, -, -⟩ := id hG1
      have hrk1 := (hrow1 _ hRk)
      have hr1 := hr.kept (hs1.2.2.1 _ hSr.1) (hs1.2.2.1 _ hSr.2.1)
      refine WE.stp (WSE.of hs1) ?_
      have eN : ∀ j, j < nr → upF Z (fc n) (Z (c (l (fr + n))) / Z (G.ga (ρ (fr + n)) (l (fr + n)))) (c j) = Z (c j) := fun j hj => upF_ne _ _ ((hcU j hj).2.2.2 n (by omega))
      have eK : ∀ j, j < G.mc → upF Z (fc n) (Z (c (l (fr + n))) / Z (G.ga (ρ (fr + n)) (l (fr + n)))) (G.ga (ρ (fr + n)) j) = Z (G.ga (ρ (fr + n)) j) := fun j hj => upF_ne _ _ ((hfU n (by omega)).2.2 _ hRk j hj).symm
      refine aw_aload_n dX1_takeOff_59 (by rfl) (Or.inr ⟨_, rfl⟩) ?_
      refine aw_aload dX1_takeOff_60 (by rfl) (Or.inr ⟨_, rfl⟩) ?_
      refine aw_aload_n dX1_takeOff_62 (by rfl) (Or.inr ⟨_, rfl⟩) ?_
      refine aw_get fX1_41 dX1_takeOff_63 (by assumption) (by rfl) ?_
      refine aw_iload dX1_takeOff_66 (by rfl) ?_
      refine aw_aaldZ (t0 := 4) (fr + n) (by rfl) dX1_takeOff_68 (by assumption) (by omega) (by omega) (by omega) ?_
      refine aw_iload dX1_takeOff_69 (by rfl) ?_
      refine aw_aload_n dX1_takeOff_71 (by rfl) (Or.inr ⟨_, rfl⟩) ?_
      refine aw_get fX1_32 dX1_takeOff_72 (by assumption) (by rfl) ?_
      refine aw_aload_n dX1_takeOff_75 (by rfl) (Or.inr ⟨_, rfl⟩) ?_
      refine aw_get fX1_25 dX1_takeOff_76 (by assumption) (by rfl) ?_
      refine aw_callv vX1_92 dX1_takeOff_79 hr1.1 (w_lessMultiple (w := w) (fr := l (fr + n)) d hs1.1 hr1 hrk1 (fun j hj => (hcU j hj).1.1) (fun j hj => (hcell _ hRk j hj).1.1) hci (fun a b ha hb => (hcU a ha).2.2.1 _ hRk b hb) (fun j hj => ((hcU j hj).2.2.2 n (by omega)).symm) (hfU n (by omega)).2.1 (fun j hj => (hcU j hj).2.1.symm) (fun j hj => (hcell _ hRk j hj).2.2.symm) (hfU n (by omega)).1.1 hpr.1 hSr.1 hSr.2.1 (hSg _ hRk).1 (hSg _ hRk).2.1 (by omega) (by rw [upF_self]; exact hsq) (fun j h1 h2 => by rw [eN j (by omega), eK j (by omega), upF_self]; exact hsm j h2)) (by rfl) (by rfl) (by omega) (Nat.le_of_ble_eq_true rfl) ?_
      rintro _ V2 sz2 mc2 ms2 ⟨Z2, P2, L2, ⟨rfl, hru⟩, hs2⟩ -
      refine WE.stp hs2 ?_
      have hkv2 : ∀ a, SA a → V2 a = V a := fun a ha => (hs2.2.2.1 a ha (fun q => q)).trans (hs1.2.2.1 a ha)
      have hrw : ∀ j, j < w → Z2 (c j) = Z (c j) - Z (c (l (fr + n))) / Z (G.ga (ρ (fr + n)) (l (fr + n))) * Z (G.ga (ρ (fr + n)) j) := fun j hj => by
        rw [hru.all hwn hci (fun i hi => (hcU i hi).2.1) (fun j hj => by rw [eK j (by omega), hgZ _ hRk j (by omega)]; exact (hst.1.1 (fr + n) (by omega)).2.2 j hj) j hj, eN j (by omega), eK j (by omega), upF_self]
      have hot : ∀ x, x ≠ G.pr → (∀ j, j < w → x ≠ c j) → Z2 x = upF Z (fc n) (Z (c (l (fr + n))) / Z (G.ga (ρ (fr + n)) (l (fr + n)))) x := fun x h1 h2 => hru.2 x h1 (fun j _ hj => h2 j hj)
      have hD2 : DKV ws SA V2 Z2 D := hD.kept (hkv2 _ hD.1) (by rw [hot _ hpr.2.1.symm (fun j hj => (hcU j (by omega)).1.2.1.symm), upF_ne _ _ (hfU n (by omega)).1.2.1.symm]) (by rw [hot _ hpr.2.2.1.symm (fun j hj => (hcU j (by omega)).1.2.2.1.symm), upF_ne _ _ (hfU n (by omega)).1.2.2.1.symm]) (by rw [hot _ hpr.2.2.2.symm (fun j hj => (hcU j (by omega)).1.2.2.2.symm), upF_ne _ _ (hfU n (by omega)).1.2.2.2.symm])
      have hTK2 : TKI Z0 (AM G Z0 ρ) w l c fc G.pr C K fr (n + 1) (upF q n (Z (c (l (fr + n))) / Z (G.ga (ρ (fr + n)) (l (fr + n))))) Z2 := hTK.step (nf := nf) (nr := nr) (h := h) hst hKb hK1 hC1 (by omega) (by omega) hwn (fun j hj => by rw [hrw j hj, hgZ _ hRk j (by omega), hgZ _ hRk (l (fr + n)) (by omega)]) (by rw [hot _ (hfU n (by omega)).2.1 (fun j hj => ((hcU j (by omega)).2.2.2 n (by omega)).symm), upF_self, hgZ _ hRk (l (fr + n)) (by omega)]) (fun x h1 h2 h3 => by rw [hot x h1 h2, upF_ne _ _ h3]) (fun i j hi hj => ((hcU j hj).2.2.2 i hi).symm) hfi (fun j hj => (hfU j hj).2.1) (hQ := by rw [hgZ _ hRk _ (by omega)])
      refine aw_iincZ dX1_takeOff_82 (by rfl) (by decide) ?_
      refine aw_goto (tgt := 3) dX1_takeOff_85 (by decide) ?_
      rw [show (((fr + n : Nat) : Int) + 1) = ((fr + (n + 1) : Nat) : Int) by omega]
      refine aw_pk [5, 0, 1, 2, 3, 4] (by rfl) ?_
      exact IH (n + 1) (by omega) hs2.1 hD2 (fun a ha => (hkv2 a ha).trans (hV a ha)) hTK2
theorem w_takeOff (g : GX) (d : Nat) {ws : List Nat} {SA : Nat → Prop} {D : DT} {G : GG} {h w fr to ro ca nr rf cf nf : Nat} {c fc : Nat → Nat} {l : Nat → Nat} {ld : Nat → Int} {ρ : Nat → Nat} {V0 : AH} {Z0 : Nat → Int} {C K : Int} (hS : GSt ws SA D G) (hG0 : GD g V0 D.dk G h w ld ρ) (hhm : h ≤ G.mr) (hwm : w ≤ G.mc) (hwn : w ≤ nr) (hto : fr ≤ to ∧ to ≤ h ∧ to ≤ fr + nf) (hld : ∀ i, i < h → ld i = (l i : Int)) (hst : Stair (AM G Z0 ρ) h w l) (hK1 : 1 ≤ K) (hC1 : 1 ≤ C) (hKb : ∀ i j, i < h → j < w → ab (AM G Z0 ρ i j) ≤ K) (hCb : ∀ j, j < w → ab (Z0 (c j)) ≤ C) (hT2 : Sm (2 * (C * (1 + K) ^ (to - fr)))) (hr0 : RowV g V0 ro ca nr c) (hf0 : RowV g V0 rf cf nf fc) (hSr : SA ro ∧ SA ca ∧ SA rf ∧ SA cf) (hcU : ∀ j, j < nr → US ws D (c j) ∧ c j ≠ G.pr ∧ (∀ rr, G.RS rr → ∀ i, i < G.mc → c j ≠ G.ga rr i) ∧ ∀ i, i < nf → c j ≠ fc i) (hfU : ∀ j, j < nf → US ws D (fc j) ∧ fc j ≠ G.pr ∧ ∀ rr, G.RS rr → ∀ i, i < G.mc → fc j ≠ G.ga rr i) (hci : ∀ i j, i < nr → j < nr → i ≠ j → c i ≠ c j) (hfi : ∀ i j, i < nf → j < nf → i ≠ j → fc i ≠ fc j) {V : AH} {sz : Nat} {P L : Nat → Nat} (hw0 : WG g ws SA V sz Z0 P L) (hD : DKV ws SA V Z0 D) (hV : ∀ a, SA a → V a = V0 a) : AMet g mX1_takeOff (d + 5) [.ref G.gd, .ref ro, .int (iZ fr), .int (iZ to), .ref rf] V sz (WE g ws SA E0 V sz L (fun r V' Z' => ∃ q : Nat → Int, TKI Z0 (AM G Z0 ρ) w l c fc G.pr C K fr (to - fr) q Z' ∧ ((∀ j, j < w → Z' (c j) = 0) ∧ some (.int (iZ 1)) = r ∨ ¬ (∀ j, j < w → Z' (c j) = 0) ∧ some (.int (iZ 0)) = r))) := by
  refine AMet.of rfl rfl (Nat.le_of_ble_eq_true rfl) ?_
  show AW g mX1_takeOff (d + 5) 0 [(0, .ref G.gd), (1, .ref ro), (2, .int (iZ fr)), (3, .int (iZ to)), (4, .ref rf)] [] V sz _
  refine aw_iload_n dX1_takeOff_0 (by rfl) ?_
  refine aw_istore dX1_takeOff_1 (by decide) ?_
  refine aw_pk [5, 0, 1, 2, 3, 4] (by rfl) ?_
  exact to_loop g d hS hG0 hhm hwm hwn hto hld hst hK1 hC1 hKb hCb hT2 hr0 hf0 hSr hcU hfU hci hfi (to - fr) 0 (by omega) (q := fun _ => 0) hw0 hD hV ⟨fun j _ => by simp [Sg], fun t ht => absurd ht (by omega), fun j hj => by rw [Int.pow_zero, Int.mul_one]; exact hCb j hj, fun _ _ _ _ => rfl⟩
