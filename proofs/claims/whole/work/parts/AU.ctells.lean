/-! ===== the class: tellSizes ===== -/
/-- how many of the first sizes are told -/
def szc (o : Nat) (dd : Nat → Int) : Nat → Nat
  | 0 => 0
  | n + 1 => szc o dd n + (if o = 1 ∨ dd n ≠ 1 then 1 else 0)
theorem szc_le (o : Nat) (dd : Nat → Int) : ∀ n, szc o dd n ≤ n
  | 0 => Nat.le_refl _
  | n + 1 => by
    have := szc_le o dd n
    show szc o dd n + (if o = 1 ∨ dd n ≠ 1 then 1 else 0) ≤ n + 1
    split <;> omega
theorem szc_lt {o : Nat} {dd : Nat → Int} {a : Nat} (ha : o = 1 ∨ dd a ≠ 1) : ∀ x, szc o dd a < szc o dd (a + 1 + x)
  | 0 => by show szc o dd a < szc o dd a + (if o = 1 ∨ dd a ≠ 1 then 1 else 0); rw [if_pos ha]; omega
  | x + 1 => by
    have := szc_lt ha x
    show szc o dd a < szc o dd (a + 1 + x) + (if o = 1 ∨ dd (a + 1 + x) ≠ 1 then 1 else 0)
    omega
theorem szc_all (dd : Nat → Int) : ∀ n, szc 1 dd n = n
  | 0 => rfl
  | n + 1 => by show szc 1 dd n + (if 1 = 1 ∨ dd n ≠ 1 then 1 else 0) = n + 1; rw [szc_all dd n, if_pos (Or.inl rfl)]
/-- a diagonal on its way to a chain: all before i divide what is behind them, i what is before k -/
def TSI (A0 : Mat) (h w0 i k : Nat) (dd : Nat → Int) : Prop := (∀ a, a < h → 0 < dd a) ∧ (∀ (n : Nat) (d : Int), DVT n A0 h w0 d ↔ DVT n (Dg dd) h h d) ∧ (∀ a, a < i → ∀ e, a < e → e < h → dd a ∣ dd e) ∧ ∀ e, i < e → e < k → dd i ∣ dd e
theorem TSI.bd {A0 : Mat} {h w0 i k : Nat} {dd : Nat → Int} (t : TSI A0 h w0 i k dd) (hm : MnB A0 h w0) {a : Nat} (ha : a < h) : dd a ≤ CBd := by
  have e : (fun i => Dg dd i i) = dd := funext (fun i => dg_d dd i)
  have h1 := up_div (B := Dg dd) (h := h) (fun i j _ hj => dg_o dd (by omega))
  rw [e] at h1
  have h2 := (Pd_ge (f := dd) (n := h) (fun i hi => by have := t.1 i hi; omega))
  have h3 := hm.le (by omega) ((t.2.1 h _).mpr h1)
  have := h2.2 a ha
  omega
theorem TSI.step {A0 : Mat} {h w0 i k : Nat} {dd : Nat → Int} (t : TSI A0 h w0 i k dd) (hik : i < k) (hk : k < h) : TSI A0 h w0 i (k + 1) (upF (upF dd i ((Int.gcd (dd i) (dd k) : Nat) : Int)) k (dd i / ((Int.gcd (dd i) (dd k) : Nat) : Int) * dd k)) := by
  obtain ⟨t1, t2, t3, t4⟩ := t
  have hi0 := t1 i (by omega)
  have hk0 := t1 k hk
  have hg : 0 < Int.gcd (dd i) (dd k) := Nat.gcd_pos_of_pos_left _ (by omega)
  obtain ⟨x, hx⟩ : ((Int.gcd (dd i) (dd k) : Nat) : Int) ∣ dd i := Int.gcd_dvd_left ..
  obtain ⟨y, hy⟩ : ((Int.gcd (dd i) (dd k) : Nat) : Int) ∣ dd k := Int.gcd_dvd_right ..
  obtain ⟨s, t, hst⟩ := bez (dd i).natAbs (dd k).natAbs
  have hst : s * dd i + t * dd k = ((Int.gcd (dd i) (dd k) : Nat) : Int) := by
    have e1 : (((dd i).natAbs : Nat) : Int) = dd i := by omega
    have e2 : (((dd k).natAbs : Nat) : Int) = dd k := by omega
    rw [e1, e2] at hst
    exact hst
  generalize hG : ((Int.gcd (dd i) (dd k) : Nat) : Int) = G at *
  have hG0 : 0 < G := by omega
  have hdx : dd i / G = x := by rw [hx]; exact Int.mul_ediv_cancel_left x (by omega)
  have hb : s * x + t * y = 1 := by
    have e : G * (s * x + t * y) = G * 1 := by
      rw [Int.mul_one, Int.mul_add]
      refine Eq.trans ?_ hst
      rw [hx, hy]
      congr 1 <;> simp only [Int.mul_comm, Int.mul_left_comm]
    exact Int.eq_of_mul_eq_mul_left (by omega) e
  have hxp : 0 < x := by
    rcases Int.lt_or_le 0 x with q | q
    · exact q
    · have := Int.mul_le_mul_of_nonneg_left q (show 0 ≤ G by omega)
      omega
  have hl : dd i / G * dd k = G * x * y := by
    rw [hdx, hy, ← Int.mul_assoc, Int.mul_comm x]
  rw [hl]
  have hik' : i ≠ k := by omega
  have vi : upF (upF dd i G) k (G * x * y) i = G := by rw [upF_ne _ _ hik', upF_self]
  have vk : upF (upF dd i G) k (G * x * y) k = G * x * y := upF_self ..
  have vo : ∀ a, a ≠ i → a ≠ k → upF (upF dd i G) k (G * x * y) a = dd a := fun a h1 h2 => by rw [upF_ne _ _ h2, upF_ne _ _ h1]
  have dGk : G * x * y = x * dd k := by rw [hy, ← Int.mul_assoc, Int.mul_comm x]
  have comb : ∀ z : Int, z ∣ dd i → z ∣ dd k → z ∣ G := fun z z1 z2 => by rw [← hst]; exact dvd_ad (dvd_mr z1) (dvd_mr z2)
  refine ⟨fun a ha => ?_, fun n d => (t2 n d).trans (dg_pair (by omega) hk hik' hx hy hb), fun a ha e hae he => ?_, fun e h1 h2 => ?_⟩
  · by_cases q1 : a = k
    · rw [q1, vk, dGk]; exact Int.mul_pos hxp hk0
    · by_cases q2 : a = i
      · rw [q2, vi]; exact hG0
      · rw [vo a q2 q1]; exact t1 a ha
  · rw [vo a (by omega) (by omega)]
    have d1 := t3 a ha i ha (by omega)
    have d2 := t3 a ha k (by omega) hk
    by_cases q1 : e = k
    · rw [q1, vk, dGk]; exact dvd_mr d2
    · by_cases q2 : e = i
      · rw [q2, vi]; exact comb _ d1 d2
      · rw [vo e q2 q1]; exact t3 a ha e hae he
  · rw [vi]
    by_cases q1 : e = k
    · rw [q1, vk]; exact dvd_ml (dvd_ml ⟨1, by rw [Int.mul_one]⟩)
    · rw [vo e (by omega) q1]
      exact dvd_tr ⟨x, hx⟩ (t4 e h1 (by omega))
theorem TSI.next {A0 : Mat} {h w0 i : Nat} {dd : Nat → Int} (t : TSI A0 h w0 i h dd) : TSI A0 h w0 (i + 1) (i + 2) dd := by
  refine ⟨t.1, t.2.1, fun a ha e hae he => ?_, fun e h1 h2 => absurd h1 (by omega)⟩
  by_cases q : a = i
  · rw [q]; exact t.2.2.2 e (by omega) he
  · exact t.2.2.1 a (by omega) e hae he
theorem sm_cb2 : Sm (2 * CBd) := by unfold Sm CBd; decide +kernel
abbrev mX5_tellSizes : MI := (yX5_tellSizes, cX5_tellSizes, 6, (some FieldType.int), noX)
theorem dX5_tellSizes_0 : decode cX5_tellSizes 0 = .ok (.iconst 0, 1) := by decide +kernel
theorem dX5_tellSizes_1 : decode cX5_tellSizes 1 = .ok (.istore_n 3, 1) := by decide +kernel
theorem dX5_tellSizes_2 : decode cX5_tellSizes 2 = .ok (.iload_n 3, 1) := by decide +kernel
theorem dX5_tellSizes_3 : decode cX5_tellSizes 3 = .ok (.aload_n 1, 1) := by decide +kernel
theorem dX5_tellSizes_4 : decode cX5_tellSizes 4 = .ok (.getfield 111, 3) := by decide +kernel
theorem dX5_tellSizes_7 : decode cX5_tellSizes 7 = .ok (.if_icmp .ge 60, 3) := by decide +kernel
theorem dX5_tellSizes_10 : decode cX5_tellSizes 10 = .ok (.iload_n 3, 1) := by decide +kernel
theorem dX5_tellSizes_11 : decode cX5_tellSizes 11 = .ok (.iconst 1, 1) := by decide +kernel
theorem dX5_tellSizes_12 : decode cX5_tellSizes 12 = .ok (.iadd, 1) := by decide +kernel
theorem dX5_tellSizes_13 : decode cX5_tellSizes 13 = .ok (.istore 4, 2) := by decide +kernel
theorem dX5_tellSizes_15 : decode cX5_tellSizes 15 = .ok (.iload 4, 2) := by decide +kernel
theorem dX5_tellSizes_17 : decode cX5_tellSizes 17 = .ok (.aload_n 1, 1) := by decide +kernel
theorem dX5_tellSizes_18 : decode cX5_tellSizes 18 = .ok (.getfield 111, 3) := by decide +kernel
theorem dX5_tellSizes_21 : decode cX5_tellSizes 21 = .ok (.if_icmp .ge 40, 3) := by decide +kernel
theorem dX5_tellSizes_24 : decode cX5_tellSizes 24 = .ok (.aload_n 0, 1) := by decide +kernel
theorem dX5_tellSizes_25 : decode cX5_tellSizes 25 = .ok (.getfield 18, 3) := by decide +kernel
theorem dX5_tellSizes_28 : decode cX5_tellSizes 28 = .ok (.aload_n 1, 1) := by decide +kernel
theorem dX5_tellSizes_29 : decode cX5_tellSizes 29 = .ok (.getfield 141, 3) := by decide +kernel
theorem dX5_tellSizes_32 : decode cX5_tellSizes 32 = .ok (.iload_n 3, 1) := by decide +kernel
theorem dX5_tellSizes_33 : decode cX5_tellSizes 33 = .ok (.aaload, 1) := by decide +kernel
theorem dX5_tellSizes_34 : decode cX5_tellSizes 34 = .ok (.getfield 151, 3) := by decide +kernel
theorem dX5_tellSizes_37 : decode cX5_tellSizes 37 = .ok (.iload_n 3, 1) := by decide +kernel
theorem dX5_tellSizes_38 : decode cX5_tellSizes 38 = .ok (.aaload, 1) := by decide +kernel
theorem dX5_tellSizes_39 : decode cX5_tellSizes 39 = .ok (.aload_n 1, 1) := by decide +kernel
theorem dX5_tellSizes_40 : decode cX5_tellSizes 40 = .ok (.getfield 141, 3) := by decide +kernel
theorem dX5_tellSizes_43 : decode cX5_tellSizes 43 = .ok (.iload 4, 2) := by decide +kernel
theorem dX5_tellSizes_45 : decode cX5_tellSizes 45 = .ok (.aaload, 1) := by decide +kernel
theorem dX5_tellSizes_46 : decode cX5_tellSizes 46 = .ok (.getfield 151, 3) := by decide +kernel
theorem dX5_tellSizes_49 : decode cX5_tellSizes 49 = .ok (.iload 4, 2) := by decide +kernel
theorem dX5_tellSizes_51 : decode cX5_tellSizes 51 = .ok (.aaload, 1) := by decide +kernel
theorem dX5_tellSizes_52 : decode cX5_tellSizes 52 = .ok (.invokevirtual 233, 3) := by decide +kernel
theorem dX5_tellSizes_55 : decode cX5_tellSizes 55 = .ok (.iinc 4 1, 3) := by decide +kernel
theorem dX5_tellSizes_58 : decode cX5_tellSizes 58 = .ok (.goto (-43), 3) := by decide +kernel
theorem dX5_tellSizes_61 : decode cX5_tellSizes 61 = .ok (.iinc 3 1, 3) := by decide +kernel
theorem dX5_tellSizes_64 : decode cX5_tellSizes 64 = .ok (.goto (-62), 3) := by decide +kernel
theorem dX5_tellSizes_67 : decode cX5_tellSizes 67 = .ok (.iconst 0, 1) := by decide +kernel
theorem dX5_tellSizes_68 : decode cX5_tellSizes 68 = .ok (.istore_n 3, 1) := by decide +kernel
theorem dX5_tellSizes_69 : decode cX5_tellSizes 69 = .ok (.iconst 0, 1) := by decide +kernel
theorem dX5_tellSizes_70 : decode cX5_tellSizes 70 = .ok (.istore 4, 2) := by decide +kernel
theorem dX5_tellSizes_72 : decode cX5_tellSizes 72 = .ok (.iload 4, 2) := by decide +kernel
theorem dX5_tellSizes_74 : decode cX5_tellSizes 74 = .ok (.aload_n 1, 1) := by decide +kernel
theorem dX5_tellSizes_75 : decode cX5_tellSizes 75 = .ok (.getfield 111, 3) := by decide +kernel
theorem dX5_tellSizes_78 : decode cX5_tellSizes 78 = .ok (.if_icmp .ge 59, 3) := by decide +kernel
theorem dX5_tellSizes_81 : decode cX5_tellSizes 81 = .ok (.aload_n 1, 1) := by decide +kernel
theorem dX5_tellSizes_82 : decode cX5_tellSizes 82 = .ok (.getfield 141, 3) := by decide +kernel
theorem dX5_tellSizes_85 : decode cX5_tellSizes 85 = .ok (.iload 4, 2) := by decide +kernel
theorem dX5_tellSizes_87 : decode cX5_tellSizes 87 = .ok (.aaload, 1) := by decide +kernel
theorem dX5_tellSizes_88 : decode cX5_tellSizes 88 = .ok (.getfield 151, 3) := by decide +kernel
theorem dX5_tellSizes_91 : decode cX5_tellSizes 91 = .ok (.iload 4, 2) := by decide +kernel
theorem dX5_tellSizes_93 : decode cX5_tellSizes 93 = .ok (.aaload, 1) := by decide +kernel
theorem dX5_tellSizes_94 : decode cX5_tellSizes 94 = .ok (.astore 5, 2) := by decide +kernel
theorem dX5_tellSizes_96 : decode cX5_tellSizes 96 = .ok (.iload_n 2, 1) := by decide +kernel
theorem dX5_tellSizes_97 : decode cX5_tellSizes 97 = .ok (.ifCond .ne 12, 3) := by decide +kernel
theorem dX5_tellSizes_100 : decode cX5_tellSizes 100 = .ok (.aload 5, 2) := by decide +kernel
theorem dX5_tellSizes_102 : decode cX5_tellSizes 102 = .ok (.lconst 1, 1) := by decide +kernel
theorem dX5_tellSizes_103 : decode cX5_tellSizes 103 = .ok (.invokevirtual 237, 3) := by decide +kernel
theorem dX5_tellSizes_106 : decode cX5_tellSizes 106 = .ok (.ifCond .ne 25, 3) := by decide +kernel
theorem dX5_tellSizes_109 : decode cX5_tellSizes 109 = .ok (.aload_n 0, 1) := by decide +kernel
theorem dX5_tellSizes_110 : decode cX5_tellSizes 110 = .ok (.getfield 27, 3) := by decide +kernel
theorem dX5_tellSizes_113 : decode cX5_tellSizes 113 = .ok (.getfield 141, 3) := by decide +kernel
theorem dX5_tellSizes_116 : decode cX5_tellSizes 116 = .ok (.iconst 0, 1) := by decide +kernel
theorem dX5_tellSizes_117 : decode cX5_tellSizes 117 = .ok (.aaload, 1) := by decide +kernel
theorem dX5_tellSizes_118 : decode cX5_tellSizes 118 = .ok (.getfield 151, 3) := by decide +kernel
theorem dX5_tellSizes_121 : decode cX5_tellSizes 121 = .ok (.iload_n 3, 1) := by decide +kernel
theorem dX5_tellSizes_122 : decode cX5_tellSizes 122 = .ok (.aaload, 1) := by decide +kernel
theorem dX5_tellSizes_123 : decode cX5_tellSizes 123 = .ok (.aload 5, 2) := by decide +kernel
theorem dX5_tellSizes_125 : decode cX5_tellSizes 125 = .ok (.invokevirtual 192, 3) := by decide +kernel
theorem dX5_tellSizes_128 : decode cX5_tellSizes 128 = .ok (.iinc 3 1, 3) := by decide +kernel
theorem dX5_tellSizes_131 : decode cX5_tellSizes 131 = .ok (.iinc 4 1, 3) := by decide +kernel
theorem dX5_tellSizes_134 : decode cX5_tellSizes 134 = .ok (.goto (-62), 3) := by decide +kernel
theorem dX5_tellSizes_137 : decode cX5_tellSizes 137 = .ok (.aload_n 0, 1) := by decide +kernel
theorem dX5_tellSizes_138 : decode cX5_tellSizes 138 = .ok (.iload_n 3, 1) := by decide +kernel
theorem dX5_tellSizes_139 : decode cX5_tellSizes 139 = .ok (.ifCond .le 7, 3) := by decide +kernel
theorem dX5_tellSizes_142 : decode cX5_tellSizes 142 = .ok (.iconst 1, 1) := by decide +kernel
theorem dX5_tellSizes_143 : decode cX5_tellSizes 143 = .ok (.goto 4, 3) := by decide +kernel
theorem dX5_tellSizes_146 : decode cX5_tellSizes 146 = .ok (.iconst 0, 1) := by decide +kernel
theorem dX5_tellSizes_147 : decode cX5_tellSizes 147 = .ok (.iload_n 3, 1) := by decide +kernel
theorem dX5_tellSizes_148 : decode cX5_tellSizes 148 = .ok (.invokevirtual 148, 3) := by decide +kernel
theorem dX5_tellSizes_151 : decode cX5_tellSizes 151 = .ok (.iload_n 3, 1) := by decide +kernel
theorem dX5_tellSizes_152 : decode cX5_tellSizes 152 = .ok (.ireturn, 1) := by decide +kernel
set_option maxRecDepth 20000 in
theorem ts_in (d : Nat) {g : GX} {b : Nat} {X : Nat → Prop} {S : TSt} {A : ASt} {V0 : AH} {Z0 : Nat → Int} {F : GG} {A0 : Mat} {h w w0 op : Nat} {ld : Nat → Int} {ρ : Nat → Nat} {QR : Option Value → TSt → ASt → Prop} (h0 : CX g b X V0 Z0 S A) (hSF : GSt (wsB b) (SAB b X) (DB b) F) (hm : F.mr = 6 ∧ F.mc = 5) (hrg : ∀ ro, F.RS ro → ∀ j, j < 5 → (b + 447 ≤ F.ga ro j ∧ F.ga ro j < b + 517) ∨ (b + 541 ≤ F.ga ro j ∧ F.ga ro j < b + 611)) (hF0 : GD g V0 (DG F.gd).dk F h w ld ρ) (hh : h ≤ 5) (hmn : MnB A0 h w0) {i : Nat} (hi : i < h) (hKK : ∀ {V : AH} {sz : Nat} {Z : Nat → Int} {P L : Nat → Nat} {dd : Nat → Int}, WG g (wsB b) (SAB b X) V sz Z P L → (∀ a, SAB b X a → V a = V0 a) → (∀ a, a < h → Z (F.ga (ρ a) a) = dd a) → (∀ q, (q < b + 9 ∨ b + 17 ≤ q) → (∀ a, a < h → q ≠ F.ga (ρ a) a) → Z q = Z0 q) → TSI A0 h w0 i h dd → AW g mX5_tellSizes (d + 7) 61 [(3, .int (iZ i)), (0, .ref b), (1, .ref F.gd), (2, .int (iZ op))] [] V sz (CE g b X V sz L QR)) : ∀ (f k : Nat), k + f = h → i < k → ∀ {V : AH} {sz : Nat} {Z : Nat → Int} {P L : Nat → Nat} {dd : Nat → Int}, WG g (wsB b) (SAB b X) V sz Z P L → (∀ a, SAB b X a → V a = V0 a) → (∀ a, a < h → Z (F.ga (ρ a) a) = dd a) → (∀ q, (q < b + 9 ∨ b + 17 ≤ q) → (∀ a, a < h → q ≠ F.ga (ρ a) a) → Z q = Z0 q) → TSI A0 h w0 i k dd → AW g mX5_tellSizes (d + 7) 15 [(4, .int (iZ k)), (3, .int (iZ i)), (0, .ref b), (1, .ref F.gd), (2, .int (iZ op))] [] V sz (CE g b X V sz L QR)
  | 0, k, hf, hik, V, sz, Z, P, L, dd, hw0, hV, hdd, hfr, hI => by
    obtain rfl : h = k := by omega
    obtain ⟨m1, m2⟩ := id hm
    have hb := (hV b (Or.inl rfl)).trans h0.1.1
    have hF : GD g V (DG F.gd).dk F h w ld ρ := GD.keptD hSF hF0 hV
    obtain ⟨fgd, fra, -, frow, fRS, finj⟩ := id hF
    refine aw_iload dX5_tellSizes_15 (by rfl) ?_
    refine aw_aload_n dX5_tellSizes_17 (by rfl) (Or.inr ⟨_, rfl⟩) ?_
    refine aw_get fX5_111 dX5_tellSizes_18 fgd (by rfl) ?_
    refine aw_icmp_geZ (tgt := 61) dX5_tellSizes_21 (by decide) (by omega) (by omega) (fun hc_21 => ?_) (fun hc_21 => ?_)
    · refine aw_pk [3, 0, 1, 2] (by rfl) ?_
      exact hKK hw0 hV hdd hfr hI
    · exact absurd hc_21 (by omega)
  | f + 1, k, hf, hik, V, sz, Z, P, L, dd, hw0, hV, hdd, hfr, hI => by
    have IH := fun k hk => @ts_in d g b X S A V0 Z0 F A0 h w w0 op ld ρ QR h0 hSF hm hrg hF0 hh hmn i hi hKK f k hk
    obtain ⟨m1, m2⟩ := id hm
    have hb := (hV b (Or.inl rfl)).trans h0.1.1
    have hF : GD g V (DG F.gd).dk F h w ld ρ := GD.keptD hSF hF0 hV
    obtain ⟨fgd, fra, -, frow, fRS, finj⟩ := id hF
    have hRi := fRS i (by omega)
    have hRk := fRS k (by omega)
    obtain ⟨fi1, fi2, -⟩ := frow _ hRi
    obtain ⟨fk1, fk2, -⟩ := frow _ hRk
    have hUi := (hSF.2.2.2.2.1 _ hRi i (by omega)).1
    have hUk := (hSF.2.2.2.2.1 _ hRk k (by omega)).1
    have ri := hrg _ hRi i (by omega)
    have rk := hrg _ hRk k (by omega)
    have hab : ∀ a e, a < h → e < h → a ≠ e → F.ga (ρ a) a ≠ F.ga (ρ e) e := fun a e ha he hne q => hne (hSF.2.2.2.2.2.1 _ _ _ _ (fRS a (by omega)) (fRS e (by omega)) (by omega) (by omega) q).2
    have hI1 := hI.step hik (by omega)
    have bi := hI.bd hmn (a := i) (by omega)
    have bk := hI.bd hmn (a := k) (by omega)
    have bl := hI1.bd hmn (a := k) (by omega)
    have pi := hI.1 i (by omega)
    have pk := hI.1 k (by omega)
    have pl := hI1.1 k (by omega)
    rw [upF_self] at bl pl
    have hD := h0.2.2.2.1.1.kept (V' := V) (Z' := Z) (hV _ (Or.inr (Or.inr (Or.inl rfl)))) (hfr _ (Or.inl (show b + 3 < b + 9 by omega)) (fun a ha => by have := hrg _ (fRS a (by omega)) a (by omega); show b + 3 ≠ _; omega)) (hfr _ (Or.inl (show b + 5 < b + 9 by omega)) (fun a ha => by have := hrg _ (fRS a (by omega)) a (by omega); show b + 5 ≠ _; omega)) (hfr _ (Or.inl (show b + 7 < b + 9 by omega)) (fun a ha => by have := hrg _ (fRS a (by omega)) a (by omega); show b + 7 ≠ _; omega))
    refine aw_iload dX5_tellSizes_15 (by rfl) ?_
    refine aw_aload_n dX5_tellSizes_17 (by rfl) (Or.inr ⟨_, rfl⟩) ?_
    refine aw_get fX5_111 dX5_tellSizes_18 fgd (by rfl) ?_
    refine aw_icmp_geZ (tgt := 61) dX5_tellSizes_21 (by decide) (by omega) (by omega) (fun hc_21 => ?_) (fun hc_21 => ?_)
    · exact absurd hc_21 (by omega)
    · refine aw_aload_n dX5_tellSizes_24 (by rfl) (Or.inr ⟨_, rfl⟩) ?_
      refine aw_get fX5_18 dX5_tellSizes_25 hb (by rfl) ?_
      refine aw_aload_n dX5_tellSizes_28 (by rfl) (Or.inr ⟨_, rfl⟩) ?_
      refine aw_get fX5_141 dX5_tellSizes_29 fgd (by rfl) ?_
      refine aw_iload_n dX5_tellSizes_32 (by rfl) ?_
      refine aw_aaldZ (t0 := 4) (i) (by rfl) dX5_tellSizes_33 fra (by omega) (by omega) (by omega) ?_
      refine aw_get fX5_151 dX5_tellSizes_34 fi1 (by rfl) ?_
      refine aw_iload_n dX5_tellSizes_37 (by rfl) ?_
      refine aw_aaldZ (t0 := 5) (i) (by rfl) dX5_tellSizes_38 fi2 (by omega) (by omega) (by omega) ?_
      refine aw_aload_n dX5_tellSizes_39 (by rfl) (Or.inr ⟨_, rfl⟩) ?_
      refine aw_get fX5_141 dX5_tellSizes_40 fgd (by rfl) ?_
      refine aw_iload dX5_tellSizes_43 (by rfl) ?_
      refine aw_aaldZ (t0 := 4) (k) (by rfl) dX5_tellSizes_45 fra (by omega) (by omega) (by omega) ?_
      refine aw_get fX5_151 dX5_tellSizes_46 fk1 (by rfl) ?_
      refine aw_iload dX5_tellSizes_49 (by rfl) ?_
      refine aw_aaldZ (t0 := 5) (k) (by rfl) dX5_tellSizes_51 fk2 (by omega) (by omega) (by omega) ?_
      refine aw_callv vX5_233 dX5_tellSizes_52 hD.2.1 (w_letDivide g d (a := F.ga (ρ i) i) (b := F.ga (ρ k) k) (T := CBd) (dkx_b b) sm_cb2 hw0 hD ⟨hUi.1, ndk (by omega), hUi⟩ ⟨hUk.1, ndk (by omega), hUk⟩ (hab i k (by omega) (by omega) (by omega)) (by rw [hdd i (by omega)]; exact pi) (by rw [hdd i (by omega), ab_pos (by omega)]; exact bi) (by rw [hdd k (by omega), ab_pos (by omega)]; exact bk) (by rw [hdd i (by omega), hdd k (by omega), ab_pos (by omega)]; have := cbd_pos; omega)) (by rfl) (by rfl) (by omega) (Nat.le_of_ble_eq_true rfl) ?_
      rintro _ V1 sz1 mc1 ms1 ⟨Z1, P1, L1, ⟨rfl, hza, hzb, hzo⟩, hs1⟩ -
      refine WE.stp (hs1.weak (fun a z => z.elim)) ?_
      refine aw_iincZ dX5_tellSizes_55 (by rfl) (by decide) ?_
      refine aw_goto (tgt := 15) dX5_tellSizes_58 (by decide) ?_
      rw [show ((k : Int) + 1) = ((k + 1 : Nat) : Int) by omega]
      refine aw_pk [4, 3, 0, 1, 2] (by rfl) ?_
      rw [hdd i (by omega), hdd k (by omega)] at hza hzb
      refine IH (k + 1) (by omega) (by omega) hs1.1 (fun a ha => (hs1.2.2.1 a ha (fun z => z)).trans (hV a ha)) (fun a ha => ?_) (fun q h1 h2 => (hzo q (ndk (by omega)) (h2 i (by omega)) (h2 k (by omega))).trans (hfr q h1 h2)) hI1
      have ra := hrg _ (fRS a (by omega)) a (by omega)
      by_cases q1 : a = k
      · rw [q1, upF_self]; exact hzb
      · by_cases q2 : a = i
        · rw [q2, upF_ne _ _ (by omega), upF_self]; exact hza
        · rw [upF_ne _ _ q1, upF_ne _ _ q2, hzo _ (ndk (by omega)) (hab a i ha (by omega) q2) (hab a k ha (by omega) q1)]; exact hdd a ha
set_option maxRecDepth 20000 in
theorem ts_out (d : Nat) {g : GX} {b : Nat} {X : Nat → Prop} {S : TSt} {A : ASt} {V0 : AH} {Z0 : Nat → Int} {F : GG} {A0 : Mat} {h w w0 op : Nat} {ld : Nat → Int} {ρ : Nat → Nat} {QR : Option Value → TSt → ASt → Prop} (h0 : CX g b X V0 Z0 S A) (hSF : GSt (wsB b) (SAB b X) (DB b) F) (hm : F.mr = 6 ∧ F.mc = 5) (hrg : ∀ ro, F.RS ro → ∀ j, j < 5 → (b + 447 ≤ F.ga ro j ∧ F.ga ro j < b + 517) ∨ (b + 541 ≤ F.ga ro j ∧ F.ga ro j < b + 611)) (hF0 : GD g V0 (DG F.gd).dk F h w ld ρ) (hh : h ≤ 5) (hmn : MnB A0 h w0) (hKK : ∀ {V : AH} {sz : Nat} {Z : Nat → Int} {P L : Nat → Nat} {dd : Nat → Int}, WG g (wsB b) (SAB b X) V sz Z P L → (∀ a, SAB b X a → V a = V0 a) → (∀ a, a < h → Z (F.ga (ρ a) a) = dd a) → (∀ q, (q < b + 9 ∨ b + 17 ≤ q) → (∀ a, a < h → q ≠ F.ga (ρ a) a) → Z q = Z0 q) → TSI A0 h w0 h (h + 1) dd → AW g mX5_tellSizes (d + 7) 67 [(0, .ref b), (1, .ref F.gd), (2, .int (iZ op))] [] V sz (CE g b X V sz L QR)) : ∀ (f i : Nat), i + f = h → ∀ {V : AH} {sz : Nat} {Z : Nat → Int} {P L : Nat → Nat} {dd : Nat → Int}, WG g (wsB b) (SAB b X) V sz Z P L → (∀ a, SAB b X a → V a = V0 a) → (∀ a, a < h → Z (F.ga (ρ a) a) = dd a) → (∀ q, (q < b + 9 ∨ b + 17 ≤ q) → (∀ a, a < h → q ≠ F.ga (ρ a) a) → Z q = Z0 q) → TSI A0 h w0 i (i + 1) dd → AW g mX5_tellSizes (d + 7) 2 [(3, .int (iZ i)), (0, .ref b), (1, .ref F.gd), (2, .int (iZ op))] [] V sz (CE g b X V sz L QR)
  | 0, i, hf, V, sz, Z, P, L, dd, hw0, hV, hdd, hfr, hI => by
    obtain rfl : h = i := by omega
    obtain ⟨m1, m2⟩ := id hm
    have hb := (hV b (Or.inl rfl)).trans h0.1.1
    have hF : GD g V (DG F.gd).dk F h w ld ρ := GD.keptD hSF hF0 hV
    obtain ⟨fgd, fra, -, frow, fRS, finj⟩ := id hF
    refine aw_iload_n dX5_tellSizes_2 (by rfl) ?_
    refine aw_aload_n dX5_tellSizes_3 (by rfl) (Or.inr ⟨_, rfl⟩) ?_
    refine aw_get fX5_111 dX5_tellSizes_4 fgd (by rfl) ?_
    refine aw_icmp_geZ (tgt := 67) dX5_tellSizes_7 (by decide) (by omega) (by omega) (fun hc_7 => ?_) (fun hc_7 => ?_)
    · refine aw_pk [0, 1, 2] (by rfl) ?_
      exact hKK hw0 hV hdd hfr hI
    · exact absurd hc_7 (by omega)
  | f + 1, i, hf, V, sz, Z, P, L, dd, hw0, hV, hdd, hfr, hI => by
    have IH := fun i hi => @ts_out d g b X S A V0 Z0 F A0 h w w0 op ld ρ QR h0 hSF hm hrg hF0 hh hmn hKK f i hi
    obtain ⟨m1, m2⟩ := id hm
    have hb := (hV b (Or.inl rfl)).trans h0.1.1
    have hF : GD g V (DG F.gd).dk F h w ld ρ := GD.keptD hSF hF0 hV
    obtain ⟨fgd, fra, -, frow, fRS, finj⟩ := id hF
    refine aw_iload_n dX5_tellSizes_2 (by rfl) ?_
    refine aw_aload_n dX5_tellSizes_3 (by rfl) (Or.inr ⟨_, rfl⟩) ?_
    refine aw_get fX5_111 dX5_tellSizes_4 fgd (by rfl) ?_
    refine aw_icmp_geZ (tgt := 67) dX5_tellSizes_7 (by decide) (by omega) (by omega) (fun hc_7 => ?_) (fun hc_7 => ?_)
    · exact absurd hc_7 (by omega)
    · refine aw_iload_n dX5_tellSizes_10 (by rfl) ?_
      refine aw_iconstZ dX5_tellSizes_11 ?_
      refine aw_iaddZ dX5_tellSizes_12 ?_
      refine aw_istore dX5_tellSizes_13 (by decide) ?_
      rw [show ((i : Int) + 1) = ((i + 1 : Nat) : Int) by omega]
      refine aw_pk [4, 3, 0, 1, 2] (by rfl) ?_
      refine ts_in d h0 hSF hm hrg hF0 hh hmn (i := i) (by omega) (fun {V1 sz1 Z1 P1 L1 d1} hw1 hV1 hdd1 hfr1 hI1 => ?_) (h - (i + 1)) (i + 1) (by omega) (by omega) hw0 hV hdd hfr hI
      refine aw_iincZ dX5_tellSizes_61 (by rfl) (by decide) ?_
      refine aw_goto (tgt := 2) dX5_tellSizes_64 (by decide) ?_
      rw [show ((i : Int) + 1) = ((i + 1 : Nat) : Int) by omega]
      refine aw_pk [3, 0, 1, 2] (by rfl) ?_
      exact IH (i + 1) (by omega) hw1 hV1 hdd1 hfr1 hI1.next
set_option maxRecDepth 20000 in
theorem ts_tell (d : Nat) {g : GX} {b : Nat} {X : Nat → Prop} {S : TSt} {A : ASt} {V0 : AH} {Z0 : Nat → Int} {F : GG} {h w op hT wT : Nat} {ld ldT : Nat → Int} {ρ ρT : Nat → Nat} {dd : Nat → Int} {QR : Option Value → TSt → ASt → Prop} (h0 : CX g b X V0 Z0 S A) (hT0 : GD g V0 (b + 17 + 1) (GT b) hT wT ldT ρT) (hSF : GSt (wsB b) (SAB b X) (DB b) F) (hm : F.mr = 6 ∧ F.mc = 5) (hrg : ∀ ro, F.RS ro → ∀ j, j < 5 → (b + 447 ≤ F.ga ro j ∧ F.ga ro j < b + 517) ∨ (b + 541 ≤ F.ga ro j ∧ F.ga ro j < b + 611)) (hF0 : GD g V0 (DG F.gd).dk F h w ld ρ) (hh : h ≤ 5) (hop : op = 0 ∨ op = 1) (hdd : ∀ a, a < h → Z0 (F.ga (ρ a) a) = dd a ∧ Sm (dd a)) (hKK : ∀ {V : AH} {sz : Nat} {Z : Nat → Int} {P L : Nat → Nat}, WG g (wsB b) (SAB b X) V sz Z P L → (∀ a, SAB b X a → V a = V0 a) → (∀ a, a < h → (op = 1 ∨ dd a ≠ 1) → Z ((GT b).ga (ρT 0) (szc op dd a)) = dd a) → (∀ q, (q < b + 17 ∨ b + 159 ≤ q) → Z q = Z0 q) → AW g mX5_tellSizes (d + 7) 137 [(3, .int (iZ (szc op dd h))), (0, .ref b)] [] V sz (CE g b X V sz L QR)) : ∀ (f i : Nat), i + f = h → ∀ {V : AH} {sz : Nat} {Z : Nat → Int} {P L : Nat → Nat}, WG g (wsB b) (SAB b X) V sz Z P L → (∀ a, SAB b X a → V a = V0 a) → (∀ a, a < i → (op = 1 ∨ dd a ≠ 1) → Z ((GT b).ga (ρT 0) (szc op dd a)) = dd a) → (∀ q, (q < b + 17 ∨ b + 159 ≤ q) → Z q = Z0 q) → AW g mX5_tellSizes (d + 7) 72 [(4, .int (iZ i)), (3, .int (iZ (szc op dd i))), (0, .ref b), (1, .ref F.gd), (2, .int (iZ op))] [] V sz (CE g b X V sz L QR)
  | 0, i, hf, V, sz, Z, P, L, hw0, hV, hM, hfr => by
    obtain rfl : h = i := by omega
    obtain ⟨m1, m2⟩ := id hm
    have hb := (hV b (Or.inl rfl)).trans h0.1.1
    have hF : GD g V (DG F.gd).dk F h w ld ρ := GD.keptD hSF hF0 hV
    obtain ⟨fgd, fra, -, frow, fRS, finj⟩ := id hF
    refine aw_iload dX5_tellSizes_72 (by rfl) ?_
    refine aw_aload_n dX5_tellSizes_74 (by rfl) (Or.inr ⟨_, rfl⟩) ?_
    refine aw_get fX5_111 dX5_tellSizes_75 fgd (by rfl) ?_
    refine aw_icmp_geZ (tgt := 137) dX5_tellSizes_78 (by decide) (by omega) (by omega) (fun hc_78 => ?_) (fun hc_78 => ?_)
    · refine aw_pk [3, 0] (by rfl) ?_
      exact hKK hw0 hV hM hfr
    · exact absurd hc_78 (by omega)
  | f + 1, i, hf, V, sz, Z, P, L, hw0, hV, hM, hfr => by
    have IH := fun i hi => @ts_tell d g b X S A V0 Z0 F h w op hT wT ld ldT ρ ρT dd QR h0 hT0 hSF hm hrg hF0 hh hop hdd hKK f i hi
    obtain ⟨m1, m2⟩ := id hm
    have hb := (hV b (Or.inl rfl)).trans h0.1.1
    have hF : GD g V (DG F.gd).dk F h w ld ρ := GD.keptD hSF hF0 hV
    obtain ⟨fgd, fra, -, frow, fRS, finj⟩ := id hF
    have hGT : GD g V (b + 17 + 1) (GT b) hT wT ldT ρT := hT0.kept2 (fun a ha => hV a (sab_gT ha).1)
    obtain ⟨tgd, tra, -, trow, tRS, tinj⟩ := id hGT
    have tgd : V (b + 17) = some (grO (b + 17 + 21) (b + 17 + 20) (b + 17 + 1) (b + 17 + 16) (b + 17 + 18) hT wT) := tgd
    have tra : V (b + 17 + 21) = some (aQ g 4 10 (fun i => some (ρT i))) := tra
    obtain ⟨tr1, tr2, -⟩ := trow _ (tRS 0 (show 0 < 10 by omega))
    have tr2 : V ((GT b).ka (ρT 0)) = some (aQ g 5 5 (fun j => some ((GT b).ga (ρT 0) j))) := tr2
    have hRi := fRS i (by omega)
    obtain ⟨fi1, fi2, -⟩ := frow _ hRi
    have hUi := (hSF.2.2.2.2.1 _ hRi i (by omega)).1
    have ri := hrg _ hRi i (by omega)
    have hzi : Z (F.ga (ρ i) i) = dd i := (hfr _ (by omega)).trans (hdd i (by omega)).1
    have hsl := szc_le op dd i
    have hct := ((gst_T b X).2.2.2.2.1 _ (tRS 0 (show 0 < 10 by omega)) (szc op dd i) (show szc op dd i < 5 by omega)).1.1
    have hcr := am_T hGT (i := 0) (j := szc op dd i) (by omega) (by omega)
    obtain ⟨nt, Ft, hWt⟩ := hw0.raw hct
    have hWi := hw0.2.1 _ hUi.1
    rw [hzi] at hWi
    obtain ⟨ni, Fi, hWr⟩ := hw0.raw hUi.1
    refine aw_iload dX5_tellSizes_72 (by rfl) ?_
    refine aw_aload_n dX5_tellSizes_74 (by rfl) (Or.inr ⟨_, rfl⟩) ?_
    refine aw_get fX5_111 dX5_tellSizes_75 fgd (by rfl) ?_
    refine aw_icmp_geZ (tgt := 137) dX5_tellSizes_78 (by decide) (by omega) (by omega) (fun hc_78 => ?_) (fun hc_78 => ?_)
    · exact absurd hc_78 (by omega)
    · refine aw_aload_n dX5_tellSizes_81 (by rfl) (Or.inr ⟨_, rfl⟩) ?_
      refine aw_get fX5_141 dX5_tellSizes_82 fgd (by rfl) ?_
      refine aw_iload dX5_tellSizes_85 (by rfl) ?_
      refine aw_aaldZ (t0 := 4) (i) (by rfl) dX5_tellSizes_87 fra (by omega) (by omega) (by omega) ?_
      refine aw_get fX5_151 dX5_tellSizes_88 fi1 (by rfl) ?_
      refine aw_iload dX5_tellSizes_91 (by rfl) ?_
      refine aw_aaldZ (t0 := 5) (i) (by rfl) dX5_tellSizes_93 fi2 (by omega) (by omega) (by omega) ?_
      refine aw_astore dX5_tellSizes_94 (by decide) (Or.inr ⟨_, rfl⟩) ?_
      refine aw_iload_n dX5_tellSizes_96 (by rfl) ?_
      refine aw_if_neZ (tgt := 109) dX5_tellSizes_97 (by decide) (by omega) (fun hc_97 => ?_) (fun hc_97 => ?_)
      · have hkp : op = 1 ∨ dd i ≠ 1 := Or.inl (by omega)
        have hks : szc op dd (i + 1) = szc op dd i + 1 := by show szc op dd i + (if op = 1 ∨ dd i ≠ 1 then 1 else 0) = _; rw [if_pos hkp]
        refine aw_aload_n dX5_tellSizes_109 (by rfl) (Or.inr ⟨_, rfl⟩) ?_
        refine aw_get fX5_27 dX5_tellSizes_110 hb (by rfl) ?_
        refine aw_get fX5_141 dX5_tellSizes_113 tgd (by rfl) ?_
        refine aw_iconstZ dX5_tellSizes_116 ?_
        refine aw_aaldZ (t0 := 4) (0) (by rfl) dX5_tellSizes_117 tra (by omega) (by omega) (by omega) ?_
        refine aw_get fX5_151 dX5_tellSizes_118 tr1 (by rfl) ?_
        refine aw_iload_n dX5_tellSizes_121 (by rfl) ?_
        refine aw_aaldZ (t0 := 5) (szc op dd i) (by rfl) dX5_tellSizes_122 tr2 (by omega) (by omega) (by omega) ?_
        refine aw_aload dX5_tellSizes_123 (by rfl) (Or.inr ⟨_, rfl⟩) ?_
        refine aw_callv vX5_192 dX5_tellSizes_125 hWt.1 (w_copy (d + 3) hw0 hct hUi.1 (by omega) (Sm.u156 (by rw [hzi]; exact (hdd i (by omega)).2))) (by rfl) (by rfl) (by omega) (Nat.le_of_ble_eq_true rfl) ?_
        rintro _ V1 sz1 mc1 ms1 ⟨rfl, P1, L1, hs1⟩ -
        refine WE.stp (WSE.of hs1) ?_
        refine aw_iincZ dX5_tellSizes_128 (by rfl) (by decide) ?_
        refine aw_iincZ dX5_tellSizes_131 (by rfl) (by decide) ?_
        refine aw_goto (tgt := 72) dX5_tellSizes_134 (by decide) ?_
        rw [show ((i : Int) + 1) = ((i + 1 : Nat) : Int) by omega, show ((szc op dd i : Int) + 1) = ((szc op dd (i + 1) : Nat) : Int) by rw [hks]; omega]
        refine aw_pk [4, 3, 0, 1, 2] (by rfl) ?_
        refine IH (i + 1) (by omega) hs1.1 (fun a ha => (hs1.2.2.1 a ha).trans (hV a ha)) (fun a ha hka => ?_) (fun q hq => (upF_ne _ _ (by omega)).trans (hfr q hq))
        by_cases e : a = i
        · rw [e, upF_self, hzi]
        · have hlt := szc_lt hka (i - (a + 1))
          rw [show a + 1 + (i - (a + 1)) = i by omega] at hlt
          rw [upF_ne _ _ (fun q => by
            have := ((gst_T b X).2.2.2.2.2.1 _ _ _ _ (tRS 0 (show 0 < 10 by omega)) (tRS 0 (show 0 < 10 by omega)) (show szc op dd a < 5 by omega) (show szc op dd i < 5 by omega) q).2
            omega)]
          exact hM a (by omega) hka
      · refine aw_aload dX5_tellSizes_100 (by rfl) (Or.inr ⟨_, rfl⟩) ?_
        refine aw_lconstZ (z := 1) dX5_tellSizes_102 (by decide) ?_
        refine aw_callv vX5_237 dX5_tellSizes_103 hWr.1 (t_is g (d + 5) (v := 1) hWi (by omega)) (by rfl) (by rfl) (by omega) (Nat.le_of_ble_eq_true rfl) ?_
        rintro _ _ _ _ _ ⟨rfl, rfl, rfl, rfl, rfl⟩ -
        refine q0 ?_
        refine aw_if_neZ (tgt := 131) dX5_tellSizes_106 (by decide) (by split <;> omega) (fun hc_106 => ?_) (fun hc_106 => ?_)
        · have hd1 : dd i = 1 := Classical.byContradiction (fun z => hc_106 (if_neg z))
          refine aw_iincZ dX5_tellSizes_131 (by rfl) (by decide) ?_
          refine aw_goto (tgt := 72) dX5_tellSizes_134 (by decide) ?_
          have hks : szc op dd (i + 1) = szc op dd i := by show szc op dd i + (if op = 1 ∨ dd i ≠ 1 then 1 else 0) = _; rw [if_neg (fun z => z.elim (fun z => by omega) (fun z => z hd1))]; rfl
          rw [show ((i : Int) + 1) = ((i + 1 : Nat) : Int) by omega, ← hks]
          refine aw_pk [4, 3, 0, 1, 2] (by rfl) ?_
          refine IH (i + 1) (by omega) hw0 hV (fun a ha hka => ?_) hfr
          by_cases e : a = i
          · exact absurd hka (fun z => z.elim (fun z => by omega) (fun z => z (e ▸ hd1)))
          · exact hM a (by omega) hka
        · have hkp : op = 1 ∨ dd i ≠ 1 := Or.inr (fun z => by rw [if_pos z] at hc_106; exact absurd hc_106 (by decide))
          have hks : szc op dd (i + 1) = szc op dd i + 1 := by show szc op dd i + (if op = 1 ∨ dd i ≠ 1 then 1 else 0) = _; rw [if_pos hkp]
          refine aw_aload_n dX5_tellSizes_109 (by rfl) (Or.inr ⟨_, rfl⟩) ?_
          refine aw_get fX5_27 dX5_tellSizes_110 hb (by rfl) ?_
          refine aw_get fX5_141 dX5_tellSizes_113 tgd (by rfl) ?_
          refine aw_iconstZ dX5_tellSizes_116 ?_
          refine aw_aaldZ (t0 := 4) (0) (by rfl) dX5_tellSizes_117 tra (by omega) (by omega) (by omega) ?_
          refine aw_get fX5_151 dX5_tellSizes_118 tr1 (by rfl) ?_
          refine aw_iload_n dX5_tellSizes_121 (by rfl) ?_
          refine aw_aaldZ (t0 := 5) (szc op dd i) (by rfl) dX5_tellSizes_122 tr2 (by omega) (by omega) (by omega) ?_
          refine aw_aload dX5_tellSizes_123 (by rfl) (Or.inr ⟨_, rfl⟩) ?_
          refine aw_callv vX5_192 dX5_tellSizes_125 hWt.1 (w_copy (d + 3) hw0 hct hUi.1 (by omega) (Sm.u156 (by rw [hzi]; exact (hdd i (by omega)).2))) (by rfl) (by rfl) (by omega) (Nat.le_of_ble_eq_true rfl) ?_
          rintro _ V1 sz1 mc1 ms1 ⟨rfl, P1, L1, hs1⟩ -
          refine WE.stp (WSE.of hs1) ?_
          refine aw_iincZ dX5_tellSizes_128 (by rfl) (by decide) ?_
          refine aw_iincZ dX5_tellSizes_131 (by rfl) (by decide) ?_
          refine aw_goto (tgt := 72) dX5_tellSizes_134 (by decide) ?_
          rw [show ((i : Int) + 1) = ((i + 1 : Nat) : Int) by omega, show ((szc op dd i : Int) + 1) = ((szc op dd (i + 1) : Nat) : Int) by rw [hks]; omega]
          refine aw_pk [4, 3, 0, 1, 2] (by rfl) ?_
          refine IH (i + 1) (by omega) hs1.1 (fun a ha => (hs1.2.2.1 a ha).trans (hV a ha)) (fun a ha hka => ?_) (fun q hq => (upF_ne _ _ (by omega)).trans (hfr q hq))
          by_cases e : a = i
          · rw [e, upF_self, hzi]
          · have hlt := szc_lt hka (i - (a + 1))
            rw [show a + 1 + (i - (a + 1)) = i by omega] at hlt
            rw [upF_ne _ _ (fun q => by
              have := ((gst_T b X).2.2.2.2.2.1 _ _ _ _ (tRS 0 (show 0 < 10 by omega)) (tRS 0 (show 0 < 10 by omega)) (show szc op dd a < 5 by omega) (show szc op dd i < 5 by omega) q).2
              omega)]
            exact hM a (by omega) hka
def TSr (S : TSt) (A0 : Mat) (h w0 op : Nat) : Option Value → TSt → ASt → Prop := fun q S' A' => S' = S ∧ ∃ dd M : Nat → Int, (∀ a, a < h → 0 < dd a) ∧ (∀ i, i + 1 < h → dd i ∣ dd (i + 1)) ∧ (∀ (n : Nat) (d : Int), DVT n A0 h w0 d ↔ DVT n (Dg dd) h h d) ∧ some (.int (iZ (szc op dd h))) = q ∧ (∀ a, a < h → (op = 1 ∨ dd a ≠ 1) → M (szc op dd a) = dd a) ∧ AIs A' (if szc op dd h = 0 then 0 else 1) (szc op dd h) (fun _ j => M j)
set_option maxRecDepth 20000 in
theorem t_tellSizes (d : Nat) {g : GX} {b : Nat} {X : Nat → Prop} {S : TSt} {A : ASt} {V : AH} {Z : Nat → Int} {F : GG} {A0 : Mat} {h w w0 op : Nat} {ld : Nat → Int} {ρ : Nat → Nat} {dd : Nat → Int} (h0 : CX g b X V Z S A) (hSF : GSt (wsB b) (SAB b X) (DB b) F) (hm : F.mr = 6 ∧ F.mc = 5) (hrg : ∀ ro, F.RS ro → ∀ j, j < 5 → (b + 447 ≤ F.ga ro j ∧ F.ga ro j < b + 517) ∨ (b + 541 ≤ F.ga ro j ∧ F.ga ro j < b + 611)) (hF0 : GD g V (DG F.gd).dk F h w ld ρ) (hh : h ≤ 5) (hop : op = 0 ∨ op = 1) (hmn : MnB A0 h w0) (hpos : ∀ a, a < h → 0 < dd a) (hdv : ∀ (n : Nat) (d : Int), DVT n A0 h w0 d ↔ DVT n (Dg dd) h h d) (hdd : ∀ a, a < h → Z (F.ga (ρ a) a) = dd a) {sz : Nat} {P L : Nat → Nat} (hw0 : WG g (wsB b) (SAB b X) V sz Z P L) : AMet g mX5_tellSizes (d + 7) [.ref b, .ref F.gd, .int (iZ op)] V sz (CE g b X V sz L (TSr S A0 h w0 op)) := by
  obtain ⟨m1, m2⟩ := id hm
  refine AMet.of rfl rfl (Nat.le_of_ble_eq_true rfl) ?_
  show AW g mX5_tellSizes (d + 7) 0 [(0, .ref b), (1, .ref F.gd), (2, .int (iZ op))] [] V sz _
  refine aw_iconstZ dX5_tellSizes_0 ?_
  refine aw_istore_n dX5_tellSizes_1 (by decide) ?_
  refine aw_pk [3, 0, 1, 2] (by rfl) ?_
  refine ts_out d h0 hSF hm hrg hF0 hh hmn (op := op) (fun {V1 sz1 Z1 P1 L1 d1} hw1 hV1 hdd1 hfr1 hI1 => ?_) h 0 (by omega) hw0 (fun _ _ => rfl) hdd (fun _ _ _ => rfl) ⟨hpos, hdv, fun a ha => absurd ha (by omega), fun e h1 h2 => absurd h1 (by omega)⟩
  have hRS := hF0.2.2.2.2.1
  have hcx1 : CX g b X V1 Z1 S A := h0.zs2 hV1 (fun q h1 h2 => hfr1 q h1 (fun a ha => by have := hrg _ (hRS a (by omega)) a (by omega); omega))
  obtain ⟨ldT, ρT, hGD, -⟩ := id hcx1.2.2.2.2.1
  have hAO := hcx1.2.2.2.2.2.1
  refine aw_iconstZ dX5_tellSizes_67 ?_
  refine aw_istore_n dX5_tellSizes_68 (by decide) ?_
  refine aw_iconstZ dX5_tellSizes_69 ?_
  refine aw_istore dX5_tellSizes_70 (by decide) ?_
  refine aw_pk [4, 3, 0, 1, 2] (by rfl) ?_
  refine ts_tell d (V0 := V1) (Z0 := Z1) (dd := d1) hcx1 hGD hSF hm hrg (GD.keptD hSF hF0 hV1) hh hop (fun a ha => ⟨hdd1 a ha, sm_cb (by have p1 := hI1.1 a ha; rw [ab_pos (by omega)]; exact hI1.bd hmn ha)⟩) (fun {V2 sz2 Z2 P2 L2} hw2 hV2 hM2 hfr2 => ?_) h 0 (by omega) hw1 (fun _ _ => rfl) (fun a ha => absurd ha (by omega)) (fun _ _ => rfl)
  have hb2 := (hV2 b (Or.inl rfl)).trans hcx1.1.1
  have hGT2 : GD g V2 (b + 17 + 1) (GT b) A.h A.w ldT ρT := hGD.kept2 (fun a ha => hV2 a (sab_gT ha).1)
  have hsl := szc_le op d1 h
  by_cases e0 : szc op d1 h = 0
  · refine aw_aload_n dX5_tellSizes_137 (by rfl) (Or.inr ⟨_, rfl⟩) ?_
    refine aw_iload_n dX5_tellSizes_138 (by rfl) ?_
    refine aw_if_leZ (tgt := 146) dX5_tellSizes_139 (by decide) (by omega) (fun hc_139 => ?_) (fun hc_139 => ?_)
    · refine aw_iconstZ dX5_tellSizes_146 ?_
      refine aw_iload_n dX5_tellSizes_147 (by rfl) ?_
      show AW _ _ _ _ _ (.int (iZ (szc op d1 h)) :: .int (iZ ((0 : Nat) : Int)) :: _) _ _ _
      refine aw_callv vX5_148 dX5_tellSizes_148 hb2 (t_closeAnswer g (d + 5) (r := 0) (w := szc op d1 h) hb2 hGT2 (by omega)) (by rfl) (by rfl) (by omega) (Nat.le_of_ble_eq_true rfl) ?_
      rintro _ _ _ _ _ ⟨rfl, rfl, rfl, rfl, rfl⟩ -
      refine WE.stp (cl_wse hw2) ?_
      refine aw_iload_n dX5_tellSizes_151 (by rfl) ?_
      refine aw_iret dX5_tellSizes_152 rfl (by rfl) ?_
      obtain ⟨hcx, hAI⟩ := hcx1.ans (V := V2) (Z := Z2) (r := 0) (w := szc op d1 h) (M := fun _ j => Z2 ((GT b).ga (ρT 0) j)) hGD hAO hV2 hfr2 (by omega) (fun i j hi hj => by rw [show i = 0 by omega])
      refine WE.ret (cl_wse hw2).1 ⟨S, _, hcx, rfl, d1, fun j => Z2 ((GT b).ga (ρT 0) j), hI1.1, fun i hi => hI1.2.2.1 i (by omega) (i + 1) (by omega) hi, hI1.2.1, rfl, hM2, ?_⟩
      rw [if_pos e0]
      exact hAI
    · exact absurd hc_139 (by omega)
  · refine aw_aload_n dX5_tellSizes_137 (by rfl) (Or.inr ⟨_, rfl⟩) ?_
    refine aw_iload_n dX5_tellSizes_138 (by rfl) ?_
    refine aw_if_leZ (tgt := 146) dX5_tellSizes_139 (by decide) (by omega) (fun hc_139 => ?_) (fun hc_139 => ?_)
    · exact absurd hc_139 (by omega)
    · refine aw_iconstZ dX5_tellSizes_142 ?_
      refine aw_goto (tgt := 147) dX5_tellSizes_143 (by decide) ?_
      refine aw_iload_n dX5_tellSizes_147 (by rfl) ?_
      show AW _ _ _ _ _ (.int (iZ (szc op d1 h)) :: .int (iZ ((1 : Nat) : Int)) :: _) _ _ _
      refine aw_callv vX5_148 dX5_tellSizes_148 hb2 (t_closeAnswer g (d + 5) (r := 1) (w := szc op d1 h) hb2 hGT2 (by omega)) (by rfl) (by rfl) (by omega) (Nat.le_of_ble_eq_true rfl) ?_
      rintro _ _ _ _ _ ⟨rfl, rfl, rfl, rfl, rfl⟩ -
      refine WE.stp (cl_wse hw2) ?_
      refine aw_iload_n dX5_tellSizes_151 (by rfl) ?_
      refine aw_iret dX5_tellSizes_152 rfl (by rfl) ?_
      obtain ⟨hcx, hAI⟩ := hcx1.ans (V := V2) (Z := Z2) (r := 1) (w := szc op d1 h) (M := fun _ j => Z2 ((GT b).ga (ρT 0) j)) hGD hAO hV2 hfr2 (by omega) (fun i j hi hj => by rw [show i = 0 by omega])
      refine WE.ret (cl_wse hw2).1 ⟨S, _, hcx, rfl, d1, fun j => Z2 ((GT b).ga (ρT 0) j), hI1.1, fun i hi => hI1.2.2.1 i (by omega) (i + 1) (by omega) hi, hI1.2.1, rfl, hM2, ?_⟩
      rw [if_neg e0]
      exact hAI
