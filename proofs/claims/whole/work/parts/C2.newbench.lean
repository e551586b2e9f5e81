/-! ===== the bench's constructor ===== -/
def GDN (g : GX) (V : AH) (t0 mr mc : Nat) : Prop := GD g V (t0 + 1) (GL t0 mr mc) 0 0 (fun _ => 0) (fun i => t0 + 22 + (2 + 2 * mc) * i) ∧ DkN g V (t0 + 1) ∧ WhN g V (t0 + 16) ∧ WhN g V (t0 + 18) ∧ ∀ r, r < mr → ∀ j, j < mc → WhN g V (t0 + 22 + (2 + 2 * mc) * r + 2 + 2 * j)
theorem GDN.kept {g : GX} {V V' : AH} {t0 mr mc : Nat} (h : GDN g V t0 mr mc) (hV : ∀ a, t0 ≤ a → a < t0 + 22 + (2 + 2 * mc) * mr → V' a = V a) : GDN g V' t0 mr mc := by
  obtain ⟨h1, h0, h2, h3, h4⟩ := h
  refine ⟨h1.kept2 (fun a ha => ?_), h0.kept (fun a q1 q2 => hV a (by omega) (by omega)), h2.kept (hV _ (by omega) (by omega)) (hV _ (by omega) (by omega)), h3.kept (hV _ (by omega) (by omega)) (hV _ (by omega) (by omega)), fun r hr j hj => ?_⟩
  · have := gs_in ha
    exact hV a (by omega) (by omega)
  · have h5 : (2 + 2 * mc) * (r + 1) ≤ (2 + 2 * mc) * mr := Nat.mul_le_mul_left _ hr
    rw [Nat.mul_add] at h5
    exact (h4 r hr j hj).kept (hV _ (by omega) (by omega)) (hV _ (by omega) (by omega))
/-- the bench as it is made -/
def BnF (g : GX) (b : Nat) (V : AH) : Prop := V b = some (bnO b 0) ∧ V (b + 1) = some (aQ g 3 12 (fun t => some (b + 647 + 3 * t))) ∧ (∀ t, t < 12 → TbV g V (b + 647 + 3 * t) (b + 647 + 3 * t + 1) (b + 647 + 3 * t + 2) 0 0 (fun _ => 0) (fun _ => 0)) ∧ V (b + 2) = some (dkO (b + 3) (b + 5) (b + 7) (b + 9) (b + 11) (b + 13) (b + 15)) ∧ (V (b + 7) = some (whO 1 1 (b + 8)) ∧ V (b + 8) = some (aIz g 4 (upF (fun _ => 0) 0 1))) ∧ (∀ i, i < 7 → i ≠ 2 → WhN g V (b + 3 + 2 * i)) ∧ GDN g V (b + 17) 10 5 ∧ GDN g V (b + 159) 11 10 ∧ GDN g V (b + 423) 6 5 ∧ GDN g V (b + 517) 6 5 ∧ (RowV g V (b + 611) (b + 612) 10 (fun j => b + 613 + 2 * j) ∧ ∀ j, j < 10 → WhN g V (b + 613 + 2 * j)) ∧ (RowV g V (b + 633) (b + 634) 5 (fun j => b + 635 + 2 * j) ∧ ∀ j, j < 5 → WhN g V (b + 635 + 2 * j)) ∧ V (b + 645) = some (aIz g 25 (fun _ => 0)) ∧ V (b + 646) = some (aJz g 32 (fun _ => 0))
abbrev mX5_init : MI := (yX5_init, cX5_init, 2, none, noX)
theorem dX5_init_0 : decode cX5_init 0 = .ok (.aload_n 0, 1) := by decide +kernel
theorem dX5_init_1 : decode cX5_init 1 = .ok (.invokespecial 3, 3) := by decide +kernel
theorem dX5_init_4 : decode cX5_init 4 = .ok (.aload_n 0, 1) := by decide +kernel
theorem dX5_init_5 : decode cX5_init 5 = .ok (.bipush 12, 2) := by decide +kernel
theorem dX5_init_7 : decode cX5_init 7 = .ok (.anewarray 9, 3) := by decide +kernel
theorem dX5_init_10 : decode cX5_init 10 = .ok (.putfield 11, 3) := by decide +kernel
theorem dX5_init_13 : decode cX5_init 13 = .ok (.aload_n 0, 1) := by decide +kernel
theorem dX5_init_14 : decode cX5_init 14 = .ok (.new 15, 3) := by decide +kernel
theorem dX5_init_17 : decode cX5_init 17 = .ok (.dup, 1) := by decide +kernel
theorem dX5_init_18 : decode cX5_init 18 = .ok (.invokespecial 17, 3) := by decide +kernel
theorem dX5_init_21 : decode cX5_init 21 = .ok (.putfield 18, 3) := by decide +kernel
theorem dX5_init_24 : decode cX5_init 24 = .ok (.aload_n 0, 1) := by decide +kernel
theorem dX5_init_25 : decode cX5_init 25 = .ok (.new 22, 3) := by decide +kernel
theorem dX5_init_28 : decode cX5_init 28 = .ok (.dup, 1) := by decide +kernel
theorem dX5_init_29 : decode cX5_init 29 = .ok (.bipush 10, 2) := by decide +kernel
theorem dX5_init_31 : decode cX5_init 31 = .ok (.iconst 5, 1) := by decide +kernel
theorem dX5_init_32 : decode cX5_init 32 = .ok (.invokespecial 24, 3) := by decide +kernel
theorem dX5_init_35 : decode cX5_init 35 = .ok (.putfield 27, 3) := by decide +kernel
theorem dX5_init_38 : decode cX5_init 38 = .ok (.aload_n 0, 1) := by decide +kernel
theorem dX5_init_39 : decode cX5_init 39 = .ok (.iconst 0, 1) := by decide +kernel
theorem dX5_init_40 : decode cX5_init 40 = .ok (.putfield 31, 3) := by decide +kernel
theorem dX5_init_43 : decode cX5_init 43 = .ok (.aload_n 0, 1) := by decide +kernel
theorem dX5_init_44 : decode cX5_init 44 = .ok (.new 22, 3) := by decide +kernel
theorem dX5_init_47 : decode cX5_init 47 = .ok (.dup, 1) := by decide +kernel
theorem dX5_init_48 : decode cX5_init 48 = .ok (.bipush 11, 2) := by decide +kernel
theorem dX5_init_50 : decode cX5_init 50 = .ok (.bipush 10, 2) := by decide +kernel
theorem dX5_init_52 : decode cX5_init 52 = .ok (.invokespecial 24, 3) := by decide +kernel
theorem dX5_init_55 : decode cX5_init 55 = .ok (.putfield 35, 3) := by decide +kernel
theorem dX5_init_58 : decode cX5_init 58 = .ok (.aload_n 0, 1) := by decide +kernel
theorem dX5_init_59 : decode cX5_init 59 = .ok (.new 22, 3) := by decide +kernel
theorem dX5_init_62 : decode cX5_init 62 = .ok (.dup, 1) := by decide +kernel
theorem dX5_init_63 : decode cX5_init 63 = .ok (.bipush 6, 2) := by decide +kernel
theorem dX5_init_65 : decode cX5_init 65 = .ok (.iconst 5, 1) := by decide +kernel
theorem dX5_init_66 : decode cX5_init 66 = .ok (.invokespecial 24, 3) := by decide +kernel
theorem dX5_init_69 : decode cX5_init 69 = .ok (.putfield 38, 3) := by decide +kernel
theorem dX5_init_72 : decode cX5_init 72 = .ok (.aload_n 0, 1) := by decide +kernel
theorem dX5_init_73 : decode cX5_init 73 = .ok (.new 22, 3) := by decide +kernel
theorem dX5_init_76 : decode cX5_init 76 = .ok (.dup, 1) := by decide +kernel
theorem dX5_init_77 : decode cX5_init 77 = .ok (.bipush 6, 2) := by decide +kernel
theorem dX5_init_79 : decode cX5_init 79 = .ok (.iconst 5, 1) := by decide +kernel
theorem dX5_init_80 : decode cX5_init 80 = .ok (.invokespecial 24, 3) := by decide +kernel
theorem dX5_init_83 : decode cX5_init 83 = .ok (.putfield 41, 3) := by decide +kernel
theorem dX5_init_86 : decode cX5_init 86 = .ok (.aload_n 0, 1) := by decide +kernel
theorem dX5_init_87 : decode cX5_init 87 = .ok (.new 44, 3) := by decide +kernel
theorem dX5_init_90 : decode cX5_init 90 = .ok (.dup, 1) := by decide +kernel
theorem dX5_init_91 : decode cX5_init 91 = .ok (.bipush 10, 2) := by decide +kernel
theorem dX5_init_93 : decode cX5_init 93 = .ok (.invokespecial 46, 3) := by decide +kernel
theorem dX5_init_96 : decode cX5_init 96 = .ok (.putfield 49, 3) := by decide +kernel
theorem dX5_init_99 : decode cX5_init 99 = .ok (.aload_n 0, 1) := by decide +kernel
theorem dX5_init_100 : decode cX5_init 100 = .ok (.new 44, 3) := by decide +kernel
theorem dX5_init_103 : decode cX5_init 103 = .ok (.dup, 1) := by decide +kernel
theorem dX5_init_104 : decode cX5_init 104 = .ok (.iconst 5, 1) := by decide +kernel
theorem dX5_init_105 : decode cX5_init 105 = .ok (.invokespecial 46, 3) := by decide +kernel
theorem dX5_init_108 : decode cX5_init 108 = .ok (.putfield 53, 3) := by decide +kernel
theorem dX5_init_111 : decode cX5_init 111 = .ok (.aload_n 0, 1) := by decide +kernel
theorem dX5_init_112 : decode cX5_init 112 = .ok (.bipush 25, 2) := by decide +kernel
theorem dX5_init_114 : decode cX5_init 114 = .ok (.newarray .int, 2) := by decide +kernel
theorem dX5_init_116 : decode cX5_init 116 = .ok (.putfield 56, 3) := by decide +kernel
theorem dX5_init_119 : decode cX5_init 119 = .ok (.aload_n 0, 1) := by decide +kernel
theorem dX5_init_120 : decode cX5_init 120 = .ok (.bipush 32, 2) := by decide +kernel
theorem dX5_init_122 : decode cX5_init 122 = .ok (.newarray .long, 2) := by decide +kernel
theorem dX5_init_124 : decode cX5_init 124 = .ok (.putfield 60, 3) := by decide +kernel
theorem dX5_init_127 : decode cX5_init 127 = .ok (.iconst 0, 1) := by decide +kernel
theorem dX5_init_128 : decode cX5_init 128 = .ok (.istore_n 1, 1) := by decide +kernel
theorem dX5_init_129 : decode cX5_init 129 = .ok (.iload_n 1, 1) := by decide +kernel
theorem dX5_init_130 : decode cX5_init 130 = .ok (.bipush 12, 2) := by decide +kernel
theorem dX5_init_132 : decode cX5_init 132 = .ok (.if_icmp .ge 22, 3) := by decide +kernel
theorem dX5_init_135 : decode cX5_init 135 = .ok (.aload_n 0, 1) := by decide +kernel
theorem dX5_init_136 : decode cX5_init 136 = .ok (.getfield 11, 3) := by decide +kernel
theorem dX5_init_139 : decode cX5_init 139 = .ok (.iload_n 1, 1) := by decide +kernel
theorem dX5_init_140 : decode cX5_init 140 = .ok (.new 9, 3) := by decide +kernel
theorem dX5_init_143 : decode cX5_init 143 = .ok (.dup, 1) := by decide +kernel
theorem dX5_init_144 : decode cX5_init 144 = .ok (.invokespecial 64, 3) := by decide +kernel
theorem dX5_init_147 : decode cX5_init 147 = .ok (.aastore, 1) := by decide +kernel
theorem dX5_init_148 : decode cX5_init 148 = .ok (.iinc 1 1, 3) := by decide +kernel
theorem dX5_init_151 : decode cX5_init 151 = .ok (.goto (-22), 3) := by decide +kernel
theorem dX5_init_154 : decode cX5_init 154 = .ok (.return_, 1) := by decide +kernel
set_option maxRecDepth 20000 in
theorem bn_loop (g : GX) (d : Nat) {VL : AH} {b : Nat} {fs : List Value} (hb : VL b = some (.inr (5, .ref (b + 1) :: fs))) : ∀ (y t : Nat), t + y = 12 → ∀ {V : AH} {sz : Nat}, sz = b + 647 + 3 * t → V (b + 1) = some (aQ g 3 12 (fun e => if e < t then some (b + 647 + 3 * e) else none)) → (∀ e, e < t → TbV g V (b + 647 + 3 * e) (b + 647 + 3 * e + 1) (b + 647 + 3 * e + 2) 0 0 (fun _ => 0) (fun _ => 0)) → (∀ a, a < b + 647 → a ≠ b + 1 → V a = VL a) → DL V sz → AW g mX5_init (d + 4) 129 [(1, .int (iZ (t : Int))), (0, .ref b)] [] V sz (fun r V' sz' mc ms => none = r ∧ b + 683 = sz' ∧ 3 * y = mc ∧ 34 * y = ms ∧ V' (b + 1) = some (aQ g 3 12 (fun e => some (b + 647 + 3 * e))) ∧ (∀ e, e < 12 → TbV g V' (b + 647 + 3 * e) (b + 647 + 3 * e + 1) (b + 647 + 3 * e + 2) 0 0 (fun _ => 0) (fun _ => 0)) ∧ (∀ a, a < b + 647 → a ≠ b + 1 → V' a = VL a) ∧ DL V' sz')
  | 0, t, hy, V, sz, hsz, h1, hT, hV, hD => by
    obtain rfl : t = 12 := by omega
    subst hsz
    refine aw_iload_n dX5_init_129 (by rfl) ?_
    refine aw_bipushZ dX5_init_130 (by decide) ?_
    refine aw_icmp_geZ (tgt := 154) dX5_init_132 (by decide) (by omega) (by omega) (fun hc_132 => ?_) (fun hc_132 => ?_)
    · refine aw_arrQ (f' := fun e => some (b + 647 + 3 * e)) h1 (fun e he => by rw [if_pos (by omega)]) ?_
      refine aw_ret dX5_init_154 rfl ?_
      exact ⟨rfl, by omega, rfl, rfl, AHu_self _ _ _, fun e he => (hT e (by omega)).kept (AHu_ne (by omega)) (AHu_ne (by omega)) (AHu_ne (by omega)), fun a h2 h3 => (AHu_ne h3).trans (hV a h2 h3), hD.upd (by omega)⟩
    · exact absurd hc_132 (by omega)
  | y + 1, t, hy, V, sz, hsz, h1, hT, hV, hD => by
    have IH := fun t ht => @bn_loop g d VL b fs hb y t ht
    subst hsz
    refine aw_iload_n dX5_init_129 (by rfl) ?_
    refine aw_bipushZ dX5_init_130 (by decide) ?_
    refine aw_icmp_geZ (tgt := 154) dX5_init_132 (by decide) (by omega) (by omega) (fun hc_132 => ?_) (fun hc_132 => ?_)
    · exact absurd hc_132 (by omega)
    · refine aw_aload_n dX5_init_135 (by rfl) (Or.inr ⟨_, rfl⟩) ?_
      refine aw_get fX5_11 dX5_init_136 ((hV b (by omega) (by omega)).trans hb) (by rfl) ?_
      refine aw_iload_n dX5_init_139 (by rfl) ?_
      refine aw_new nfX5_9 dX5_init_140 ?_
      refine aw_dup dX5_init_143 rfl ?_
      refine aw_calli iX5_64 dX5_init_144 (t_newT g d (V := AHu V (b + 647 + 3 * t) (.inr (3, [.int (iZ 0), .int (iZ 0), .null, .null]))) (tb := b + 647 + 3 * t) (AHu_self _ _ _) hD.nw) (by rfl) (by rfl) (by omega) (Nat.le_of_ble_eq_true rfl) ?_
      rintro _ V1 _ _ _ ⟨rfl, rfl, rfl, rfl, hE1, hD1, hT1⟩ -
      refine aw_aast (t0 := 3) (ci := 3) rfl rfl dX5_init_147 ((hE1 _ (by omega) (by omega)).trans ((AHu_ne (by omega)).trans h1)) hT1.1 (ixZ rfl (by omega) (by omega)) ?_
      refine aw_iincZ dX5_init_148 (by rfl) (by decide) ?_
      refine aw_goto (tgt := 129) dX5_init_151 (by decide) ?_
      rw [show ((t : Int) + 1) = ((t + 1 : Nat) : Int) by omega]
      refine aw_pk [1, 0] (by rfl) ?_
      refine AW.mono (fun r V' sz' dc ds h => ?_) (IH (t + 1) (by omega) (V := AHu V1 (b + 1) _) (sz := b + 647 + 3 * t + 1 + 2) (by omega) ?_ (fun e he => ?_) (fun a h2 h3 => ?_) (hD1.upd (by omega)))
      · obtain ⟨x1, x2, x3, x4, x5⟩ := h
        exact ⟨x1, x2, by omega, by omega, x5⟩
      · rw [AHu_self]
        congr 3
        funext e
        unfold va_up
        by_cases q : e = t
        · rw [if_pos q, q, if_pos (by omega)]
        · rw [if_neg q]
          show (if e < t then some (b + 647 + 3 * e) else none) = (if e < t + 1 then some (b + 647 + 3 * e) else none)
          by_cases q2 : e < t
          · rw [if_pos q2, if_pos (by omega)]
          · rw [if_neg q2, if_neg (by omega)]
      · by_cases q : e = t
        · subst q
          exact hT1.kept (AHu_ne (by omega)) (AHu_ne (by omega)) (AHu_ne (by omega))
        · exact (hT e (by omega)).kept (by rw [AHu_ne (by omega), hE1 _ (by omega) (by omega), AHu_ne (by omega)]) (by rw [AHu_ne (by omega), hE1 _ (by omega) (by omega), AHu_ne (by omega)]) (by rw [AHu_ne (by omega), hE1 _ (by omega) (by omega), AHu_ne (by omega)])
      · rw [AHu_ne h3, hE1 a (by omega) (by omega), AHu_ne (by omega)]; exact hV a h2 h3
set_option maxRecDepth 20000 in
set_option maxHeartbeats 1000000 in
theorem t_newB (g : GX) (d : Nat) {V : AH} {b : Nat} (hb : V b = some (.inr (5, [.null, .null, .null, .int (iZ 0), .null, .null, .null, .null, .null, .null, .null]))) (hD : DL V (b + 1)) : AMet g mX5_init (d + 4) [.ref b] V (b + 1) (NwQ V (b + 1) b 682 2822 (BnF g b)) := by
  refine AMet.of rfl rfl (Nat.le_of_ble_eq_true rfl) ?_
  show AW g mX5_init (d + 4) 0 [(0, .ref b)] [] V (b + 1) _
  refine aw_aload_n dX5_init_0 (by rfl) (Or.inr ⟨_, rfl⟩) ?_
  refine aw_objinit oX5_3 dX5_init_1 (by omega) (by decide) ?_
  refine aw_aload_n dX5_init_4 (by rfl) (Or.inr ⟨_, rfl⟩) ?_
  refine aw_bipushZ dX5_init_5 (by decide) ?_
  refine aw_newQ (t0 := 3) (N := 12) kX5_9 (fun U h => h.2.1) rfl dX5_init_7 (by decide) (by decide) (by omega) ?_
  refine aw_putF fX5_11 rfl rfl dX5_init_10 ((AHu_ne (by omega)).trans hb) (by rfl) (by rfl) (Nat.le_of_ble_eq_true rfl) ?_
  refine aw_V (V' := AHu (AHu V (b + 1) (aQ g 3 12 (fun _ => none))) b (.inr (5, [.ref (b + 1), .null, .null, .int (iZ 0), .null, .null, .null, .null, .null, .null, .null]))) rfl ?_
  have o0 : AHu (AHu V (b + 1) (aQ g 3 12 (fun _ => none))) b (.inr (5, [.ref (b + 1), .null, .null, .int (iZ 0), .null, .null, .null, .null, .null, .null, .null])) b = some (.inr (5, [.ref (b + 1), .null, .null, .int (iZ 0), .null, .null, .null, .null, .null, .null, .null])) := AHu_self _ _ _
  have l0 : ∀ a, a < b → AHu (AHu V (b + 1) (aQ g 3 12 (fun _ => none))) b (.inr (5, [.ref (b + 1), .null, .null, .int (iZ 0), .null, .null, .null, .null, .null, .null, .null])) a = V a := fun a ha => by rw [AHu_ne (by omega), AHu_ne (by omega)]
  have D0 : DL (AHu (AHu V (b + 1) (aQ g 3 12 (fun _ => none))) b (.inr (5, [.ref (b + 1), .null, .null, .int (iZ 0), .null, .null, .null, .null, .null, .null, .null]))) (b + 2) := (DL.nw hD).upd (by omega)
  have T0 : AHu (AHu V (b + 1) (aQ g 3 12 (fun _ => none))) b (.inr (5, [.ref (b + 1), .null, .null, .int (iZ 0), .null, .null, .null, .null, .null, .null, .null])) (b + 1) = some (aQ g 3 12 (fun _ => none)) := by rw [AHu_ne (by omega), AHu_self]
  refine aw_sz (sz1 := b + 2) (by omega) ?_
  generalize AHu (AHu V (b + 1) (aQ g 3 12 (fun _ => none))) b (.inr (5, [.ref (b + 1), .null, .null, .int (iZ 0), .null, .null, .null, .null, .null, .null, .null])) = W0 at *
  refine aw_aload_n dX5_init_13 (by rfl) (Or.inr ⟨_, rfl⟩) ?_
  refine aw_new nfX5_15 dX5_init_14 ?_
  refine aw_dup dX5_init_17 rfl ?_
  refine aw_calli iX5_17 dX5_init_18 (t_newD g (d + 1) (V := AHu W0 (b + 2) (.inr (0, [.null, .null, .null, .null, .null, .null, .null]))) (dk := b + 2) (AHu_self _ _ _) (DL.nw D0)) (by rfl) (by rfl) (by omega) (Nat.le_of_ble_eq_true rfl) ?_
  rintro _ U0 _ _ _ ⟨rfl, rfl, rfl, rfl, hE0, hD0, hF0⟩ -
  refine aw_putF fX5_18 rfl rfl dX5_init_21 ((hE0 b (by omega) (by omega)).trans ((AHu_ne (by omega)).trans o0)) (by rfl) (by rfl) (Nat.le_of_ble_eq_true rfl) ?_
  refine aw_V (V' := AHu U0 b (.inr (5, [.ref (b + 1), .ref (b + 2), .null, .int (iZ 0), .null, .null, .null, .null, .null, .null, .null]))) rfl ?_
  obtain ⟨o1, l1, D1, K1, J1⟩ := bn_step (V0 := V) (s' := b + 17) (e' := .inr (5, [.ref (b + 1), .ref (b + 2), .null, .int (iZ 0), .null, .null, .null, .null, .null, .null, .null])) (show b < b + 2 by omega) l0 hE0 hD0 (by omega)
  replace J1 : ∀ a, b + 2 ≤ a → a < b + 17 → AHu U0 b (.inr (5, [.ref (b + 1), .ref (b + 2), .null, .int (iZ 0), .null, .null, .null, .null, .null, .null, .null])) a = U0 a := fun a h1 h2 => J1 a h1
  replace T0 := (K1 (b + 1) (by omega) (by omega)).trans T0
  refine aw_sz (sz1 := b + 17) (by omega) ?_
  generalize AHu U0 b (.inr (5, [.ref (b + 1), .ref (b + 2), .null, .int (iZ 0), .null, .null, .null, .null, .null, .null, .null])) = W1 at *
  refine aw_aload_n dX5_init_24 (by rfl) (Or.inr ⟨_, rfl⟩) ?_
  refine aw_new nfX5_22 dX5_init_25 ?_
  refine aw_dup dX5_init_28 rfl ?_
  refine aw_bipushZ dX5_init_29 (by decide) ?_
  refine aw_iconstZ dX5_init_31 ?_
  refine aw_calli iX5_24 dX5_init_32 (t_newGA g d (V := AHu W1 (b + 17) (.inr (1, [.null, .null, .null, .null, .null, .int (iZ 0), .int (iZ 0)]))) (t0 := b + 17) (AHu_self _ _ _) (DL.nw D1)) (by rfl) (by rfl) (by omega) (Nat.le_of_ble_eq_true rfl) ?_
  rintro _ U1 _ _ _ ⟨rfl, rfl, rfl, rfl, hE1, hD1, hF1⟩ -
  refine aw_putF fX5_27 rfl rfl dX5_init_35 ((hE1 b (by omega) (by omega)).trans ((AHu_ne (by omega)).trans o1)) (by rfl) (by rfl) (Nat.le_of_ble_eq_true rfl) ?_
  refine aw_V (V' := AHu U1 b (.inr (5, [.ref (b + 1), .ref (b + 2), .ref (b + 17), .int (iZ 0), .null, .null, .null, .null, .null, .null, .null]))) rfl ?_
  obtain ⟨o2, l2, D2, K2, J2⟩ := bn_step (V0 := V) (s' := b + 159) (e' := .inr (5, [.ref (b + 1), .ref (b + 2), .ref (b + 17), .int (iZ 0), .null, .null, .null, .null, .null, .null, .null])) (show b < b + 17 by omega) l1 hE1 hD1 (by omega)
  replace J1 : ∀ a, b + 2 ≤ a → a < b + 17 → AHu U1 b (.inr (5, [.ref (b + 1), .ref (b + 2), .ref (b + 17), .int (iZ 0), .null, .null, .null, .null, .null, .null, .null])) a = U0 a := fun a h1 h2 => (K2 a (by omega) (by omega)).trans (J1 a h1 h2)
  replace J2 : ∀ a, b + 17 ≤ a → a < b + 159 → AHu U1 b (.inr (5, [.ref (b + 1), .ref (b + 2), .ref (b + 17), .int (iZ 0), .null, .null, .null, .null, .null, .null, .null])) a = U1 a := fun a h1 h2 => J2 a h1
  replace T0 := (K2 (b + 1) (by omega) (by omega)).trans T0
  refine aw_sz (sz1 := b + 159) (by omega) ?_
  generalize AHu U1 b (.inr (5, [.ref (b + 1), .ref (b + 2), .ref (b + 17), .int (iZ 0), .null, .null, .null, .null, .null, .null, .null])) = W2 at *
  refine aw_aload_n dX5_init_38 (by rfl) (Or.inr ⟨_, rfl⟩) ?_
  refine aw_iconstZ dX5_init_39 ?_
  refine aw_put fX5_31 dX5_init_40 o2 (by rfl) (by rfl) (Nat.le_of_ble_eq_true rfl) ?_
  refine aw_V (V' := W2) (by funext a; by_cases q : a = b; (rw [q, AHu_self, o2]; rfl); (rw [AHu_ne q])) ?_
  refine aw_aload_n dX5_init_43 (by rfl) (Or.inr ⟨_, rfl⟩) ?_
  refine aw_new nfX5_22 dX5_init_44 ?_
  refine aw_dup dX5_init_47 rfl ?_
  refine aw_bipushZ dX5_init_48 (by decide) ?_
  refine aw_bipushZ dX5_init_50 (by decide) ?_
  refine aw_calli iX5_24 dX5_init_52 (t_newGB g d (V := AHu W2 (b + 159) (.inr (1, [.null, .null, .null, .null, .null, .int (iZ 0), .int (iZ 0)]))) (t0 := b + 159) (AHu_self _ _ _) (DL.nw D2)) (by rfl) (by rfl) (by omega) (Nat.le_of_ble_eq_true rfl) ?_
  rintro _ U2 _ _ _ ⟨rfl, rfl, rfl, rfl, hE2, hD2, hF2⟩ -
  refine aw_putF fX5_35 rfl rfl dX5_init_55 ((hE2 b (by omega) (by omega)).trans ((AHu_ne (by omega)).trans o2)) (by rfl) (by rfl) (Nat.le_of_ble_eq_true rfl) ?_
  refine aw_V (V' := AHu U2 b (.inr (5, [.ref (b + 1), .ref (b + 2), .ref (b + 17), .int (iZ 0), .ref (b + 159), .null, .null, .null, .null, .null, .null]))) rfl ?_
  obtain ⟨o3, l3, D3, K3, J3⟩ := bn_step (V0 := V) (s' := b + 423) (e' := .inr (5, [.ref (b + 1), .ref (b + 2), .ref (b + 17), .int (iZ 0), .ref (b + 159), .null, .null, .null, .null, .null, .null])) (show b < b + 159 by omega) l2 hE2 hD2 (by omega)
  replace J1 : ∀ a, b + 2 ≤ a → a < b + 17 → AHu U2 b (.inr (5, [.ref (b + 1), .ref (b + 2), .ref (b + 17), .int (iZ 0), .ref (b + 159), .null, .null, .null, .null, .null, .null])) a = U0 a := fun a h1 h2 => (K3 a (by omega) (by omega)).trans (J1 a h1 h2)
  replace J2 : ∀ a, b + 17 ≤ a → a < b + 159 → AHu U2 b (.inr (5, [.ref (b + 1), .ref (b + 2), .ref (b + 17), .int (iZ 0), .ref (b + 159), .null, .null, .null, .null, .null, .null])) a = U1 a := fun a h1 h2 => (K3 a (by omega) (by omega)).trans (J2 a h1 h2)
  replace J3 : ∀ a, b + 159 ≤ a → a < b + 423 → AHu U2 b (.inr (5, [.ref (b + 1), .ref (b + 2), .ref (b + 17), .int (iZ 0), .ref (b + 159), .null, .null, .null, .null, .null, .null])) a = U2 a := fun a h1 h2 => J3 a h1
  replace T0 := (K3 (b + 1) (by omega) (by omega)).trans T0
  refine aw_sz (sz1 := b + 423) (by omega) ?_
  generalize AHu U2 b (.inr (5, [.ref (b + 1), .ref (b + 2), .ref (b + 17), .int (iZ 0), .ref (b + 159), .null, .null, .null, .null, .null, .null])) = W3 at *
  refine aw_aload_n dX5_init_58 (by rfl) (Or.inr ⟨_, rfl⟩) ?_
  refine aw_new nfX5_22 dX5_init_59 ?_
  refine aw_dup dX5_init_62 rfl ?_
  refine aw_bipushZ dX5_init_63 (by decide) ?_
  refine aw_iconstZ dX5_init_65 ?_
  refine aw_calli iX5_24 dX5_init_66 (t_newGC g d (V := AHu W3 (b + 423) (.inr (1, [.null, .null, .null, .null, .null, .int (iZ 0), .int (iZ 0)]))) (t0 := b + 423) (AHu_self _ _ _) (DL.nw D3)) (by rfl) (by rfl) (by omega) (Nat.le_of_ble_eq_true rfl) ?_
  rintro _ U3 _ _ _ ⟨rfl, rfl, rfl, rfl, hE3, hD3, hF3⟩ -
  refine aw_putF fX5_38 rfl rfl dX5_init_69 ((hE3 b (by omega) (by omega)).trans ((AHu_ne (by omega)).trans o3)) (by rfl) (by rfl) (Nat.le_of_ble_eq_true rfl) ?_
  refine aw_V (V' := AHu U3 b (.inr (5, [.ref (b + 1), .ref (b + 2), .ref (b + 17), .int (iZ 0), .ref (b + 159), .ref (b + 423), .null, .null, .null, .null, .null]))) rfl ?_
  obtain ⟨o4, l4, D4, K4, J4⟩ := bn_step (V0 := V) (s' := b + 517) (e' := .inr (5, [.ref (b + 1), .ref (b + 2), .ref (b + 17), .int (iZ 0), .ref (b + 159), .ref (b + 423), .null, .null, .null, .null, .null])) (show b < b + 423 by omega) l3 hE3 hD3 (by omega)
  replace J1 : ∀ a, b + 2 ≤ a → a < b + 17 → AHu U3 b (.inr (5, [.ref (b + 1), .ref (b + 2), .ref (b + 17), .int (iZ 0), .ref (b + 159), .ref (b + 423), .null, .null, .null, .null, .null])) a = U0 a := fun a h1 h2 => (K4 a (by omega) (by omega)).trans (J1 a h1 h2)
  replace J2 : ∀ a, b + 17 ≤ a → a < b + 159 → AHu U3 b (.inr (5, [.ref (b + 1), .ref (b + 2), .ref (b + 17), .int (iZ 0), .ref (b + 159), .ref (b + 423), .null, .null, .null, .null, .null])) a = U1 a := fun a h1 h2 => (K4 a (by omega) (by omega)).trans (J2 a h1 h2)
  replace J3 : ∀ a, b + 159 ≤ a → a < b + 423 → AHu U3 b (.inr (5, [.ref (b + 1), .ref (b + 2), .ref (b + 17), .int (iZ 0), .ref (b + 159), .ref (b + 423), .null, .null, .null, .null, .null])) a = U2 a := fun a h1 h2 => (K4 a (by omega) (by omega)).trans (J3 a h1 h2)
  replace J4 : ∀ a, b + 423 ≤ a → a < b + 517 → AHu U3 b (.inr (5, [.ref (b + 1), .ref (b + 2), .ref (b + 17), .int (iZ 0), .ref (b + 159), .ref (b + 423), .null, .null, .null, .null, .null])) a = U3 a := fun a h1 h2 => J4 a h1
  replace T0 := (K4 (b + 1) (by omega) (by omega)).trans T0
  refine aw_sz (sz1 := b + 517) (by omega) ?_
  generalize AHu U3 b (.inr (5, [.ref (b + 1), .ref (b + 2), .ref (b + 17), .int (iZ 0), .ref (b + 159), .ref (b + 423), .null, .null, .null, .null, .null])) = W4 at *
  refine aw_aload_n dX5_init_72 (by rfl) (Or.inr ⟨_, rfl⟩) ?_
  refine aw_new nfX5_22 dX5_init_73 ?_
  refine aw_dup dX5_init_76 rfl ?_
  refine aw_bipushZ dX5_init_77 (by decide) ?_
  refine aw_iconstZ dX5_init_79 ?_
  refine aw_calli iX5_24 dX5_init_80 (t_newGC g d (V := AHu W4 (b + 517) (.inr (1, [.null, .null, .null, .null, .null, .int (iZ 0), .int (iZ 0)]))) (t0 := b + 517) (AHu_self _ _ _) (DL.nw D4)) (by rfl) (by rfl) (by omega) (Nat.le_of_ble_eq_true rfl) ?_
  rintro _ U4 _ _ _ ⟨rfl, rfl, rfl, rfl, hE4, hD4, hF4⟩ -
  refine aw_putF fX5_41 rfl rfl dX5_init_83 ((hE4 b (by omega) (by omega)).trans ((AHu_ne (by omega)).trans o4)) (by rfl) (by rfl) (Nat.le_of_ble_eq_true rfl) ?_
  refine aw_V (V' := AHu U4 b (.inr (5, [.ref (b + 1), .ref (b + 2), .ref (b + 17), .int (iZ 0), .ref (b + 159), .ref (b + 423), .ref (b + 517), .null, .null, .null, .null]))) rfl ?_
  obtain ⟨o5, l5, D5, K5, J5⟩ := bn_step (V0 := V) (s' := b + 611) (e' := .inr (5, [.ref (b + 1), .ref (b + 2), .ref (b + 17), .int (iZ 0), .ref (b + 159), .ref (b + 423), .ref (b + 517), .null, .null, .null, .null])) (show b < b + 517 by omega) l4 hE4 hD4 (by omega)
  replace J1 : ∀ a, b + 2 ≤ a → a < b + 17 → AHu U4 b (.inr (5, [.ref (b + 1), .ref (b + 2), .ref (b + 17), .int (iZ 0), .ref (b + 159), .ref (b + 423), .ref (b + 517), .null, .null, .null, .null])) a = U0 a := fun a h1 h2 => (K5 a (by omega) (by omega)).trans (J1 a h1 h2)
  replace J2 : ∀ a, b + 17 ≤ a → a < b + 159 → AHu U4 b (.inr (5, [.ref (b + 1), .ref (b + 2), .ref (b + 17), .int (iZ 0), .ref (b + 159), .ref (b + 423), .ref (b + 517), .null, .null, .null, .null])) a = U1 a := fun a h1 h2 => (K5 a (by omega) (by omega)).trans (J2 a h1 h2)
  replace J3 : ∀ a, b + 159 ≤ a → a < b + 423 → AHu U4 b (.inr (5, [.ref (b + 1), .ref (b + 2), .ref (b + 17), .int (iZ 0), .ref (b + 159), .ref (b + 423), .ref (b + 517), .null, .null, .null, .null])) a = U2 a := fun a h1 h2 => (K5 a (by omega) (by omega)).trans (J3 a h1 h2)
  replace J4 : ∀ a, b + 423 ≤ a → a < b + 517 → AHu U4 b (.inr (5, [.ref (b + 1), .ref (b + 2), .ref (b + 17), .int (iZ 0), .ref (b + 159), .ref (b + 423), .ref (b + 517), .null, .null, .null, .null])) a = U3 a := fun a h1 h2 => (K5 a (by omega) (by omega)).trans (J4 a h1 h2)
  replace J5 : ∀ a, b + 517 ≤ a → a < b + 611 → AHu U4 b (.inr (5, [.ref (b + 1), .ref (b + 2), .ref (b + 17), .int (iZ 0), .ref (b + 159), .ref (b + 423), .ref (b + 517), .null, .null, .null, .null])) a = U4 a := fun a h1 h2 => J5 a h1
  replace T0 := (K5 (b + 1) (by omega) (by omega)).trans T0
  refine aw_sz (sz1 := b + 611) (by omega) ?_
  generalize AHu U4 b (.inr (5, [.ref (b + 1), .ref (b + 2), .ref (b + 17), .int (iZ 0), .ref (b + 159), .ref (b + 423), .ref (b + 517), .null, .null, .null, .null])) = W5 at *
  refine aw_aload_n dX5_init_86 (by rfl) (Or.inr ⟨_, rfl⟩) ?_
  refine aw_new nfX5_44 dX5_init_87 ?_
  refine aw_dup dX5_init_90 rfl ?_
  refine aw_bipushZ dX5_init_91 (by decide) ?_
  refine aw_calli iX5_46 dX5_init_93 (t_newR g (d + 1) (n := 10) (V := AHu W5 (b + 611) (.inr (2, [.null]))) (ro := b + 611) (by omega) (AHu_self _ _ _) (DL.nw D5)) (by rfl) (by rfl) (by omega) (Nat.le_of_ble_eq_true rfl) ?_
  rintro _ U5 _ _ _ ⟨rfl, rfl, rfl, rfl, hE5, hD5, hF5⟩ -
  refine aw_putF fX5_49 rfl rfl dX5_init_96 ((hE5 b (by omega) (by omega)).trans ((AHu_ne (by omega)).trans o5)) (by rfl) (by rfl) (Nat.le_of_ble_eq_true rfl) ?_
  refine aw_V (V' := AHu U5 b (.inr (5, [.ref (b + 1), .ref (b + 2), .ref (b + 17), .int (iZ 0), .ref (b + 159), .ref (b + 423), .ref (b + 517), .ref (b + 611), .null, .null, .null]))) rfl ?_
  obtain ⟨o6, l6, D6, K6, J6⟩ := bn_step (V0 := V) (s' := b + 633) (e' := .inr (5, [.ref (b + 1), .ref (b + 2), .ref (b + 17), .int (iZ 0), .ref (b + 159), .ref (b + 423), .ref (b + 517), .ref (b + 611), .null, .null, .null])) (show b < b + 611 by omega) l5 hE5 hD5 (by omega)
  replace J1 : ∀ a, b + 2 ≤ a → a < b + 17 → AHu U5 b (.inr (5, [.ref (b + 1), .ref (b + 2), .ref (b + 17), .int (iZ 0), .ref (b + 159), .ref (b + 423), .ref (b + 517), .ref (b + 611), .null, .null, .null])) a = U0 a := fun a h1 h2 => (K6 a (by omega) (by omega)).trans (J1 a h1 h2)
  replace J2 : ∀ a, b + 17 ≤ a → a < b + 159 → AHu U5 b (.inr (5, [.ref (b + 1), .ref (b + 2), .ref (b + 17), .int (iZ 0), .ref (b + 159), .ref (b + 423), .ref (b + 517), .ref (b + 611), .null, .null, .null])) a = U1 a := fun a h1 h2 => (K6 a (by omega) (by omega)).trans (J2 a h1 h2)
  replace J3 : ∀ a, b + 159 ≤ a → a < b + 423 → AHu U5 b (.inr (5, [.ref (b + 1), .ref (b + 2), .ref (b + 17), .int (iZ 0), .ref (b + 159), .ref (b + 423), .ref (b + 517), .ref (b + 611), .null, .null, .null])) a = U2 a := fun a h1 h2 => (K6 a (by omega) (by omega)).trans (J3 a h1 h2)
  replace J4 : ∀ a, b + 423 ≤ a → a < b + 517 → AHu U5 b (.inr (5, [.ref (b + 1), .ref (b + 2), .ref (b + 17), .int (iZ 0), .ref (b + 159), .ref (b + 423), .ref (b + 517), .ref (b + 611), .null, .null, .null])) a = U3 a := fun a h1 h2 => (K6 a (by omega) (by omega)).trans (J4 a h1 h2)
  replace J5 : ∀ a, b + 517 ≤ a → a < b + 611 → AHu U5 b (.inr (5, [.ref (b + 1), .ref (b + 2), .ref (b + 17), .int (iZ 0), .ref (b + 159), .ref (b + 423), .ref (b + 517), .ref (b + 611), .null, .null, .null])) a = U4 a := fun a h1 h2 => (K6 a (by omega) (by omega)).trans (J5 a h1 h2)
  replace J6 : ∀ a, b + 611 ≤ a → a < b + 633 → AHu U5 b (.inr (5, [.ref (b + 1), .ref (b + 2), .ref (b + 17), .int (iZ 0), .ref (b + 159), .ref (b + 423), .ref (b + 517), .ref (b + 611), .null, .null, .null])) a = U5 a := fun a h1 h2 => J6 a h1
  replace T0 := (K6 (b + 1) (by omega) (by omega)).trans T0
  refine aw_sz (sz1 := b + 633) (by omega) ?_
  generalize AHu U5 b (.inr (5, [.ref (b + 1), .ref (b + 2), .ref (b + 17), .int (iZ 0), .ref (b + 159), .ref (b + 423), .ref (b + 517), .ref (b + 611), .null, .null, .null])) = W6 at *
  refine aw_aload_n dX5_init_99 (by rfl) (Or.inr ⟨_, rfl⟩) ?_
  refine aw_new nfX5_44 dX5_init_100 ?_
  refine aw_dup dX5_init_103 rfl ?_
  refine aw_iconstZ dX5_init_104 ?_
  refine aw_calli iX5_46 dX5_init_105 (t_newR g (d + 1) (n := 5) (V := AHu W6 (b + 633) (.inr (2, [.null]))) (ro := b + 633) (by omega) (AHu_self _ _ _) (DL.nw D6)) (by rfl) (by rfl) (by omega) (Nat.le_of_ble_eq_true rfl) ?_
  rintro _ U6 _ _ _ ⟨rfl, rfl, rfl, rfl, hE6, hD6, hF6⟩ -
  refine aw_putF fX5_53 rfl rfl dX5_init_108 ((hE6 b (by omega) (by omega)).trans ((AHu_ne (by omega)).trans o6)) (by rfl) (by rfl) (Nat.le_of_ble_eq_true rfl) ?_
  refine aw_V (V' := AHu U6 b (.inr (5, [.ref (b + 1), .ref (b + 2), .ref (b + 17), .int (iZ 0), .ref (b + 159), .ref (b + 423), .ref (b + 517), .ref (b + 611), .ref (b + 633), .null, .null]))) rfl ?_
  obtain ⟨o7, l7, D7, K7, J7⟩ := bn_step (V0 := V) (s' := b + 645) (e' := .inr (5, [.ref (b + 1), .ref (b + 2), .ref (b + 17), .int (iZ 0), .ref (b + 159), .ref (b + 423), .ref (b + 517), .ref (b + 611), .ref (b + 633), .null, .null])) (show b < b + 633 by omega) l6 hE6 hD6 (by omega)
  replace J1 : ∀ a, b + 2 ≤ a → a < b + 17 → AHu U6 b (.inr (5, [.ref (b + 1), .ref (b + 2), .ref (b + 17), .int (iZ 0), .ref (b + 159), .ref (b + 423), .ref (b + 517), .ref (b + 611), .ref (b + 633), .null, .null])) a = U0 a := fun a h1 h2 => (K7 a (by omega) (by omega)).trans (J1 a h1 h2)
  replace J2 : ∀ a, b + 17 ≤ a → a < b + 159 → AHu U6 b (.inr (5, [.ref (b + 1), .ref (b + 2), .ref (b + 17), .int (iZ 0), .ref (b + 159), .ref (b + 423), .ref (b + 517), .ref (b + 611), .ref (b + 633), .null, .null])) a = U1 a := fun a h1 h2 => (K7 a (by omega) (by omega)).trans (J2 a h1 h2)
  replace J3 : ∀ a, b + 159 ≤ a → a < b + 423 → AHu U6 b (.inr (5, [.ref (b + 1), .ref (b + 2), .ref (b + 17), .int (iZ 0), .ref (b + 159), .ref (b + 423), .ref (b + 517), .ref (b + 611), .ref (b + 633), .null, .null])) a = U2 a := fun a h1 h2 => (K7 a (by omega) (by omega)).trans (J3 a h1 h2)
  replace J4 : ∀ a, b + 423 ≤ a → a < b + 517 → AHu U6 b (.inr (5, [.ref (b + 1), .ref (b + 2), .ref (b + 17), .int (iZ 0), .ref (b + 159), .ref (b + 423), .ref (b + 517), .ref (b + 611), .ref (b + 633), .null, .null])) a = U3 a := fun a h1 h2 => (K7 a (by omega) (by omega)).trans (J4 a h1 h2)
  replace J5 : ∀ a, b + 517 ≤ a → a < b + 611 → AHu U6 b (.inr (5, [.ref (b + 1), .ref (b + 2), .ref (b + 17), .int (iZ 0), .ref (b + 159), .ref (b + 423), .ref (b + 517), .ref (b + 611), .ref (b + 633), .null, .null])) a = U4 a := fun a h1 h2 => (K7 a (by omega) (by omega)).trans (J5 a h1 h2)
  replace J6 : ∀ a, b + 611 ≤ a → a < b + 633 → AHu U6 b (.inr (5, [.ref (b + 1), .ref (b + 2), .ref (b + 17), .int (iZ 0), .ref (b + 159), .ref (b + 423), .ref (b + 517), .ref (b + 611), .ref (b + 633), .null, .null])) a = U5 a := fun a h1 h2 => (K7 a (by omega) (by omega)).trans (J6 a h1 h2)
  replace J7 : ∀ a, b + 633 ≤ a → a < b + 645 → AHu U6 b (.inr (5, [.ref (b + 1), .ref (b + 2), .ref (b + 17), .int (iZ 0), .ref (b + 159), .ref (b + 423), .ref (b + 517), .ref (b + 611), .ref (b + 633), .null, .null])) a = U6 a := fun a h1 h2 => J7 a h1
  replace T0 := (K7 (b + 1) (by omega) (by omega)).trans T0
  refine aw_sz (sz1 := b + 645) (by omega) ?_
  generalize AHu U6 b (.inr (5, [.ref (b + 1), .ref (b + 2), .ref (b + 17), .int (iZ 0), .ref (b + 159), .ref (b + 423), .ref (b + 517), .ref (b + 611), .ref (b + 633), .null, .null])) = W7 at *
  refine aw_aload_n dX5_init_111 (by rfl) (Or.inr ⟨_, rfl⟩) ?_
  refine aw_bipushZ dX5_init_112 (by decide) ?_
  refine aw_newI (N := 25) dX5_init_114 (by decide) (by decide) (by omega) ?_
  refine aw_putF fX5_56 rfl rfl dX5_init_116 ((AHu_ne (by omega)).trans o7) (by rfl) (by rfl) (Nat.le_of_ble_eq_true rfl) ?_
  refine aw_V (V' := AHu (AHu W7 (b + 645) (aI g 25 (fun _ => 0))) b (.inr (5, [.ref (b + 1), .ref (b + 2), .ref (b + 17), .int (iZ 0), .ref (b + 159), .ref (b + 423), .ref (b + 517), .ref (b + 611), .ref (b + 633), .ref (b + 645), .null]))) rfl ?_
  refine aw_sz (sz1 := b + 646) (by omega) ?_
  refine aw_aload_n dX5_init_119 (by rfl) (Or.inr ⟨_, rfl⟩) ?_
  refine aw_bipushZ dX5_init_120 (by decide) ?_
  refine aw_newJ (N := 32) dX5_init_122 (by decide) (by decide) (by omega) ?_
  refine aw_putF fX5_60 rfl rfl dX5_init_124 ((AHu_ne (by omega)).trans (AHu_self _ _ _)) (by rfl) (by rfl) (Nat.le_of_ble_eq_true rfl) ?_
  refine aw_V (V' := AHu (AHu (AHu (AHu W7 (b + 645) (aI g 25 (fun _ => 0))) b (.inr (5, [.ref (b + 1), .ref (b + 2), .ref (b + 17), .int (iZ 0), .ref (b + 159), .ref (b + 423), .ref (b + 517), .ref (b + 611), .ref (b + 633), .ref (b + 645), .null]))) (b + 646) (aJ g 32 (fun _ => 0))) b (.inr (5, [.ref (b + 1), .ref (b + 2), .ref (b + 17), .int (iZ 0), .ref (b + 159), .ref (b + 423), .ref (b + 517), .ref (b + 611), .ref (b + 633), .ref (b + 645), .ref (b + 646)]))) rfl ?_
  refine aw_sz (sz1 := b + 647) (by omega) ?_
  refine aw_iconstZ dX5_init_127 ?_
  refine aw_istore_n dX5_init_128 (by decide) ?_
  have oX : (AHu (AHu (AHu (AHu W7 (b + 645) (aI g 25 (fun _ => 0))) b (.inr (5, [.ref (b + 1), .ref (b + 2), .ref (b + 17), .int (iZ 0), .ref (b + 159), .ref (b + 423), .ref (b + 517), .ref (b + 611), .ref (b + 633), .ref (b + 645), .null]))) (b + 646) (aJ g 32 (fun _ => 0))) b (.inr (5, [.ref (b + 1), .ref (b + 2), .ref (b + 17), .int (iZ 0), .ref (b + 159), .ref (b + 423), .ref (b + 517), .ref (b + 611), .ref (b + 633), .ref (b + 645), .ref (b + 646)]))) b = some (.inr (5, [.ref (b + 1), .ref (b + 2), .ref (b + 17), .int (iZ 0), .ref (b + 159), .ref (b + 423), .ref (b + 517), .ref (b + 611), .ref (b + 633), .ref (b + 645), .ref (b + 646)])) := AHu_self _ _ _
  have iX : (AHu (AHu (AHu (AHu W7 (b + 645) (aI g 25 (fun _ => 0))) b (.inr (5, [.ref (b + 1), .ref (b + 2), .ref (b + 17), .int (iZ 0), .ref (b + 159), .ref (b + 423), .ref (b + 517), .ref (b + 611), .ref (b + 633), .ref (b + 645), .null]))) (b + 646) (aJ g 32 (fun _ => 0))) b (.inr (5, [.ref (b + 1), .ref (b + 2), .ref (b + 17), .int (iZ 0), .ref (b + 159), .ref (b + 423), .ref (b + 517), .ref (b + 611), .ref (b + 633), .ref (b + 645), .ref (b + 646)]))) (b + 645) = some (aIz g 25 (fun _ => 0)) := by rw [AHu_ne (by omega), AHu_ne (by omega), AHu_ne (by omega), AHu_self]; rfl
  have jX : (AHu (AHu (AHu (AHu W7 (b + 645) (aI g 25 (fun _ => 0))) b (.inr (5, [.ref (b + 1), .ref (b + 2), .ref (b + 17), .int (iZ 0), .ref (b + 159), .ref (b + 423), .ref (b + 517), .ref (b + 611), .ref (b + 633), .ref (b + 645), .null]))) (b + 646) (aJ g 32 (fun _ => 0))) b (.inr (5, [.ref (b + 1), .ref (b + 2), .ref (b + 17), .int (iZ 0), .ref (b + 159), .ref (b + 423), .ref (b + 517), .ref (b + 611), .ref (b + 633), .ref (b + 645), .ref (b + 646)]))) (b + 646) = some (aJz g 32 (fun _ => 0)) := by rw [AHu_ne (by omega), AHu_self]; rfl
  have TX : (AHu (AHu (AHu (AHu W7 (b + 645) (aI g 25 (fun _ => 0))) b (.inr (5, [.ref (b + 1), .ref (b + 2), .ref (b + 17), .int (iZ 0), .ref (b + 159), .ref (b + 423), .ref (b + 517), .ref (b + 611), .ref (b + 633), .ref (b + 645), .null]))) (b + 646) (aJ g 32 (fun _ => 0))) b (.inr (5, [.ref (b + 1), .ref (b + 2), .ref (b + 17), .int (iZ 0), .ref (b + 159), .ref (b + 423), .ref (b + 517), .ref (b + 611), .ref (b + 633), .ref (b + 645), .ref (b + 646)]))) (b + 1) = some (aQ g 3 12 (fun _ => none)) := by rw [AHu_ne (by omega), AHu_ne (by omega), AHu_ne (by omega), AHu_ne (by omega)]; exact T0
  have lX : ∀ a, a < b → (AHu (AHu (AHu (AHu W7 (b + 645) (aI g 25 (fun _ => 0))) b (.inr (5, [.ref (b + 1), .ref (b + 2), .ref (b + 17), .int (iZ 0), .ref (b + 159), .ref (b + 423), .ref (b + 517), .ref (b + 611), .ref (b + 633), .ref (b + 645), .null]))) (b + 646) (aJ g 32 (fun _ => 0))) b (.inr (5, [.ref (b + 1), .ref (b + 2), .ref (b + 17), .int (iZ 0), .ref (b + 159), .ref (b + 423), .ref (b + 517), .ref (b + 611), .ref (b + 633), .ref (b + 645), .ref (b + 646)]))) a = V a := fun a ha => by rw [AHu_ne (by omega), AHu_ne (by omega), AHu_ne (by omega), AHu_ne (by omega)]; exact l7 a ha
  have KX : ∀ a, b < a → a < b + 645 → (AHu (AHu (AHu (AHu W7 (b + 645) (aI g 25 (fun _ => 0))) b (.inr (5, [.ref (b + 1), .ref (b + 2), .ref (b + 17), .int (iZ 0), .ref (b + 159), .ref (b + 423), .ref (b + 517), .ref (b + 611), .ref (b + 633), .ref (b + 645), .null]))) (b + 646) (aJ g 32 (fun _ => 0))) b (.inr (5, [.ref (b + 1), .ref (b + 2), .ref (b + 17), .int (iZ 0), .ref (b + 159), .ref (b + 423), .ref (b + 517), .ref (b + 611), .ref (b + 633), .ref (b + 645), .ref (b + 646)]))) a = W7 a := fun a h1 h2 => by rw [AHu_ne (by omega), AHu_ne (by omega), AHu_ne (by omega), AHu_ne (by omega)]
  have DX : DL (AHu (AHu (AHu (AHu W7 (b + 645) (aI g 25 (fun _ => 0))) b (.inr (5, [.ref (b + 1), .ref (b + 2), .ref (b + 17), .int (iZ 0), .ref (b + 159), .ref (b + 423), .ref (b + 517), .ref (b + 611), .ref (b + 633), .ref (b + 645), .null]))) (b + 646) (aJ g 32 (fun _ => 0))) b (.inr (5, [.ref (b + 1), .ref (b + 2), .ref (b + 17), .int (iZ 0), .ref (b + 159), .ref (b + 423), .ref (b + 517), .ref (b + 611), .ref (b + 633), .ref (b + 645), .ref (b + 646)]))) (b + 647) := (DL.nw ((DL.nw D7).upd (by omega))).upd (by omega)
  generalize AHu (AHu (AHu (AHu W7 (b + 645) (aI g 25 (fun _ => 0))) b (.inr (5, [.ref (b + 1), .ref (b + 2), .ref (b + 17), .int (iZ 0), .ref (b + 159), .ref (b + 423), .ref (b + 517), .ref (b + 611), .ref (b + 633), .ref (b + 645), .null]))) (b + 646) (aJ g 32 (fun _ => 0))) b (.inr (5, [.ref (b + 1), .ref (b + 2), .ref (b + 17), .int (iZ 0), .ref (b + 159), .ref (b + 423), .ref (b + 517), .ref (b + 611), .ref (b + 633), .ref (b + 645), .ref (b + 646)])) = WX at *
  refine aw_pk [1, 0] (by rfl) ?_
  refine AW.mono (fun r V' sz' dc ds h => ?_) (bn_loop g d (VL := WX) oX 12 0 (by omega) (sz := b + 647) (by omega) (by rw [TX]; congr 3) (fun e he => absurd he (by omega)) (fun _ _ _ => rfl) DX)
  obtain ⟨x1, x2, x3, x4, x5, x6, x7, x8⟩ := h
  have EQ : ∀ a, b < a → a ≠ b + 1 → a < b + 645 → V' a = W7 a := fun a h1 h2 h3 => (x7 a (by omega) h2).trans (KX a h1 h3)
  have Q1 : ∀ a, b + 2 ≤ a → a < b + 17 → V' a = U0 a := fun a h1 h2 => (EQ a (by omega) (by omega) (by omega)).trans (J1 a h1 h2)
  have Q2 : ∀ a, b + 17 ≤ a → a < b + 159 → V' a = U1 a := fun a h1 h2 => (EQ a (by omega) (by omega) (by omega)).trans (J2 a h1 h2)
  have Q3 : ∀ a, b + 159 ≤ a → a < b + 423 → V' a = U2 a := fun a h1 h2 => (EQ a (by omega) (by omega) (by omega)).trans (J3 a h1 h2)
  have Q4 : ∀ a, b + 423 ≤ a → a < b + 517 → V' a = U3 a := fun a h1 h2 => (EQ a (by omega) (by omega) (by omega)).trans (J4 a h1 h2)
  have Q5 : ∀ a, b + 517 ≤ a → a < b + 611 → V' a = U4 a := fun a h1 h2 => (EQ a (by omega) (by omega) (by omega)).trans (J5 a h1 h2)
  have Q6 : ∀ a, b + 611 ≤ a → a < b + 633 → V' a = U5 a := fun a h1 h2 => (EQ a (by omega) (by omega) (by omega)).trans (J6 a h1 h2)
  have Q7 : ∀ a, b + 633 ≤ a → a < b + 645 → V' a = U6 a := fun a h1 h2 => (EQ a (by omega) (by omega) (by omega)).trans (J7 a h1 h2)
  obtain ⟨f1, f2, f3, f4⟩ := hF0
  refine ⟨x1, by omega, by omega, by omega, fun a h1 h2 => (x7 a (by omega) (by omega)).trans (lX a (by omega)), x8, (x7 b (by omega) (by omega)).trans oX, x5, x6, (Q1 _ (by omega) (by omega)).trans f1, ⟨(Q1 _ (by omega) (by omega)).trans f3, (Q1 _ (by omega) (by omega)).trans f4⟩, fun i hi h2 => ?_, GDN.kept (V := U1) hF1 (fun a h1 h2 => Q2 a h1 (by omega)), GDN.kept (V := U2) hF2 (fun a h1 h2 => Q3 a h1 (by omega)), GDN.kept (V := U3) hF3 (fun a h1 h2 => Q4 a h1 (by omega)), GDN.kept (V := U4) hF4 (fun a h1 h2 => Q5 a h1 (by omega)), ⟨hF5.1.kept (Q6 _ (by omega) (by omega)) (Q6 _ (by omega) (by omega)), fun j hj => (hF5.2 j hj).kept (Q6 _ (by omega) (by omega)) (Q6 _ (by omega) (by omega))⟩, ⟨hF6.1.kept (Q7 _ (by omega) (by omega)) (Q7 _ (by omega) (by omega)), fun j hj => (hF6.2 j hj).kept (Q7 _ (by omega) (by omega)) (Q7 _ (by omega) (by omega))⟩, (x7 _ (by omega) (by omega)).trans iX, (x7 _ (by omega) (by omega)).trans jX⟩
  have h9 := f2 i hi h2
  rw [show b + 2 + 1 + 2 * i = b + 3 + 2 * i by omega] at h9
  exact h9.kept (Q1 _ (by omega) (by omega)) (Q1 _ (by omega) (by omega))
