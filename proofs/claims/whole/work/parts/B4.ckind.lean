/-! ===== the class: about ===== -/
theorem tmod_pos {a p : Int} (ha : 0 ≤ a) (hp : 0 < p) : a.tmod p = 0 ↔ p ∣ a := by
  rw [Int.tmod_eq_emod_of_nonneg ha]
  exact ⟨Int.dvd_of_emod_eq_zero, Int.emod_eq_zero_of_dvd⟩
/-- each number of the diagonal divides the next -/
def ChP (N : Nat → Int) (st : Nat) : Prop := ∀ k, k + 1 < st → N (5 * k + k) ∣ N (5 * (k + 1) + (k + 1))
theorem hch_loop (g : GX) (d : Nat) {V : AH} {sz tb na ta st : Nat} {rr cc q : Int} {N : Nat → Int} (hT1 : V tb = some (tbO rr cc na ta)) (hT2 : V na = some (aIz g 25 N)) (hst : st ≤ 5) (hN : ∀ k, k < 25 → -1000 ≤ N k ∧ N k ≤ 1000) (hp : ∀ k, k < st → 0 < N (5 * k + k)) (hq : (q = 1 ∧ ChP N st) ∨ (q = 0 ∧ ¬ ChP N st)) : ∀ (f k : Nat), (k + 1 + f = st ∨ (f = 0 ∧ st ≤ k + 1 ∧ k ≤ 5)) → (∀ i, i < k → i + 1 < st → N (5 * i + i) ∣ N (5 * (i + 1) + (i + 1))) → AW g mX3_hasChain d 2 [(2, .int (iZ (k : Int))), (0, .ref tb), (1, .int (iZ (st : Int)))] [] V sz (Ex (some (.int (iZ q))) V sz 0 0)
  | 0, k, hf, hI => by
    refine aw_iload_n dX3_hasChain_2 (by rfl) ?_
    refine aw_iconstZ dX3_hasChain_3 ?_
    refine aw_iaddZ dX3_hasChain_4 ?_
    refine aw_iload_n dX3_hasChain_5 (by rfl) ?_
    refine aw_icmp_geZ (tgt := 51) dX3_hasChain_6 (by decide) (by omega) (by omega) (fun hc_6 => ?_) (fun hc_6 => ?_)
    · refine aw_iconstZ dX3_hasChain_51 ?_
      refine aw_iret dX3_hasChain_52 rfl (by rfl) ?_
      rcases hq with ⟨rfl, h2⟩ | ⟨rfl, h2⟩
      · exact ⟨rfl, rfl, rfl, rfl, rfl⟩
      · exact absurd (fun i hi => hI i (by omega) hi) h2
    · exact absurd hc_6 (by omega)
  | f + 1, k, hf, hI => by
    have IH := fun k hk => @hch_loop g d V sz tb na ta st rr cc q N hT1 hT2 hst hN hp hq f k hk
    have p1 := hp k (by omega)
    have p2 := hp (k + 1) (by omega)
    have n1 := hN (5 * k + k) (by omega)
    have n2 := hN (5 * (k + 1) + (k + 1)) (by omega)
    refine aw_iload_n dX3_hasChain_2 (by rfl) ?_
    refine aw_iconstZ dX3_hasChain_3 ?_
    refine aw_iaddZ dX3_hasChain_4 ?_
    refine aw_iload_n dX3_hasChain_5 (by rfl) ?_
    refine aw_icmp_geZ (tgt := 51) dX3_hasChain_6 (by decide) (by omega) (by omega) (fun hc_6 => ?_) (fun hc_6 => ?_)
    · exact absurd hc_6 (by omega)
    · refine aw_aload_n dX3_hasChain_9 (by rfl) (Or.inr ⟨_, rfl⟩) ?_
      refine aw_get fX3_18 dX3_hasChain_10 hT1 (by rfl) ?_
      refine aw_iload_n dX3_hasChain_13 (by rfl) ?_
      refine aw_iconstZ dX3_hasChain_14 ?_
      refine aw_imulZ dX3_hasChain_15 ?_
      refine aw_iload_n dX3_hasChain_16 (by rfl) ?_
      refine aw_iaddZ dX3_hasChain_17 ?_
      refine aw_ialdZ (5 * k + k) dX3_hasChain_18 hT2 (by omega) (by omega) (by omega) ?_
      refine aw_istore_n dX3_hasChain_19 (by decide) ?_
      refine aw_iload_n dX3_hasChain_20 (by rfl) ?_
      refine aw_if_eqZ (tgt := 43) dX3_hasChain_21 (by decide) (by omega) (fun hc_21 => ?_) (fun hc_21 => ?_)
      · exact absurd hc_21 (by omega)
      · refine aw_aload_n dX3_hasChain_24 (by rfl) (Or.inr ⟨_, rfl⟩) ?_
        refine aw_get fX3_18 dX3_hasChain_25 hT1 (by rfl) ?_
        refine aw_iload_n dX3_hasChain_28 (by rfl) ?_
        refine aw_iconstZ dX3_hasChain_29 ?_
        refine aw_iaddZ dX3_hasChain_30 ?_
        refine aw_iconstZ dX3_hasChain_31 ?_
        refine aw_imulZ dX3_hasChain_32 ?_
        refine aw_iload_n dX3_hasChain_33 (by rfl) ?_
        refine aw_iaddZ dX3_hasChain_34 ?_
        refine aw_iconstZ dX3_hasChain_35 ?_
        refine aw_iaddZ dX3_hasChain_36 ?_
        refine aw_ialdZ (5 * (k + 1) + (k + 1)) dX3_hasChain_37 hT2 (by omega) (by omega) (by omega) ?_
        refine aw_iload_n dX3_hasChain_38 (by rfl) ?_
        refine aw_iremZ dX3_hasChain_39 (by omega) (by omega) p1 ?_
        refine aw_if_eqZ (tgt := 45) dX3_hasChain_40 (by decide) (by rw [Int.tmod_eq_emod_of_nonneg (by omega)]; have := Int.emod_lt_of_pos (N (5 * (k + 1) + (k + 1))) p1; have := Int.emod_nonneg (N (5 * (k + 1) + (k + 1))) (show N (5 * k + k) ≠ 0 by omega); omega) (fun hc_40 => ?_) (fun hc_40 => ?_)
        · refine aw_iincZ dX3_hasChain_45 (by rfl) (by decide) ?_
          refine aw_goto (tgt := 2) dX3_hasChain_48 (by decide) ?_
          rw [show ((k : Int) + 1) = ((k + 1 : Nat) : Int) by omega]
          refine aw_pk [2, 0, 1] (by rfl) ?_
          refine IH (k + 1) (by omega) (fun i hi h2 => ?_)
          by_cases e : i = k
          · rw [e]; exact (tmod_pos (by omega) p1).mp hc_40
          · exact hI i (by omega) h2
        · refine aw_iconstZ dX3_hasChain_43 ?_
          refine aw_iret dX3_hasChain_44 rfl (by rfl) ?_
          rcases hq with ⟨rfl, h2⟩ | ⟨rfl, h2⟩
          · exact absurd ((tmod_pos (by omega) p1).mpr (h2 k (by omega))) hc_40
          · exact ⟨rfl, rfl, rfl, rfl, rfl⟩
theorem t_hasChainB (g : GX) (d : Nat) {V : AH} {sz tb na ta st : Nat} {rr cc q : Int} {N : Nat → Int} (hT1 : V tb = some (tbO rr cc na ta)) (hT2 : V na = some (aIz g 25 N)) (hst : st ≤ 5) (hN : ∀ k, k < 25 → -1000 ≤ N k ∧ N k ≤ 1000) (hp : ∀ k, k < st → 0 < N (5 * k + k)) (hq : (q = 1 ∧ ChP N st) ∨ (q = 0 ∧ ¬ ChP N st)) : AMet g mX3_hasChain d [.ref tb, .int (iZ (st : Int))] V sz (Ex (some (.int (iZ q))) V sz 0 0) := by
  refine AMet.of rfl rfl (Nat.le_of_ble_eq_true rfl) ?_
  show AW g mX3_hasChain d 0 [(0, .ref tb), (1, .int (iZ (st : Int)))] [] V sz _
  refine aw_iconstZ dX3_hasChain_0 ?_
  refine aw_istore_n dX3_hasChain_1 (by decide) ?_
  refine aw_pk [2, 0, 1] (by rfl) ?_
  exact hch_loop g d hT1 hT2 hst hN hp hq (st - 1) 0 (by omega) (fun i hi => absurd hi (by omega))
/-- a table that is a STAIR, with rows of 0s behind it -/
def StP (S : TSt) (n h : Nat) (l : Nat → Nat) : Prop := h ≤ S.r n ∧ Stair (TM (S.N n)) h (S.c n) l ∧ ∀ i j, h ≤ i → i < S.r n → j < S.c n → S.N n (5 * i + j) = 0
/-- and a DIAGONAL -/
def DiP (S : TSt) (n h : Nat) (l : Nat → Nat) : Prop := StP S n h l ∧ (∀ i j, i < h → j < S.c n → i ≠ j → S.N n (5 * i + j) = 0) ∧ ChP (S.N n) h
def KndP (S : TSt) (n : Nat) (k : Int) : Prop := (k = 4 ∧ ∃ h l, DiP S n h l) ∨ (k = 3 ∧ (∃ h l, StP S n h l) ∧ ¬ ∃ h l, DiP S n h l) ∨ ((¬ ∃ h l, StP S n h l) ∧ ((k = 0 ∧ S.r n ≠ S.c n) ∨ (k = 2 ∧ TuP S n) ∨ (k = 1 ∧ S.r n = S.c n ∧ ¬ TuP S n)))
theorem rank_le {T B : Mat} {r h w : Nat} {l : Nat → Nat} (e : Ech B h w l) (hs : SpEq T r B h w) : h ≤ r := by
  by_cases q : r < h
  · exact absurd ((DVT.eq hs).mp (DVT.void q)) (ech_not0 e)
  · omega
theorem StP.sp {S : TSt} {n h : Nat} {l : Nat → Nat} (s : StP S n h l) : SpEq (TM (S.N n)) (S.r n) (TM (S.N n)) h (S.c n) := SpEq.of (fun i hi => by
  by_cases q : i < h
  · exact Span.row q
  · exact Span.zero.congr (fun j hj => (s.2.2 i j (by omega) hi hj).symm)) (fun i hi => Span.row (by have := s.1; omega))
/-- the STAIR of a table's lattice stands in the table just if it is one -/
theorem stp_iff {S : TSt} {n h : Nat} {l : Nat → Nat} {B : Mat} (s : Stair B h (S.c n) l) (hs : SpEq (TM (S.N n)) (S.r n) B h (S.c n)) : (∀ i j, i < S.r n → j < S.c n → if i < h then B i j = S.N n (5 * i + j) else S.N n (5 * i + j) = 0) ↔ ∃ h' l', StP S n h' l' := by
  have hr := rank_le s.1 hs
  constructor
  · intro z
    refine ⟨h, l, hr, s.cong (fun i hi j hj => ?_), fun i j h1 h2 h3 => ?_⟩
    · have := z i j (by omega) hj
      rw [if_pos hi] at this
      exact this.symm
    · have := z i j h2 h3
      rw [if_neg (by omega)] at this
      exact this
  · rintro ⟨h', l', k⟩ i j hi hj
    obtain ⟨e1, -, e3⟩ := stair_uniq k.2.1 s (k.sp.sy.tr hs)
    split
    · rename_i q
      exact (e3 i j (by omega) hj).symm
    · rename_i q
      exact k.2.2 i j (by omega) hi hj
theorem dip_iff {S : TSt} {n h : Nat} {l : Nat → Nat} {B : Mat} (s : Stair B h (S.c n) l) (hs : SpEq (TM (S.N n)) (S.r n) B h (S.c n)) (hw : ∃ h' l', StP S n h' l') : (∃ h' l', DiP S n h' l') ↔ (∀ i j, i < h → j < S.c n → (B i j ≠ 0 ↔ i = j)) ∧ ChP (S.N n) h := by
  obtain ⟨h', l', k⟩ := hw
  obtain ⟨e1, e2, e3⟩ := stair_uniq k.2.1 s (k.sp.sy.tr hs)
  subst e1
  have hle := s.1.le_w
  constructor
  · rintro ⟨h2, l2, k2, k3, k4⟩
    obtain ⟨f1, f2, f3⟩ := stair_uniq k2.2.1 s (k2.sp.sy.tr hs)
    subst f1
    refine ⟨fun i j hi hj => ⟨fun z => Classical.byContradiction (fun e => z ((e3 i j hi hj).symm.trans (k3 i j hi hj e))), fun e => ?_⟩, k4⟩
    subst e
    have h5 := s.1.1 i hi
    have h6 : l i = i := Classical.byContradiction (fun e => h5.2.1 ((e3 i (l i) hi h5.1).symm.trans (k3 i (l i) hi h5.1 (fun z => e z.symm))))
    rw [h6] at h5
    exact h5.2.1
  · rintro ⟨z, hc⟩
    exact ⟨h', l', k, fun i j hi hj e => (e3 i j hi hj).trans (Classical.byContradiction (fun y => e ((z i j hi hj).mp y))), hc⟩
/-- what kindOf answers -/
def KfQ (g : GX) (b : Nat) (S : TSt) (n : Nat) (V : AH) (sz : Nat) : AQ := fun r V' sz' mc ms => ∃ (F : Nat → Int) (k : Int), some (.int (iZ k)) = r ∧ KndP S n k ∧ V' = AHu V (b + 646) (aJz g 32 F) ∧ sz' = sz ∧ mc = 0 ∧ ms = 0
abbrev mX5_kindOf : MI := (yX5_kindOf, cX5_kindOf, 3, (some FieldType.int), noX)
theorem dX5_kindOf_0 : decode cX5_kindOf 0 = .ok (.aload_n 2, 1) := by decide +kernel
theorem dX5_kindOf_1 : decode cX5_kindOf 1 = .ok (.aload_n 1, 1) := by decide +kernel
theorem dX5_kindOf_2 : decode cX5_kindOf 2 = .ok (.invokevirtual 241, 3) := by decide +kernel
theorem dX5_kindOf_5 : decode cX5_kindOf 5 = .ok (.ifCond .eq 27, 3) := by decide +kernel
theorem dX5_kindOf_8 : decode cX5_kindOf 8 = .ok (.aload_n 2, 1) := by decide +kernel
theorem dX5_kindOf_9 : decode cX5_kindOf 9 = .ok (.invokevirtual 244, 3) := by decide +kernel
theorem dX5_kindOf_12 : decode cX5_kindOf 12 = .ok (.ifCond .eq 18, 3) := by decide +kernel
theorem dX5_kindOf_15 : decode cX5_kindOf 15 = .ok (.aload_n 1, 1) := by decide +kernel
theorem dX5_kindOf_16 : decode cX5_kindOf 16 = .ok (.aload_n 2, 1) := by decide +kernel
theorem dX5_kindOf_17 : decode cX5_kindOf 17 = .ok (.getfield 111, 3) := by decide +kernel
theorem dX5_kindOf_20 : decode cX5_kindOf 20 = .ok (.invokevirtual 248, 3) := by decide +kernel
theorem dX5_kindOf_23 : decode cX5_kindOf 23 = .ok (.ifCond .eq 7, 3) := by decide +kernel
theorem dX5_kindOf_26 : decode cX5_kindOf 26 = .ok (.iconst 4, 1) := by decide +kernel
theorem dX5_kindOf_27 : decode cX5_kindOf 27 = .ok (.goto 4, 3) := by decide +kernel
theorem dX5_kindOf_30 : decode cX5_kindOf 30 = .ok (.iconst 3, 1) := by decide +kernel
theorem dX5_kindOf_31 : decode cX5_kindOf 31 = .ok (.ireturn, 1) := by decide +kernel
theorem dX5_kindOf_32 : decode cX5_kindOf 32 = .ok (.aload_n 1, 1) := by decide +kernel
theorem dX5_kindOf_33 : decode cX5_kindOf 33 = .ok (.getfield 96, 3) := by decide +kernel
theorem dX5_kindOf_36 : decode cX5_kindOf 36 = .ok (.aload_n 1, 1) := by decide +kernel
theorem dX5_kindOf_37 : decode cX5_kindOf 37 = .ok (.getfield 79, 3) := by decide +kernel
theorem dX5_kindOf_40 : decode cX5_kindOf 40 = .ok (.if_icmp .eq 5, 3) := by decide +kernel
theorem dX5_kindOf_43 : decode cX5_kindOf 43 = .ok (.iconst 0, 1) := by decide +kernel
theorem dX5_kindOf_44 : decode cX5_kindOf 44 = .ok (.ireturn, 1) := by decide +kernel
theorem dX5_kindOf_45 : decode cX5_kindOf 45 = .ok (.aload_n 0, 1) := by decide +kernel
theorem dX5_kindOf_46 : decode cX5_kindOf 46 = .ok (.aload_n 1, 1) := by decide +kernel
theorem dX5_kindOf_47 : decode cX5_kindOf 47 = .ok (.invokevirtual 181, 3) := by decide +kernel
theorem dX5_kindOf_50 : decode cX5_kindOf 50 = .ok (.ifCond .eq 7, 3) := by decide +kernel
theorem dX5_kindOf_53 : decode cX5_kindOf 53 = .ok (.iconst 2, 1) := by decide +kernel
theorem dX5_kindOf_54 : decode cX5_kindOf 54 = .ok (.goto 4, 3) := by decide +kernel
theorem dX5_kindOf_57 : decode cX5_kindOf 57 = .ok (.iconst 1, 1) := by decide +kernel
theorem dX5_kindOf_58 : decode cX5_kindOf 58 = .ok (.ireturn, 1) := by decide +kernel
set_option maxRecDepth 20000 in
theorem t_kindOf {g : GX} {b : Nat} {X : Nat → Prop} {V : AH} {sz : Nat} {Z : Nat → Int} {S : TSt} {A : ASt} (d : Nat) {n h1 : Nat} {ld : Nat → Int} {l ρ : Nat → Nat} {P L : Nat → Nat} (hw0 : WG g (wsB b) (SAB b X) V sz Z P L) (h : CX g b X V Z S A) (hn : n < 12) (hr : 0 < S.r n) (hg : GSp g b V Z (GWd b) (TM (S.N n)) (S.r n) (S.c n) h1 ld l ρ) : AMet g mX5_kindOf (d + 3) [.ref b, .ref (b + 647 + 3 * n), .ref (b + 159)] V sz (KfQ g b S n V sz) := by
  obtain ⟨⟨hb, hb1⟩, hTb, hOk, -⟩ := id h
  obtain ⟨hr5, hc5, -, qx, -⟩ := hOk n hn
  obtain ⟨x1, x2, x3⟩ := id (hTb n hn)
  obtain ⟨F0, hMi⟩ := h.2.2.2.2.2.2.2.2.2.2.2.2
  have wgd : V (b + 159) = some (grO (b + 159 + 21) (b + 159 + 20) (b + 159 + 1) (b + 159 + 16) (b + 159 + 18) h1 (S.c n)) := hg.1.1
  have hle := hg.2.2.1.1.le_w
  have hrk := rank_le hg.2.2.1.1 hg.2.2.2
  have hiff := stp_iff hg.2.2.1 hg.2.2.2
  by_cases hw : ∀ i j, i < S.r n → j < S.c n → if i < h1 then AM (GWd b) Z ρ i j = S.N n (5 * i + j) else S.N n (5 * i + j) = 0
  · have hS := hiff.mp hw
    by_cases hd : ∀ i j, i < h1 → j < S.c n → (AM (GWd b) Z ρ i j ≠ 0 ↔ i = j)
    · have hpp : ∀ k, k < h1 → 0 < S.N n (5 * k + k) := fun k hk => by
        have h5 := hg.2.2.1.1.1 k hk
        have h6 : l k = k := ((hd k (l k) hk h5.1).mp h5.2.1).symm
        have h7 := hg.2.2.1.2.1 k hk
        rw [h6] at h7
        have h8 := hw k k (by omega) (by omega)
        rw [if_pos hk] at h8
        omega
      by_cases hch : ChP (S.N n) h1
      · skip
        refine AMet.of rfl rfl (Nat.le_of_ble_eq_true rfl) ?_
        show AW g mX5_kindOf (d + 3) 0 [(0, .ref b), (1, .ref (b + 647 + 3 * n)), (2, .ref (b + 159))] [] V sz _
        refine aw_aload_n dX5_kindOf_0 (by rfl) (Or.inr ⟨_, rfl⟩) ?_
        refine aw_aload_n dX5_kindOf_1 (by rfl) (Or.inr ⟨_, rfl⟩) ?_
        refine aw_callv vX5_241 dX5_kindOf_2 wgd (t_isWrittenIn g (d + 0) (D := DG (b + 159)) (G := GWd b) (b := 1) hw0 (gso_W b X) hg.1 (show h1 ≤ 11 by omega) (show S.c n ≤ 10 by omega) (hTb n hn) qx ⟨hr5, hc5⟩ (Or.inl ⟨rfl, hw⟩)) (by rfl) (by rfl) (by omega) (Nat.le_of_ble_eq_true rfl) ?_
        rintro _ _ _ _ _ ⟨rfl, rfl, rfl, rfl, rfl⟩ -
        refine q0 ?_
        refine aw_if_eqZ (tgt := 32) dX5_kindOf_5 (by decide) (by decide) (fun hc_5 => ?_) (fun hc_5 => ?_)
        · exact absurd hc_5 (by decide)
        · refine aw_aload_n dX5_kindOf_8 (by rfl) (Or.inr ⟨_, rfl⟩) ?_
          refine aw_callv vX5_244 dX5_kindOf_9 wgd (t_isDiagonal g (d + 2) (D := DG (b + 159)) (G := GWd b) (b := 1) hw0 (gso_W b X) hg.1 (show h1 ≤ 11 by omega) (show S.c n ≤ 10 by omega) (Or.inl ⟨rfl, hd⟩)) (by rfl) (by rfl) (by omega) (Nat.le_of_ble_eq_true rfl) ?_
          rintro _ _ _ _ _ ⟨rfl, rfl, rfl, rfl, rfl⟩ -
          refine q0 ?_
          refine aw_if_eqZ (tgt := 30) dX5_kindOf_12 (by decide) (by decide) (fun hc_12 => ?_) (fun hc_12 => ?_)
          · exact absurd hc_12 (by decide)
          · refine aw_aload_n dX5_kindOf_15 (by rfl) (Or.inr ⟨_, rfl⟩) ?_
            refine aw_aload_n dX5_kindOf_16 (by rfl) (Or.inr ⟨_, rfl⟩) ?_
            refine aw_get fX5_111 dX5_kindOf_17 wgd (by rfl) ?_
            refine aw_callv vX5_248 dX5_kindOf_20 x1 (t_hasChainB g (d + 2) (st := h1) (q := 1) x1 x2 (by omega) qx hpp (Or.inl ⟨rfl, hch⟩)) (by rfl) (by rfl) (by omega) (Nat.le_of_ble_eq_true rfl) ?_
            rintro _ _ _ _ _ ⟨rfl, rfl, rfl, rfl, rfl⟩ -
            refine q0 ?_
            refine aw_if_eqZ (tgt := 30) dX5_kindOf_23 (by decide) (by decide) (fun hc_23 => ?_) (fun hc_23 => ?_)
            · exact absurd hc_23 (by decide)
            · refine aw_iconstZ dX5_kindOf_26 ?_
              refine aw_goto (tgt := 31) dX5_kindOf_27 (by decide) ?_
              refine aw_iret dX5_kindOf_31 rfl (by rfl) ?_
              exact ⟨F0, 4, rfl, Or.inl ⟨rfl, (dip_iff hg.2.2.1 hg.2.2.2 hS).mpr ⟨hd, hch⟩⟩, ahu_of (fun _ _ => rfl) hMi, rfl, rfl, rfl⟩
      · skip
        refine AMet.of rfl rfl (Nat.le_of_ble_eq_true rfl) ?_
        show AW g mX5_kindOf (d + 3) 0 [(0, .ref b), (1, .ref (b + 647 + 3 * n)), (2, .ref (b + 159))] [] V sz _
        refine aw_aload_n dX5_kindOf_0 (by rfl) (Or.inr ⟨_, rfl⟩) ?_
        refine aw_aload_n dX5_kindOf_1 (by rfl) (Or.inr ⟨_, rfl⟩) ?_
        refine aw_callv vX5_241 dX5_kindOf_2 wgd (t_isWrittenIn g (d + 0) (D := DG (b + 159)) (G := GWd b) (b := 1) hw0 (gso_W b X) hg.1 (show h1 ≤ 11 by omega) (show S.c n ≤ 10 by omega) (hTb n hn) qx ⟨hr5, hc5⟩ (Or.inl ⟨rfl, hw⟩)) (by rfl) (by rfl) (by omega) (Nat.le_of_ble_eq_true rfl) ?_
        rintro _ _ _ _ _ ⟨rfl, rfl, rfl, rfl, rfl⟩ -
        refine q0 ?_
        refine aw_if_eqZ (tgt := 32) dX5_kindOf_5 (by decide) (by decide) (fun hc_5 => ?_) (fun hc_5 => ?_)
        · exact absurd hc_5 (by decide)
        · refine aw_aload_n dX5_kindOf_8 (by rfl) (Or.inr ⟨_, rfl⟩) ?_
          refine aw_callv vX5_244 dX5_kindOf_9 wgd (t_isDiagonal g (d + 2) (D := DG (b + 159)) (G := GWd b) (b := 1) hw0 (gso_W b X) hg.1 (show h1 ≤ 11 by omega) (show S.c n ≤ 10 by omega) (Or.inl ⟨rfl, hd⟩)) (by rfl) (by rfl) (by omega) (Nat.le_of_ble_eq_true rfl) ?_
          rintro _ _ _ _ _ ⟨rfl, rfl, rfl, rfl, rfl⟩ -
          refine q0 ?_
          refine aw_if_eqZ (tgt := 30) dX5_kindOf_12 (by decide) (by decide) (fun hc_12 => ?_) (fun hc_12 => ?_)
          · exact absurd hc_12 (by decide)
          · refine aw_aload_n dX5_kindOf_15 (by rfl) (Or.inr ⟨_, rfl⟩) ?_
            refine aw_aload_n dX5_kindOf_16 (by rfl) (Or.inr ⟨_, rfl⟩) ?_
            refine aw_get fX5_111 dX5_kindOf_17 wgd (by rfl) ?_
            refine aw_callv vX5_248 dX5_kindOf_20 x1 (t_hasChainB g (d + 2) (st := h1) (q := 0) x1 x2 (by omega) qx hpp (Or.inr ⟨rfl, hch⟩)) (by rfl) (by rfl) (by omega) (Nat.le_of_ble_eq_true rfl) ?_
            rintro _ _ _ _ _ ⟨rfl, rfl, rfl, rfl, rfl⟩ -
            refine q0 ?_
            refine aw_if_eqZ (tgt := 30) dX5_kindOf_23 (by decide) (by decide) (fun hc_23 => ?_) (fun hc_23 => ?_)
            · refine aw_iconstZ dX5_kindOf_30 ?_
              refine aw_iret dX5_kindOf_31 rfl (by rfl) ?_
              exact ⟨F0, 3, rfl, Or.inr (Or.inl ⟨rfl, hS, fun z => hch ((dip_iff hg.2.2.1 hg.2.2.2 hS).mp z).2⟩), ahu_of (fun _ _ => rfl) hMi, rfl, rfl, rfl⟩
            · exact absurd rfl hc_23
    · skip
      refine AMet.of rfl rfl (Nat.le_of_ble_eq_true rfl) ?_
      show AW g mX5_kindOf (d + 3) 0 [(0, .ref b), (1, .ref (b + 647 + 3 * n)), (2, .ref (b + 159))] [] V sz _
      refine aw_aload_n dX5_kindOf_0 (by rfl) (Or.inr ⟨_, rfl⟩) ?_
      refine aw_aload_n dX5_kindOf_1 (by rfl) (Or.inr ⟨_, rfl⟩) ?_
      refine aw_callv vX5_241 dX5_kindOf_2 wgd (t_isWrittenIn g (d + 0) (D := DG (b + 159)) (G := GWd b) (b := 1) hw0 (gso_W b X) hg.1 (show h1 ≤ 11 by omega) (show S.c n ≤ 10 by omega) (hTb n hn) qx ⟨hr5, hc5⟩ (Or.inl ⟨rfl, hw⟩)) (by rfl) (by rfl) (by omega) (Nat.le_of_ble_eq_true rfl) ?_
      rintro _ _ _ _ _ ⟨rfl, rfl, rfl, rfl, rfl⟩ -
      refine q0 ?_
      refine aw_if_eqZ (tgt := 32) dX5_kindOf_5 (by decide) (by decide) (fun hc_5 => ?_) (fun hc_5 => ?_)
      · exact absurd hc_5 (by decide)
      · refine aw_aload_n dX5_kindOf_8 (by rfl) (Or.inr ⟨_, rfl⟩) ?_
        refine aw_callv vX5_244 dX5_kindOf_9 wgd (t_isDiagonal g (d + 2) (D := DG (b + 159)) (G := GWd b) (b := 0) hw0 (gso_W b X) hg.1 (show h1 ≤ 11 by omega) (show S.c n ≤ 10 by omega) (Or.inr ⟨rfl, hd⟩)) (by rfl) (by rfl) (by omega) (Nat.le_of_ble_eq_true rfl) ?_
        rintro _ _ _ _ _ ⟨rfl, rfl, rfl, rfl, rfl⟩ -
        refine q0 ?_
        refine aw_if_eqZ (tgt := 30) dX5_kindOf_12 (by decide) (by decide) (fun hc_12 => ?_) (fun hc_12 => ?_)
        · refine aw_iconstZ dX5_kindOf_30 ?_
          refine aw_iret dX5_kindOf_31 rfl (by rfl) ?_
          exact ⟨F0, 3, rfl, Or.inr (Or.inl ⟨rfl, hS, fun z => hd ((dip_iff hg.2.2.1 hg.2.2.2 hS).mp z).1⟩), ahu_of (fun _ _ => rfl) hMi, rfl, rfl, rfl⟩
        · exact absurd rfl hc_12
  · have hS : ¬ ∃ h' l', StP S n h' l' := fun z => hw (hiff.mpr z)
    by_cases hT : TuP S n
    · skip
      refine AMet.of rfl rfl (Nat.le_of_ble_eq_true rfl) ?_
      show AW g mX5_kindOf (d + 3) 0 [(0, .ref b), (1, .ref (b + 647 + 3 * n)), (2, .ref (b + 159))] [] V sz _
      refine aw_aload_n dX5_kindOf_0 (by rfl) (Or.inr ⟨_, rfl⟩) ?_
      refine aw_aload_n dX5_kindOf_1 (by rfl) (Or.inr ⟨_, rfl⟩) ?_
      refine aw_callv vX5_241 dX5_kindOf_2 wgd (t_isWrittenIn g (d + 0) (D := DG (b + 159)) (G := GWd b) (b := 0) hw0 (gso_W b X) hg.1 (show h1 ≤ 11 by omega) (show S.c n ≤ 10 by omega) (hTb n hn) qx ⟨hr5, hc5⟩ (Or.inr ⟨rfl, hw⟩)) (by rfl) (by rfl) (by omega) (Nat.le_of_ble_eq_true rfl) ?_
      rintro _ _ _ _ _ ⟨rfl, rfl, rfl, rfl, rfl⟩ -
      refine q0 ?_
      refine aw_if_eqZ (tgt := 32) dX5_kindOf_5 (by decide) (by decide) (fun hc_5 => ?_) (fun hc_5 => ?_)
      · refine aw_aload_n dX5_kindOf_32 (by rfl) (Or.inr ⟨_, rfl⟩) ?_
        refine aw_get fX5_96 dX5_kindOf_33 x1 (by rfl) ?_
        refine aw_aload_n dX5_kindOf_36 (by rfl) (Or.inr ⟨_, rfl⟩) ?_
        refine aw_get fX5_79 dX5_kindOf_37 x1 (by rfl) ?_
        refine aw_icmp_eqZ (tgt := 45) dX5_kindOf_40 (by decide) (by omega) (by omega) (fun hc_40 => ?_) (fun hc_40 => ?_)
        · refine aw_aload_n dX5_kindOf_45 (by rfl) (Or.inr ⟨_, rfl⟩) ?_
          refine aw_aload_n dX5_kindOf_46 (by rfl) (Or.inr ⟨_, rfl⟩) ?_
          refine aw_callv vX5_181 dX5_kindOf_47 hb (t_isTurning d (q := 1) h hn hr (Or.inl ⟨rfl, hT⟩)) (by rfl) (by rfl) (by omega) (Nat.le_of_ble_eq_true rfl) ?_
          rintro _ _ _ _ _ ⟨F1, rfl, rfl, rfl, rfl, rfl⟩ -
          refine q0 ?_
          refine aw_if_eqZ (tgt := 57) dX5_kindOf_50 (by decide) (by decide) (fun hc_50 => ?_) (fun hc_50 => ?_)
          · exact absurd hc_50 (by decide)
          · refine aw_iconstZ dX5_kindOf_53 ?_
            refine aw_goto (tgt := 58) dX5_kindOf_54 (by decide) ?_
            refine aw_iret dX5_kindOf_58 rfl (by rfl) ?_
            exact ⟨F1, 2, rfl, Or.inr (Or.inr ⟨hS, Or.inr (Or.inl ⟨rfl, hT⟩)⟩), rfl, rfl, rfl, rfl⟩
        · refine aw_iconstZ dX5_kindOf_43 ?_
          refine aw_iret dX5_kindOf_44 rfl (by rfl) ?_
          exact ⟨F0, 0, rfl, Or.inr (Or.inr ⟨hS, Or.inl ⟨rfl, by omega⟩⟩), ahu_of (fun _ _ => rfl) hMi, rfl, rfl, rfl⟩
      · exact absurd rfl hc_5
    · skip
      refine AMet.of rfl rfl (Nat.le_of_ble_eq_true rfl) ?_
      show AW g mX5_kindOf (d + 3) 0 [(0, .ref b), (1, .ref (b + 647 + 3 * n)), (2, .ref (b + 159))] [] V sz _
      refine aw_aload_n dX5_kindOf_0 (by rfl) (Or.inr ⟨_, rfl⟩) ?_
      refine aw_aload_n dX5_kindOf_1 (by rfl) (Or.inr ⟨_, rfl⟩) ?_
      refine aw_callv vX5_241 dX5_kindOf_2 wgd (t_isWrittenIn g (d + 0) (D := DG (b + 159)) (G := GWd b) (b := 0) hw0 (gso_W b X) hg.1 (show h1 ≤ 11 by omega) (show S.c n ≤ 10 by omega) (hTb n hn) qx ⟨hr5, hc5⟩ (Or.inr ⟨rfl, hw⟩)) (by rfl) (by rfl) (by omega) (Nat.le_of_ble_eq_true rfl) ?_
      rintro _ _ _ _ _ ⟨rfl, rfl, rfl, rfl, rfl⟩ -
      refine q0 ?_
      refine aw_if_eqZ (tgt := 32) dX5_kindOf_5 (by decide) (by decide) (fun hc_5 => ?_) (fun hc_5 => ?_)
      · refine aw_aload_n dX5_kindOf_32 (by rfl) (Or.inr ⟨_, rfl⟩) ?_
        refine aw_get fX5_96 dX5_kindOf_33 x1 (by rfl) ?_
        refine aw_aload_n dX5_kindOf_36 (by rfl) (Or.inr ⟨_, rfl⟩) ?_
        refine aw_get fX5_79 dX5_kindOf_37 x1 (by rfl) ?_
        refine aw_icmp_eqZ (tgt := 45) dX5_kindOf_40 (by decide) (by omega) (by omega) (fun hc_40 => ?_) (fun hc_40 => ?_)
        · refine aw_aload_n dX5_kindOf_45 (by rfl) (Or.inr ⟨_, rfl⟩) ?_
          refine aw_aload_n dX5_kindOf_46 (by rfl) (Or.inr ⟨_, rfl⟩) ?_
          refine aw_callv vX5_181 dX5_kindOf_47 hb (t_isTurning d (q := 0) h hn hr (Or.inr ⟨rfl, hT⟩)) (by rfl) (by rfl) (by omega) (Nat.le_of_ble_eq_true rfl) ?_
          rintro _ _ _ _ _ ⟨F1, rfl, rfl, rfl, rfl, rfl⟩ -
          refine q0 ?_
          refine aw_if_eqZ (tgt := 57) dX5_kindOf_50 (by decide) (by decide) (fun hc_50 => ?_) (fun hc_50 => ?_)
          · refine aw_iconstZ dX5_kindOf_57 ?_
            refine aw_iret dX5_kindOf_58 rfl (by rfl) ?_
            exact ⟨F1, 1, rfl, Or.inr (Or.inr ⟨hS, Or.inr (Or.inr ⟨rfl, by omega, hT⟩)⟩), rfl, rfl, rfl, rfl⟩
          · exact absurd rfl hc_50
        · refine aw_iconstZ dX5_kindOf_43 ?_
          refine aw_iret dX5_kindOf_44 rfl (by rfl) ?_
          exact ⟨F0, 0, rfl, Or.inr (Or.inr ⟨hS, Or.inl ⟨rfl, by omega⟩⟩), ahu_of (fun _ _ => rfl) hMi, rfl, rfl, rfl⟩
      · exact absurd rfl hc_5
