/-! ===== ends over the world by a relation; cells of E may change ===== -/
def E0 : Nat → Prop := fun _ => False
def WSE (g : GX) (ws : List Nat) (SA E : Nat → Prop) (V : AH) (sz : Nat) (L : Nat → Nat) (V' : AH) (sz' : Nat) (Z' : Nat → Int) (P' L' : Nat → Nat) (mc ms : Nat) : Prop :=
  WG g ws SA V' sz' Z' P' L' ∧ sz ≤ sz' ∧ (∀ a, SA a → ¬ E a → V' a = V a) ∧ (∀ w ∈ ws, L w ≤ L' w) ∧ sumL L ws + mc ≤ sumL L' ws ∧ sumQ L ws + ms ≤ sumQ L' ws
/-- a method's end: R says what the answer, the heap and the numbers are -/
def WE (g : GX) (ws : List Nat) (SA E : Nat → Prop) (V : AH) (sz : Nat) (L : Nat → Nat) (R : Option Value → AH → (Nat → Int) → Prop) : AQ := fun r V' sz' mc ms => ∃ (Z' : Nat → Int) (P' L' : Nat → Nat), R r V' Z' ∧ WSE g ws SA E V sz L V' sz' Z' P' L' mc ms
section WSEs
variable {g : GX} {ws : List Nat} {SA E : Nat → Prop} {V V1 V2 : AH} {sz sz1 sz2 : Nat} {Z Z1 Z2 : Nat → Int} {P L P1 L1 P2 L2 : Nat → Nat} {mc ms mc2 ms2 : Nat}
theorem WSE.of (h : WStp g ws SA V sz P L V1 sz1 Z1 P1 L1 mc ms) : WSE g ws SA E V sz L V1 sz1 Z1 P1 L1 mc ms := ⟨h.1, h.2.1, fun a ha _ => h.2.2.1 a ha, h.2.2.2.1, h.2.2.2.2.1, h.2.2.2.2.2.1⟩
theorem WSE.weak {E' : Nat → Prop} (h : WSE g ws SA E V sz L V1 sz1 Z1 P1 L1 mc ms) (hE : ∀ a, E a → E' a) : WSE g ws SA E' V sz L V1 sz1 Z1 P1 L1 mc ms := ⟨h.1, h.2.1, fun a ha hn => h.2.2.1 a ha (fun q => hn (hE a q)), h.2.2.2⟩
theorem WSE.rf (h : WG g ws SA V sz Z P L) : WSE g ws SA E V sz L V sz Z P L 0 0 := WSE.of (WStp.rf h)
theorem WSE.tr (h : WSE g ws SA E V sz L V1 sz1 Z1 P1 L1 mc ms) (k : WSE g ws SA E V1 sz1 L1 V2 sz2 Z2 P2 L2 mc2 ms2) : WSE g ws SA E V sz L V2 sz2 Z2 P2 L2 (mc + mc2) (ms + ms2) := by
  obtain ⟨a1, a2, a3, a4, a5, a6⟩ := h
  obtain ⟨b1, b2, b3, b4, b5, b6⟩ := k
  exact ⟨b1, Nat.le_trans a2 b2, fun a ha hn => (b3 a ha hn).trans (a3 a ha hn), fun w hw => Nat.le_trans (a4 w hw) (b4 w hw), by omega, by omega⟩
theorem WG.sto {a : Nat} {e : va_E} (h : WG g ws SA V sz Z P L) (ha : SA a) : WG g ws SA (AHu V a e) sz Z P L := by
  obtain ⟨a1, a2, a3, a4, a5⟩ := h
  obtain ⟨b1, b2, b3⟩ := a5 a ha
  exact ⟨a1.upd b1, fun w hw => (a2 w hw).kept (AHu_ne (fun q => b2 (q ▸ hw))) (AHu_ne (fun q => b3 w hw q.symm)), a3, a4, a5⟩
theorem WSE.sto {a : Nat} {e : va_E} (h : WG g ws SA V sz Z P L) (ha : SA a) (hE : E a) : WSE g ws SA E V sz L (AHu V a e) sz Z P L 0 0 := ⟨h.sto ha, Nat.le_refl _, fun b _ hn => AHu_ne (fun q => hn (q ▸ hE)), fun _ _ => Nat.le_refl _, Nat.le_refl _, Nat.le_refl _⟩
variable {R : Option Value → AH → (Nat → Int) → Prop} {M : MI} {d pc : Nat} {lv : List (Nat × Value)} {st : List Value}
theorem WE.stp (h : WSE g ws SA E V sz L V1 sz1 Z1 P1 L1 mc ms) (k : AW g M d pc lv st V1 sz1 (WE g ws SA E V1 sz1 L1 R)) : AW g M d pc lv st V1 sz1 (fun r V' sz' dc ds => WE g ws SA E V sz L R r V' sz' (mc + dc) (ms + ds)) :=
  k.mono (fun r V' sz' dc ds h2 => by
    obtain ⟨Z', P', L', hR, hs⟩ := h2
    exact ⟨Z', P', L', hR, h.tr hs⟩)
theorem WE.stp0 (h : WSE g ws SA E V sz L V1 sz1 Z1 P1 L1 0 0) (k : AW g M d pc lv st V1 sz1 (WE g ws SA E V1 sz1 L1 R)) : AW g M d pc lv st V1 sz1 (WE g ws SA E V sz L R) :=
  k.mono (fun r V' sz' dc ds h2 => by
    obtain ⟨Z', P', L', hR, hs⟩ := h2
    have := h.tr hs
    rw [Nat.zero_add, Nat.zero_add] at this
    exact ⟨Z', P', L', hR, this⟩)
theorem WE.ret {r : Option Value} (h : WG g ws SA V sz Z P L) (hR : R r V Z) : WE g ws SA E V sz L R r V sz 0 0 := ⟨Z, P, L, hR, WSE.rf h⟩
theorem WE.mono {R' : Option Value → AH → (Nat → Int) → Prop} {E' : Nat → Prop} {r : Option Value} {V' : AH} {sz' : Nat} (hR : ∀ Z', R r V' Z' → R' r V' Z') (hE : ∀ a, E a → E' a) (h : WE g ws SA E V sz L R r V' sz' mc ms) : WE g ws SA E' V sz L R' r V' sz' mc ms := by
  obtain ⟨Z', P', L', h1, h2⟩ := h
  exact ⟨Z', P', L', hR _ h1, h2.weak hE⟩
/-- a sign turned over -/
theorem WG.neg {w n : Nat} {F : Nat → Int} (h : WG g ws SA V sz Z P L) (hw : w ∈ ws) (hW : Whl g V w (Z w).sign n (P w) (L w) F) : WStp g ws SA V sz P L (AHu V w (whO (-(Z w).sign) n (P w))) sz (upF Z w (-Z w)) P L 0 0 := by
  obtain ⟨n', F', hW', hm, ht⟩ := h.2.1 w hw
  have hn : n' = n := by
    have h1 := hW.1.symm.trans hW'.1
    have h2 : iZ (n : Int) = iZ (n' : Int) := by
      simp only [Option.some.injEq, Sum.inr.injEq, Prod.mk.injEq, List.cons.injEq, Value.int.injEq, true_and] at h1
      exact h1.1
    have h3 := hW.2.2.2.1
    have h4 := hW'.2.2.2.1
    have h5 := hW.2.2.2.2.2.1
    have := (iZ_eq (a := (n : Int)) (b := (n' : Int)) (by omega) (by omega)).mp h2
    omega
  subst hn
  have hz : WhV g (AHu V w (whO (-(Z w).sign) n' (P w))) w (-Z w) (P w) (L w) := ⟨n', F', by rw [Int.sign_neg]; exact hW'.set hW'.2.2.2.1, by rw [Int.natAbs_neg]; exact hm, ht⟩
  have hs := h.write (mc := 0) (ms := 0) hw hz (Nat.le_refl _) (Nat.le_refl _) (Nat.le_refl _) (Or.inl rfl) (Fr.rf.upd (Or.inl rfl)) (h.1.upd (h.1.lt hW.1))
  rw [upF_id, upF_id] at hs
  exact hs
end WSEs
/-! a row of numbers, partly written -/
def RU (Z Z' : Nat → Int) (c : Nat → Nat) (fr w : Nat) (G : Nat → Int) (sc : Nat → Prop) : Prop := (∀ j, fr ≤ j → j < w → Z' (c j) = G j) ∧ ∀ x, ¬ sc x → (∀ j, fr ≤ j → j < w → x ≠ c j) → Z' x = Z x
theorem RU.nil {Z : Nat → Int} {c : Nat → Nat} {fr : Nat} {G : Nat → Int} {sc : Nat → Prop} : RU Z Z c fr fr G sc := ⟨fun j h1 h2 => absurd h1 (by omega), fun _ _ _ => rfl⟩
theorem RU.up {Z Z1 : Nat → Int} {c : Nat → Nat} {fr w : Nat} {G : Nat → Int} {sc : Nat → Prop} {z : Int} (h : RU Z Z1 c fr w G sc) (hfw : fr ≤ w) (hi : ∀ j, j < w → c j ≠ c w) (hz : z = G w) : RU Z (upF Z1 (c w) z) c fr (w + 1) G sc := by
  refine ⟨fun j h1 h2 => ?_, fun x h1 h2 => ?_⟩
  · by_cases hj : j = w
    · subst hj; rw [upF_self]; exact hz
    · rw [upF_ne _ _ (hi j (by omega))]; exact h.1 j h1 (by omega)
  · rw [upF_ne _ _ (h2 w hfw (by omega))]
    exact h.2 x h1 (fun j h3 h4 => h2 j h3 (by omega))
theorem RU.skip {Z Z1 : Nat → Int} {c : Nat → Nat} {fr w : Nat} {G : Nat → Int} {sc : Nat → Prop} (h : RU Z Z1 c fr w G sc) (hz : Z1 (c w) = G w) : RU Z Z1 c fr (w + 1) G sc := by
  refine ⟨fun j h1 h2 => ?_, fun x h1 h2 => h.2 x h1 (fun j h3 h4 => h2 j h3 (by omega))⟩
  by_cases hj : j = w
  · subst hj; exact hz
  · exact h.1 j h1 (by omega)
theorem RU.scr {Z Z1 : Nat → Int} {c : Nat → Nat} {fr w s : Nat} {G : Nat → Int} {sc : Nat → Prop} {z : Int} (h : RU Z Z1 c fr w G sc) (hs : sc s) (hi : ∀ j, j < w → c j ≠ s) : RU Z (upF Z1 s z) c fr w G sc := by
  refine ⟨fun j h1 h2 => ?_, fun x h1 h2 => ?_⟩
  · rw [upF_ne _ _ (hi j h2)]; exact h.1 j h1 h2
  · rw [upF_ne _ _ (fun q => h1 (by rw [q]; exact hs))]; exact h.2 x h1 h2
/-- the first place of a row that is not 0, or its width -/
def FF (F : Nat → Int) (w j : Nat) : Prop := j ≤ w ∧ (∀ i, i < j → F i = 0) ∧ (j < w → F j ≠ 0)
theorem FF.ex (F : Nat → Int) : ∀ w, ∃ j, FF F w j
  | 0 => ⟨0, Nat.le_refl _, fun i h => absurd h (by omega), fun h => absurd h (by omega)⟩
  | w + 1 => by
    obtain ⟨j, h1, h2, h3⟩ := FF.ex F w
    by_cases hj : j < w
    · exact ⟨j, by omega, h2, fun _ => h3 hj⟩
    · obtain rfl : j = w := by omega
      by_cases hz : F j = 0
      · refine ⟨j + 1, by omega, fun i hi => ?_, fun h => absurd h (by omega)⟩
        by_cases hij : i = j
        · subst hij; exact hz
        · exact h2 i (by omega)
      · exact ⟨j, by omega, h2, fun _ => hz⟩
theorem sgn0 {z : Int} : z.sign = 0 ↔ z = 0 := Int.sign_eq_zero_iff_zero
abbrev rowO (ca : Nat) : va_E := .inr (2, [.ref ca])
abbrev tbO (r c : Int) (na ta : Nat) : va_E := .inr (3, [.int (iZ r), .int (iZ c), .ref na, .ref ta])
/-- a Row at ro: its cells' array ca of n Wholes c -/
def RowV (g : GX) (V : AH) (ro ca n : Nat) (c : Nat → Nat) : Prop := V ro = some (rowO ca) ∧ V ca = some (aQ g 5 n (fun j => some (c j))) ∧ n < 100
theorem RowV.kept {g : GX} {V V' : AH} {ro ca n : Nat} {c : Nat → Nat} (h : RowV g V ro ca n c) (h1 : V' ro = V ro) (h2 : V' ca = V ca) : RowV g V' ro ca n c := ⟨h1.trans h.1, h2.trans h.2.1, h.2.2⟩

abbrev mX2_firstFilled : MI := (yX2_firstFilled, cX2_firstFilled, 3, (some FieldType.int), noX)
theorem dX2_firstFilled_0 : decode cX2_firstFilled 0 = .ok (.iconst 0, 1) := by decide +kernel
theorem dX2_firstFilled_1 : decode cX2_firstFilled 1 = .ok (.istore_n 2, 1) := by decide +kernel
theorem dX2_firstFilled_2 : decode cX2_firstFilled 2 = .ok (.iload_n 2, 1) := by decide +kernel
theorem dX2_firstFilled_3 : decode cX2_firstFilled 3 = .ok (.iload_n 1, 1) := by decide +kernel
theorem dX2_firstFilled_4 : decode cX2_firstFilled 4 = .ok (.if_icmp .ge 23, 3) := by decide +kernel
theorem dX2_firstFilled_7 : decode cX2_firstFilled 7 = .ok (.aload_n 0, 1) := by decide +kernel
theorem dX2_firstFilled_8 : decode cX2_firstFilled 8 = .ok (.getfield 11, 3) := by decide +kernel
theorem dX2_firstFilled_11 : decode cX2_firstFilled 11 = .ok (.iload_n 2, 1) := by decide +kernel
theorem dX2_firstFilled_12 : decode cX2_firstFilled 12 = .ok (.aaload, 1) := by decide +kernel
theorem dX2_firstFilled_13 : decode cX2_firstFilled 13 = .ok (.getfield 36, 3) := by decide +kernel
theorem dX2_firstFilled_16 : decode cX2_firstFilled 16 = .ok (.ifCond .eq 5, 3) := by decide +kernel
theorem dX2_firstFilled_19 : decode cX2_firstFilled 19 = .ok (.iload_n 2, 1) := by decide +kernel
theorem dX2_firstFilled_20 : decode cX2_firstFilled 20 = .ok (.ireturn, 1) := by decide +kernel
theorem dX2_firstFilled_21 : decode cX2_firstFilled 21 = .ok (.iinc 2 1, 3) := by decide +kernel
theorem dX2_firstFilled_24 : decode cX2_firstFilled 24 = .ok (.goto (-22), 3) := by decide +kernel
theorem dX2_firstFilled_27 : decode cX2_firstFilled 27 = .ok (.iload_n 1, 1) := by decide +kernel
theorem dX2_firstFilled_28 : decode cX2_firstFilled 28 = .ok (.ireturn, 1) := by decide +kernel
theorem ff_hit {F : Nat → Int} {w j jj : Nat} (h : FF F w jj) (hj : j ≤ jj) (hz : F j ≠ 0) : j = jj := by
  rcases Nat.lt_or_ge j jj with h1 | h1
  · exact absurd (h.2.1 j h1) hz
  · omega
theorem ff_mis {F : Nat → Int} {w j jj : Nat} (h : FF F w jj) (hj : j ≤ jj) (hjw : j < w) (hz : F j = 0) : j + 1 ≤ jj := by
  rcases Nat.lt_or_ge j jj with h1 | h1
  · omega
  · obtain rfl : j = jj := by omega
    exact absurd hz (h.2.2 hjw)
theorem ff_loop (g : GX) (d : Nat) {ws : List Nat} {SA : Nat → Prop} {V : AH} {sz : Nat} {Z : Nat → Int} {P L : Nat → Nat} {ro ca n w jj : Nat} {c : Nat → Nat} (h : WG g ws SA V sz Z P L) (hr : RowV g V ro ca n c) (hc : ∀ j, j < n → c j ∈ ws) (hj : FF (fun j => Z (c j)) w jj) (hw : w ≤ n) : ∀ (x j : Nat), j + x = w → j ≤ jj → AW g mX2_firstFilled d 2 [(2, .int (iZ j)), (0, .ref ro), (1, .int (iZ w))] [] V sz (Ex (some (.int (iZ jj))) V sz 0 0)
  | 0, j, hx, hjl => by
    obtain ⟨hro, hca, hn⟩ := id hr
    obtain rfl : w = j := by omega
    refine aw_iload_n dX2_firstFilled_2 (by rfl) ?_
    refine aw_iload_n dX2_firstFilled_3 (by rfl) ?_
    refine aw_icmp_geZ (tgt := 27) dX2_firstFilled_4 (by decide) (by omega) (by omega) (fun hc_4 => ?_) (fun hc_4 => ?_)
    · have hjw : jj = w := by have := hj.1; omega
      subst hjw
      refine aw_iload_n dX2_firstFilled_27 (by rfl) ?_
      refine aw_iret dX2_firstFilled_28 rfl (by rfl) ?_
      exact ⟨rfl, rfl, rfl, rfl, rfl⟩
    · exact absurd hc_4 (by omega)
  | x + 1, j, hx, hjl => by
    obtain ⟨hro, hca, hn⟩ := id hr
    refine aw_iload_n dX2_firstFilled_2 (by rfl) ?_
    refine aw_iload_n dX2_firstFilled_3 (by rfl) ?_
    refine aw_icmp_geZ (tgt := 27) dX2_firstFilled_4 (by decide) (by omega) (by omega) (fun hc_4 => ?_) (fun hc_4 => ?_)
    · exact absurd hc_4 (by omega)
    · refine aw_aload_n dX2_firstFilled_7 (by rfl) (Or.inr ⟨_, rfl⟩) ?_
      skip
      refine aw_get fX2_11 dX2_firstFilled_8 (by assumption) (by rfl) ?_
      refine aw_iload_n dX2_firstFilled_11 (by rfl) ?_
      refine aw_aaldZ (t0 := 5) (j) (by rfl) dX2_firstFilled_12 (by assumption) (by omega) (by omega) (by omega) ?_
      obtain ⟨n1, F1, hW1⟩ := h.raw (hc j (by omega))
      have hW1o := hW1.1
      refine aw_get fX2_36 dX2_firstFilled_13 (by assumption) (by rfl) ?_
      refine aw_if_eqZ (tgt := 21) dX2_firstFilled_16 (by decide) (sgn_R _) (fun hc_16 => ?_) (fun hc_16 => ?_)
      · have hjn := ff_mis hj hjl (by omega) (sgn0.mp hc_16)
        refine aw_iincZ dX2_firstFilled_21 (by rfl) (by decide) ?_
        refine aw_goto (tgt := 2) dX2_firstFilled_24 (by decide) ?_
        refine aw_pk [2, 0, 1] (by rfl) ?_
        rw [show ((j : Int) + 1) = ((j + 1 : Nat) : Int) by omega]
        exact ff_loop g d h hr hc hj hw x (j + 1) (by omega) hjn
      · have hjj : j = jj := ff_hit hj hjl (fun q => hc_16 (sgn0.mpr q))
        subst hjj
        refine aw_iload_n dX2_firstFilled_19 (by rfl) ?_
        refine aw_iret dX2_firstFilled_20 rfl (by rfl) ?_
        exact ⟨rfl, rfl, rfl, rfl, rfl⟩
theorem t_firstFilled {g : GX} {ws : List Nat} {SA : Nat → Prop} {V : AH} {sz : Nat} {Z : Nat → Int} {P L : Nat → Nat} (d : Nat) {ro ca n w jj : Nat} {c : Nat → Nat} (h : WG g ws SA V sz Z P L) (hr : RowV g V ro ca n c) (hc : ∀ j, j < n → c j ∈ ws) (hj : FF (fun j => Z (c j)) w jj) (hw : w ≤ n) : AMet g mX2_firstFilled d [.ref ro, .int (iZ w)] V sz (Ex (some (.int (iZ jj))) V sz 0 0) := by
  refine AMet.of rfl rfl (Nat.le_of_ble_eq_true rfl) ?_
  show AW g mX2_firstFilled d 0 [(0, .ref ro), (1, .int (iZ w))] [] V sz _
  refine aw_iconstZ dX2_firstFilled_0 ?_
  refine aw_istore_n dX2_firstFilled_1 (by decide) ?_
  refine aw_pk [2, 0, 1] (by rfl) ?_
  exact ff_loop g d h hr hc hj hw w 0 (by omega) (by omega)
