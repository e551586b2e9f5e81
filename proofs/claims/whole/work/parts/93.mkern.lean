/-! ===== the reference: kernelIn ===== -/
theorem er_crude {e b : Nat → Int} {Y K : Int} {h : Nat} (he : ∀ i, i < h → (1 ≤ e i ∧ e i ≤ Y) ∧ 1 ≤ b i ∧ b i ≤ K) : ∀ i, i ≤ h → er e b i ≤ (3 * Y * K) ^ i
  | 0, _ => by simp [er]
  | i + 1, hi => by
    have h1 := er_crude he i (by omega)
    obtain ⟨⟨h2, h3⟩, h4, h5⟩ := he i (by omega)
    have hp := (er_ge (fun i hi => ⟨(he i hi).1.1, (he i hi).2.1⟩) i (show i ≤ h by omega)).1
    have hYK : Y * 1 ≤ Y * K := Int.mul_le_mul_of_nonneg_left (by omega) (by omega)
    have e1 : 3 * Y * K = 3 * (Y * K) := Int.mul_assoc _ _ _
    simp only [er]
    by_cases h0 : i = 0
    · subst h0
      rw [if_pos rfl, Int.pow_succ, Int.pow_zero, Int.one_mul]
      omega
    · rw [if_neg h0, Int.pow_succ]
      have a1 : e i * b i ≤ Y * K := Int.mul_le_mul h3 h5 (by omega) (by omega)
      have a2 : er e b i * (3 * (e i * b i)) ≤ (3 * Y * K) ^ i * (3 * Y * K) := Int.mul_le_mul h1 (by omega) (by have : 0 ≤ e i * b i := Int.mul_nonneg (by omega) (by omega); omega) (by omega)
      have a3 : 3 * er e b i * e i * b i = er e b i * (3 * (e i * b i)) := by
        rw [Int.mul_comm 3, Int.mul_assoc, Int.mul_assoc]
      omega
theorem pw_mono {x : Int} (hx : 1 ≤ x) {i h : Nat} (h1 : i ≤ h) : x ^ i ≤ x ^ h := pw_le hx h1
def eY (A0 : Mat) (l : Nat → Nat) (X : Int) (s : Nat) : Nat → Int := fun i => if i < s then cw (fun k => A0 k (l k)) X (i + 1) else if i = s then cw (fun k => A0 k (l k)) X s else 1
theorem eY_bd {A0 : Mat} {h w Lc : Nat} {l : Nat → Nat} {β : Nat → Int} {X : Int} (hg : GPr A0 h w Lc l β X) {s : Nat} (hs : s ≤ h) (i : Nat) : 1 ≤ eY A0 l X s i ∧ eY A0 l X s i ≤ cw (fun k => A0 k (l k)) X h := by
  have h1 := cw_ge hg.2.2.2.1 hg.pos h (Nat.le_refl _)
  unfold eY
  split
  · exact ⟨hg.cw1 (by omega), h1.2 _ (by omega)⟩
  · split
    · exact ⟨hg.cw1 hs, h1.2 _ hs⟩
    · exact ⟨by omega, h1.1⟩
theorem GYe.rdp {A0 A : Mat} {h w Lc : Nat} {l : Nat → Nat} {β : Nat → Int} {X : Int} {s j : Nat} (hg : GPr A0 h w Lc l β X) (y : GYe A0 A h w Lc l β X s j) : RdP A (h + 1) w (insF l s h j) β (eY A0 l X s) := by
  obtain ⟨y1, y2, y3, y4, y5, y6, y7, y8, y9⟩ := y
  have hLw := hg.2.2.2.2.1
  refine ⟨fun i hi => ⟨?_, (y6 i hi).1, (y6 i hi).2, fun t ht => ?_, (eY_bd hg y2 i).1⟩, fun i k h1 h2 => ?_, hg.2.2.1⟩
  · unfold insF
    split
    · omega
    · split
      · have := (hg.1 (i - 1) (by omega)).2.2.2.2; omega
      · have := (hg.1 i (by omega)).2.2.2.2; omega
  · unfold eY
    split
    · exact y7 i (by omega) t ht
    · split
      · rename_i _ e; rw [e]; exact y8 t ht
      · rw [Int.one_mul]; exact y9 i (by omega) hi t ht
  · unfold insF
    by_cases a1 : i < s
    · rw [if_neg (by omega), if_neg (by omega)]
      by_cases a2 : k = s
      · rw [if_pos a2]; exact y4 i a1
      · rw [if_neg a2]
        by_cases a3 : s < k ∧ k ≤ h
        · rw [if_pos a3]
          by_cases a4 : i = k - 1
          · omega
          · exact hg.2.1 i (k - 1) (by omega) (by omega)
        · rw [if_neg a3]; exact hg.2.1 i k h1 (by omega)
    · by_cases a2 : i = s
      · rw [if_pos a2, if_neg (by omega), if_pos (by omega)]
        exact y5 (k - 1) (by omega) (by omega)
      · rw [if_neg a2, if_pos (by omega), if_neg (by omega), if_pos (by omega)]
        exact hg.2.1 (i - 1) (k - 1) (by omega) (by omega)
theorem GNo.rdp {A0 A : Mat} {h w Lc : Nat} {l : Nat → Nat} {β : Nat → Int} {X : Int} (hg : GPr A0 h w Lc l β X) (y : GNo A0 A h w Lc l β X) : RdP A h w l β (fun i => if i < h then cw (fun k => A0 k (l k)) X (i + 1) else 1) := by
  obtain ⟨y1, y2, y3, y4⟩ := y
  have hLw := hg.2.2.2.2.1
  refine ⟨fun i hi => ⟨?_, (y2 i hi).1, (y2 i hi).2.1, fun t ht => ?_, ?_⟩, hg.2.1, hg.2.2.1⟩
  · have := (hg.1 i hi).2.2.2.2; omega
  · show _ ≤ (if i < h then _ else 1) * _
    rw [if_pos hi]; exact (y2 i hi).2.2 t ht
  · show 1 ≤ (if i < h then _ else 1)
    rw [if_pos hi]; exact hg.cw1 (by omega)
theorem RdP.cong {A A' : Mat} {h w : Nat} {l : Nat → Nat} {β e : Nat → Int} (p : RdP A h w l β e) (q : ∀ i, i < h → ∀ t, A' i t = A i t) : RdP A' h w l β e :=
  ⟨fun i hi => ⟨(p.1 i hi).1, by rw [q i hi]; exact (p.1 i hi).2.1, fun t ht => by rw [q i hi]; exact (p.1 i hi).2.2.1 t ht, fun t ht => by rw [q i hi]; exact (p.1 i hi).2.2.2.1 t ht, (p.1 i hi).2.2.2.2⟩, p.2⟩
def kz (zs : Nat → Int) : Nat → Int := fun q => if 160 ≤ q ∧ q < 165 then 0 else if 150 ≤ q ∧ q < 160 then zs (155 + (q - 150)) else zs q
def GKx (κ : Nat) (zs : Nat → Int) : Mat := GMx 165 10 κ (kz zs)
def EC (mo : Nat) : Nat → Prop := fun a => mo ≤ a ∧ a ≤ mo + 7
def EK (mo : Nat) : Nat → Prop := fun a => a ≠ mo + 6 ∧ EC mo a
def KnQ (g : GX) (mo : Nat) (rk ar ac : Int) (zs : Nat → Int) (κ : Nat) : Option Value → AH → Prop := fun r V' => none = r ∧ ∃ (z' : Nat → Int) (κ' : Nat) (lk : Nat → Nat) (RW : Nat → Int), V' mo = some (moO mo rk κ' ar ac) ∧ V' (mo + 7) = some (aIz g 11 RW) ∧ (∀ i, i < κ' → RW i = (lk i : Int)) ∧ MN g mo V' z' ∧ Frm zs z' (InG 165 10 κ) ∧ Stair (BMx 165 10 z') κ' 10 lk ∧ SpEq (GKx κ zs) (κ + 1) (BMx 165 10 z') κ' 10 ∧ κ' ≤ κ + 1
abbrev mX6_kernelIn : MI := (yX6_kernelIn, cX6_kernelIn, 2, none, noX)
theorem dX6_kernelIn_0 : decode cX6_kernelIn 0 = .ok (.iconst 0, 1) := by decide +kernel
theorem dX6_kernelIn_1 : decode cX6_kernelIn 1 = .ok (.istore_n 1, 1) := by decide +kernel
theorem dX6_kernelIn_2 : decode cX6_kernelIn 2 = .ok (.iload_n 1, 1) := by decide +kernel
theorem dX6_kernelIn_3 : decode cX6_kernelIn 3 = .ok (.bipush 10, 2) := by decide +kernel
theorem dX6_kernelIn_5 : decode cX6_kernelIn 5 = .ok (.if_icmp .ge 23, 3) := by decide +kernel
theorem dX6_kernelIn_8 : decode cX6_kernelIn 8 = .ok (.aload_n 0, 1) := by decide +kernel
theorem dX6_kernelIn_9 : decode cX6_kernelIn 9 = .ok (.sipush 155, 3) := by decide +kernel
theorem dX6_kernelIn_12 : decode cX6_kernelIn 12 = .ok (.iload_n 1, 1) := by decide +kernel
theorem dX6_kernelIn_13 : decode cX6_kernelIn 13 = .ok (.iadd, 1) := by decide +kernel
theorem dX6_kernelIn_14 : decode cX6_kernelIn 14 = .ok (.sipush 150, 3) := by decide +kernel
theorem dX6_kernelIn_17 : decode cX6_kernelIn 17 = .ok (.iload_n 1, 1) := by decide +kernel
theorem dX6_kernelIn_18 : decode cX6_kernelIn 18 = .ok (.iadd, 1) := by decide +kernel
theorem dX6_kernelIn_19 : decode cX6_kernelIn 19 = .ok (.invokevirtual 67, 3) := by decide +kernel
theorem dX6_kernelIn_22 : decode cX6_kernelIn 22 = .ok (.iinc 1 1, 3) := by decide +kernel
theorem dX6_kernelIn_25 : decode cX6_kernelIn 25 = .ok (.goto (-23), 3) := by decide +kernel
theorem dX6_kernelIn_28 : decode cX6_kernelIn 28 = .ok (.bipush 10, 2) := by decide +kernel
theorem dX6_kernelIn_30 : decode cX6_kernelIn 30 = .ok (.istore_n 1, 1) := by decide +kernel
theorem dX6_kernelIn_31 : decode cX6_kernelIn 31 = .ok (.iload_n 1, 1) := by decide +kernel
theorem dX6_kernelIn_32 : decode cX6_kernelIn 32 = .ok (.bipush 15, 2) := by decide +kernel
theorem dX6_kernelIn_34 : decode cX6_kernelIn 34 = .ok (.if_icmp .ge 19, 3) := by decide +kernel
theorem dX6_kernelIn_37 : decode cX6_kernelIn 37 = .ok (.aload_n 0, 1) := by decide +kernel
theorem dX6_kernelIn_38 : decode cX6_kernelIn 38 = .ok (.sipush 150, 3) := by decide +kernel
theorem dX6_kernelIn_41 : decode cX6_kernelIn 41 = .ok (.iload_n 1, 1) := by decide +kernel
theorem dX6_kernelIn_42 : decode cX6_kernelIn 42 = .ok (.iadd, 1) := by decide +kernel
theorem dX6_kernelIn_43 : decode cX6_kernelIn 43 = .ok (.lconst 0, 1) := by decide +kernel
theorem dX6_kernelIn_44 : decode cX6_kernelIn 44 = .ok (.invokevirtual 83, 3) := by decide +kernel
theorem dX6_kernelIn_47 : decode cX6_kernelIn 47 = .ok (.iinc 1 1, 3) := by decide +kernel
theorem dX6_kernelIn_50 : decode cX6_kernelIn 50 = .ok (.goto (-19), 3) := by decide +kernel
theorem dX6_kernelIn_53 : decode cX6_kernelIn 53 = .ok (.aload_n 0, 1) := by decide +kernel
theorem dX6_kernelIn_54 : decode cX6_kernelIn 54 = .ok (.sipush 165, 3) := by decide +kernel
theorem dX6_kernelIn_57 : decode cX6_kernelIn 57 = .ok (.bipush 10, 2) := by decide +kernel
theorem dX6_kernelIn_59 : decode cX6_kernelIn 59 = .ok (.bipush 10, 2) := by decide +kernel
theorem dX6_kernelIn_61 : decode cX6_kernelIn 61 = .ok (.bipush 10, 2) := by decide +kernel
theorem dX6_kernelIn_63 : decode cX6_kernelIn 63 = .ok (.aload_n 0, 1) := by decide +kernel
theorem dX6_kernelIn_64 : decode cX6_kernelIn 64 = .ok (.getfield 30, 3) := by decide +kernel
theorem dX6_kernelIn_67 : decode cX6_kernelIn 67 = .ok (.aload_n 0, 1) := by decide +kernel
theorem dX6_kernelIn_68 : decode cX6_kernelIn 68 = .ok (.getfield 131, 3) := by decide +kernel
theorem dX6_kernelIn_71 : decode cX6_kernelIn 71 = .ok (.invokevirtual 120, 3) := by decide +kernel
theorem dX6_kernelIn_74 : decode cX6_kernelIn 74 = .ok (.ifCond .eq 13, 3) := by decide +kernel
theorem dX6_kernelIn_77 : decode cX6_kernelIn 77 = .ok (.aload_n 0, 1) := by decide +kernel
theorem dX6_kernelIn_78 : decode cX6_kernelIn 78 = .ok (.dup, 1) := by decide +kernel
theorem dX6_kernelIn_79 : decode cX6_kernelIn 79 = .ok (.getfield 131, 3) := by decide +kernel
theorem dX6_kernelIn_82 : decode cX6_kernelIn 82 = .ok (.iconst 1, 1) := by decide +kernel
theorem dX6_kernelIn_83 : decode cX6_kernelIn 83 = .ok (.iadd, 1) := by decide +kernel
theorem dX6_kernelIn_84 : decode cX6_kernelIn 84 = .ok (.putfield 131, 3) := by decide +kernel
theorem dX6_kernelIn_87 : decode cX6_kernelIn 87 = .ok (.aload_n 0, 1) := by decide +kernel
theorem dX6_kernelIn_88 : decode cX6_kernelIn 88 = .ok (.sipush 165, 3) := by decide +kernel
theorem dX6_kernelIn_91 : decode cX6_kernelIn 91 = .ok (.bipush 10, 2) := by decide +kernel
theorem dX6_kernelIn_93 : decode cX6_kernelIn 93 = .ok (.bipush 10, 2) := by decide +kernel
theorem dX6_kernelIn_95 : decode cX6_kernelIn 95 = .ok (.aload_n 0, 1) := by decide +kernel
theorem dX6_kernelIn_96 : decode cX6_kernelIn 96 = .ok (.getfield 30, 3) := by decide +kernel
theorem dX6_kernelIn_99 : decode cX6_kernelIn 99 = .ok (.aload_n 0, 1) := by decide +kernel
theorem dX6_kernelIn_100 : decode cX6_kernelIn 100 = .ok (.getfield 131, 3) := by decide +kernel
theorem dX6_kernelIn_103 : decode cX6_kernelIn 103 = .ok (.invokevirtual 127, 3) := by decide +kernel
theorem dX6_kernelIn_106 : decode cX6_kernelIn 106 = .ok (.return_, 1) := by decide +kernel
theorem kc_loop (d : Nat) {g : GX} {V0 : AH} {mo sz : Nat} {rk kn ar ac : Int} {zs : Nat → Int} {Q : AQ}
    (hKK : ∀ {V : AH} {z' : Nat → Int}, V mo = some (moO mo rk kn ar ac) → MN g mo V z' → (∀ a, ¬ EN mo a → V a = V0 a) → CpZ zs z' 155 150 10 → AW g mX6_kernelIn (d + 5) 28 [(0, .ref mo)] [] V sz Q) : ∀ (y c : Nat), c + y = 10 → ∀ {V : AH} {z' : Nat → Int}, V mo = some (moO mo rk kn ar ac) → MN g mo V z' → (∀ a, ¬ EN mo a → V a = V0 a) → CpZ zs z' 155 150 c → AW g mX6_kernelIn (d + 5) 2 [(1, .int (iZ c)), (0, .ref mo)] [] V sz Q
  | 0, c, hy, V, z', hmo, hM, hV, hC => by
    refine aw_iload_n dX6_kernelIn_2 (by rfl) ?_
    refine aw_bipushZ dX6_kernelIn_3 (by decide) ?_
    refine aw_icmp_geZ (tgt := 28) dX6_kernelIn_5 (by decide) (by omega) (by omega) (fun hc_5 => ?_) (fun hc_5 => ?_)
    · obtain rfl : c = 10 := by omega
      refine aw_pk [0] (by rfl) ?_
      exact hKK hmo hM hV hC
    · exact absurd hc_5 (by omega)
  | y + 1, c, hy, V, z', hmo, hM, hV, hC => by
    have IH := fun c hc => @kc_loop d g V0 mo sz rk kn ar ac zs Q hKK y c hc
    refine aw_iload_n dX6_kernelIn_2 (by rfl) ?_
    refine aw_bipushZ dX6_kernelIn_3 (by decide) ?_
    refine aw_icmp_geZ (tgt := 28) dX6_kernelIn_5 (by decide) (by omega) (by omega) (fun hc_5 => ?_) (fun hc_5 => ?_)
    · exact absurd hc_5 (by omega)
    · refine aw_aload_n dX6_kernelIn_8 (by rfl) (Or.inr ⟨_, rfl⟩) ?_
      refine aw_sipushZ dX6_kernelIn_9 (by decide) ?_
      refine aw_iload_n dX6_kernelIn_12 (by rfl) ?_
      refine aw_iaddZ dX6_kernelIn_13 ?_
      refine aw_topi (y := ((155 + c : Nat) : Int)) (by omega) ?_
      refine aw_sipushZ dX6_kernelIn_14 (by decide) ?_
      refine aw_iload_n dX6_kernelIn_17 (by rfl) ?_
      refine aw_iaddZ dX6_kernelIn_18 ?_
      refine aw_topi (y := ((150 + c : Nat) : Int)) (by omega) ?_
      refine aw_callv vX6_67 dX6_kernelIn_19 hmo (m_copies g (d + 4) (a := 155 + c) (c := 150 + c) ⟨rk, kn, ar, ac, hmo⟩ hM (by omega) (by omega)) (by rfl) (by rfl) (by omega) (Nat.le_of_ble_eq_true rfl) ?_
      rintro _ V1 _ _ _ ⟨rfl, rfl, rfl, hE1, rfl, hM1⟩ -
      refine q0 ?_
      refine aw_iincZ dX6_kernelIn_22 (by rfl) (by decide) ?_
      refine aw_goto (tgt := 2) dX6_kernelIn_25 (by decide) ?_
      rw [show ((c : Int) + 1) = ((c + 1 : Nat) : Int) by omega]
      refine aw_pk [1, 0] (by rfl) ?_
      exact IH (c + 1) (by omega) ((hE1 mo (by unfold EN; omega)).trans hmo) hM1 (fun a ha => (hE1 a ha).trans (hV a ha)) (hC.up (by omega))
theorem kb_loop (d : Nat) {g : GX} {V0 : AH} {mo sz : Nat} {rk kn ar ac : Int} {zs : Nat → Int} {Q : AQ}
    (hKK : ∀ {V : AH} {z' : Nat → Int}, V mo = some (moO mo rk kn ar ac) → MN g mo V z' → (∀ a, ¬ EN mo a → V a = V0 a) → (∀ q, z' q = if 160 ≤ q ∧ q < 150 + 15 then 0 else zs q) → AW g mX6_kernelIn (d + 5) 53 [(0, .ref mo)] [] V sz Q) : ∀ (y c : Nat), c + y = 15 → 10 ≤ c → ∀ {V : AH} {z' : Nat → Int}, V mo = some (moO mo rk kn ar ac) → MN g mo V z' → (∀ a, ¬ EN mo a → V a = V0 a) → (∀ q, z' q = if 160 ≤ q ∧ q < 150 + c then 0 else zs q) → AW g mX6_kernelIn (d + 5) 31 [(1, .int (iZ c)), (0, .ref mo)] [] V sz Q
  | 0, c, hy, hc10, V, z', hmo, hM, hV, hC => by
    refine aw_iload_n dX6_kernelIn_31 (by rfl) ?_
    refine aw_bipushZ dX6_kernelIn_32 (by decide) ?_
    refine aw_icmp_geZ (tgt := 53) dX6_kernelIn_34 (by decide) (by omega) (by omega) (fun hc_34 => ?_) (fun hc_34 => ?_)
    · obtain rfl : c = 15 := by omega
      refine aw_pk [0] (by rfl) ?_
      exact hKK hmo hM hV hC
    · exact absurd hc_34 (by omega)
  | y + 1, c, hy, hc10, V, z', hmo, hM, hV, hC => by
    have IH := fun c hc => @kb_loop d g V0 mo sz rk kn ar ac zs Q hKK y c hc (by omega)
    refine aw_iload_n dX6_kernelIn_31 (by rfl) ?_
    refine aw_bipushZ dX6_kernelIn_32 (by decide) ?_
    refine aw_icmp_geZ (tgt := 53) dX6_kernelIn_34 (by decide) (by omega) (by omega) (fun hc_34 => ?_) (fun hc_34 => ?_)
    · exact absurd hc_34 (by omega)
    · refine aw_aload_n dX6_kernelIn_37 (by rfl) (Or.inr ⟨_, rfl⟩) ?_
      refine aw_sipushZ dX6_kernelIn_38 (by decide) ?_
      refine aw_iload_n dX6_kernelIn_41 (by rfl) ?_
      refine aw_iaddZ dX6_kernelIn_42 ?_
      refine aw_topi (y := ((150 + c : Nat) : Int)) (by omega) ?_
      refine aw_lconstZ (z := 0) dX6_kernelIn_43 (by decide) ?_
      refine aw_callv vX6_83 dX6_kernelIn_44 hmo (m_becomes g (d + 4) (c := 150 + c) (v := 0) ⟨rk, kn, ar, ac, hmo⟩ hM (by omega) (by omega)) (by rfl) (by rfl) (by omega) (Nat.le_of_ble_eq_true rfl) ?_
      rintro _ V1 _ _ _ ⟨rfl, rfl, rfl, hE1, rfl, hM1⟩ -
      refine q0 ?_
      refine aw_iincZ dX6_kernelIn_47 (by rfl) (by decide) ?_
      refine aw_goto (tgt := 31) dX6_kernelIn_50 (by decide) ?_
      rw [show ((c : Int) + 1) = ((c + 1 : Nat) : Int) by omega]
      refine aw_pk [1, 0] (by rfl) ?_
      exact IH (c + 1) (by omega) ((hE1 mo (by unfold EN; omega)).trans hmo) hM1 (fun a ha => (hE1 a ha).trans (hV a ha)) (fun q => by
        by_cases e1 : q = 150 + c
        · rw [e1, upF_self, if_pos (by omega)]
        · rw [upF_ne _ _ e1, hC q]
          by_cases e2 : 160 ≤ q ∧ q < 150 + c
          · rw [if_pos e2, if_pos (by omega)]
          · rw [if_neg e2, if_neg (by omega)])
theorem m_kernelIn (g : GX) (d : Nat) {V : AH} {mo sz κ : Nat} {rk ar ac X K : Int} {zs RW β : Nat → Int} {lk : Nat → Nat} (hmo : V mo = some (moO mo rk κ ar ac)) (hM : MN g mo V zs) (hκ : κ ≤ 9) (hra : V (mo + 7) = some (aIz g 11 RW)) (hl : ∀ i, i < κ → RW i = (lk i : Int)) (hg : GPr (GKx κ zs) κ 10 10 lk β X) (hβK : ∀ t, β t ≤ K) (hSm1 : ∀ t, t < 10 → SmM (cw (fun k => GKx κ zs k (lk k)) X κ * β t)) (hSm2 : ∀ t, t < 10 → SmM ((3 * cw (fun k => GKx κ zs k (lk k)) X κ * K) ^ (κ + 1) * β t)) : AMet g mX6_kernelIn (d + 5) [.ref mo] V sz (VX V sz (EK mo) (KnQ g mo rk ar ac zs κ)) := by
  have hYK : 1 ≤ 3 * cw (fun k => GKx κ zs k (lk k)) X κ * K := by
    have h1 := hg.cw1 (Nat.le_refl κ)
    have h2 := hg.2.2.1 0
    have h3 := hβK 0
    have : 1 * 1 ≤ 3 * cw (fun k => GKx κ zs k (lk k)) X κ * K := Int.mul_le_mul (by omega) (by omega) (by omega) (by omega)
    omega
  have TAIL : ∀ {V4 : AH} {z4 : Nat → Int} (h4 : Nat) (l4 : Nat → Nat) (RW4 e4 : Nat → Int), h4 ≤ κ + 1 → V4 mo = some (moO mo rk h4 ar ac) → V4 (mo + 7) = some (aIz g 11 RW4) → (∀ i, i < h4 → RW4 i = (l4 i : Int)) → MN g mo V4 z4 → Frm zs z4 (InG 165 10 κ) → (∀ a, ¬ EK mo a → V4 a = V a) → RdP (BMx 165 10 z4) h4 10 l4 β e4 → (∀ i, i < h4 → (1 ≤ e4 i ∧ e4 i ≤ cw (fun k => GKx κ zs k (lk k)) X κ) ∧ 1 ≤ (fun n => β (l4 n)) i ∧ (fun n => β (l4 n)) i ≤ K) → SpEq (GKx κ zs) (κ + 1) (BMx 165 10 z4) h4 10 → AW g mX6_kernelIn (d + 5) 87 [(0, .ref mo)] [] V4 sz (VX V sz (EK mo) (KnQ g mo rk ar ac zs κ)) := fun {V4 z4} h4 l4 RW4 e4 h4b hmo4 hra4 hl4 hM4 hF4 hV4 hp4 he4 hsp4 => by
    refine aw_aload_n dX6_kernelIn_87 (by rfl) (Or.inr ⟨_, rfl⟩) ?_
    refine aw_sipushZ dX6_kernelIn_88 (by decide) ?_
    refine aw_bipushZ dX6_kernelIn_91 (by decide) ?_
    refine aw_bipushZ dX6_kernelIn_93 (by decide) ?_
    refine aw_aload_n dX6_kernelIn_95 (by rfl) (Or.inr ⟨_, rfl⟩) ?_
    refine aw_get fX6_30 dX6_kernelIn_96 hmo4 (by rfl) ?_
    refine aw_aload_n dX6_kernelIn_99 (by rfl) (Or.inr ⟨_, rfl⟩) ?_
    refine aw_get fX6_131 dX6_kernelIn_100 hmo4 (by rfl) ?_
    refine aw_callv vX6_127 dX6_kernelIn_103 hmo4 (m_redK g (d + 1) (h := h4) (RW := RW4) (β := β) (e := e4) (l := l4) ⟨rk, _, ar, ac, hmo4⟩ hM4 hra4 (by omega) hl4 hp4 (fun t ht => smT (hSm2 t ht) (by rw [ab_pos (Int.mul_nonneg (by have := (hp4.er1 (Nat.le_refl h4)).1; omega) (by have := hp4.2.2 t; omega))]; exact Int.mul_le_mul_of_nonneg_right (Int.le_trans (er_crude he4 h4 (Nat.le_refl _)) (pw_mono hYK (by omega))) (by have := hp4.2.2 t; omega)))) (by rfl) (by rfl) (by omega) (Nat.le_of_ble_eq_true rfl) ?_
    rintro _ V5 _ _ _ ⟨rfl, rfl, rfl, hE5, rfl, z5, hM5, hF5, hS5, hP5, -⟩ -
    refine q0 ?_
    refine aw_ret dX6_kernelIn_106 rfl ?_
    refine ⟨rfl, rfl, rfl, fun a ha => ?_, rfl, z5, h4, l4, RW4, (hE5 mo (by unfold EN; omega)).trans hmo4, (hE5 _ (by unfold EN; omega)).trans hra4, hl4, hM5, fun q hq => ?_, hS5, hsp4.tr hP5, by omega⟩
    · rw [hE5 a (fun z => ha (by unfold EN at z; unfold EK EC; omega))]; exact hV4 a ha
    · rw [hF5 q (by unfold InG at hq; unfold InR; omega)]; exact hF4 q hq
  refine AMet.of rfl rfl (Nat.le_of_ble_eq_true rfl) ?_
  show AW g mX6_kernelIn (d + 5) 0 [(0, .ref mo)] [] V sz _
  refine aw_iconstZ dX6_kernelIn_0 ?_
  refine aw_istore_n dX6_kernelIn_1 (by decide) ?_
  refine aw_pk [1, 0] (by rfl) ?_
  refine kc_loop d (V0 := V) (zs := zs) (fun {V1 z1} hmo1 hM1 hV1 hC1 => ?_) 10 0 (by omega) hmo hM (fun _ _ => rfl) CpZ.nil
  refine aw_bipushZ dX6_kernelIn_28 (by decide) ?_
  refine aw_istore_n dX6_kernelIn_30 (by decide) ?_
  refine aw_pk [1, 0] (by rfl) ?_
  refine kb_loop d (V0 := V) (zs := z1) (fun {V2 z2} hmo2 hM2 hV2 hC2 => ?_) 5 10 (by omega) (by omega) hmo1 hM1 hV1 (fun q => by rw [if_neg (by omega)])
  have hF2 : Frm zs z2 (InG 165 10 κ) := fun q hq => by
    unfold InG at hq
    rw [hC2 q, if_neg (by omega), hC1 q, if_neg (by omega)]
  have hGM : GMx 165 10 κ z2 = GKx κ zs := by
    have : z2 = kz zs := by
      funext q
      unfold kz
      rw [hC2 q]
      by_cases e1 : 160 ≤ q ∧ q < 165
      · rw [if_pos e1, if_pos (by omega)]
      · rw [if_neg e1, if_neg (by omega), hC1 q]
    rw [this, GKx]
  refine aw_aload_n dX6_kernelIn_53 (by rfl) (Or.inr ⟨_, rfl⟩) ?_
  refine aw_sipushZ dX6_kernelIn_54 (by decide) ?_
  refine aw_bipushZ dX6_kernelIn_57 (by decide) ?_
  refine aw_bipushZ dX6_kernelIn_59 (by decide) ?_
  refine aw_bipushZ dX6_kernelIn_61 (by decide) ?_
  refine aw_aload_n dX6_kernelIn_63 (by rfl) (Or.inr ⟨_, rfl⟩) ?_
  refine aw_get fX6_30 dX6_kernelIn_64 hmo2 (by rfl) ?_
  refine aw_aload_n dX6_kernelIn_67 (by rfl) (Or.inr ⟨_, rfl⟩) ?_
  refine aw_get fX6_131 dX6_kernelIn_68 hmo2 (by rfl) ?_
  refine aw_callv vX6_120 dX6_kernelIn_71 hmo2 (m_goesK g d (h := κ) (RW := RW) (β := β) (l := lk) (X := X) ⟨rk, _, ar, ac, hmo2⟩ hM2 ((hV2 _ (by unfold EN; omega)).trans hra) hκ hl (by rw [hGM]; exact hg) (by rw [hGM]; exact hSm1)) (by rfl) (by rfl) (by omega) (Nat.le_of_ble_eq_true rfl) ?_
  rintro _ V3 _ _ _ ⟨rfl, rfl, rfl, hE3, z3, hM3, hF3, hr3⟩ -
  refine q0 ?_
  rw [hGM] at hr3
  have hmo3 : V3 mo = some (moO mo rk κ ar ac) := (hE3 mo (by unfold ER EN; omega)).trans hmo2
  have hV3 : ∀ a, ¬ EK mo a → V3 a = V a := fun a ha => by
    rw [hE3 a (fun z => ha (by unfold ER EN at z; unfold EK EC; omega))]
    exact hV2 a (fun z => ha (by unfold EN at z; unfold EK EC; omega))
  rcases hr3 with ⟨rfl, hra3, hn3⟩ | ⟨s, j, rfl, hra3, hy3⟩
  · refine aw_if_eqZ (tgt := 87) dX6_kernelIn_74 (by decide) (by omega) (fun _ => ?_) (fun h => absurd rfl h)
    refine aw_pk [0] (by rfl) ?_
    exact TAIL κ lk RW (fun i => if i < κ then cw (fun k => GKx κ zs k (lk k)) X (i + 1) else 1) (by omega) hmo3 hra3 hl hM3 (fun q hq => (hF3 q hq).trans (hF2 q hq)) hV3 ((hn3.rdp hg).cong (fun i hi t => by unfold BMx GMx; rw [if_pos hi])) (fun i hi => ⟨by
      show 1 ≤ (if i < κ then _ else 1) ∧ (if i < κ then _ else 1) ≤ _
      rw [if_pos hi]
      exact ⟨hg.cw1 (by omega), (cw_ge hg.2.2.2.1 hg.pos κ (Nat.le_refl _)).2 _ (by omega)⟩, hg.2.2.1 _, hβK _⟩) (hn3.1.tr ((SpEq.drop (fun t ht => hn3.2.2.1 t ht)).tr (SpEq.cong (fun i hi t _ => by unfold BMx GMx; rw [if_pos hi]))))
  · refine aw_if_eqZ (tgt := 87) dX6_kernelIn_74 (by decide) (by omega) (fun h => absurd h (by decide)) (fun _ => ?_)
    refine aw_aload_n dX6_kernelIn_77 (by rfl) (Or.inr ⟨_, rfl⟩) ?_
    refine aw_dup dX6_kernelIn_78 rfl ?_
    refine aw_get fX6_131 dX6_kernelIn_79 hmo3 (by rfl) ?_
    refine aw_iconstZ dX6_kernelIn_82 ?_
    refine aw_iaddZ dX6_kernelIn_83 ?_
    refine aw_put fX6_131 dX6_kernelIn_84 hmo3 (by rfl) (by rfl) (Nat.le_of_ble_eq_true rfl) ?_
    refine aw_pk [0] (by rfl) ?_
    exact TAIL (κ + 1) (insF lk s κ j) (insF RW s κ (j : Int)) (eY (GKx κ zs) lk X s) (by omega) (AHu_self _ _ _) ((AHu_ne (by omega)).trans hra3) (fun i hi => by
      unfold insF
      split
      · rfl
      · split
        · exact hl (i - 1) (by omega)
        · exact hl i (by have := hy3.2.1; omega)) (hM3.kept (fun a ha => AHu_ne (by unfold EN at ha; omega))) (fun q hq => (hF3 q hq).trans (hF2 q hq)) (fun a ha => (AHu_ne (fun z => ha (by unfold EK EC; omega))).trans (hV3 a ha)) ((hy3.rdp hg)) (fun i hi => ⟨eY_bd hg hy3.2.1 i, hg.2.2.1 _, hβK _⟩) hy3.1
