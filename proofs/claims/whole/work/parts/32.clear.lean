/-! ===== Grid: its world; clearLead ===== -/
theorem up_some (f : Nat → Nat) (k v : Nat) : va_up (fun i => some (f i)) k (some v) = fun i => some (upF f k v i) := by
  funext i; unfold va_up upF; split <;> rfl
theorem aw_aastR {g : GX} {M : MI} {d pc : Nat} {lv : List (Nat × Value)} {st : List Value} {V : AH} {sz : Nat} {Q : AQ} {a n v ca : Nat} {f : Nat → Nat} {x : Int} (kn : Nat) (hd : decode M.2.1 pc = .ok (.aastore, 1)) (hV : V a = some (aQ g 4 n (fun i => some (f i)))) (hv : V v = some (rowO ca)) (hx : x = (kn : Int)) (hk : kn < n) (hn : n < 2147483648) (kk : AW g M d (pc + 1) lv st (AHu V a (aQ g 4 n (fun i => some (upF f kn v i)))) sz Q) : AW g M d pc lv (.ref v :: .int (iZ x) :: .ref a :: st) V sz Q :=
  aw_aast (t0 := 4) (ci := 2) (r := (RX2, TX2, 1)) rfl rfl hd hV hv (ixZ hx hk hn) (by rw [up_some]; exact kk)
abbrev DT : Type := Nat × Nat × Nat × Nat × Nat × Nat × Nat × Nat
abbrev DT.dk (D : DT) : Nat := D.1
abbrev DT.r (D : DT) : Nat := D.2.1
abbrev DT.dv (D : DT) : Nat := D.2.2.1
abbrev DT.on (D : DT) : Nat := D.2.2.2.1
abbrev DT.gr (D : DT) : Nat := D.2.2.2.2.1
abbrev DT.sm (D : DT) : Nat := D.2.2.2.2.2.1
abbrev DT.fx (D : DT) : Nat := D.2.2.2.2.2.2.1
abbrev DT.px (D : DT) : Nat := D.2.2.2.2.2.2.2
def US (ws : List Nat) (D : DT) (x : Nat) : Prop := x ∈ ws ∧ x ≠ D.r ∧ x ≠ D.dv ∧ x ≠ D.on
/-- the Desk: its place and its fixed numbers -/
def DKV (ws : List Nat) (SA : Nat → Prop) (V : AH) (Z : Nat → Int) (D : DT) : Prop := SA D.dk ∧ V D.dk = some (dkO D.r D.dv D.on D.gr D.sm D.fx D.px) ∧ (D.r ∈ ws ∧ D.dv ∈ ws ∧ D.on ∈ ws ∧ D.r ≠ D.dv) ∧ Z D.r = 0 ∧ Z D.dv = 0 ∧ Z D.on = 1
theorem DKV.kept {ws : List Nat} {SA : Nat → Prop} {V V' : AH} {Z Z' : Nat → Int} {D : DT} (h : DKV ws SA V Z D) (h1 : V' D.dk = V D.dk) (h2 : Z' D.r = Z D.r) (h3 : Z' D.dv = Z D.dv) (h4 : Z' D.on = Z D.on) : DKV ws SA V' Z' D := ⟨h.1, h1.trans h.2.1, h.2.2.1, h2.trans h.2.2.2.1, h3.trans h.2.2.2.2.1, h4.trans h.2.2.2.2.2⟩
theorem w_div {g : GX} {ws : List Nat} {SA : Nat → Prop} {V : AH} {sz : Nat} {Z : Nat → Int} {P L : Nat → Nat} (d : Nat) {D : DT} {a b qq : Nat} (h : WG g ws SA V sz Z P L) (hD : DKV ws SA V Z D) (ha : US ws D a) (hb : US ws D b) (hq : US ws D qq) (hZa : Sm (Z a)) : AMet g mX0_divide (d + 4) [.ref D.dk, .ref a, .ref b, .ref qq] V sz (WQ g ws SA V sz P L (upF Z qq (Z a / Z b)) none) :=
  w_divide d h ha.1 hb.1 hD.2.2.1.1 hD.2.2.1.2.1 hD.2.2.1.2.2.1 hq.1 ha.2.1.symm hb.2.1.symm hD.2.2.1.2.2.2 hq.2.1.symm hb.2.2.1.symm hq.2.2.1.symm hq.2.2.2 hD.1 hD.2.1 hD.2.2.2.1 hD.2.2.2.2.1 hD.2.2.2.2.2 hZa
abbrev GG : Type := Nat × Nat × Nat × Nat × Nat × Nat × Nat × (Nat → Nat) × (Nat → Nat → Nat) × (Nat → Prop)
abbrev GG.gd (G : GG) : Nat := G.1
abbrev GG.ra (G : GG) : Nat := G.2.1
abbrev GG.la (G : GG) : Nat := G.2.2.1
abbrev GG.fa (G : GG) : Nat := G.2.2.2.1
abbrev GG.pr (G : GG) : Nat := G.2.2.2.2.1
abbrev GG.mr (G : GG) : Nat := G.2.2.2.2.2.1
abbrev GG.mc (G : GG) : Nat := G.2.2.2.2.2.2.1
abbrev GG.ka (G : GG) : Nat → Nat := G.2.2.2.2.2.2.2.1
abbrev GG.ga (G : GG) : Nat → Nat → Nat := G.2.2.2.2.2.2.2.2.1
abbrev GG.RS (G : GG) : Nat → Prop := G.2.2.2.2.2.2.2.2.2
abbrev grO (ra la dk fa pr : Nat) (h w : Int) : va_E := .inr (1, [.ref ra, .ref la, .ref dk, .ref fa, .ref pr, .int (iZ h), .int (iZ w)])
/-- what never changes of a Grid -/
def GSt (ws : List Nat) (SA : Nat → Prop) (D : DT) (G : GG) : Prop :=
  (SA G.gd ∧ SA G.ra ∧ SA G.la) ∧ (G.gd ≠ G.ra ∧ G.gd ≠ G.la ∧ G.ra ≠ G.la ∧ D.dk ≠ G.gd ∧ D.dk ≠ G.ra ∧ D.dk ≠ G.la) ∧ (US ws D G.fa ∧ US ws D G.pr ∧ G.fa ≠ G.pr) ∧
  (∀ ro, G.RS ro → SA ro ∧ SA (G.ka ro) ∧ (ro ≠ G.gd ∧ ro ≠ G.ra ∧ ro ≠ G.la) ∧ (G.ka ro ≠ G.gd ∧ G.ka ro ≠ G.ra ∧ G.ka ro ≠ G.la)) ∧
  (∀ ro, G.RS ro → ∀ j, j < G.mc → US ws D (G.ga ro j) ∧ G.ga ro j ≠ G.fa ∧ G.ga ro j ≠ G.pr) ∧
  (∀ ro ro' j j', G.RS ro → G.RS ro' → j < G.mc → j' < G.mc → G.ga ro j = G.ga ro' j' → ro = ro' ∧ j = j') ∧ G.mr < 100 ∧ G.mc < 100
/-- a Grid as it stands: height, width, leads, and which row stands where -/
def GD (g : GX) (V : AH) (dk : Nat) (G : GG) (hh w : Nat) (ld : Nat → Int) (ρ : Nat → Nat) : Prop :=
  V G.gd = some (grO G.ra G.la dk G.fa G.pr hh w) ∧ V G.ra = some (aQ g 4 G.mr (fun i => some (ρ i))) ∧ V G.la = some (aIz g G.mr ld) ∧ (∀ ro, G.RS ro → RowV g V ro (G.ka ro) G.mc (G.ga ro)) ∧ (∀ i, i < G.mr → G.RS (ρ i)) ∧ ∀ i j, i < G.mr → j < G.mr → i ≠ j → ρ i ≠ ρ j
abbrev AM (G : GG) (Z : Nat → Int) (ρ : Nat → Nat) : Mat := fun i j => Z (G.ga (ρ i) j)
def EG (G : GG) : Nat → Prop := fun a => a = G.gd ∨ a = G.ra ∨ a = G.la
/-- no number has changed but the Grid's own -/
def NF (G : GG) (Z Z' : Nat → Int) : Prop := ∀ x, x ≠ G.fa → x ≠ G.pr → (∀ ro, G.RS ro → ∀ j, j < G.mc → x ≠ G.ga ro j) → Z' x = Z x
theorem NF.rf {G : GG} {Z : Nat → Int} : NF G Z Z := fun _ _ _ _ => rfl
theorem NF.tr {G : GG} {Z Z1 Z2 : Nat → Int} (h : NF G Z Z1) (k : NF G Z1 Z2) : NF G Z Z2 := fun x a b c => (k x a b c).trans (h x a b c)
theorem GD.kept {g : GX} {ws : List Nat} {SA : Nat → Prop} {V V' : AH} {D : DT} {G : GG} {hh w : Nat} {ld : Nat → Int} {ρ : Nat → Nat} (hS : GSt ws SA D G) (h : GD g V D.dk G hh w ld ρ) (hV : ∀ a, SA a → V' a = V a) : GD g V' D.dk G hh w ld ρ := by
  obtain ⟨⟨s1, s2, s3⟩, -, -, s4, -⟩ := hS
  obtain ⟨h1, h2, h3, h4, h5⟩ := h
  exact ⟨(hV _ s1).trans h1, (hV _ s2).trans h2, (hV _ s3).trans h3, fun ro hr => (h4 ro hr).kept (hV _ (s4 ro hr).1) (hV _ (s4 ro hr).2.1), h5⟩
theorem GSt.dkv {ws : List Nat} {SA : Nat → Prop} {V V' : AH} {Z Z' : Nat → Int} {D : DT} {G : GG} (hS : GSt ws SA D G) (h : DKV ws SA V Z D) (h1 : V' D.dk = V D.dk) (hN : NF G Z Z') : DKV ws SA V' Z' D := by
  obtain ⟨-, -, ⟨⟨-, a1, a2, a3⟩, ⟨-, b1, b2, b3⟩, -⟩, -, s5, -⟩ := hS
  exact h.kept h1 (hN _ a1.symm b1.symm (fun ro hr j hj => (s5 ro hr j hj).1.2.1.symm)) (hN _ a2.symm b2.symm (fun ro hr j hj => (s5 ro hr j hj).1.2.2.1.symm)) (hN _ a3.symm b3.symm (fun ro hr j hj => (s5 ro hr j hj).1.2.2.2.symm))
theorem GD.swap {g : GX} {ws : List Nat} {SA : Nat → Prop} {V : AH} {D : DT} {G : GG} {hh w p : Nat} {ld : Nat → Int} {ρ : Nat → Nat} (hS : GSt ws SA D G) (h : GD g V D.dk G hh w ld ρ) (hp : p < G.mr) (hq : hh < G.mr) (hne : p ≠ hh) {e : va_E} : GD g (AHu (AHu V G.ra e) G.ra (aQ g 4 G.mr (fun i => some (upF (upF ρ p (ρ hh)) hh (ρ p) i)))) D.dk G hh w ld (upF (upF ρ p (ρ hh)) hh (ρ p)) := by
  obtain ⟨⟨s1, s2, s3⟩, ⟨n1, n2, n3, -⟩, -, s4, -⟩ := hS
  obtain ⟨h1, h2, h3, h4, h5, h6⟩ := h
  have hsw : ∀ i, i < G.mr → ∃ k, k < G.mr ∧ upF (upF ρ p (ρ hh)) hh (ρ p) i = ρ k ∧ (k = if i = hh then p else if i = p then hh else i) := fun i hi => by
    unfold upF
    by_cases h7 : i = hh
    · exact ⟨p, hp, by simp [h7], by simp [h7]⟩
    · by_cases h8 : i = p
      · subst h8
        exact ⟨hh, hq, by simp [h7], by simp [h7]⟩
      · exact ⟨i, hi, by simp [h7, h8], by simp [h7, h8]⟩
  refine ⟨by rw [AHu_ne n1, AHu_ne n1]; exact h1, AHu_self _ _ _, by rw [AHu_ne n3.symm, AHu_ne n3.symm]; exact h3, fun ro hr => ?_, fun i hi => ?_, fun i j hi hj hij => ?_⟩
  · have a1 := (s4 ro hr).2.2.1.2.1
    have a2 := (s4 ro hr).2.2.2.2.1
    exact (h4 ro hr).kept (by rw [AHu_ne a1, AHu_ne a1]) (by rw [AHu_ne a2, AHu_ne a2])
  · obtain ⟨k, hk, e, -⟩ := hsw i hi
    rw [e]; exact h5 k hk
  · obtain ⟨k, hk, e, ek⟩ := hsw i hi
    obtain ⟨k', hk', e', ek'⟩ := hsw j hj
    rw [e, e']
    refine h6 k k' hk hk' ?_
    rw [ek, ek']
    split <;> split <;> (try split) <;> (try split) <;> omega
/-- the row that lessMultiple has written -/
theorem RU.all {Z Z' : Nat → Int} {c c2 : Nat → Nat} {fr w f n : Nat} {sc : Nat → Prop} (h : RU Z Z' c fr w (fun j => Z (c j) - Z f * Z (c2 j)) sc) (hw : w ≤ n) (hci : ∀ i j, i < n → j < n → i ≠ j → c i ≠ c j) (hsc : ∀ i, i < n → ¬ sc (c i)) (hz : ∀ j, j < fr → Z (c2 j) = 0) : ∀ j, j < w → Z' (c j) = Z (c j) - Z f * Z (c2 j) := fun j hj => by
  by_cases hf : fr ≤ j
  · exact h.1 j hf hj
  · rw [hz j (by omega), Int.mul_zero, Int.sub_zero]
    exact h.2 _ (hsc j (by omega)) (fun i h1 h2 => hci j i (by omega) (by omega) (by omega))
theorem Sm.of {x T : Int} (hT : Sm (2 * T)) (h : ab x ≤ 2 * T) : Sm x := by
  have h1 : ab (2 * T) = 2 * T := ab_pos (by have := ab0 x; omega)
  have h2 : ab (2 * T) < 2147483648 ^ 150 := hT
  show ab x < 2147483648 ^ 150
  generalize (2147483648 : Int) ^ 150 = B at h2 ⊢
  omega

abbrev mX1_clearLead : MI := (yX1_clearLead, cX1_clearLead, 6, none, noX)
theorem dX1_clearLead_0 : decode cX1_clearLead 0 = .ok (.iconst 0, 1) := by decide +kernel
theorem dX1_clearLead_1 : decode cX1_clearLead 1 = .ok (.istore_n 3, 1) := by decide +kernel
theorem dX1_clearLead_2 : decode cX1_clearLead 2 = .ok (.iload_n 3, 1) := by decide +kernel
theorem dX1_clearLead_3 : decode cX1_clearLead 3 = .ok (.ldc 84, 2) := by decide +kernel
theorem dX1_clearLead_5 : decode cX1_clearLead 5 = .ok (.if_icmp .ge 125, 3) := by decide +kernel
theorem dX1_clearLead_8 : decode cX1_clearLead 8 = .ok (.aload_n 0, 1) := by decide +kernel
theorem dX1_clearLead_9 : decode cX1_clearLead 9 = .ok (.getfield 41, 3) := by decide +kernel
theorem dX1_clearLead_12 : decode cX1_clearLead 12 = .ok (.aload_n 0, 1) := by decide +kernel
theorem dX1_clearLead_13 : decode cX1_clearLead 13 = .ok (.getfield 28, 3) := by decide +kernel
theorem dX1_clearLead_16 : decode cX1_clearLead 16 = .ok (.aaload, 1) := by decide +kernel
theorem dX1_clearLead_17 : decode cX1_clearLead 17 = .ok (.getfield 65, 3) := by decide +kernel
theorem dX1_clearLead_20 : decode cX1_clearLead 20 = .ok (.iload_n 2, 1) := by decide +kernel
theorem dX1_clearLead_21 : decode cX1_clearLead 21 = .ok (.aaload, 1) := by decide +kernel
theorem dX1_clearLead_22 : decode cX1_clearLead 22 = .ok (.getfield 85, 3) := by decide +kernel
theorem dX1_clearLead_25 : decode cX1_clearLead 25 = .ok (.ifCond .eq 105, 3) := by decide +kernel
theorem dX1_clearLead_28 : decode cX1_clearLead 28 = .ok (.aload_n 0, 1) := by decide +kernel
theorem dX1_clearLead_29 : decode cX1_clearLead 29 = .ok (.getfield 41, 3) := by decide +kernel
theorem dX1_clearLead_32 : decode cX1_clearLead 32 = .ok (.aload_n 0, 1) := by decide +kernel
theorem dX1_clearLead_33 : decode cX1_clearLead 33 = .ok (.getfield 28, 3) := by decide +kernel
theorem dX1_clearLead_36 : decode cX1_clearLead 36 = .ok (.aaload, 1) := by decide +kernel
theorem dX1_clearLead_37 : decode cX1_clearLead 37 = .ok (.astore 4, 2) := by decide +kernel
theorem dX1_clearLead_39 : decode cX1_clearLead 39 = .ok (.aload_n 0, 1) := by decide +kernel
theorem dX1_clearLead_40 : decode cX1_clearLead 40 = .ok (.getfield 41, 3) := by decide +kernel
theorem dX1_clearLead_43 : decode cX1_clearLead 43 = .ok (.iload_n 1, 1) := by decide +kernel
theorem dX1_clearLead_44 : decode cX1_clearLead 44 = .ok (.aaload, 1) := by decide +kernel
theorem dX1_clearLead_45 : decode cX1_clearLead 45 = .ok (.astore 5, 2) := by decide +kernel
theorem dX1_clearLead_47 : decode cX1_clearLead 47 = .ok (.aload_n 0, 1) := by decide +kernel
theorem dX1_clearLead_48 : decode cX1_clearLead 48 = .ok (.getfield 12, 3) := by decide +kernel
theorem dX1_clearLead_51 : decode cX1_clearLead 51 = .ok (.aload 4, 2) := by decide +kernel
theorem dX1_clearLead_53 : decode cX1_clearLead 53 = .ok (.getfield 65, 3) := by decide +kernel
theorem dX1_clearLead_56 : decode cX1_clearLead 56 = .ok (.iload_n 2, 1) := by decide +kernel
theorem dX1_clearLead_57 : decode cX1_clearLead 57 = .ok (.aaload, 1) := by decide +kernel
theorem dX1_clearLead_58 : decode cX1_clearLead 58 = .ok (.aload 5, 2) := by decide +kernel
theorem dX1_clearLead_60 : decode cX1_clearLead 60 = .ok (.getfield 65, 3) := by decide +kernel
theorem dX1_clearLead_63 : decode cX1_clearLead 63 = .ok (.iload_n 2, 1) := by decide +kernel
theorem dX1_clearLead_64 : decode cX1_clearLead 64 = .ok (.aaload, 1) := by decide +kernel
theorem dX1_clearLead_65 : decode cX1_clearLead 65 = .ok (.aload_n 0, 1) := by decide +kernel
theorem dX1_clearLead_66 : decode cX1_clearLead 66 = .ok (.getfield 21, 3) := by decide +kernel
theorem dX1_clearLead_69 : decode cX1_clearLead 69 = .ok (.invokevirtual 88, 3) := by decide +kernel
theorem dX1_clearLead_72 : decode cX1_clearLead 72 = .ok (.aload 4, 2) := by decide +kernel
theorem dX1_clearLead_74 : decode cX1_clearLead 74 = .ok (.aload_n 0, 1) := by decide +kernel
theorem dX1_clearLead_75 : decode cX1_clearLead 75 = .ok (.getfield 21, 3) := by decide +kernel
theorem dX1_clearLead_78 : decode cX1_clearLead 78 = .ok (.aload 5, 2) := by decide +kernel
theorem dX1_clearLead_80 : decode cX1_clearLead 80 = .ok (.iload_n 2, 1) := by decide +kernel
theorem dX1_clearLead_81 : decode cX1_clearLead 81 = .ok (.aload_n 0, 1) := by decide +kernel
theorem dX1_clearLead_82 : decode cX1_clearLead 82 = .ok (.getfield 32, 3) := by decide +kernel
theorem dX1_clearLead_85 : decode cX1_clearLead 85 = .ok (.aload_n 0, 1) := by decide +kernel
theorem dX1_clearLead_86 : decode cX1_clearLead 86 = .ok (.getfield 25, 3) := by decide +kernel
theorem dX1_clearLead_89 : decode cX1_clearLead 89 = .ok (.invokevirtual 92, 3) := by decide +kernel
theorem dX1_clearLead_92 : decode cX1_clearLead 92 = .ok (.aload 4, 2) := by decide +kernel
theorem dX1_clearLead_94 : decode cX1_clearLead 94 = .ok (.getfield 65, 3) := by decide +kernel
theorem dX1_clearLead_97 : decode cX1_clearLead 97 = .ok (.iload_n 2, 1) := by decide +kernel
theorem dX1_clearLead_98 : decode cX1_clearLead 98 = .ok (.aaload, 1) := by decide +kernel
theorem dX1_clearLead_99 : decode cX1_clearLead 99 = .ok (.getfield 85, 3) := by decide +kernel
theorem dX1_clearLead_102 : decode cX1_clearLead 102 = .ok (.ifCond .eq 22, 3) := by decide +kernel
theorem dX1_clearLead_105 : decode cX1_clearLead 105 = .ok (.aload_n 0, 1) := by decide +kernel
theorem dX1_clearLead_106 : decode cX1_clearLead 106 = .ok (.getfield 41, 3) := by decide +kernel
theorem dX1_clearLead_109 : decode cX1_clearLead 109 = .ok (.iload_n 1, 1) := by decide +kernel
theorem dX1_clearLead_110 : decode cX1_clearLead 110 = .ok (.aload 4, 2) := by decide +kernel
theorem dX1_clearLead_112 : decode cX1_clearLead 112 = .ok (.aastore, 1) := by decide +kernel
theorem dX1_clearLead_113 : decode cX1_clearLead 113 = .ok (.aload_n 0, 1) := by decide +kernel
theorem dX1_clearLead_114 : decode cX1_clearLead 114 = .ok (.getfield 41, 3) := by decide +kernel
theorem dX1_clearLead_117 : decode cX1_clearLead 117 = .ok (.aload_n 0, 1) := by decide +kernel
theorem dX1_clearLead_118 : decode cX1_clearLead 118 = .ok (.getfield 28, 3) := by decide +kernel
theorem dX1_clearLead_121 : decode cX1_clearLead 121 = .ok (.aload 5, 2) := by decide +kernel
theorem dX1_clearLead_123 : decode cX1_clearLead 123 = .ok (.aastore, 1) := by decide +kernel
theorem dX1_clearLead_124 : decode cX1_clearLead 124 = .ok (.iinc 3 1, 3) := by decide +kernel
theorem dX1_clearLead_127 : decode cX1_clearLead 127 = .ok (.goto (-125), 3) := by decide +kernel
theorem dX1_clearLead_130 : decode cX1_clearLead 130 = .ok (.return_, 1) := by decide +kernel
theorem CL.cong {T : Int} {w l x : Nat} {K N K' N' : Nat → Int} (h : CL T w l x K N) (hlw : l < w) (h1 : ∀ j, j < w → K' j = K j) (h2 : ∀ j, j < w → N' j = N j) : CL T w l x K' N' := by
  obtain ⟨a1, a2, a3, a4⟩ := h
  refine ⟨by rw [h1 l hlw]; exact a1, fun j hj => by rw [h1 j (by omega), h2 j (by omega)]; exact a2 j hj, fun j hj => by rw [h1 j hj, h2 j hj]; exact a3 j hj, ?_⟩
  rw [h1 l hlw, h2 l hlw]
  rcases a4 with b | ⟨b1, b2, b3, b4, b5⟩ | ⟨b1, b2, b, c, b3, b4, b5, b6⟩
  · exact Or.inl b
  · exact Or.inr (Or.inl ⟨b1, b2, b3, b4, fun j hj => by rw [h1 j hj, h2 j hj]; exact b5 j hj⟩)
  · exact Or.inr (Or.inr ⟨b1, b2, b, c, b3, b4, fun j hj => by rw [h1 j hj, h2 j hj]; exact b5 j hj, b6⟩)
theorem SpEq.swap {G : GG} {Z : Nat → Int} {ρ ρ' : Nat → Nat} {p h w : Nat} (hp : p < h + 1) (h1 : ρ' p = ρ h) (h2 : ρ' h = ρ p) (h3 : ∀ i, i ≠ p → i ≠ h → ρ' i = ρ i) : SpEq (AM G Z ρ) (h + 1) (AM G Z ρ') (h + 1) w := by
  refine SpEq.perm (fun i hi => ?_) (fun i hi => ?_)
  · by_cases a : i = p
    · subst a; exact ⟨h, by omega, fun j _ => by show Z _ = Z _; rw [h2]⟩
    · by_cases b : i = h
      · subst b; exact ⟨p, by omega, fun j _ => by show Z _ = Z _; rw [h1]⟩
      · exact ⟨i, hi, fun j _ => by show Z _ = Z _; rw [h3 i a b]⟩
  · by_cases a : i = p
    · subst a; exact ⟨h, by omega, fun j _ => by show Z _ = Z _; rw [h1]⟩
    · by_cases b : i = h
      · subst b; exact ⟨p, by omega, fun j _ => by show Z _ = Z _; rw [h2]⟩
      · exact ⟨i, hi, fun j _ => by show Z _ = Z _; rw [h3 i a b]⟩
set_option maxRecDepth 20000 in
theorem cl_loop (g : GX) (d : Nat) {ws : List Nat} {SA : Nat → Prop} {D : DT} {G : GG} {h w p l : Nat} {ld : Nat → Int} {ρ0 : Nat → Nat} {Z0 : Nat → Int} {A0 : Mat} {T : Int} (hS : GSt ws SA D G) (hlw : l < w) (hpm : p < G.mr) (hhm : h < G.mr) (hph : p < h) (hwm : w ≤ G.mc) (hT2 : Sm (2 * T)) : ∀ (x s : Nat), s + x ≤ 9301 → ∀ {V : AH} {sz : Nat} {Z : Nat → Int} {P L : Nat → Nat} {ρ : Nat → Nat}, WG g ws SA V sz Z P L → DKV ws SA V Z D → GD g V D.dk G h w ld ρ → CL T w l x (fun j => Z (G.ga (ρ p) j)) (fun j => Z (G.ga (ρ h) j)) → SpEq A0 (h + 1) (AM G Z ρ) (h + 1) w → (∀ i, i < G.mr → i ≠ p → i ≠ h → ρ i = ρ0 i ∧ ∀ j, j < G.mc → Z (G.ga (ρ0 i) j) = Z0 (G.ga (ρ0 i) j)) → NF G Z0 Z → AW g mX1_clearLead (d + 5) 2 [(3, .int (iZ s)), (0, .ref G.gd), (1, .int (iZ p)), (2, .int (iZ l))] [] V sz (WE g ws SA (EG G) V sz L (fun r V' Z' => none = r ∧ ∃ ρ' : Nat → Nat, GD g V' D.dk G h w ld ρ' ∧ (AM G Z' ρ' h l = 0 ∧ 0 < AM G Z' ρ' p l ∧ (∀ j, j < l → AM G Z' ρ' p j = 0 ∧ AM G Z' ρ' h j = 0) ∧ ∀ j, j < w → ab (AM G Z' ρ' p j) ≤ T ∧ ab (AM G Z' ρ' h j) ≤ T) ∧ SpEq A0 (h + 1) (AM G Z' ρ') (h + 1) w ∧ (∀ i, i < G.mr → i ≠ p → i ≠ h → ρ' i = ρ0 i ∧ ∀ j, j < G.mc → Z' (G.ga (ρ0 i) j) = Z0 (G.ga (ρ0 i) j)) ∧ NF G Z0 Z'))
  | x, s, hxs, V, sz, Z, P, L, ρ, hw0, hD, hG, hCL, hSp, hoth, hNF => by
    obtain ⟨-, -, ⟨hfa, hpr, hfpr⟩, hSr, hcell, hginj, hmr, hmc⟩ := id hS
    have hcin : ∀ ro, G.RS ro → ∀ i j, i < G.mc → j < G.mc → i ≠ j → G.ga ro i ≠ G.ga ro j := fun ro hr i j hi hj hne q => hne (hginj ro ro i j hr hr hi hj q).2
    refine aw_iload_n dX1_clearLead_2 (by rfl) ?_
    refine aw_ldcZ (z := 1000000) qX1_84 dX1_clearLead_3 (by decide) ?_
    refine aw_icmp_geZ (tgt := 130) dX1_clearLead_5 (by decide) (by omega) (by omega) (fun hc_5 => ?_) (fun hc_5 => ?_)
    · exact absurd hc_5 (by omega)
    · obtain ⟨hgd, hra, hla, hrow, hRS, hinj⟩ := id hG
      have hRh := hRS h (by omega)
      have hRp := hRS p (by omega)
      obtain ⟨hrh, hch, -⟩ := hrow _ hRh
      obtain ⟨hrp, hcp, -⟩ := hrow _ hRp
      obtain ⟨nn, FN, hWn⟩ := hw0.raw (hcell _ hRh l (by omega)).1.1
      obtain ⟨nk, FK, hWk⟩ := hw0.raw (hcell _ hRp l (by omega)).1.1
      have hWno := hWn.1
      have hWko := hWk.1
      refine aw_aload_n dX1_clearLead_8 (by rfl) (Or.inr ⟨_, rfl⟩) ?_
      refine aw_get fX1_41 dX1_clearLead_9 (by assumption) (by rfl) ?_
      refine aw_aload_n dX1_clearLead_12 (by rfl) (Or.inr ⟨_, rfl⟩) ?_
      refine aw_get fX1_28 dX1_clearLead_13 (by assumption) (by rfl) ?_
      refine aw_aaldZ (t0 := 4) (h) (by rfl) dX1_clearLead_16 (by assumption) (by omega) (by omega) (by omega) ?_
      refine aw_get fX1_65 dX1_clearLead_17 (by assumption) (by rfl) ?_
      refine aw_iload_n dX1_clearLead_20 (by rfl) ?_
      refine aw_aaldZ (t0 := 5) (l) (by rfl) dX1_clearLead_21 (by assumption) (by omega) (by omega) (by omega) ?_
      refine aw_get fX1_85 dX1_clearLead_22 (by assumption) (by rfl) ?_
      refine aw_if_eqZ (tgt := 130) dX1_clearLead_25 (by decide) (sgn_R _) (fun hc_25 => ?_) (fun hc_25 => ?_)
      · refine aw_ret dX1_clearLead_130 rfl ?_
        exact WE.ret hw0 ⟨rfl, ρ, hG, ⟨sgn0.mp hc_25, hCL.1, hCL.2.1, hCL.2.2.1⟩, hSp, hoth, hNF⟩
      · have hCb : ∀ j, j < w → ab (Z (G.ga (ρ p) j)) ≤ T ∧ ab (Z (G.ga (ρ h) j)) ≤ T := hCL.2.2.1
        have hNl : Z (G.ga (ρ h) l) ≠ 0 := fun q => hc_25 (sgn0.mpr q)
        obtain ⟨hx0, hst0, hst1, hqT, hNT⟩ := hCL.step hlw hNl
        obtain ⟨y, rfl⟩ : ∃ y, x = y + 1 := ⟨x - 1, by omega⟩
        have hsq : Sm (Z (G.ga (ρ h) l) / Z (G.ga (ρ p) l)) := Sm.of hT2 (by have := ab0 (Z (G.ga (ρ h) l) / Z (G.ga (ρ p) l)); omega)
        have hsm : ∀ j, j < w → Sm (Z (G.ga (ρ h) j)) ∧ Sm (Z (G.ga (ρ p) j)) ∧ Sm (Z (G.ga (ρ h) l) / Z (G.ga (ρ p) l) * Z (G.ga (ρ p) j)) := fun j hj => by
          have h1 := hCb j hj
          have h2 := hNT j hj
          refine ⟨Sm.of hT2 ?_, Sm.of hT2 ?_, Sm.of hT2 ?_⟩
          · have := ab0 (Z (G.ga (ρ h) j)); omega
          · have := ab0 (Z (G.ga (ρ p) j)); omega
          · have h3 := ab_sub (Z (G.ga (ρ h) j)) (Z (G.ga (ρ h) j) - Z (G.ga (ρ h) l) / Z (G.ga (ρ p) l) * Z (G.ga (ρ p) j))
            rw [show Z (G.ga (ρ h) j) - (Z (G.ga (ρ h) j) - Z (G.ga (ρ h) l) / Z (G.ga (ρ p) l) * Z (G.ga (ρ p) j)) = Z (G.ga (ρ h) l) / Z (G.ga (ρ p) l) * Z (G.ga (ρ p) j) by omega] at h3
            omega
        refine aw_aload_n dX1_clearLead_28 (by rfl) (Or.inr ⟨_, rfl⟩) ?_
        refine aw_get fX1_41 dX1_clearLead_29 (by assumption) (by rfl) ?_
        refine aw_aload_n dX1_clearLead_32 (by rfl) (Or.inr ⟨_, rfl⟩) ?_
        refine aw_get fX1_28 dX1_clearLead_33 (by assumption) (by rfl) ?_
        refine aw_aaldZ (t0 := 4) (h) (by rfl) dX1_clearLead_36 (by assumption) (by omega) (by omega) (by omega) ?_
        refine aw_astore dX1_clearLead_37 (by decide) (Or.inr ⟨_, rfl⟩) ?_
        refine aw_aload_n dX1_clearLead_39 (by rfl) (Or.inr ⟨_, rfl⟩) ?_
        refine aw_get fX1_41 dX1_clearLead_40 (by assumption) (by rfl) ?_
        refine aw_iload_n dX1_clearLead_43 (by rfl) ?_
        refine aw_aaldZ (t0 := 4) (p) (by rfl) dX1_clearLead_44 (by assumption) (by omega) (by omega) (by omega) ?_
        refine aw_astore dX1_clearLead_45 (by decide) (Or.inr ⟨_, rfl⟩) ?_
        refine aw_aload_n dX1_clearLead_47 (by rfl) (Or.inr ⟨_, rfl⟩) ?_
        refine aw_get fX1_12 dX1_clearLead_48 (by assumption) (by rfl) ?_
        refine aw_aload dX1_clearLead_51 (by rfl) (Or.inr ⟨_, rfl⟩) ?_
        refine aw_get fX1_65 dX1_clearLead_53 (by assumption) (by rfl) ?_
        refine aw_iload_n dX1_clearLead_56 (by rfl) ?_
        refine aw_aaldZ (t0 := 5) (l) (by rfl) dX1_clearLead_57 (by assumption) (by omega) (by omega) (by omega) ?_
        refine aw_aload dX1_clearLead_58 (by rfl) (Or.inr ⟨_, rfl⟩) ?_
        refine aw_get fX1_65 dX1_clearLead_60 (by assumption) (by rfl) ?_
        refine aw_iload_n dX1_clearLead_63 (by rfl) ?_
        refine aw_aaldZ (t0 := 5) (l) (by rfl) dX1_clearLead_64 (by assumption) (by omega) (by omega) (by omega) ?_
        refine aw_aload_n dX1_clearLead_65 (by rfl) (Or.inr ⟨_, rfl⟩) ?_
        refine aw_get fX1_21 dX1_clearLead_66 (by assumption) (by rfl) ?_
        refine aw_callv vX1_88 dX1_clearLead_69 hD.2.1 (w_div d hw0 hD (hcell _ hRh l (by omega)).1 (hcell _ hRp l (by omega)).1 hfa (Sm.of hT2 (by have := (hCb l hlw).2; have := ab0 (Z (G.ga (ρ h) l)); omega))) (by rfl) (by rfl) (by omega) (Nat.le_of_ble_eq_true rfl) ?_
        rintro _ V1 sz1 mc1 ms1 ⟨rfl, P1, L1, hs1⟩ -
        have hG1 := hG.kept hS hs1.2.2.1
        obtain ⟨hgd1, hra1, hla1, hrow1, -, -⟩ := id hG1
        have hrh1 := (hrow1 _ hRh)
        have hrp1 := (hrow1 _ hRp)
        refine WE.stp (WSE.of hs1) ?_
        have eN : ∀ j, j < G.mc → upF Z G.fa (Z (G.ga (ρ h) l) / Z (G.ga (ρ p) l)) (G.ga (ρ h) j) = Z (G.ga (ρ h) j) := fun j hj => upF_ne _ _ (hcell _ hRh j hj).2.1
        have eK : ∀ j, j < G.mc → upF Z G.fa (Z (G.ga (ρ h) l) / Z (G.ga (ρ p) l)) (G.ga (ρ p) j) = Z (G.ga (ρ p) j) := fun j hj => upF_ne _ _ (hcell _ hRp j hj).2.1
        refine aw_aload dX1_clearLead_72 (by rfl) (Or.inr ⟨_, rfl⟩) ?_
        refine aw_aload_n dX1_clearLead_74 (by rfl) (Or.inr ⟨_, rfl⟩) ?_
        refine aw_get fX1_21 dX1_clearLead_75 (by assumption) (by rfl) ?_
        refine aw_aload dX1_clearLead_78 (by rfl) (Or.inr ⟨_, rfl⟩) ?_
        refine aw_iload_n dX1_clearLead_80 (by rfl) ?_
        refine aw_aload_n dX1_clearLead_81 (by rfl) (Or.inr ⟨_, rfl⟩) ?_
        refine aw_get fX1_32 dX1_clearLead_82 (by assumption) (by rfl) ?_
        refine aw_aload_n dX1_clearLead_85 (by rfl) (Or.inr ⟨_, rfl⟩) ?_
        refine aw_get fX1_25 dX1_clearLead_86 (by assumption) (by rfl) ?_
        refine aw_callv vX1_92 dX1_clearLead_89 hrh1.1 (w_lessMultiple (w := w) (fr := l) d hs1.1 hrh1 hrp1 (fun j hj => (hcell _ hRh j hj).1.1) (fun j hj => (hcell _ hRp j hj).1.1) (hcin _ hRh) (fun i j hi hj q => hinj h p (by omega) (by omega) (by omega) (hginj _ _ _ _ hRh hRp hi hj q).1) (fun j hj => (hcell _ hRh j hj).2.1.symm) hfpr (fun j hj => (hcell _ hRh j hj).2.2.symm) (fun j hj => (hcell _ hRp j hj).2.2.symm) hfa.1 hpr.1 (hSr _ hRh).1 (hSr _ hRh).2.1 (hSr _ hRp).1 (hSr _ hRp).2.1 (by omega) (by rw [upF_self]; exact hsq) (fun j h1 h2 => by rw [eN j (by omega), eK j (by omega), upF_self]; exact hsm j h2)) (by rfl) (by rfl) (by omega) (Nat.le_of_ble_eq_true rfl) ?_
        rintro _ V2 sz2 mc2 ms2 ⟨Z2, P2, L2, ⟨rfl, hru⟩, hs2⟩ -
        refine WE.stp (hs2.weak (fun _ q => q.elim)) ?_
        have hkv2 : ∀ a, SA a → V2 a = V1 a := fun a ha => hs2.2.2.1 a ha (fun q => q)
        have hG2 := hG1.kept hS hkv2
        obtain ⟨hgd2, hra2, hla2, hrow2, -, -⟩ := id hG2
        obtain ⟨hrh2, hch2, -⟩ := hrow2 _ hRh
        obtain ⟨hrp2, hcp2, -⟩ := hrow2 _ hRp
        obtain ⟨nn2, FN2, hWn2⟩ := hs2.1.raw (hcell _ hRh l (by omega)).1.1
        have hWn2o := hWn2.1
        have hrw : ∀ j, j < w → Z2 (G.ga (ρ h) j) = Z (G.ga (ρ h) j) - Z (G.ga (ρ h) l) / Z (G.ga (ρ p) l) * Z (G.ga (ρ p) j) := fun j hj => by
          rw [hru.all hwm (hcin _ hRh) (fun i hi => (hcell _ hRh i hi).2.2) (fun j hj => by rw [eK j (by omega)]; exact (hCL.2.1 j hj).1) j hj, eN j (by omega), eK j (by omega), upF_self]
        have hot : ∀ i, i < G.mr → i ≠ h → ∀ j, j < G.mc → Z2 (G.ga (ρ i) j) = Z (G.ga (ρ i) j) := fun i hi hih j hj => by
          rw [hru.2 _ (hcell _ (hRS i hi) j hj).2.2 (fun k _ hk q => hinj i h hi (by omega) hih (hginj _ _ _ _ (hRS i hi) hRh hj (by omega) q).1), upF_ne _ _ (hcell _ (hRS i hi) j hj).2.1]
        have hNF2 : NF G Z Z2 := fun x h1 h2 h3 => by
          rw [hru.2 x h2 (fun k _ hk => h3 _ hRh k (by omega)), upF_ne _ _ h1]
        have hD2 := hS.dkv hD ((hkv2 _ hD.1).trans (hs1.2.2.1 _ hD.1)) hNF2
        have hop : SpEq (AM G Z ρ) (h + 1) (AM G Z2 ρ) (h + 1) w := SpEq.op (i := h) (k := p) (q := Z (G.ga (ρ h) l) / Z (G.ga (ρ p) l)) (by omega) (by omega) (by omega) (fun k hk hne j hj => hot k (by omega) hne j (by omega)) hrw
        have hkp : ∀ j, j < w → Z2 (G.ga (ρ p) j) = Z (G.ga (ρ p) j) := fun j hj => hot p (by omega) (by omega) j (by omega)
        refine aw_aload dX1_clearLead_92 (by rfl) (Or.inr ⟨_, rfl⟩) ?_
        refine aw_get fX1_65 dX1_clearLead_94 (by assumption) (by rfl) ?_
        refine aw_iload_n dX1_clearLead_97 (by rfl) ?_
        refine aw_aaldZ (t0 := 5) (l) (by rfl) dX1_clearLead_98 (by assumption) (by omega) (by omega) (by omega) ?_
        refine aw_get fX1_85 dX1_clearLead_99 (by assumption) (by rfl) ?_
        refine aw_if_eqZ (tgt := 124) dX1_clearLead_102 (by decide) (sgn_R _) (fun hc_102 => ?_) (fun hc_102 => ?_)
        · have hz2 : Z (G.ga (ρ h) l) - Z (G.ga (ρ h) l) / Z (G.ga (ρ p) l) * Z (G.ga (ρ p) l) = 0 := by rw [← hrw l hlw]; exact sgn0.mp hc_102
          have hCL2 : CL T w l y (fun j => Z2 (G.ga (ρ p) j)) (fun j => Z2 (G.ga (ρ h) j)) := (hst0 hz2).cong hlw (fun j hj => hkp j hj) hrw
          skip
          refine aw_iincZ dX1_clearLead_124 (by rfl) (by decide) ?_
          refine aw_goto (tgt := 2) dX1_clearLead_127 (by decide) ?_
          rw [show ((s : Int) + 1) = ((s + 1 : Nat) : Int) by omega]
          refine aw_pk [3, 0, 1, 2] (by rfl) ?_
          first
          | (refine WE.stp0 (WSE.sto hw3 hS.1.2.1 (Or.inr (Or.inl rfl))) ?_
             have hD4 := hD2.kept (V' := AHu (AHu V2 G.ra (aQ g 4 G.mr (fun i => some (upF ρ p (ρ h) i)))) G.ra (aQ g 4 G.mr (fun i => some (upF (upF ρ p (ρ h)) h (ρ p) i)))) (by rw [AHu_ne hS.2.1.2.2.2.2.1, AHu_ne hS.2.1.2.2.2.2.1]) rfl rfl rfl
             have hsh : upF (upF ρ p (ρ h)) h (ρ p) h = ρ p := upF_self _ _ _
             have hsp : upF (upF ρ p (ρ h)) h (ρ p) p = ρ h := by rw [upF_ne _ _ (by omega), upF_self]
             have hso : ∀ i, i ≠ p → i ≠ h → upF (upF ρ p (ρ h)) h (ρ p) i = ρ i := fun i h1 h2 => by rw [upF_ne _ _ h2, upF_ne _ _ h1]
             exact cl_loop g d hS hlw hpm hhm hph hwm hT2 y (s + 1) (by omega) (hw3.sto hS.1.2.1) hD4 (hG2.swap hS (by omega) (by omega) (by omega)) (by rw [hsh, hsp]; exact hCL2) ((hSp.tr hop).tr (SpEq.swap (by omega) hsp hsh hso)) (fun i hi h1 h2 => ⟨(hso i h1 h2).trans (hoth i hi h1 h2).1, fun j hj => by rw [← (hoth i hi h1 h2).2 j hj, ← (hoth i hi h1 h2).1]; exact hot i hi h2 j hj⟩) (hNF.tr hNF2))
          | exact cl_loop g d hS hlw hpm hhm hph hwm hT2 y (s + 1) (by omega) hs2.1 hD2 hG2 hCL2 (hSp.tr hop) (fun i hi h1 h2 => ⟨(hoth i hi h1 h2).1, fun j hj => by rw [← (hoth i hi h1 h2).2 j hj, ← (hoth i hi h1 h2).1]; exact hot i hi h2 j hj⟩) (hNF.tr hNF2)
        · have hz2 : ¬ Z (G.ga (ρ h) l) - Z (G.ga (ρ h) l) / Z (G.ga (ρ p) l) * Z (G.ga (ρ p) l) = 0 := by rw [← hrw l hlw]; exact fun q => hc_102 (sgn0.mpr q)
          have hCL2 : CL T w l y (fun j => Z2 (G.ga (ρ h) j)) (fun j => Z2 (G.ga (ρ p) j)) := (hst1 hz2).cong hlw hrw (fun j hj => hkp j hj)
          refine aw_aload_n dX1_clearLead_105 (by rfl) (Or.inr ⟨_, rfl⟩) ?_
          refine aw_get fX1_41 dX1_clearLead_106 (by assumption) (by rfl) ?_
          refine aw_iload_n dX1_clearLead_109 (by rfl) ?_
          refine aw_aload dX1_clearLead_110 (by rfl) (Or.inr ⟨_, rfl⟩) ?_
          refine aw_aastR (p) dX1_clearLead_112 (by assumption) (by assumption) (by omega) (by omega) (by omega) ?_
          have hgd3 : (AHu V2 G.ra (aQ g 4 G.mr (fun i => some (upF ρ p (ρ h) i)))) G.gd = _ := (AHu_ne hS.2.1.1).trans hgd2
          have hra3 : (AHu V2 G.ra (aQ g 4 G.mr (fun i => some (upF ρ p (ρ h) i)))) G.ra = _ := AHu_self _ _ _
          have hrp3 : (AHu V2 G.ra (aQ g 4 G.mr (fun i => some (upF ρ p (ρ h) i)))) (ρ p) = _ := (AHu_ne (hSr _ hRp).2.2.1.2.1).trans hrp2
          refine WE.stp0 (WSE.sto hs2.1 hS.1.2.1 (Or.inr (Or.inl rfl))) ?_
          have hw3 := hs2.1.sto (e := aQ g 4 G.mr (fun i => some (upF ρ p (ρ h) i))) hS.1.2.1
          refine aw_aload_n dX1_clearLead_113 (by rfl) (Or.inr ⟨_, rfl⟩) ?_
          refine aw_get fX1_41 dX1_clearLead_114 (by assumption) (by rfl) ?_
          refine aw_aload_n dX1_clearLead_117 (by rfl) (Or.inr ⟨_, rfl⟩) ?_
          refine aw_get fX1_28 dX1_clearLead_118 (by assumption) (by rfl) ?_
          refine aw_aload dX1_clearLead_121 (by rfl) (Or.inr ⟨_, rfl⟩) ?_
          refine aw_aastR (h) dX1_clearLead_123 (by assumption) (by assumption) (by omega) (by omega) (by omega) ?_
          skip
          refine aw_iincZ dX1_clearLead_124 (by rfl) (by decide) ?_
          refine aw_goto (tgt := 2) dX1_clearLead_127 (by decide) ?_
          rw [show ((s : Int) + 1) = ((s + 1 : Nat) : Int) by omega]
          refine aw_pk [3, 0, 1, 2] (by rfl) ?_
          first
          | (refine WE.stp0 (WSE.sto hw3 hS.1.2.1 (Or.inr (Or.inl rfl))) ?_
             have hD4 := hD2.kept (V' := AHu (AHu V2 G.ra (aQ g 4 G.mr (fun i => some (upF ρ p (ρ h) i)))) G.ra (aQ g 4 G.mr (fun i => some (upF (upF ρ p (ρ h)) h (ρ p) i)))) (by rw [AHu_ne hS.2.1.2.2.2.2.1, AHu_ne hS.2.1.2.2.2.2.1]) rfl rfl rfl
             have hsh : upF (upF ρ p (ρ h)) h (ρ p) h = ρ p := upF_self _ _ _
             have hsp : upF (upF ρ p (ρ h)) h (ρ p) p = ρ h := by rw [upF_ne _ _ (by omega), upF_self]
             have hso : ∀ i, i ≠ p → i ≠ h → upF (upF ρ p (ρ h)) h (ρ p) i = ρ i := fun i h1 h2 => by rw [upF_ne _ _ h2, upF_ne _ _ h1]
             exact cl_loop g d hS hlw hpm hhm hph hwm hT2 y (s + 1) (by omega) (hw3.sto hS.1.2.1) hD4 (hG2.swap hS (by omega) (by omega) (by omega)) (by rw [hsh, hsp]; exact hCL2) ((hSp.tr hop).tr (SpEq.swap (by omega) hsp hsh hso)) (fun i hi h1 h2 => ⟨(hso i h1 h2).trans (hoth i hi h1 h2).1, fun j hj => by rw [← (hoth i hi h1 h2).2 j hj, ← (hoth i hi h1 h2).1]; exact hot i hi h2 j hj⟩) (hNF.tr hNF2))
          | exact cl_loop g d hS hlw hpm hhm hph hwm hT2 y (s + 1) (by omega) hs2.1 hD2 hG2 hCL2 (hSp.tr hop) (fun i hi h1 h2 => ⟨(hoth i hi h1 h2).1, fun j hj => by rw [← (hoth i hi h1 h2).2 j hj, ← (hoth i hi h1 h2).1]; exact hot i hi h2 j hj⟩) (hNF.tr hNF2)
  termination_by x => x
