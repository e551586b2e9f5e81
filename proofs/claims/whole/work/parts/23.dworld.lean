/-! ===== makeRoom and shifted over the world; divideLong whole ===== -/
theorem upF_id {α : Type} (F : Nat → α) (k : Nat) : upF F k (F k) = F := by
  funext j; unfold upF; split
  · rename_i h; rw [h]
  · rfl
theorem WhV.zero {g : GX} {V : AH} {w n p L : Nat} {z : Int} {F : Nat → Int} (h : Whl g V w z.sign n p L F) (hz : z = 0) (hn : n = 0) : WhV g V w z p L := ⟨n, F, h, by rw [hn, hz]; rfl, Or.inl hn⟩
theorem WG.zero {g : GX} {ws : List Nat} {SA : Nat → Prop} {V : AH} {sz : Nat} {Z : Nat → Int} {P L : Nat → Nat} {w : Nat} (h : WG g ws SA V sz Z P L) (hw : w ∈ ws) (hz : Z w = 0) : ∃ F : Nat → Int, Whl g V w (Z w).sign 0 (P w) (L w) F := by
  obtain ⟨n, F, hW, hm, ht⟩ := h.2.1 w hw
  have h1 := mg_zero (show (0 : Int) < 2147483648 by omega) (F := F) (n := n) (fun k hk => hW.2.2.2.2.2.2 k (by have := hW.2.2.2.1; omega)) ht
  have h2 : n = 0 := h1.mp (by rw [hm, hz]; rfl)
  subst h2
  exact ⟨F, hW⟩
section DLW
variable {g : GX} {ws : List Nat} {SA : Nat → Prop} {V : AH} {sz : Nat} {Z : Nat → Int} {P L : Nat → Nat}
/-- behind makeRoom, over the world -/
def RQ (g : GX) (ws : List Nat) (SA : Nat → Prop) (V : AH) (sz : Nat) (Z : Nat → Int) (P L : Nat → Nat) (w len : Nat) : AQ := fun r V' sz' mc ms => none = r ∧ ∃ P' L' : Nat → Nat, WStp g ws SA V sz P L V' sz' Z P' L' mc ms ∧ len ≤ L' w ∧ (∀ u, u ≠ w → P' u = P u ∧ L' u = L u) ∧ Fr V sz V' w (P w)
theorem w_makeRoom (d : Nat) {w len : Nat} (h : WG g ws SA V sz Z P L) (hw : w ∈ ws) (hl : len ≤ 156) : AMet g mX4_makeRoom (d + 2) [.ref w, .int (iZ len)] V sz (RQ g ws SA V sz Z P L w len) := by
  obtain ⟨n, F, hW, hm, ht⟩ := h.2.1 w hw
  obtain ⟨r, V', sz', mc, ms, ⟨rfl, p', L', F', h1, h2, h3, h4, h5, h6, h7, h8⟩, hD, hM⟩ := t_makeRoom g d hW h.1 hl
  have hz : WhV g V' w (Z w) p' L' := by
    have hn := hW.2.2.2.1
    refine ⟨n, F', h1, ?_, ?_⟩
    · rw [mg_congr (fun k hk => h5 k (by omega))]; exact hm
    · rcases Nat.eq_zero_or_pos n with h0 | h0
      · exact Or.inl h0
      · rcases ht with h9 | h9
        · exact Or.inl h9
        · rw [h5 (n - 1) (by omega)]; exact Or.inr h9
  have hs := h.write hw hz hD.1 h3 h4 h6 h7 h8
  rw [upF_id] at hs
  exact ⟨none, V', sz', mc, ms, ⟨rfl, _, _, hs, by rw [upF_self]; exact h2, fun u hu => ⟨upF_ne _ _ hu, upF_ne _ _ hu⟩, h7⟩, hD, hM⟩
/-- behind shifted of a Whole that stands for 0 -/
def SQ (g : GX) (ws : List Nat) (SA : Nat → Prop) (V : AH) (sz : Nat) (Z : Nat → Int) (P L : Nat → Nat) (w len sh : Nat) (A : Nat → Int) : AQ := fun r V' sz' mc ms => none = r ∧ sz = sz' ∧ 0 = mc ∧ 0 = ms ∧ WStp g ws SA V sz P L V' sz Z P L 0 0 ∧ Fr V sz V' w (P w) ∧ ∃ (F : Nat → Int) (c : Int), Whl g V' w (Z w).sign 0 (P w) (L w) F ∧ mg 2147483648 F len + c * 2147483648 ^ len = mg 2147483648 A len * 2 ^ sh ∧ (0 ≤ c ∧ c < 2 ^ sh)
theorem w_shifted (d : Nat) {w u len sh nu : Nat} {G : Nat → Int} {t : Int} (h : WG g ws SA V sz Z P L) (hw : w ∈ ws) (hu : u ∈ ws) (hne : w ≠ u) (hz : Z w = 0) (hU : Whl g V u t nu (P u) (L u) G) (hl : len ≤ L w) (hsh : sh ≤ 30) : AMet g mX4_shifted d [.ref w, .ref u, .int (iZ sh), .int (iZ len)] V sz (SQ g ws SA V sz Z P L w len sh (pad G nu)) := by
  obtain ⟨F, hW⟩ := h.zero hw hz
  obtain ⟨r, V', sz', mc, ms, ⟨rfl, F', c, h1, h2, h3, h4, h5, rfl, rfl, rfl⟩, hD, hM⟩ := t_shifted g d hW hU h.1 (h.2.2.2.1 u hu w hw) (h.2.2.1 w hw u hu hne).symm hl hsh
  have hs := h.write (mc := 0) (ms := 0) hw (WhV.zero h1 hz rfl) (Nat.le_refl _) (Nat.le_refl _) (Nat.le_refl _) (Or.inl rfl) h4 h5
  rw [upF_id, upF_id, upF_id] at hs
  exact ⟨none, V', sz, 0, 0, ⟨rfl, rfl, rfl, rfl, hs, h4, F', c, h1, h2, h3⟩, hD, hM⟩
/-- one array and one Whole changed in their places -/
theorem WG.two {V' : AH} {r qq : Nat} {U : Nat → Int} {z : Int} (h : WG g ws SA V sz Z P L) (hr : r ∈ ws) (hq : qq ∈ ws) (hne : r ≠ qq) (hz : Z r = 0) (hR : Whl g V' r (Z r).sign 0 (P r) (L r) U) (hQ : WhV g V' qq z (P qq) (L qq)) (hfr : ∀ a, a ≠ P r → a ≠ qq → a ≠ P qq → V' a = V a) : WStp g ws SA V sz P L V' sz (upF Z qq z) P L 0 0 := by
  obtain ⟨F, hW⟩ := h.zero hr hz
  have h1 : WhV g (AHu V (P r) (aIz g (L r) U)) r (Z r) (P r) (L r) := WhV.zero (hW.arr hR.2.2.2.2.2.2) hz rfl
  have hs1 := h.write (mc := 0) (ms := 0) hr h1 (Nat.le_refl _) (Nat.le_refl _) (Nat.le_refl _) (Or.inl rfl) (Fr.rf.upd (Or.inr (Or.inl rfl))) (h.1.upd (h.1.lt hW.2.1))
  rw [upF_id, upF_id, upF_id] at hs1
  have hd : DL V' sz := fun b hb => by
    by_cases h1 : b = P r
    · subst h1; exact h.1.lt hW.2.1
    · by_cases h2 : b = qq
      · subst h2
        obtain ⟨n, F2, hW2, -⟩ := h.2.1 b hq
        exact h.1.lt hW2.1
      · by_cases h3 : b = P qq
        · subst h3
          obtain ⟨n, F2, hW2, -⟩ := h.2.1 qq hq
          exact h.1.lt hW2.2.1
        · rw [hfr b h1 h2 h3] at hb; exact h.1 b hb
  have hs2 := hs1.1.write (mc := 0) (ms := 0) hq hQ (Nat.le_refl _) (Nat.le_refl _) (Nat.le_refl _) (Or.inl rfl) (V' := V') (fun a _ h2 h3 => by
    by_cases h4 : a = P r
    · subst h4; rw [AHu_self]; exact hR.2.1
    · rw [AHu_ne h4]; exact hfr a h4 h2 h3) hd
  rw [upF_id, upF_id] at hs2
  exact hs1.tr hs2
end DLW
