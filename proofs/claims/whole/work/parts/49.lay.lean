/-! ===== where the constructor lays everything: addresses from the bench's own, b, on ===== -/
def GL (t0 mr mc : Nat) : GG := (t0, t0 + 6, t0 + 5, t0 + 1, t0 + 3, mr, mc, fun ro => ro + 1, fun ro j => ro + 2 + 2 * j, fun ro => ∃ r, r < mr ∧ ro = t0 + 7 + (2 + 2 * mc) * r)
def gwL (t0 mr mc : Nat) : List Nat := [t0 + 1, t0 + 3] ++ (List.range mr).flatMap (fun r => (List.range mc).map (fun j => t0 + 7 + (2 + 2 * mc) * r + 2 + 2 * j))
def wsB (b : Nat) : List Nat := (List.range 7).map (fun i => b + 3 + 2 * i) ++ (gwL (b + 17) 10 5 ++ (gwL (b + 144) 11 10 ++ (gwL (b + 393) 6 5 ++ (gwL (b + 472) 6 5 ++ ((List.range 10).map (fun j => b + 553 + 2 * j) ++ (List.range 5).map (fun j => b + 575 + 2 * j))))))
def gsL (t0 mr mc a : Nat) : Prop := a = t0 ∨ a = t0 + 5 ∨ a = t0 + 6 ∨ ∃ r, r < mr ∧ (a = t0 + 7 + (2 + 2 * mc) * r ∨ a = t0 + 7 + (2 + 2 * mc) * r + 1)
/-- the cells that are no Wholes: the bench's, and others X -/
def SAB (b : Nat) (X : Nat → Prop) (a : Nat) : Prop := a = b ∨ a = b + 1 ∨ a = b + 2 ∨ gsL (b + 17) 10 5 a ∨ gsL (b + 144) 11 10 a ∨ gsL (b + 393) 6 5 a ∨ gsL (b + 472) 6 5 a ∨ (a = b + 551 ∨ a = b + 552 ∨ a = b + 573 ∨ a = b + 574) ∨ (b + 585 ≤ a ∧ a < b + 623) ∨ X a
def DB (b : Nat) : DT := (b + 2, b + 3, b + 5, b + 7, b + 9, b + 11, b + 13, b + 15)
def GT (b : Nat) : GG := GL (b + 17) 10 5
def GWd (b : Nat) : GG := GL (b + 144) 11 10
def GSc (b : Nat) : GG := GL (b + 393) 6 5
def GTh (b : Nat) : GG := GL (b + 472) 6 5
theorem mem_gw {t0 mr mc x : Nat} : x ∈ gwL t0 mr mc ↔ (x = t0 + 1 ∨ x = t0 + 3) ∨ ∃ r j, r < mr ∧ j < mc ∧ x = t0 + 7 + (2 + 2 * mc) * r + 2 + 2 * j := by
  unfold gwL
  simp only [List.mem_append, List.mem_cons, List.mem_nil_iff, or_false, List.mem_flatMap, List.mem_map, List.mem_range]
  constructor
  · rintro (h | ⟨r, hr, j, hj, e⟩)
    · exact Or.inl h
    · exact Or.inr ⟨r, j, hr, hj, e.symm⟩
  · rintro (h | ⟨r, j, hr, hj, e⟩)
    · exact Or.inl h
    · exact Or.inr ⟨r, hr, j, hj, e.symm⟩
theorem mem_ws {b x : Nat} : x ∈ wsB b ↔ (∃ i, i < 7 ∧ x = b + 3 + 2 * i) ∨ x ∈ gwL (b + 17) 10 5 ∨ x ∈ gwL (b + 144) 11 10 ∨ x ∈ gwL (b + 393) 6 5 ∨ x ∈ gwL (b + 472) 6 5 ∨ (∃ j, j < 10 ∧ x = b + 553 + 2 * j) ∨ ∃ j, j < 5 ∧ x = b + 575 + 2 * j := by
  unfold wsB
  simp only [List.mem_append, List.mem_map, List.mem_range]
  constructor
  · rintro (⟨i, hi, e⟩ | h | h | h | h | ⟨j, hj, e⟩ | ⟨j, hj, e⟩)
    · exact Or.inl ⟨i, hi, e.symm⟩
    · exact Or.inr (Or.inl h)
    · exact Or.inr (Or.inr (Or.inl h))
    · exact Or.inr (Or.inr (Or.inr (Or.inl h)))
    · exact Or.inr (Or.inr (Or.inr (Or.inr (Or.inl h))))
    · exact Or.inr (Or.inr (Or.inr (Or.inr (Or.inr (Or.inl ⟨j, hj, e.symm⟩)))))
    · exact Or.inr (Or.inr (Or.inr (Or.inr (Or.inr (Or.inr ⟨j, hj, e.symm⟩)))))
  · rintro (⟨i, hi, e⟩ | h | h | h | h | ⟨j, hj, e⟩ | ⟨j, hj, e⟩)
    · exact Or.inl ⟨i, hi, e.symm⟩
    · exact Or.inr (Or.inl h)
    · exact Or.inr (Or.inr (Or.inl h))
    · exact Or.inr (Or.inr (Or.inr (Or.inl h)))
    · exact Or.inr (Or.inr (Or.inr (Or.inr (Or.inl h))))
    · exact Or.inr (Or.inr (Or.inr (Or.inr (Or.inr (Or.inl ⟨j, hj, e.symm⟩)))))
    · exact Or.inr (Or.inr (Or.inr (Or.inr (Or.inr (Or.inr ⟨j, hj, e.symm⟩)))))
/-- a Grid's place in the layout -/
theorem gst_of {ws : List Nat} {SA : Nat → Prop} {D : DT} {t0 mr mc lo : Nat} (hm : mr < 100 ∧ mc < 100) (hw : ∀ x, x ∈ gwL t0 mr mc → x ∈ ws) (hs : ∀ a, gsL t0 mr mc a → SA a) (hlo : lo ≤ t0) (hD : D.dk < lo ∧ D.r < lo ∧ D.dv < lo ∧ D.on < lo) : GSt ws SA D (GL t0 mr mc) := by
  have hU : ∀ x, x ∈ gwL t0 mr mc → t0 ≤ x → US ws D x := fun x hx h1 => ⟨hw x hx, by omega, by omega, by omega⟩
  refine ⟨⟨hs _ (Or.inl rfl), hs _ (Or.inr (Or.inr (Or.inl rfl))), hs _ (Or.inr (Or.inl rfl))⟩, ?_, ⟨hU _ (mem_gw.mpr (Or.inl (Or.inl rfl))) ?_, hU _ (mem_gw.mpr (Or.inl (Or.inr rfl))) ?_, ?_⟩, ?_, ?_, ?_, hm.1, hm.2⟩
  · show t0 ≠ t0 + 6 ∧ t0 ≠ t0 + 5 ∧ t0 + 6 ≠ t0 + 5 ∧ D.dk ≠ t0 ∧ D.dk ≠ t0 + 6 ∧ D.dk ≠ t0 + 5
    omega
  · show t0 ≤ t0 + 1
    omega
  · show t0 ≤ t0 + 3
    omega
  · show t0 + 1 ≠ t0 + 3
    omega
  · rintro ro ⟨r, hr, rfl⟩
    refine ⟨hs _ (Or.inr (Or.inr (Or.inr ⟨r, hr, Or.inl rfl⟩))), hs _ (Or.inr (Or.inr (Or.inr ⟨r, hr, Or.inr rfl⟩))), ?_⟩
    show (t0 + 7 + (2 + 2 * mc) * r ≠ t0 ∧ t0 + 7 + (2 + 2 * mc) * r ≠ t0 + 6 ∧ t0 + 7 + (2 + 2 * mc) * r ≠ t0 + 5) ∧ (t0 + 7 + (2 + 2 * mc) * r + 1 ≠ t0 ∧ t0 + 7 + (2 + 2 * mc) * r + 1 ≠ t0 + 6 ∧ t0 + 7 + (2 + 2 * mc) * r + 1 ≠ t0 + 5)
    generalize (2 + 2 * mc) * r = q
    omega
  · rintro ro ⟨r, hr, rfl⟩ j hj
    have hj : j < mc := hj
    refine ⟨hU _ (mem_gw.mpr (Or.inr ⟨r, j, hr, hj, rfl⟩)) ?_, ?_⟩
    · show t0 ≤ t0 + 7 + (2 + 2 * mc) * r + 2 + 2 * j
      omega
    · show t0 + 7 + (2 + 2 * mc) * r + 2 + 2 * j ≠ t0 + 1 ∧ t0 + 7 + (2 + 2 * mc) * r + 2 + 2 * j ≠ t0 + 3
      generalize (2 + 2 * mc) * r = q
      omega
  · rintro ro ro' j j' ⟨r, hr, rfl⟩ ⟨r', hr', rfl⟩ hj hj' e
    have hj : j < mc := hj
    have hj' : j' < mc := hj'
    have e : t0 + 7 + (2 + 2 * mc) * r + 2 + 2 * j = t0 + 7 + (2 + 2 * mc) * r' + 2 + 2 * j' := e
    have hrr : r = r' := by
      rcases Nat.lt_trichotomy r r' with h | h | h
      · have h1 : (2 + 2 * mc) * (r + 1) ≤ (2 + 2 * mc) * r' := Nat.mul_le_mul_left _ h
        rw [Nat.mul_add] at h1
        omega
      · exact h
      · have h1 : (2 + 2 * mc) * (r' + 1) ≤ (2 + 2 * mc) * r := Nat.mul_le_mul_left _ h
        rw [Nat.mul_add] at h1
        omega
    subst hrr
    exact ⟨rfl, by omega⟩
section LAY
variable (b : Nat) (X : Nat → Prop)
theorem gst_T : GSt (wsB b) (SAB b X) (DB b) (GT b) := gst_of (lo := b + 17) (by omega) (fun x hx => mem_ws.mpr (Or.inr (Or.inl hx))) (fun a ha => Or.inr (Or.inr (Or.inr (Or.inl ha)))) (by omega) ⟨Nat.add_lt_add_left (by decide) b, Nat.add_lt_add_left (by decide) b, Nat.add_lt_add_left (by decide) b, Nat.add_lt_add_left (by decide) b⟩
theorem gst_W : GSt (wsB b) (SAB b X) (DB b) (GWd b) := gst_of (lo := b + 144) (by omega) (fun x hx => mem_ws.mpr (Or.inr (Or.inr (Or.inl hx)))) (fun a ha => Or.inr (Or.inr (Or.inr (Or.inr (Or.inl ha))))) (by omega) ⟨Nat.add_lt_add_left (by decide) b, Nat.add_lt_add_left (by decide) b, Nat.add_lt_add_left (by decide) b, Nat.add_lt_add_left (by decide) b⟩
theorem gst_S : GSt (wsB b) (SAB b X) (DB b) (GSc b) := gst_of (lo := b + 393) (by omega) (fun x hx => mem_ws.mpr (Or.inr (Or.inr (Or.inr (Or.inl hx))))) (fun a ha => Or.inr (Or.inr (Or.inr (Or.inr (Or.inr (Or.inl ha)))))) (by omega) ⟨Nat.add_lt_add_left (by decide) b, Nat.add_lt_add_left (by decide) b, Nat.add_lt_add_left (by decide) b, Nat.add_lt_add_left (by decide) b⟩
theorem gst_H : GSt (wsB b) (SAB b X) (DB b) (GTh b) := gst_of (lo := b + 472) (by omega) (fun x hx => mem_ws.mpr (Or.inr (Or.inr (Or.inr (Or.inr (Or.inl hx)))))) (fun a ha => Or.inr (Or.inr (Or.inr (Or.inr (Or.inr (Or.inr (Or.inl ha))))))) (by omega) ⟨Nat.add_lt_add_left (by decide) b, Nat.add_lt_add_left (by decide) b, Nat.add_lt_add_left (by decide) b, Nat.add_lt_add_left (by decide) b⟩
end LAY
/-- where a Grid's numbers and cells lie -/
theorem gl_cell {t0 mr mc ro j : Nat} (h : (GL t0 mr mc).RS ro) (hj : j < mc) : t0 + 9 ≤ (GL t0 mr mc).ga ro j ∧ (GL t0 mr mc).ga ro j < t0 + 7 + (2 + 2 * mc) * mr := by
  obtain ⟨r, hr, rfl⟩ := h
  show t0 + 9 ≤ t0 + 7 + (2 + 2 * mc) * r + 2 + 2 * j ∧ t0 + 7 + (2 + 2 * mc) * r + 2 + 2 * j < t0 + 7 + (2 + 2 * mc) * mr
  have h1 : (2 + 2 * mc) * (r + 1) ≤ (2 + 2 * mc) * mr := Nat.mul_le_mul_left _ hr
  rw [Nat.mul_add] at h1
  generalize (2 + 2 * mc) * mr = q at *
  omega
theorem gs_in {t0 mr mc a : Nat} (h : gsL t0 mr mc a) : t0 ≤ a ∧ a < t0 + 7 + (2 + 2 * mc) * mr := by
  rcases h with h | h | h | ⟨r, hr, h⟩
  · omega
  · omega
  · omega
  · have h1 : (2 + 2 * mc) * (r + 1) ≤ (2 + 2 * mc) * mr := Nat.mul_le_mul_left _ hr
    rw [Nat.mul_add] at h1
    generalize (2 + 2 * mc) * mr = q at *
    omega
