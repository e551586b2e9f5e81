/-! ===== where the constructor lays everything: addresses from the bench's own, b, on ===== -/
def GL (t0 mr mc : Nat) : GG := (t0, t0 + 21, t0 + 20, t0 + 16, t0 + 18, mr, mc, fun ro => ro + 1, fun ro j => ro + 2 + 2 * j, fun ro => ∃ r, r < mr ∧ ro = t0 + 22 + (2 + 2 * mc) * r)
def gwL (t0 mr mc : Nat) : List Nat := [t0 + 16, t0 + 18] ++ (List.range mr).flatMap (fun r => (List.range mc).map (fun j => t0 + 22 + (2 + 2 * mc) * r + 2 + 2 * j))
def gdL (b : Nat) : List Nat := (List.range 7).flatMap (fun i => [b + 3 + 2 * i, b + 19 + 2 * i, b + 161 + 2 * i, b + 425 + 2 * i, b + 519 + 2 * i])
def wsB (b : Nat) : List Nat := gdL b ++ (gwL (b + 17) 10 5 ++ (gwL (b + 159) 11 10 ++ (gwL (b + 423) 6 5 ++ (gwL (b + 517) 6 5 ++ ((List.range 10).map (fun j => b + 613 + 2 * j) ++ (List.range 5).map (fun j => b + 635 + 2 * j))))))
def gsL (t0 mr mc a : Nat) : Prop := a = t0 ∨ a = t0 + 20 ∨ a = t0 + 21 ∨ ∃ r, r < mr ∧ (a = t0 + 22 + (2 + 2 * mc) * r ∨ a = t0 + 22 + (2 + 2 * mc) * r + 1)
/-- the cells that are no Wholes: the bench's, and others X -/
def SAB (b : Nat) (X : Nat → Prop) (a : Nat) : Prop := a = b ∨ a = b + 1 ∨ a = b + 2 ∨ gsL (b + 17) 10 5 a ∨ gsL (b + 159) 11 10 a ∨ gsL (b + 423) 6 5 a ∨ gsL (b + 517) 6 5 a ∨ (a = b + 611 ∨ a = b + 612 ∨ a = b + 633 ∨ a = b + 634 ∨ a = b + 18 ∨ a = b + 160 ∨ a = b + 424 ∨ a = b + 518) ∨ (b + 645 ≤ a ∧ a < b + 683) ∨ X a
def DB (b : Nat) : DT := (b + 2, b + 3, b + 5, b + 7, b + 9, b + 11, b + 13, b + 15)
/-- a Grid's own Desk -/
def DG (t0 : Nat) : DT := (t0 + 1, t0 + 2, t0 + 4, t0 + 6, t0 + 8, t0 + 10, t0 + 12, t0 + 14)
def GT (b : Nat) : GG := GL (b + 17) 10 5
def GWd (b : Nat) : GG := GL (b + 159) 11 10
def GSc (b : Nat) : GG := GL (b + 423) 6 5
def GTh (b : Nat) : GG := GL (b + 517) 6 5
theorem mem_gw {t0 mr mc x : Nat} : x ∈ gwL t0 mr mc ↔ (x = t0 + 16 ∨ x = t0 + 18) ∨ ∃ r j, r < mr ∧ j < mc ∧ x = t0 + 22 + (2 + 2 * mc) * r + 2 + 2 * j := by
  unfold gwL
  simp only [List.mem_append, List.mem_cons, List.mem_nil_iff, or_false, List.mem_flatMap, List.mem_map, List.mem_range]
  constructor
  · rintro (h | ⟨r, hr, j, hj, e⟩)
    · exact Or.inl h
    · exact Or.inr ⟨r, j, hr, hj, e.symm⟩
  · rintro (h | ⟨r, j, hr, hj, e⟩)
    · exact Or.inl h
    · exact Or.inr ⟨r, hr, j, hj, e.symm⟩
theorem mem_gd {b x : Nat} : x ∈ gdL b ↔ (∃ i, i < 7 ∧ (x = b + 3 + 2 * i ∨ x = b + 19 + 2 * i ∨ x = b + 161 + 2 * i ∨ x = b + 425 + 2 * i ∨ x = b + 519 + 2 * i)) := by
  unfold gdL
  simp only [List.mem_flatMap, List.mem_range, List.mem_cons, List.mem_nil_iff, or_false]
theorem mem_ws {b x : Nat} : x ∈ wsB b ↔ (∃ i, i < 7 ∧ (x = b + 3 + 2 * i ∨ x = b + 19 + 2 * i ∨ x = b + 161 + 2 * i ∨ x = b + 425 + 2 * i ∨ x = b + 519 + 2 * i)) ∨ x ∈ gwL (b + 17) 10 5 ∨ x ∈ gwL (b + 159) 11 10 ∨ x ∈ gwL (b + 423) 6 5 ∨ x ∈ gwL (b + 517) 6 5 ∨ (∃ j, j < 10 ∧ x = b + 613 + 2 * j) ∨ ∃ j, j < 5 ∧ x = b + 635 + 2 * j := by
  unfold wsB
  simp only [List.mem_append, List.mem_map, List.mem_range, mem_gd]
  constructor
  · rintro (h | h | h | h | h | ⟨j, hj, e⟩ | ⟨j, hj, e⟩)
    · exact Or.inl h
    · exact Or.inr (Or.inl h)
    · exact Or.inr (Or.inr (Or.inl h))
    · exact Or.inr (Or.inr (Or.inr (Or.inl h)))
    · exact Or.inr (Or.inr (Or.inr (Or.inr (Or.inl h))))
    · exact Or.inr (Or.inr (Or.inr (Or.inr (Or.inr (Or.inl ⟨j, hj, e.symm⟩)))))
    · exact Or.inr (Or.inr (Or.inr (Or.inr (Or.inr (Or.inr ⟨j, hj, e.symm⟩)))))
  · rintro (h | h | h | h | h | ⟨j, hj, e⟩ | ⟨j, hj, e⟩)
    · exact Or.inl h
    · exact Or.inr (Or.inl h)
    · exact Or.inr (Or.inr (Or.inl h))
    · exact Or.inr (Or.inr (Or.inr (Or.inl h)))
    · exact Or.inr (Or.inr (Or.inr (Or.inr (Or.inl h))))
    · exact Or.inr (Or.inr (Or.inr (Or.inr (Or.inr (Or.inl ⟨j, hj, e.symm⟩)))))
    · exact Or.inr (Or.inr (Or.inr (Or.inr (Or.inr (Or.inr ⟨j, hj, e.symm⟩)))))
/-- a Grid's place in the layout -/
theorem gst_of {ws : List Nat} {SA : Nat → Prop} {D : DT} {t0 mr mc : Nat} (hm : mr < 100 ∧ mc < 100) (hw : ∀ x, x ∈ gwL t0 mr mc → x ∈ ws) (hs : ∀ a, gsL t0 mr mc a → SA a) (hD : (D.dk < t0 ∨ t0 < D.dk ∧ D.dk < t0 + 16) ∧ (D.r < t0 ∨ t0 < D.r ∧ D.r < t0 + 16) ∧ (D.dv < t0 ∨ t0 < D.dv ∧ D.dv < t0 + 16) ∧ (D.on < t0 ∨ t0 < D.on ∧ D.on < t0 + 16)) : GSt ws SA D (GL t0 mr mc) := by
  have hU : ∀ x, x ∈ gwL t0 mr mc → t0 + 16 ≤ x → US ws D x := fun x hx h1 => ⟨hw x hx, by omega, by omega, by omega⟩
  refine ⟨⟨hs _ (Or.inl rfl), hs _ (Or.inr (Or.inr (Or.inl rfl))), hs _ (Or.inr (Or.inl rfl))⟩, ?_, ⟨hU _ (mem_gw.mpr (Or.inl (Or.inl rfl))) ?_, hU _ (mem_gw.mpr (Or.inl (Or.inr rfl))) ?_, ?_⟩, ?_, ?_, ?_, hm.1, hm.2⟩
  · show t0 ≠ t0 + 21 ∧ t0 ≠ t0 + 20 ∧ t0 + 21 ≠ t0 + 20 ∧ D.dk ≠ t0 ∧ D.dk ≠ t0 + 21 ∧ D.dk ≠ t0 + 20
    omega
  · show t0 + 16 ≤ t0 + 16
    omega
  · show t0 + 16 ≤ t0 + 18
    omega
  · show t0 + 16 ≠ t0 + 18
    omega
  · rintro ro ⟨r, hr, rfl⟩
    refine ⟨hs _ (Or.inr (Or.inr (Or.inr ⟨r, hr, Or.inl rfl⟩))), hs _ (Or.inr (Or.inr (Or.inr ⟨r, hr, Or.inr rfl⟩))), ?_⟩
    show (t0 + 22 + (2 + 2 * mc) * r ≠ t0 ∧ t0 + 22 + (2 + 2 * mc) * r ≠ t0 + 21 ∧ t0 + 22 + (2 + 2 * mc) * r ≠ t0 + 20) ∧ (t0 + 22 + (2 + 2 * mc) * r + 1 ≠ t0 ∧ t0 + 22 + (2 + 2 * mc) * r + 1 ≠ t0 + 21 ∧ t0 + 22 + (2 + 2 * mc) * r + 1 ≠ t0 + 20)
    generalize (2 + 2 * mc) * r = q
    omega
  · rintro ro ⟨r, hr, rfl⟩ j hj
    have hj : j < mc := hj
    refine ⟨hU _ (mem_gw.mpr (Or.inr ⟨r, j, hr, hj, rfl⟩)) ?_, ?_⟩
    · show t0 + 16 ≤ t0 + 22 + (2 + 2 * mc) * r + 2 + 2 * j
      omega
    · show t0 + 22 + (2 + 2 * mc) * r + 2 + 2 * j ≠ t0 + 16 ∧ t0 + 22 + (2 + 2 * mc) * r + 2 + 2 * j ≠ t0 + 18
      generalize (2 + 2 * mc) * r = q
      omega
  · rintro ro ro' j j' ⟨r, hr, rfl⟩ ⟨r', hr', rfl⟩ hj hj' e
    have hj : j < mc := hj
    have hj' : j' < mc := hj'
    have e : t0 + 22 + (2 + 2 * mc) * r + 2 + 2 * j = t0 + 22 + (2 + 2 * mc) * r' + 2 + 2 * j' := e
    have hrr : r = r' := by
      rcases Nat.lt_trichotomy r r' with h | h | h
      · have h1 : (2 + 2 * mc) * (r + 1) ≤ (2 + 2 * mc) * r' := Nat.mul_le_mul_left _ h
        rw [Nat.mul_add] at h1
        omega
      · exact h
      · have h1 : (2 + 2 * mc) * (r' + 1) ≤ (2 + 2 * mc) * r := Nat.mul_le_mul_left _ h
        rw [Nat.mul_add] at h1
        omega
    subst hrr
    exact ⟨rfl, by omega⟩
section LAY
variable (b : Nat) (X : Nat → Prop)
theorem gdb {b t0 : Nat} (h : b + 17 ≤ t0) : ((DB b).dk < t0 ∨ t0 < (DB b).dk ∧ (DB b).dk < t0 + 16) ∧ ((DB b).r < t0 ∨ t0 < (DB b).r ∧ (DB b).r < t0 + 16) ∧ ((DB b).dv < t0 ∨ t0 < (DB b).dv ∧ (DB b).dv < t0 + 16) ∧ ((DB b).on < t0 ∨ t0 < (DB b).on ∧ (DB b).on < t0 + 16) :=
  ⟨Or.inl (show b + 2 < t0 by omega), Or.inl (show b + 3 < t0 by omega), Or.inl (show b + 5 < t0 by omega), Or.inl (show b + 7 < t0 by omega)⟩
theorem gdg {t0 : Nat} : ((DG t0).dk < t0 ∨ t0 < (DG t0).dk ∧ (DG t0).dk < t0 + 16) ∧ ((DG t0).r < t0 ∨ t0 < (DG t0).r ∧ (DG t0).r < t0 + 16) ∧ ((DG t0).dv < t0 ∨ t0 < (DG t0).dv ∧ (DG t0).dv < t0 + 16) ∧ ((DG t0).on < t0 ∨ t0 < (DG t0).on ∧ (DG t0).on < t0 + 16) :=
  ⟨Or.inr (show t0 < t0 + 1 ∧ t0 + 1 < t0 + 16 by omega), Or.inr (show t0 < t0 + 2 ∧ t0 + 2 < t0 + 16 by omega), Or.inr (show t0 < t0 + 4 ∧ t0 + 4 < t0 + 16 by omega), Or.inr (show t0 < t0 + 6 ∧ t0 + 6 < t0 + 16 by omega)⟩
theorem gst_T : GSt (wsB b) (SAB b X) (DB b) (GT b) := gst_of (t0 := b + 17) (by omega) (fun x hx => mem_ws.mpr (Or.inr (Or.inl hx))) (fun a ha => Or.inr (Or.inr (Or.inr (Or.inl ha)))) (gdb (by omega))
theorem gso_T : GSt (wsB b) (SAB b X) (DG (b + 17)) (GT b) := gst_of (t0 := b + 17) (by omega) (fun x hx => mem_ws.mpr (Or.inr (Or.inl hx))) (fun a ha => Or.inr (Or.inr (Or.inr (Or.inl ha)))) gdg
theorem gst_W : GSt (wsB b) (SAB b X) (DB b) (GWd b) := gst_of (t0 := b + 159) (by omega) (fun x hx => mem_ws.mpr (Or.inr (Or.inr (Or.inl hx)))) (fun a ha => Or.inr (Or.inr (Or.inr (Or.inr (Or.inl ha))))) (gdb (by omega))
theorem gso_W : GSt (wsB b) (SAB b X) (DG (b + 159)) (GWd b) := gst_of (t0 := b + 159) (by omega) (fun x hx => mem_ws.mpr (Or.inr (Or.inr (Or.inl hx)))) (fun a ha => Or.inr (Or.inr (Or.inr (Or.inr (Or.inl ha))))) gdg
theorem gst_S : GSt (wsB b) (SAB b X) (DB b) (GSc b) := gst_of (t0 := b + 423) (by omega) (fun x hx => mem_ws.mpr (Or.inr (Or.inr (Or.inr (Or.inl hx))))) (fun a ha => Or.inr (Or.inr (Or.inr (Or.inr (Or.inr (Or.inl ha)))))) (gdb (by omega))
theorem gso_S : GSt (wsB b) (SAB b X) (DG (b + 423)) (GSc b) := gst_of (t0 := b + 423) (by omega) (fun x hx => mem_ws.mpr (Or.inr (Or.inr (Or.inr (Or.inl hx))))) (fun a ha => Or.inr (Or.inr (Or.inr (Or.inr (Or.inr (Or.inl ha)))))) gdg
theorem gst_H : GSt (wsB b) (SAB b X) (DB b) (GTh b) := gst_of (t0 := b + 517) (by omega) (fun x hx => mem_ws.mpr (Or.inr (Or.inr (Or.inr (Or.inr (Or.inl hx)))))) (fun a ha => Or.inr (Or.inr (Or.inr (Or.inr (Or.inr (Or.inr (Or.inl ha))))))) (gdb (by omega))
theorem gso_H : GSt (wsB b) (SAB b X) (DG (b + 517)) (GTh b) := gst_of (t0 := b + 517) (by omega) (fun x hx => mem_ws.mpr (Or.inr (Or.inr (Or.inr (Or.inr (Or.inl hx)))))) (fun a ha => Or.inr (Or.inr (Or.inr (Or.inr (Or.inr (Or.inr (Or.inl ha))))))) gdg
end LAY
/-- where a Grid's numbers and cells lie -/
theorem gl_cell {t0 mr mc ro j : Nat} (h : (GL t0 mr mc).RS ro) (hj : j < mc) : t0 + 24 ≤ (GL t0 mr mc).ga ro j ∧ (GL t0 mr mc).ga ro j < t0 + 22 + (2 + 2 * mc) * mr := by
  obtain ⟨r, hr, rfl⟩ := h
  show t0 + 24 ≤ t0 + 22 + (2 + 2 * mc) * r + 2 + 2 * j ∧ t0 + 22 + (2 + 2 * mc) * r + 2 + 2 * j < t0 + 22 + (2 + 2 * mc) * mr
  have h1 : (2 + 2 * mc) * (r + 1) ≤ (2 + 2 * mc) * mr := Nat.mul_le_mul_left _ hr
  rw [Nat.mul_add] at h1
  generalize (2 + 2 * mc) * mr = q at *
  omega
theorem gs_in {t0 mr mc a : Nat} (h : gsL t0 mr mc a) : t0 ≤ a ∧ a < t0 + 22 + (2 + 2 * mc) * mr := by
  rcases h with h | h | h | ⟨r, hr, h⟩
  · omega
  · omega
  · omega
  · have h1 : (2 + 2 * mc) * (r + 1) ≤ (2 + 2 * mc) * mr := Nat.mul_le_mul_left _ hr
    rw [Nat.mul_add] at h1
    generalize (2 + 2 * mc) * mr = q at *
    omega
