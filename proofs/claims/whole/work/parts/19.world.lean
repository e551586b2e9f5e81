/-! ===== the world of all Wholes: ws their addresses, Z their numbers, P their arrays, L the arrays' lengths; SA the other known cells ===== -/
def sumL (L : Nat → Nat) : List Nat → Nat
  | [] => 0
  | w :: ws => L w + sumL L ws
def sumQ (L : Nat → Nat) : List Nat → Nat
  | [] => 0
  | w :: ws => L w * L w + sumQ L ws
def WG (g : GX) (ws : List Nat) (SA : Nat → Prop) (V : AH) (sz : Nat) (Z : Nat → Int) (P L : Nat → Nat) : Prop :=
  DL V sz ∧ (∀ w ∈ ws, WhV g V w (Z w) (P w) (L w)) ∧ (∀ w ∈ ws, ∀ u ∈ ws, w ≠ u → P w ≠ P u) ∧ (∀ w ∈ ws, ∀ u ∈ ws, w ≠ P u) ∧ (∀ a, SA a → a < sz ∧ a ∉ ws ∧ ∀ w ∈ ws, a ≠ P w)
/-- from one world to another: the other cells stay, arrays only grow, and pay the cost -/
def WStp (g : GX) (ws : List Nat) (SA : Nat → Prop) (V : AH) (sz : Nat) (P L : Nat → Nat) (V' : AH) (sz' : Nat) (Z' : Nat → Int) (P' L' : Nat → Nat) (mc ms : Nat) : Prop :=
  WG g ws SA V' sz' Z' P' L' ∧ sz ≤ sz' ∧ (∀ a, SA a → V' a = V a) ∧ (∀ w ∈ ws, L w ≤ L' w) ∧ sumL L ws + mc ≤ sumL L' ws ∧ sumQ L ws + ms ≤ sumQ L' ws ∧ ∀ w ∈ ws, P' w = P w ∨ sz ≤ P' w
theorem WStp.rf {g : GX} {ws : List Nat} {SA : Nat → Prop} {V : AH} {sz : Nat} {Z : Nat → Int} {P L : Nat → Nat} (h : WG g ws SA V sz Z P L) : WStp g ws SA V sz P L V sz Z P L 0 0 :=
  ⟨h, Nat.le_refl _, fun _ _ => rfl, fun _ _ => Nat.le_refl _, Nat.le_refl _, Nat.le_refl _, fun _ _ => Or.inl rfl⟩
theorem WStp.tr {g : GX} {ws : List Nat} {SA : Nat → Prop} {V V1 V2 : AH} {sz sz1 sz2 : Nat} {Z1 Z2 : Nat → Int} {P L P1 L1 P2 L2 : Nat → Nat} {mc ms mc2 ms2 : Nat} (h : WStp g ws SA V sz P L V1 sz1 Z1 P1 L1 mc ms) (k : WStp g ws SA V1 sz1 P1 L1 V2 sz2 Z2 P2 L2 mc2 ms2) : WStp g ws SA V sz P L V2 sz2 Z2 P2 L2 (mc + mc2) (ms + ms2) := by
  obtain ⟨a1, a2, a3, a4, a5, a6, a7⟩ := h
  obtain ⟨b1, b2, b3, b4, b5, b6, b7⟩ := k
  refine ⟨b1, Nat.le_trans a2 b2, fun a ha => (b3 a ha).trans (a3 a ha), fun w hw => Nat.le_trans (a4 w hw) (b4 w hw), by omega, by omega, fun w hw => ?_⟩
  rcases b7 w hw with h1 | h1
  · rw [h1]; exact a7 w hw
  · exact Or.inr (Nat.le_trans a2 h1)
theorem sum_le {L L' : Nat → Nat} : ∀ {ws : List Nat}, (∀ w ∈ ws, L w ≤ L' w) → sumL L ws ≤ sumL L' ws ∧ sumQ L ws ≤ sumQ L' ws
  | [], _ => ⟨Nat.le_refl _, Nat.le_refl _⟩
  | w :: ws, h => by
    have h1 := h w List.mem_cons_self
    have h2 := sum_le (ws := ws) (fun u hu => h u (List.mem_cons_of_mem _ hu))
    have h3 := Nat.mul_le_mul h1 h1
    simp only [sumL, sumQ]
    omega
theorem sum_one {L L' : Nat → Nat} {w0 mc ms : Nat} (h1 : L w0 + mc ≤ L' w0) (h2 : L w0 * L w0 + ms ≤ L' w0 * L' w0) : ∀ {ws : List Nat}, (∀ w ∈ ws, L w ≤ L' w) → w0 ∈ ws → sumL L ws + mc ≤ sumL L' ws ∧ sumQ L ws + ms ≤ sumQ L' ws
  | [], _, h => by simp at h
  | w :: ws, h, hm => by
    have h3 := h w List.mem_cons_self
    have h4 := Nat.mul_le_mul h3 h3
    have h5 := sum_le (ws := ws) (fun u hu => h u (List.mem_cons_of_mem _ hu))
    simp only [sumL, sumQ]
    rcases List.mem_cons.mp hm with rfl | hm
    · omega
    · have h6 := sum_one h1 h2 (ws := ws) (fun u hu => h u (List.mem_cons_of_mem _ hu)) hm
      omega
/-- one Whole is written: the world behind it -/
theorem WG.write {g : GX} {ws : List Nat} {SA : Nat → Prop} {V V' : AH} {sz sz' w p' L' mc ms : Nat} {Z : Nat → Int} {P L : Nat → Nat} {z : Int} (h : WG g ws SA V sz Z P L) (hw : w ∈ ws) (hz : WhV g V' w z p' L') (hsz : sz ≤ sz') (hc : L w + mc ≤ L') (hs : L w * L w + ms ≤ L' * L') (hp : p' = P w ∨ sz ≤ p') (hfr : Fr V sz V' w (P w)) (hD : DL V' sz') : WStp g ws SA V sz P L V' sz' (upF Z w z) (upF P w p') (upF L w L') mc ms := by
  obtain ⟨a1, a2, a3, a4, a5⟩ := h
  have plt : ∀ u ∈ ws, P u < sz ∧ u < sz := fun u hu => by
    obtain ⟨n, F, hW, -⟩ := a2 u hu
    exact ⟨a1.lt hW.2.1, a1.lt hW.1⟩
  have hpw : p' ≠ w := by
    obtain ⟨n, F, hW, -⟩ := hz
    exact hW.2.2.1.symm
  have hLL : ∀ u ∈ ws, L u ≤ upF L w L' u := fun u _ => by
    unfold upF; split
    · rename_i hq; subst hq; omega
    · exact Nat.le_refl _
  have hsum := sum_one (L := L) (L' := upF L w L') (w0 := w) (mc := mc) (ms := ms) (by rw [upF_self]; exact hc) (by rw [upF_self]; exact hs) hLL hw
  refine ⟨⟨hD, fun u hu => ?_, fun u hu x hx hne => ?_, fun u hu x hx => ?_, fun a ha => ?_⟩, hsz, fun a ha => ?_, hLL, hsum.1, hsum.2, fun u hu => ?_⟩
  · by_cases hq : u = w
    · subst hq; rw [upF_self, upF_self, upF_self]; exact hz
    · rw [upF_ne _ _ hq, upF_ne _ _ hq, upF_ne _ _ hq]
      exact (a2 u hu).kept (hfr u (plt u hu).2 hq (a4 u hu w hw)) (hfr (P u) (plt u hu).1 (a4 w hw u hu).symm (a3 u hu w hw hq))
  · by_cases h1 : u = w
    · subst h1
      rw [upF_self, upF_ne _ _ (Ne.symm hne)]
      have := (plt x hx).1
      have := a3 u hu x hx hne
      omega
    · by_cases h2 : x = w
      · subst h2
        rw [upF_self, upF_ne _ _ h1]
        have := (plt u hu).1
        have := a3 u hu x hx hne
        omega
      · rw [upF_ne _ _ h1, upF_ne _ _ h2]; exact a3 u hu x hx hne
  · by_cases h2 : x = w
    · subst h2
      rw [upF_self]
      have := (plt u hu).2
      have := a4 u hu x hx
      omega
    · rw [upF_ne _ _ h2]; exact a4 u hu x hx
  · obtain ⟨b1, b2, b3⟩ := a5 a ha
    refine ⟨by omega, b2, fun u hu => ?_⟩
    by_cases h2 : u = w
    · subst h2
      rw [upF_self]
      have := b3 u hu
      omega
    · rw [upF_ne _ _ h2]; exact b3 u hu
  · obtain ⟨b1, b2, b3⟩ := a5 a ha
    exact hfr a b1 (fun e => b2 (e ▸ hw)) (b3 w hw)
  · by_cases h2 : u = w
    · subst h2; rw [upF_self]; exact hp
    · rw [upF_ne _ _ h2]; exact Or.inl rfl
/-- a contract's end over the world: w's number becomes z -/
def WQ (g : GX) (ws : List Nat) (SA : Nat → Prop) (V : AH) (sz : Nat) (P L : Nat → Nat) (Z' : Nat → Int) (r0 : Option Value) : AQ := fun r V' sz' mc ms => r0 = r ∧ ∃ P' L' : Nat → Nat, WStp g ws SA V sz P L V' sz' Z' P' L' mc ms
theorem WQ.of {g : GX} {ws : List Nat} {SA : Nat → Prop} {V : AH} {sz w : Nat} {Z : Nat → Int} {P L : Nat → Nat} {z : Int} (h : WG g ws SA V sz Z P L) (hw : w ∈ ws) {M : MI} {d : Nat} {As : List Value} (k : AMet g M d As V sz (WPost g V sz w (P w) (L w) z)) : AMet g M d As V sz (WQ g ws SA V sz P L (upF Z w z) none) := by
  obtain ⟨r, V', sz', mc, ms, ⟨rfl, p', L', h1, h2, h3, h4, h5, h6⟩, hD, hM⟩ := k
  exact ⟨none, V', sz', mc, ms, ⟨rfl, _, _, h.write hw h1 hD.1 h2 h3 h4 h5 h6⟩, hD, hM⟩
section WLD
variable {g : GX} {ws : List Nat} {SA : Nat → Prop} {V : AH} {sz : Nat} {Z : Nat → Int} {P L : Nat → Nat}
theorem WG.raw {w : Nat} (h : WG g ws SA V sz Z P L) (hw : w ∈ ws) : ∃ (n : Nat) (F : Nat → Int), Whl g V w (Z w).sign n (P w) (L w) F := by
  obtain ⟨n, F, hW, -⟩ := h.2.1 w hw
  exact ⟨n, F, hW⟩
theorem w_put (d : Nat) {w : Nat} {z : Int} (h : WG g ws SA V sz Z P L) (hw : w ∈ ws) (hz : -9223372036854775808 < z ∧ z < 9223372036854775808) : AMet g mX4_put (d + 1) [.ref w, .long (jZ z)] V sz (WQ g ws SA V sz P L (upF Z w z) none) := by
  obtain ⟨n, F, hW⟩ := h.raw hw
  exact WQ.of h hw (t_put g d hW h.1 hz)
theorem w_copy (d : Nat) {w u : Nat} (h : WG g ws SA V sz Z P L) (hw : w ∈ ws) (hu : u ∈ ws) (hne : w ≠ u) (hz : ((Z u).natAbs : Int) < 2147483648 ^ 156) : AMet g mX4_copy (d + 3) [.ref w, .ref u] V sz (WQ g ws SA V sz P L (upF Z w (Z u)) none) := by
  obtain ⟨n, F, hW⟩ := h.raw hw
  exact WQ.of h hw (t_copy g d hW (h.2.1 u hu) h.1 hne (h.2.2.1 w hw u hu hne) (h.2.2.2.1 w hw u hu) (h.2.2.2.1 u hu w hw).symm hz)
theorem w_plus (d : Nat) {w u : Nat} {f : Int} (h : WG g ws SA V sz Z P L) (hw : w ∈ ws) (hu : u ∈ ws) (hne : w ≠ u) (hf : f = 1 ∨ f = -1) (hz : ((Z w).natAbs : Int) < 2147483648 ^ 150) (hy : ((Z u).natAbs : Int) < 2147483648 ^ 150) : AMet g mX4_plus (d + 3) [.ref w, .ref u, .int (iZ f)] V sz (WQ g ws SA V sz P L (upF Z w (Z w + f * Z u)) none) :=
  WQ.of h hw (t_plus g d (h.2.1 w hw) (h.2.1 u hu) h.1 hne (h.2.2.1 w hw u hu hne) (h.2.2.2.1 w hw u hu) (h.2.2.2.1 u hu w hw).symm hf hz hy)
theorem w_product (d : Nat) {w u v : Nat} (h : WG g ws SA V sz Z P L) (hw : w ∈ ws) (hu : u ∈ ws) (hv : v ∈ ws) (h1 : w ≠ u) (h2 : w ≠ v) (hz : ((Z u).natAbs : Int) < 2147483648 ^ 150) (hy : ((Z v).natAbs : Int) < 2147483648 ^ 150) (hzy : ((Z u * Z v).natAbs : Int) < 2147483648 ^ 150) : AMet g mX4_product (d + 3) [.ref w, .ref u, .ref v] V sz (WQ g ws SA V sz P L (upF Z w (Z u * Z v)) none) := by
  obtain ⟨n, F, hW⟩ := h.raw hw
  exact WQ.of h hw (t_product g d hW (h.2.1 u hu) (h.2.1 v hv) h.1 h1 h2 (h.2.2.2.1 u hu w hw).symm (h.2.2.2.1 v hv w hw).symm (h.2.2.2.1 w hw u hu) (h.2.2.2.1 w hw v hv) (h.2.2.1 w hw u hu h1) (h.2.2.1 w hw v hv h2) hz hy hzy)
end WLD
