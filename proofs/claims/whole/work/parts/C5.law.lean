/-! ===== the law: its frame, the script, what stands at the loop's head ===== -/
abbrev mLw (nm : String) (sb Ls : Nat) (xs : Nat → Int32) : MI := (⟨RL, nm, "([I)Z"⟩, cL_law, 4, some .boolean, fun A s => va_X sb Ls xs s s.heap ∧ sb < s.heap.size ∧ ¬ A sb)
def xz (xs : Nat → Int32) (k : Nat) : Int := (xs k).toInt
theorem xz_R (xs : Nat → Int32) (k : Nat) : R32 (xz xs k) := iZ_R (xs k)
section LWR
variable {g : GX} {nm : String} {sb Ls d pc : Nat} {xs : Nat → Int32} {lv : List (Nat × Value)} {st : List Value} {V : AH} {sz : Nat} {Q : AQ}
theorem aw_sld {x : Int} (k : Nat) (hd : decode cL_law pc = .ok (.iaload, 1)) (hx : x = (k : Int)) (hk : k < Ls) (hL : Ls < 2147483648) (kk : AW g (mLw nm sb Ls xs) d (pc + 1) lv (.int (iZ (xz xs k)) :: st) V sz Q) : AW g (mLw nm sb Ls xs) d pc lv (.int (iZ x) :: .ref sb :: st) V sz Q := by
  refine AW.step (fun A p e R s m args below meth c H locs cells slots ls ZQ hC hl hV hA hS kw => ?_) kk
  obtain ⟨hx0, hb, -, -, -, -, -, -, -, -, -, -, hX, hbl, hbA⟩ := hC
  have hi := ixZ hx hk hL
  refine va_sld hx0 hb hX hbl hbA hS hi.1 hd ?_
  rw [hi.2, show xs k = iZ (xz xs k) from iZ_of (xs k)]
  exact kw ls hl
theorem aw_slen (hd : decode cL_law pc = .ok (.arraylength, 1)) (kk : AW g (mLw nm sb Ls xs) d (pc + 1) lv (.int (iZ (Ls : Int)) :: st) V sz Q) : AW g (mLw nm sb Ls xs) d pc lv (.ref sb :: st) V sz Q := by
  refine AW.step (fun A p e R s m args below meth c H locs cells slots ls ZQ hC hl hV hA hS kw => ?_) kk
  obtain ⟨hx0, hb, -, -, -, -, -, -, -, -, -, -, hX, hbl, hbA⟩ := hC
  refine va_slen hx0 hb hX hbl hbA hS hd ?_
  rw [show Int32.ofNat Ls = iZ (Ls : Int) from Int32.ofInt_eq_ofNat.symm]
  exact kw ls hl
end LWR
section LWI
variable {g : GX} {b mo : Nat} {X : Nat → Prop} {V V' : AH} {sz sz' : Nat} {Z : Nat → Int} {P L : Nat → Nat} {zs : Nat → Int} {S : TSt} {A : ASt}
theorem wg_off (h : WG g (wsB b) (SAB b (EM (b + 683))) V sz Z P L) (hV : ∀ a, ¬ EM (b + 683) a → V' a = V a) : WG g (wsB b) (SAB b (EM (b + 683))) V' sz Z P L := by
  obtain ⟨h1, h2, h3, h4, h5⟩ := h
  have hx := fun (a : Nat) (ha : EM (b + 683) a) => h5 a (sab_x ha)
  refine ⟨fun a ha => ?_, fun w hw => (h2 w hw).kept (hV w (fun q => (hx w q).2.1 hw)) (hV (P w) (fun q => (hx (P w) q).2.2 w hw rfl)), h3, h4, h5⟩
  by_cases c : EM (b + 683) a
  · exact (hx a c).1
  · exact h1 a (by rw [← hV a c]; exact ha)
theorem cx_off (h : CX g b X V Z S A) (hV : ∀ a, a < b + 683 → V' a = V a) : CX g b X V' Z S A := by
  obtain ⟨hB, hTb, hOk, hD, hT, hA, hW, hSc, hTh, hAs, hFa, hMa, hMi⟩ := h
  refine ⟨⟨(hV _ (by omega)).trans hB.1, (hV _ (by omega)).trans hB.2⟩, fun t ht => (hTb t ht).kept (hV _ (by omega)) (hV _ (by omega)) (hV _ (by omega)), hOk, hD.keep (fun a _ q => hV _ (by omega)) (fun _ _ => rfl), ?_, hA, ?_, ?_, ?_, hAs.kept (hV _ (by omega)) (hV _ (by omega)), hFa.kept (hV _ (by omega)) (hV _ (by omega)), ?_, ?_⟩
  · obtain ⟨ld, ρ, h1, h2⟩ := hT
    exact ⟨ld, ρ, h1.kept2 (fun a ha => hV a (by have := (sab_gT (X := X) ha).2; omega)), h2⟩
  · obtain ⟨h, w, ld, ρ, h1⟩ := hW
    exact ⟨h, w, ld, ρ, h1.kept2 (fun a ha => hV a (by have := (sab_gW (X := X) ha).2; omega))⟩
  · obtain ⟨h, w, ld, ρ, h1⟩ := hSc
    exact ⟨h, w, ld, ρ, h1.kept2 (fun a ha => hV a (by have := (sab_gS (X := X) ha).2; omega))⟩
  · obtain ⟨h, w, ld, ρ, h1⟩ := hTh
    exact ⟨h, w, ld, ρ, h1.kept2 (fun a ha => hV a (by have := (sab_gH (X := X) ha).2; omega))⟩
  · obtain ⟨F, h1⟩ := hMa
    exact ⟨F, (hV _ (by omega)).trans h1⟩
  · obtain ⟨F, h1⟩ := hMi
    exact ⟨F, (hV _ (by omega)).trans h1⟩
theorem rx_off (h : RX g mo V zs S A) (hV : ∀ a, EM mo a → V' a = V a) : RX g mo V' zs S A := by
  obtain ⟨⟨rk, kn, h0⟩, ⟨F1, h1⟩, ⟨F2, h2⟩, ⟨F3, h3⟩, ⟨F4, h4⟩, ⟨F5, h5⟩, ⟨TH, RR, CC, NN, HH, k1, k2, k3, k4, k5, k6⟩, ⟨D, LN, SG, O1, O2, ⟨m1, m2, m3, m4, m5⟩, m6⟩, h8, h9, h10⟩ := h
  have e : ∀ k, k ≤ 15 → V' (mo + k) = V (mo + k) := fun k hk => hV _ ⟨by omega, by omega⟩
  exact ⟨⟨rk, kn, (e 0 (by omega)).trans h0⟩, ⟨F1, (e 6 (by omega)).trans h1⟩, ⟨F2, (e 7 (by omega)).trans h2⟩, ⟨F3, (e 13 (by omega)).trans h3⟩, ⟨F4, (e 14 (by omega)).trans h4⟩, ⟨F5, (e 15 (by omega)).trans h5⟩, ⟨TH, RR, CC, NN, HH, (e 8 (by omega)).trans k1, (e 9 (by omega)).trans k2, (e 10 (by omega)).trans k3, (e 11 (by omega)).trans k4, (e 12 (by omega)).trans k5, k6⟩, ⟨D, LN, SG, O1, O2, ⟨(e 1 (by omega)).trans m1, (e 2 (by omega)).trans m2, (e 3 (by omega)).trans m3, (e 4 (by omega)).trans m4, (e 5 (by omega)).trans m5⟩, m6⟩, h8, h9, h10⟩
theorem sab_or {a : Nat} (h : SAB b X a) : SAB b (fun _ => False) a ∨ X a := by
  rcases h with q | q | q | q | q | q | q | q | q | q
  · exact Or.inl (Or.inl q)
  · exact Or.inl (Or.inr (Or.inl q))
  · exact Or.inl (Or.inr (Or.inr (Or.inl q)))
  · exact Or.inl (sab_gT q).1
  · exact Or.inl (sab_gW q).1
  · exact Or.inl (sab_gS q).1
  · exact Or.inl (sab_gH q).1
  · exact Or.inl (sab_r q)
  · exact Or.inl (sab_t q)
  · exact Or.inr q
theorem wg_new (h : WG g (wsB b) (SAB b (fun _ => False)) V sz Z P L) (hV : ∀ a, a < sz → V' a = V a) (hD : DL V' sz') (hX : ∀ a, X a → sz ≤ a ∧ a < sz') (hs : sz ≤ sz') : WG g (wsB b) (SAB b X) V' sz' Z P L := by
  obtain ⟨h1, h2, h3, h4, h5⟩ := h
  have lt : ∀ w ∈ wsB b, w < sz ∧ P w < sz := fun w hw => by
    obtain ⟨n, F, ⟨k1, k2, -⟩, -⟩ := h2 w hw
    exact ⟨h1 w (by rw [k1]; exact fun q => nomatch q), h1 (P w) (by rw [k2]; exact fun q => nomatch q)⟩
  refine ⟨hD, fun w hw => (h2 w hw).kept (hV w (lt w hw).1) (hV (P w) (lt w hw).2), h3, h4, fun a ha => ?_⟩
  rcases sab_or ha with q | q
  · obtain ⟨z1, z2, z3⟩ := h5 a q
    exact ⟨by omega, z2, z3⟩
  · obtain ⟨z1, z2⟩ := hX a q
    exact ⟨z2, fun hw => by have := (lt a hw).1; omega, fun w hw e => by have := (lt w hw).2; omega⟩
theorem len_fm {f : Nat → List Nat} {k : Nat} (hf : ∀ x, (f x).length = k) : ∀ l : List Nat, (l.flatMap f).length = l.length * k
  | [] => by simp
  | x :: l => by
    rw [List.flatMap_cons, List.length_append, hf x, len_fm hf l, List.length_cons, Nat.add_mul]
    omega
theorem len_gw (t0 mr mc : Nat) : (gwL t0 mr mc).length = 2 + mr * mc := by
  unfold gwL
  rw [List.length_append, len_fm (k := mc) (fun x => by rw [List.length_map, List.length_range]), List.length_range]
  rfl
theorem len_gd (b : Nat) : (gdL b).length = 35 := by
  unfold gdL
  rw [len_fm (k := 5) (fun _ => rfl), List.length_range]
theorem len_ws (b : Nat) : (wsB b).length = 278 := by
  unfold wsB
  simp [len_gw, len_gd]
theorem sum_bd {K : Nat} : ∀ {ws : List Nat}, (∀ w ∈ ws, L w ≤ K) → sumL L ws ≤ K * ws.length ∧ sumQ L ws ≤ K * K * ws.length
  | [], _ => ⟨Nat.le_refl _, Nat.le_refl _⟩
  | w :: ws, h => by
    have h1 := h w List.mem_cons_self
    have h2 := sum_bd (ws := ws) (fun u hu => h u (List.mem_cons_of_mem _ hu))
    have h3 := Nat.mul_le_mul h1 h1
    simp only [sumL, sumQ, List.length_cons, Nat.mul_add, Nat.mul_one]
    omega
theorem wg_sum (h : WG g (wsB b) X V sz Z P L) : sumL L (wsB b) ≤ 44480 ∧ sumQ L (wsB b) ≤ 7116800 := by
  have h1 := sum_bd (L := L) (K := 160) (ws := wsB b) (fun w hw => by
    obtain ⟨n, F, ⟨-, -, -, -, -, k, -⟩, -⟩ := h.2.1 w hw
    exact k)
  rw [len_ws] at h1
  omega
end LWI
/-- bench and reference stand at the same tables and ANSWER -/
def LI (g : GX) (b : Nat) (V : AH) (sz : Nat) (Z : Nat → Int) (P L : Nat → Nat) (zs : Nat → Int) (S : TSt) (A : ASt) : Prop := WG g (wsB b) (SAB b (EM (b + 683))) V sz Z P L ∧ CX g b (EM (b + 683)) V Z S A ∧ RX g (b + 683) V zs S A
/-- the law's end: true, and what the arrays may still grow -/
def LwQ (b : Nat) (L : Nat → Nat) : AQ := fun r _ _ dc ds => some (.int (iZ 1)) = r ∧ sumL L (wsB b) + dc ≤ 44480 ∧ sumQ L (wsB b) + ds ≤ 7116800
abbrev lwv (sb b i : Nat) : List (Nat × Value) := [(3, .int (iZ (i : Int))), (2, .ref (b + 683)), (1, .ref b), (0, .ref sb)]
/-- the loop goes on -/
def Lnx (g : GX) (nm : String) (sb Ls : Nat) (xs : Nat → Int32) (b i : Nat) : Prop := ∀ (V' : AH) (sz' : Nat) (Z' : Nat → Int) (P' L' : Nat → Nat) (zs' : Nat → Int) (S' : TSt) (A' : ASt), LI g b V' sz' Z' P' L' zs' S' A' → AW g (mLw nm sb Ls xs) 13 1164 (lwv sb b i) [] V' sz' (LwQ b L')
section LWJ
variable {g : GX} {b : Nat} {V V1 V2 : AH} {sz sz1 : Nat} {Z Z1 : Nat → Int} {P L P1 L1 : Nat → Nat} {zs z2 : Nat → Int} {S S1 S2 : TSt} {A A1 A2 : ASt} {mc ms : Nat}
def IQ (R : Option Value → TSt → ASt → Prop) : Prop := ∀ (q : Option Value) (S' : TSt) (A' : ASt), R q S' A' → ∃ x : Int32, some (.int x) = q
theorem lw_rx (h : LI g b V sz Z P L zs S A) (k : WSE g (wsB b) (SAB b (EM (b + 683))) (EB b) V sz L V1 sz1 Z1 P1 L1 mc ms) : RX g (b + 683) V1 zs S A := rx_off h.2.2 (fun a ha => k.2.2.1 a (sab_x ha) (fun q => by
  have h1 : b + 683 ≤ a := ha.1
  have h2 : a < b + 683 := q.2
  omega))
theorem lw_two {R : Option Value → TSt → ASt → Prop} {r1 r2 : Option Value} (uq : UQ R) (iq : IQ R) (k : WSE g (wsB b) (SAB b (EM (b + 683))) (EB b) V sz L V1 sz1 Z1 P1 L1 mc ms) (hC : CX g b (EM (b + 683)) V1 Z1 S1 A1) (hR : R r1 S1 A1) (hm : ∀ a, ¬ EM (b + 683) a → V2 a = V1 a) (hX : RX g (b + 683) V2 z2 S2 A2) (hR2 : R r2 S2 A2) : ∃ x : Int32, some (.int x) = r1 ∧ some (.int x) = r2 ∧ LI g b V2 sz1 Z1 P1 L1 z2 S1 A1 := by
  obtain ⟨x, e⟩ := iq _ _ _ hR
  obtain ⟨e1, e2, e3⟩ := uq _ _ _ _ _ _ hR2 hR
  have hC2 : CX g b (EM (b + 683)) V2 Z1 S1 A1 := cx_off hC (fun a ha => hm a (fun q => by
    have h1 : b + 683 ≤ a := q.1
    omega))
  exact ⟨x, e, e.trans e1.symm, wg_off k.1 hm, hC2, (hX.congS e2 hC.2.2.1).congA e3 hC.2.2.2.2.2.1⟩
theorem lw_cls {nm : String} {sb Ls i : Nat} {xs : Nat → Int32} {Q : AQ} (nx : Lnx g nm sb Ls xs b i) (hL : LI g b V2 sz1 Z1 P1 L1 z2 S1 A1) (k5 : sumL L (wsB b) + mc ≤ sumL L1 (wsB b)) (k6 : sumQ L (wsB b) + ms ≤ sumQ L1 (wsB b)) (hQ : ∀ r V' sz' dc ds, LwQ b L r V' sz' (mc + (0 + dc)) (ms + (0 + ds)) → Q r V' sz' dc ds) : AW g (mLw nm sb Ls xs) 13 1164 (lwv sb b i) [] V2 sz1 Q :=
  AW.mono (fun r V' sz' dc ds h => hQ _ _ _ _ _ ⟨h.1, by have := h.2.1; omega, by have := h.2.2; omega⟩) (nx _ _ _ _ _ _ _ _ hL)
theorem iq_alk {t u no : Int} {R : Nat → Nat → Option Value → ASt → Prop} (hR : ∀ x y q A', R x y q A' → ∃ x : Int32, some (.int x) = q) : IQ (AlkR S A t u no R) := by
  rintro q S' A' ⟨-, ⟨x, y, -, -, -, -, -, -, -, h⟩ | ⟨-, h, -⟩⟩
  · exact hR _ _ _ _ h
  · exact ⟨_, h⟩
theorem iq_one {t no : Int} {R : Nat → Option Value → ASt → Prop} (hR : ∀ x q A', R x q A' → ∃ x : Int32, some (.int x) = q) : IQ (OneR S A t no R) := by
  rintro q S' A' ⟨-, ⟨x, -, -, -, h⟩ | ⟨-, h, -⟩⟩
  · exact hR _ _ _ h
  · exact ⟨_, h⟩
theorem iq_ask {t u i : Int} {R : Nat → Nat → Nat → Option Value → ASt → Prop} (hR : ∀ x y k q A', R x y k q A' → ∃ x : Int32, some (.int x) = q) : IQ (AskR S A t u i R) := by
  rintro q S' A' ⟨-, ⟨x, y, k, -, h⟩ | ⟨-, h, -⟩⟩
  · exact hR _ _ _ _ _ h
  · exact ⟨_, h⟩
theorem iq_rk {to rn cn : Nat} {vl : Mat} : IQ (RK S A to rn cn vl) := by
  rintro q S' A' ⟨-, ⟨-, h, -⟩ | ⟨-, h, -⟩⟩
  · exact ⟨_, h⟩
  · exact ⟨_, h⟩
theorem iq_abt {t what : Int} : IQ (AbtR S A t what) := by
  rintro q S' A' ⟨-, -, ⟨n, -, -, -, h⟩ | ⟨-, h⟩⟩
  · rcases h with ⟨-, h⟩ | ⟨-, h⟩ | ⟨-, h⟩ | ⟨-, k, -, h⟩ | ⟨-, h1, l, B, -, h⟩ | ⟨-, h⟩
    · exact ⟨_, h⟩
    · exact ⟨_, h⟩
    · exact ⟨_, h⟩
    · exact ⟨_, h⟩
    · exact ⟨_, h⟩
    · exact ⟨_, h⟩
  · exact ⟨_, h⟩
theorem iq_wor {t : Int} : IQ (WorR S A t) := by
  rintro q S' A' ⟨-, ⟨n, -, -, -, -, h, -⟩ | ⟨-, h, -⟩⟩
  · exact ⟨_, h⟩
  · exact ⟨_, h⟩
theorem iq_bck {t : Int} : IQ (BckR S A t) := by
  rintro q S' A' ⟨-, ⟨n, -, -, -, -, -, h, -⟩ | ⟨-, h, -⟩⟩
  · exact ⟨_, h⟩
  · exact ⟨_, h⟩
theorem i_ov {x y : Nat} {q : Option Value} (h : OvR S x y q A1) : ∃ x : Int32, some (.int x) = q := ⟨_, h.1⟩
theorem i_bth {x y : Nat} {q : Option Value} (h : BthR S x y q A1) : ∃ x : Int32, some (.int x) = q := by
  obtain ⟨h1, l1, B, -, -, h, -⟩ := h
  exact ⟨_, h⟩
theorem i_idx {x y : Nat} {q : Option Value} (h : IdxR S A x y q A1) : ∃ x : Int32, some (.int x) = q := by
  rcases h with ⟨h, -⟩ | ⟨-, h1, h2, l1, l2, B1, B2, -, -, ⟨-, h, -⟩ | ⟨-, h, -⟩⟩
  · exact ⟨_, h⟩
  · exact ⟨_, h⟩
  · exact ⟨_, h⟩
theorem i_quo {x y : Nat} {q : Option Value} (h : QuoR S A x y q A1) : ∃ x : Int32, some (.int x) = q := by
  rcases h with ⟨h, -⟩ | ⟨-, h1, h2, l1, l2, B1, B2, C, dd, M, -, -, -, -, -, h, -⟩
  · exact ⟨_, h⟩
  · exact ⟨_, h⟩
theorem i_slv {x y k : Nat} {q : Option Value} (h : SlvR S A x y k q A1) : ∃ x : Int32, some (.int x) = q := by
  rcases h with ⟨h, -⟩ | ⟨h, -⟩
  · exact ⟨_, h⟩
  · exact ⟨_, h⟩
theorem i_rch {x y k : Nat} {q : Option Value} (h : RchR S A x y k q A1) : ∃ x : Int32, some (.int x) = q := by
  rcases h with ⟨h, -⟩ | ⟨h, -⟩
  · exact ⟨_, h⟩
  · exact ⟨_, h⟩
theorem i_ord {x y k : Nat} {q : Option Value} (h : OrdR S A x y k q A1) : ∃ x : Int32, some (.int x) = q := by
  rcases h with ⟨h, -⟩ | ⟨h, -⟩
  · exact ⟨_, h⟩
  · exact ⟨_, h⟩
theorem i_siz {x : Nat} {q : Option Value} (h : SizR S x q A1) : ∃ x : Int32, some (.int x) = q := by
  obtain ⟨n, G, -, -, -, h, -⟩ := h
  exact ⟨_, h⟩
theorem i_dua {x : Nat} {q : Option Value} (h : DuaR S A x q A1) : ∃ x : Int32, some (.int x) = q := by
  rcases h with ⟨-, h, -⟩ | ⟨-, -, gg, l, B, -, -, -, -, h, -⟩
  · exact ⟨_, h⟩
  · exact ⟨_, h⟩
end LWJ
