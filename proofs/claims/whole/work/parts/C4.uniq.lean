/-! ===== each relation says one answer, one state ===== -/
def AEq (A A2 : ASt) : Prop := A.t = A2.t ∧ A.h = A2.h ∧ A.w = A2.w ∧ ∀ i j, i < A.h → j < A.w → A.m i j = A2.m i j
theorem AEq.rf {A : ASt} : AEq A A := ⟨rfl, rfl, rfl, fun _ _ _ _ => rfl⟩
theorem SEq.rf {S : TSt} : SEq S S := fun _ _ => ⟨rfl, rfl, fun _ _ => rfl, fun _ _ => rfl⟩
theorem AIs.eq {A A2 : ASt} {h w : Nat} {M M2 : Mat} (h1 : AIs A h w M) (h2 : AIs A2 h w M2) (e : ∀ i j, i < h → j < w → M i j = M2 i j) : AEq A A2 := by
  obtain ⟨a1, a2, a3, a4⟩ := h1
  obtain ⟨b1, b2, b3, b4⟩ := h2
  refine ⟨a1.trans b1.symm, a2.trans b2.symm, a3.trans b3.symm, fun i j hi hj => ?_⟩
  rw [a2] at hi
  rw [a3, if_neg (by omega)] at hj
  rw [a4 i j hi hj, b4 i j hi hj]
  exact e i j hi hj
def UQ (R : Option Value → TSt → ASt → Prop) : Prop := ∀ (q : Option Value) (S1 : TSt) (A1 : ASt) (q2 : Option Value) (S2 : TSt) (A2 : ASt), R q S1 A1 → R q2 S2 A2 → q = q2 ∧ SEq S1 S2 ∧ AEq A1 A2
theorem natc {a b : Nat} {t : Int} (h : t = (a : Int)) (k : t = (b : Int)) : a = b := by omega
theorem uq_alk {S : TSt} {A : ASt} {t u no : Int} {R : Nat → Nat → Option Value → ASt → Prop} (hR : ∀ x y q A1 q2 A2, x < 12 → y < 12 → S.c x = S.c y → R x y q A1 → R x y q2 A2 → q = q2 ∧ AEq A1 A2) : UQ (AlkR S A t u no R) := by
  rintro q S1 A1 q2 S2 A2 ⟨rfl, h⟩ ⟨rfl, k⟩
  rcases h with ⟨x, y, a1, a2, a3, a4, a5, a6, a7, a8⟩ | ⟨a1, a2, a3⟩
  · rcases k with ⟨x', y', b1, b2, b3, b4, b5, b6, b7, b8⟩ | ⟨b1, b2, b3⟩
    · obtain rfl := natc a3 b3
      obtain rfl := natc a4 b4
      have := hR _ _ _ _ _ _ a1 a2 a7 a8 b8
      exact ⟨this.1, SEq.rf, this.2⟩
    · exact absurd ⟨x, y, a1, a2, a3, a4, a5, a6, a7⟩ b1
  · rcases k with ⟨x', y', b1, b2, b3, b4, b5, b6, b7, b8⟩ | ⟨b1, b2, b3⟩
    · exact absurd ⟨x', y', b1, b2, b3, b4, b5, b6, b7⟩ a1
    · rw [a3, b3]
      exact ⟨a2.symm.trans b2, SEq.rf, AEq.rf⟩
theorem uq_one {S : TSt} {A : ASt} {t no : Int} {R : Nat → Option Value → ASt → Prop} (hR : ∀ n q A1 q2 A2, n < 12 → 0 < S.r n → R n q A1 → R n q2 A2 → q = q2 ∧ AEq A1 A2) : UQ (OneR S A t no R) := by
  rintro q S1 A1 q2 S2 A2 ⟨rfl, h⟩ ⟨rfl, k⟩
  rcases h with ⟨x, a1, a3, a5, a8⟩ | ⟨a1, a2, a3⟩
  · rcases k with ⟨x', b1, b3, b5, b8⟩ | ⟨b1, b2, b3⟩
    · obtain rfl := natc a3 b3
      have := hR _ _ _ _ _ a1 a5 a8 b8
      exact ⟨this.1, SEq.rf, this.2⟩
    · have := b1 x a1 a3; omega
  · rcases k with ⟨x', b1, b3, b5, b8⟩ | ⟨b1, b2, b3⟩
    · have := a1 x' b1 b3; omega
    · rw [a3, b3]
      exact ⟨a2.symm.trans b2, SEq.rf, AEq.rf⟩
theorem uq_ask {S : TSt} {A : ASt} {t u i : Int} {R : Nat → Nat → Nat → Option Value → ASt → Prop} (hR : ∀ x y k q A1 q2 A2, R x y k q A1 → R x y k q2 A2 → q = q2 ∧ AEq A1 A2) : UQ (AskR S A t u i R) := by
  rintro q S1 A1 q2 S2 A2 ⟨rfl, h⟩ ⟨rfl, k⟩
  rcases h with ⟨x, y, n, a1, a8⟩ | ⟨a1, a2, a3⟩
  · rcases k with ⟨x', y', n', b1, b8⟩ | ⟨b1, b2, b3⟩
    · obtain ⟨-, -, a3, a4, a5, -⟩ := a1
      obtain ⟨-, -, b3, b4, b5, -⟩ := b1
      obtain rfl := natc a3 b3
      obtain rfl := natc a4 b4
      obtain rfl := natc a5 b5
      have := hR _ _ _ _ _ _ _ a8 b8
      exact ⟨this.1, SEq.rf, this.2⟩
    · exact absurd ⟨x, y, n, a1⟩ b1
  · rcases k with ⟨x', y', n', b1, b8⟩ | ⟨b1, b2, b3⟩
    · exact absurd ⟨x', y', n', b1⟩ a1
    · rw [a3, b3]
      exact ⟨a2.symm.trans b2, SEq.rf, AEq.rf⟩
theorem u_ov {S : TSt} {x y : Nat} {q q2 : Option Value} {A1 A2 : ASt} (h : OvR S x y q A1) (k : OvR S x y q2 A2) : q = q2 ∧ AEq A1 A2 := ⟨h.1.symm.trans k.1, h.2.eq k.2 (fun _ _ _ _ => rfl)⟩
theorem u_bth {S : TSt} {x y : Nat} {q q2 : Option Value} {A1 A2 : ASt} (h : BthR S x y q A1) (k : BthR S x y q2 A2) : q = q2 ∧ AEq A1 A2 := by
  obtain ⟨h1, l1, B, s1, e1, rfl, i1⟩ := h
  obtain ⟨h2, l2, B2, s2, e2, rfl, i2⟩ := k
  obtain ⟨rfl, -, e⟩ := stair_uniq s1 s2 (fun v => (e1 v).trans (e2 v).symm)
  exact ⟨rfl, i1.eq i2 e⟩
theorem stt_uq {S : TSt} {x h h' : Nat} {l l' : Nat → Nat} {B B' : Mat} (a : StT S x h l B) (b : StT S x h' l' B') : h = h' ∧ (∀ i, i < h → l i = l' i) ∧ ∀ i j, i < h → j < S.c x → B i j = B' i j := stair_uniq a.1 b.1 (a.2.sy.tr b.2)
theorem u_idx {S : TSt} {A : ASt} {x y : Nat} {q q2 : Option Value} {A1 A2 : ASt} (h : IdxR S A x y q A1) (k : IdxR S A x y q2 A2) : q = q2 ∧ AEq A1 A2 := by
  rcases h with ⟨a1, a2, a3⟩ | ⟨a1, h1, h2, l1, l2, B1, B2, a2, a3, a4⟩
  · rcases k with ⟨b1, b2, b3⟩ | ⟨b1, -⟩
    · rw [a3, b3]; exact ⟨a1.symm.trans b1, AEq.rf⟩
    · exact absurd b1 a2
  · rcases k with ⟨b1, b2, b3⟩ | ⟨b1, h1', h2', l1', l2', B1', B2', b2, b3, b4⟩
    · exact absurd a1 b2
    · obtain ⟨rfl, e1, f1⟩ := stt_uq a2 b2
      obtain ⟨rfl, e2, f2⟩ := stt_uq a3 b3
      rcases a4 with ⟨c1, c2, c3⟩ | ⟨c1, c2, c3⟩
      · rcases b4 with ⟨d1, d2, d3⟩ | ⟨d1, d2, d3⟩
        · rw [c3, d3]; exact ⟨c2.symm.trans d2, AEq.rf⟩
        · exact absurd c1 d1
      · rcases b4 with ⟨d1, d2, d3⟩ | ⟨d1, d2, d3⟩
        · exact absurd d1 c1
        · refine ⟨c2.symm.trans d2, c3.eq d3 (fun _ _ _ _ => ?_)⟩
          rw [Pd_congr (f := fun k => B1 k (l1 k)) (f' := fun k => B1' k (l1' k)) (fun i hi => by rw [← e1 i hi]; exact f1 i _ hi (a2.1.1.1 i hi).1), Pd_congr (f := fun k => B2 k (l2 k)) (f' := fun k => B2' k (l2' k)) (fun i hi => by rw [← e2 i hi]; exact f2 i _ hi (a3.1.1.1 i hi).1)]
theorem coef_uq {B : Mat} {h w : Nat} {l : Nat → Nat} {c c' : Nat → Int} (e : Ech B h w l) (hh : ∀ j, j < w → Sg (fun i => c i * B i j) h = Sg (fun i => c' i * B i j) h) : ∀ i, i < h → c i = c' i := fun i hi => by
  have h1 := ech_coef e (c := fun i => c i - c' i) (v := fun _ => 0) (fun j hj => by
    have h2 := Sg_lin (fun i => c i * B i j) (fun i => c' i * B i j) 1 (-1) h
    rw [hh j hj] at h2
    show (0 : Int) = Sg (fun i => (c i - c' i) * B i j) h
    rw [Sg_congr (f := fun i => (c i - c' i) * B i j) (h := fun i => 1 * (c i * B i j) + -1 * (c' i * B i j)) (fun i _ => by rw [Int.sub_mul]; omega), h2]
    omega) h (Nat.le_refl _) (fun _ _ => rfl) i hi
  have h1 : c i - c' i = 0 := h1
  omega
theorem Pd_uq {f f' : Nat → Int} {n : Nat} (h0 : ∀ a, a < n → 0 < f a) (h : ∀ k, k ≤ n → Pd f k = Pd f' k) : ∀ a, a < n → f a = f' a := fun a ha => by
  have h1 := h a (by omega)
  have h2 : Pd f a * f a = Pd f' a * f' a := h (a + 1) (by omega)
  have h3 : 1 ≤ Pd f a := Pd_pos (fun i hi => by have := h0 i (by omega); omega)
  rw [← h1] at h2
  exact Int.eq_of_mul_eq_mul_left (by omega) h2
theorem szc_congr {o : Nat} {f f' : Nat → Int} : ∀ {n : Nat}, (∀ a, a < n → f a = f' a) → szc o f n = szc o f' n
  | 0, _ => rfl
  | n + 1, h => by
    show szc o f n + (if o = 1 ∨ f n ≠ 1 then 1 else 0) = szc o f' n + (if o = 1 ∨ f' n ≠ 1 then 1 else 0)
    rw [szc_congr (fun a ha => h a (by omega)), h n (by omega)]
theorem szc_sur {f : Nat → Int} : ∀ {n j : Nat}, j < szc 0 f n → ∃ a, a < n ∧ f a ≠ 1 ∧ szc 0 f a = j
  | 0, j, h => absurd h (by show ¬ j < 0; omega)
  | n + 1, j, h => by
    have h : j < szc 0 f n + (if (0 : Nat) = 1 ∨ f n ≠ 1 then 1 else 0) := h
    by_cases q : j < szc 0 f n
    · obtain ⟨a, h1, h2⟩ := szc_sur q
      exact ⟨a, by omega, h2⟩
    · by_cases z : (0 : Nat) = 1 ∨ f n ≠ 1
      · rw [if_pos z] at h
        exact ⟨n, by omega, z.resolve_left (by omega), by omega⟩
      · rw [if_neg z] at h; omega
theorem u_quo {S : TSt} {A : ASt} {x y : Nat} {q q2 : Option Value} {A1 A2 : ASt} (hc : S.c x = S.c y) (h : QuoR S A x y q A1) (k : QuoR S A x y q2 A2) : q = q2 ∧ AEq A1 A2 := by
  rcases h with ⟨a1, a2, a3⟩ | ⟨a1, h1, h2, l1, l2, B1, B2, C, dd, M, a2, a3, a4, a5, a6, a7, a8, a9⟩
  · rcases k with ⟨b1, b2, b3⟩ | ⟨b1, -⟩
    · rw [a3, b3]; exact ⟨a1.symm.trans b1, AEq.rf⟩
    · exact absurd b1 a2
  · rcases k with ⟨b1, b2, b3⟩ | ⟨b1, h1', h2', l1', l2', B1', B2', C', dd', M', b2, b3, b4, b5, b6, b7, b8, b9⟩
    · exact absurd a1 b2
    · obtain ⟨rfl, e1, f1⟩ := stt_uq a2 b2
      obtain ⟨rfl, e2, f2⟩ := stt_uq a3 b3
      have hC : ∀ i e, i < h1 → e < h2 → C i e = C' i e := fun i e hi he => by
        refine coef_uq a3.1.1 (fun j hj => ?_) e he
        rw [← a4 i j hi (by omega), f1 i j hi (by omega), b4 i j hi (by omega)]
        exact Sg_congr (fun e he => by rw [f2 e j he hj])
      have hP : ∀ k, k ≤ h1 → Pd dd k = Pd dd' k := fun k hk => by
        have z1 := a6 k hk
        have z2 := b6 k hk
        exact GcP.uniq z1 ⟨z2.1, fun d => (z2.2 d).trans ⟨fun z => z.cong (fun i j hi hj => (hC i j hi hj).symm), fun z => z.cong (fun i j hi hj => hC i j hi hj)⟩⟩
      have hd := Pd_uq a5 hP
      have hz := szc_congr (o := 0) hd
      refine ⟨by rw [← a7, ← b7, hz], ?_⟩
      rw [← hz] at b9
      refine a9.eq b9 (fun i j _ hj => ?_)
      obtain ⟨a, z1, z2, z3⟩ := szc_sur hj
      have z4 := a8 a z1 z2
      have z5 := b8 a z1 (by rw [← hd a z1]; exact z2)
      rw [← szc_congr (o := 0) (n := a) (fun e he => hd e (by omega)), z3, ← hd a z1] at z5
      rw [z3] at z4
      show M j = M' j
      rw [z4, z5]
theorem u_slv {S : TSt} {A : ASt} {x y n : Nat} {q q2 : Option Value} {A1 A2 : ASt} (h : SlvR S A x y n q A1) (k : SlvR S A x y n q2 A2) : q = q2 ∧ AEq A1 A2 := by
  have no : ∀ X : Nat → Int, (∀ j, j < S.c x → Sg (fun i => X i * S.N x (5 * i + j)) (S.r x) = S.N y (5 * n + j)) → Span (TM (S.N x)) (S.r x) (S.c x) (TM (S.N y) n) := fun X hX => ⟨X, fun j hj => (hX j hj).symm⟩
  rcases h with ⟨a1, h1, l1, B, X, s1, e1, x1, r1, i1⟩ | ⟨a1, a2, a3⟩
  · rcases k with ⟨b1, h2, l2, B2, X2, s2, e2, x2, r2, i2⟩ | ⟨b1, b2, b3⟩
    · obtain ⟨rfl, el, eb⟩ := stair_uniq s1 s2 (fun v => (e1 v).trans (e2 v).symm)
      refine ⟨a1.symm.trans b1, i1.eq i2 (fun _ j _ hj => ?_)⟩
      refine red_uniq s1 ((e1 _).mpr (fun j hj => ?_)) r1 (fun m hm => ?_) j hj
      · have h2 := Sg_lin (fun i => X i * S.N x (5 * i + j)) (fun i => X2 i * S.N x (5 * i + j)) 1 (-1) (S.r x)
        rw [x1 j hj, x2 j hj] at h2
        show Sg (fun i => (X i - X2 i) * S.N x (5 * i + j)) (S.r x) = 0
        rw [Sg_congr (f := fun i => (X i - X2 i) * S.N x (5 * i + j)) (h := fun i => 1 * (X i * S.N x (5 * i + j)) + -1 * (X2 i * S.N x (5 * i + j))) (fun i _ => by rw [Int.sub_mul]; omega), h2]
        omega
      · have := r2 m hm
        rw [← el m hm, ← eb m _ hm (s1.1.1 m hm).1] at this
        exact this
    · exact absurd (no X x1) b2
  · rcases k with ⟨b1, h2, l2, B2, X2, s2, e2, x2, r2, i2⟩ | ⟨b1, b2, b3⟩
    · exact absurd (no X2 x2) a2
    · rw [a3, b3]; exact ⟨a1.symm.trans b1, AEq.rf⟩
theorem u_rch {S : TSt} {A : ASt} {x y n : Nat} {q q2 : Option Value} {A1 A2 : ASt} (h : RchR S A x y n q A1) (k : RchR S A x y n q2 A2) : q = q2 ∧ AEq A1 A2 := by
  rcases h with ⟨a1, h1, l1, B, cf, s1, e1, x1, i1⟩ | ⟨a1, a2, a3⟩
  · rcases k with ⟨b1, h2, l2, B2, cf2, s2, e2, x2, i2⟩ | ⟨b1, b2, b3⟩
    · obtain ⟨rfl, el, eb⟩ := stair_uniq s1 s2 (e1.sy.tr e2)
      refine ⟨a1.symm.trans b1, i1.eq i2 (fun _ j _ hj => ?_)⟩
      refine coef_uq s1.1 (fun c hc => ?_) j hj
      rw [← x1 c hc, x2 c hc]
      exact Sg_congr (fun e he => by rw [eb e c he hc])
    · exact absurd ((e1 _).mpr ⟨cf, x1⟩) b2
  · rcases k with ⟨b1, h2, l2, B2, cf2, s2, e2, x2, i2⟩ | ⟨b1, b2, b3⟩
    · exact absurd ((e2 _).mpr ⟨cf2, x2⟩) a2
    · rw [a3, b3]; exact ⟨a1.symm.trans b1, AEq.rf⟩
theorem u_ord {S : TSt} {A : ASt} {x y n : Nat} {q q2 : Option Value} {A1 A2 : ASt} (h : OrdR S A x y n q A1) (k : OrdR S A x y n q2 A2) : q = q2 ∧ AEq A1 A2 := by
  rcases h with ⟨a1, M, h1, h2, h3, i1⟩ | ⟨a1, a2, a3⟩
  · rcases k with ⟨b1, M2, k1, k2, k3, i2⟩ | ⟨b1, b2, b3⟩
    · exact ⟨a1.symm.trans b1, i1.eq i2 (fun _ _ _ _ => dvd_anti (by omega) (by omega) (h3 M2 k2) (k3 M h2))⟩
    · exact absurd h2 (b2 M h1)
  · rcases k with ⟨b1, M2, k1, k2, k3, i2⟩ | ⟨b1, b2, b3⟩
    · exact absurd k2 (a2 M2 k1)
    · rw [a3, b3]; exact ⟨a1.symm.trans b1, AEq.rf⟩
theorem u_siz {S : TSt} {x : Nat} {q q2 : Option Value} {A1 A2 : ASt} (h : SizR S x q A1) (k : SizR S x q2 A2) : q = q2 ∧ AEq A1 A2 := by
  obtain ⟨n, G, h1, h2, h3, h4, i1⟩ := h
  obtain ⟨n2, G2, k1, k2, k3, k4, i2⟩ := k
  have hn : n = n2 := by
    rcases Nat.lt_trichotomy n n2 with c | c | c
    · exact absurd (GcP.uniq (k2 (n + 1) (by omega)).1 (h3 (by omega))) (k2 (n + 1) (by omega)).2
    · exact c
    · exact absurd (GcP.uniq (h2 (n2 + 1) (by omega)).1 (k3 (by omega))) (h2 (n2 + 1) (by omega)).2
  subst hn
  have hG : ∀ k, k ≤ n → G k = G2 k := fun k hk => GcP.uniq (h2 k hk).1 (k2 k hk).1
  exact ⟨h4.symm.trans k4, i1.eq i2 (fun i j _ hj => by show G (j + 1) / G j = G2 (j + 1) / G2 j; rw [hG j (by omega), hG (j + 1) (by omega)])⟩
theorem u_dua {S : TSt} {A : ASt} {x : Nat} {q q2 : Option Value} {A1 A2 : ASt} (h : DuaR S A x q A1) (k : DuaR S A x q2 A2) : q = q2 ∧ AEq A1 A2 := by
  rcases h with ⟨a1, a2, a3⟩ | ⟨a1, a2, gg, l, B, h1, h2, h3, h4, h5, h6⟩
  · rcases k with ⟨b1, b2, b3⟩ | ⟨b1, b2, -⟩
    · rw [a3, b3]; exact ⟨a2.symm.trans b2, AEq.rf⟩
    · exact absurd ⟨b1, b2⟩ a1
  · rcases k with ⟨b1, b2, b3⟩ | ⟨b1, b2, gg2, l2, B2, k1, k2, k3, k4, k5, k6⟩
    · exact absurd ⟨a1, a2⟩ b1
    · obtain rfl : gg = gg2 := dvd_anti (by omega) (by omega) ((k2 gg).mpr ((h2 gg).mp ⟨1, by rw [Int.mul_one]⟩)) ((h2 gg2).mpr ((k2 gg2).mp ⟨1, by rw [Int.mul_one]⟩))
      obtain ⟨-, el, eb⟩ := stair_uniq h3 k3 (h4.sy.tr k4)
      refine ⟨h5.symm.trans k5, h6.eq k6 (fun i j hi hj => ?_)⟩
      unfold duM
      by_cases c : i = 0
      · rw [if_pos c, if_pos c]
      · rw [if_neg c, if_neg c]; exact eb (i - 1) j (by omega) hj
theorem uq_wor {S : TSt} {A : ASt} {t : Int} : UQ (WorR S A t) := by
  rintro q S1 A1 q2 S2 A2 ⟨rfl, h⟩ ⟨rfl, k⟩
  rcases h with ⟨n, a1, a2, a3, a4, a5, a6⟩ | ⟨a1, a2, a3⟩
  · rcases k with ⟨n', b1, b2, b3, b4, b5, b6⟩ | ⟨b1, b2, b3⟩
    · obtain rfl := natc a2 b2
      exact ⟨a5.symm.trans b5, SEq.rf, a6.eq b6 (fun _ _ _ _ => rfl)⟩
    · exact absurd a4 (b1 n a1 a2 a3)
  · rcases k with ⟨n', b1, b2, b3, b4, b5, b6⟩ | ⟨b1, b2, b3⟩
    · exact absurd b4 (a1 n' b1 b2 b3)
    · rw [a3, b3]; exact ⟨a2.symm.trans b2, SEq.rf, AEq.rf⟩
theorem uq_bck {S : TSt} {A : ASt} {t : Int} : UQ (BckR S A t) := by
  rintro q S1 A1 q2 S2 A2 ⟨rfl, h⟩ ⟨rfl, k⟩
  rcases h with ⟨n, a1, a2, a3, a4, a5, a6, a7⟩ | ⟨a1, a2, a3⟩
  · rcases k with ⟨n', b1, b2, b3, b4, b5, b6, b7⟩ | ⟨b1, b2, b3⟩
    · obtain rfl := natc a2 b2
      exact ⟨a6.symm.trans b6, SEq.rf, a7.eq b7 (fun _ _ _ _ => rfl)⟩
    · exact absurd ⟨a4, a5⟩ (b1 n a1 a2 a3)
  · rcases k with ⟨n', b1, b2, b3, b4, b5, b6, b7⟩ | ⟨b1, b2, b3⟩
    · exact absurd ⟨b4, b5⟩ (a1 n' b1 b2 b3)
    · rw [a3, b3]; exact ⟨a2.symm.trans b2, SEq.rf, AEq.rf⟩
theorem knd_uq {S : TSt} {n : Nat} {k k2 : Int} (h : KndP S n k) (h2 : KndP S n k2) : k = k2 := by
  have di : (∃ h l, DiP S n h l) → ∃ h l, StP S n h l := fun ⟨h, l, z⟩ => ⟨h, l, z.1⟩
  rcases h with ⟨a1, a2⟩ | ⟨a1, a2, a3⟩ | ⟨a1, a2⟩
  · rcases h2 with ⟨b1, b2⟩ | ⟨b1, b2, b3⟩ | ⟨b1, b2⟩
    · omega
    · exact absurd a2 b3
    · exact absurd (di a2) b1
  · rcases h2 with ⟨b1, b2⟩ | ⟨b1, b2, b3⟩ | ⟨b1, b2⟩
    · exact absurd b2 a3
    · omega
    · exact absurd a2 b1
  · rcases h2 with ⟨b1, b2⟩ | ⟨b1, b2, b3⟩ | ⟨b1, b2⟩
    · exact absurd (di b2) a1
    · exact absurd b2 a1
    · rcases a2 with ⟨c1, c2⟩ | ⟨c1, c2⟩ | ⟨c1, c2, c3⟩
      · rcases b2 with ⟨d1, d2⟩ | ⟨d1, d2⟩ | ⟨d1, d2, d3⟩
        · omega
        · exact absurd d2.1 c2
        · exact absurd d2 c2
      · rcases b2 with ⟨d1, d2⟩ | ⟨d1, d2⟩ | ⟨d1, d2, d3⟩
        · exact absurd c2.1 d2
        · omega
        · exact absurd c2 d3
      · rcases b2 with ⟨d1, d2⟩ | ⟨d1, d2⟩ | ⟨d1, d2, d3⟩
        · exact absurd c2 d2
        · exact absurd d2 c3
        · omega
theorem abv_uq {S : TSt} {n : Nat} {what : Int} {q q2 : Option Value} (h : AbV S n what q) (k : AbV S n what q2) : q = q2 := by
  rcases h with ⟨a1, a2⟩ | ⟨a1, a2⟩ | ⟨a1, a2⟩ | ⟨a1, k1, a2, a3⟩ | ⟨a1, h1, l1, B1, a2, a3⟩ | ⟨a1, a2⟩ <;>
    rcases k with ⟨b1, b2⟩ | ⟨b1, b2⟩ | ⟨b1, b2⟩ | ⟨b1, k2, b2, b3⟩ | ⟨b1, h2, l2, B2, b2, b3⟩ | ⟨b1, b2⟩ <;>
    first
    | exact a2.symm.trans b2
    | (exfalso; omega)
    | (rw [← a3, ← b3, knd_uq a2 b2]; done)
    | (rw [← a3, ← b3, (stt_uq a2 b2).1])
theorem uq_abt {S : TSt} {A : ASt} {t what : Int} : UQ (AbtR S A t what) := by
  rintro q S1 A1 q2 S2 A2 ⟨rfl, e1, h⟩ ⟨rfl, e2, k⟩
  refine ⟨?_, SEq.rf, by rw [e1, e2]; exact AEq.rf⟩
  rcases h with ⟨n, a1, a2, a3, a4⟩ | ⟨a1, a2⟩
  · rcases k with ⟨n', b1, b2, b3, b4⟩ | ⟨b1, b2⟩
    · obtain rfl := natc a2 b2
      exact abv_uq a4 b4
    · have := b1 n a1 a2; omega
  · rcases k with ⟨n', b1, b2, b3, b4⟩ | ⟨b1, b2⟩
    · have := a1 n' b1 b2; omega
    · exact a2.symm.trans b2
theorem mkt_uq {S S1 S2 : TSt} {to rn cn : Nat} {vl : Mat} (h : MkT S to rn cn vl S1) (k : MkT S to rn cn vl S2) : SEq S1 S2 := by
  obtain ⟨N, H, rfl, a2, a3⟩ := h
  obtain ⟨N2, H2, rfl, b2, b3⟩ := k
  intro t _
  by_cases e : t = to
  · subst e
    refine ⟨rfl, rfl, fun k hk => ?_, fun i hi => ?_⟩
    · show upF S.N t N t k = upF S.N t N2 t k
      rw [upF_self, upF_self]
      have z1 := a2 (k / 5) (k % 5) (by omega) (by omega)
      have z2 := b2 (k / 5) (k % 5) (by omega) (by omega)
      rw [show 5 * (k / 5) + k % 5 = k by omega] at z1 z2
      rw [z1, z2]
    · show upF S.H t H t i = upF S.H t H2 t i
      rw [upF_self, upF_self, a3 i hi, b3 i hi]
  · refine ⟨rfl, rfl, fun k hk => ?_, fun i hi => ?_⟩
    · show upF S.N to N t k = upF S.N to N2 t k
      rw [upF_ne _ _ e, upF_ne _ _ e]
    · show upF S.H to H t i = upF S.H to H2 t i
      rw [upF_ne _ _ e, upF_ne _ _ e]
theorem uq_rk {S : TSt} {A : ASt} {to rn cn : Nat} {vl : Mat} : UQ (RK S A to rn cn vl) := by
  rintro q S1 A1 q2 S2 A2 ⟨rfl, h⟩ ⟨rfl, k⟩
  rcases h with ⟨a1, a2, a3⟩ | ⟨a1, a2, a3⟩
  · rcases k with ⟨b1, b2, b3⟩ | ⟨b1, b2, b3⟩
    · exact ⟨a2.symm.trans b2, mkt_uq a3 b3, AEq.rf⟩
    · exact absurd a1 b1
  · rcases k with ⟨b1, b2, b3⟩ | ⟨b1, b2, b3⟩
    · exact absurd b1 a1
    · rw [a3, b3]; exact ⟨a2.symm.trans b2, SEq.rf, AEq.rf⟩
theorem uq_table {S : TSt} {A : ASt} {t r c : Int} : UQ (fun q S' A' => A' = A ∧ ((0 ≤ t ∧ t < 12 ∧ 1 ≤ r ∧ r ≤ 5 ∧ 1 ≤ c ∧ c ≤ 5) ∧ some (.int (iZ 1)) = q ∧ S' = upT S t.toNat r.toNat c.toNat (z25 (S.N t.toNat)) (z5 (S.H t.toNat)) ∨ ¬ (0 ≤ t ∧ t < 12 ∧ 1 ≤ r ∧ r ≤ 5 ∧ 1 ≤ c ∧ c ≤ 5) ∧ some (.int (iZ 0)) = q ∧ S' = S)) := by
  rintro q_ S1 A1 q2_ S2 A2 ⟨rfl, h⟩ ⟨rfl, k⟩
  rcases h with ⟨a1, a2, a3⟩ | ⟨a1, a2, a3⟩
  · rcases k with ⟨b1, b2, b3⟩ | ⟨b1, b2, b3⟩
    · rw [a3, b3]; exact ⟨a2.symm.trans b2, SEq.rf, AEq.rf⟩
    · exact absurd a1 b1
  · rcases k with ⟨b1, b2, b3⟩ | ⟨b1, b2, b3⟩
    · exact absurd b1 a1
    · rw [a3, b3]; exact ⟨a2.symm.trans b2, SEq.rf, AEq.rf⟩
theorem uq_leaf {S : TSt} {A : ASt} {t i p qq r s e : Int} : UQ (fun q S' A' => A' = A ∧ ((0 ≤ t ∧ t < 12 ∧ 0 ≤ i ∧ i < S.r t.toNat ∧ ∀ k, k < S.c t.toNat → -1000 ≤ ar5 p qq r s e k ∧ ar5 p qq r s e k ≤ 1000) ∧ some (.int (iZ 1)) = q ∧ S' = upT S t.toNat (S.r t.toNat) (S.c t.toNat) (lfN (S.N t.toNat) i.toNat (S.c t.toNat) (ar5 p qq r s e)) (upF (S.H t.toNat) i.toNat 1) ∨ ¬ (0 ≤ t ∧ t < 12 ∧ 0 ≤ i ∧ i < S.r t.toNat ∧ ∀ k, k < S.c t.toNat → -1000 ≤ ar5 p qq r s e k ∧ ar5 p qq r s e k ≤ 1000) ∧ some (.int (iZ 0)) = q ∧ S' = S)) := by
  rintro q_ S1 A1 q2_ S2 A2 ⟨rfl, h⟩ ⟨rfl, k⟩
  rcases h with ⟨a1, a2, a3⟩ | ⟨a1, a2, a3⟩
  · rcases k with ⟨b1, b2, b3⟩ | ⟨b1, b2, b3⟩
    · rw [a3, b3]; exact ⟨a2.symm.trans b2, SEq.rf, AEq.rf⟩
    · exact absurd a1 b1
  · rcases k with ⟨b1, b2, b3⟩ | ⟨b1, b2, b3⟩
    · exact absurd b1 a1
    · rw [a3, b3]; exact ⟨a2.symm.trans b2, SEq.rf, AEq.rf⟩
theorem uq_tear {S : TSt} {A : ASt} {t i : Int} : UQ (fun q S' A' => A' = A ∧ ((0 ≤ t ∧ t < 12 ∧ 0 ≤ i ∧ i < S.r t.toNat) ∧ some (.int (iZ (S.H t.toNat i.toNat))) = q ∧ S' = upT S t.toNat (S.r t.toNat) (S.c t.toNat) (drN (S.N t.toNat) i.toNat 5) (upF (S.H t.toNat) i.toNat 0) ∨ ¬ (0 ≤ t ∧ t < 12 ∧ 0 ≤ i ∧ i < S.r t.toNat) ∧ some (.int (iZ 0)) = q ∧ S' = S)) := by
  rintro q_ S1 A1 q2_ S2 A2 ⟨rfl, h⟩ ⟨rfl, k⟩
  rcases h with ⟨a1, a2, a3⟩ | ⟨a1, a2, a3⟩
  · rcases k with ⟨b1, b2, b3⟩ | ⟨b1, b2, b3⟩
    · rw [a3, b3]; exact ⟨a2.symm.trans b2, SEq.rf, AEq.rf⟩
    · exact absurd a1 b1
  · rcases k with ⟨b1, b2, b3⟩ | ⟨b1, b2, b3⟩
    · exact absurd b1 a1
    · rw [a3, b3]; exact ⟨a2.symm.trans b2, SEq.rf, AEq.rf⟩
theorem uq_add {S : TSt} {A : ASt} {t u lz to : Int} : UQ (fun q S' A' => (∃ x y tn : Nat, x < 12 ∧ y < 12 ∧ t = (x : Int) ∧ u = (y : Int) ∧ 0 < S.r x ∧ 0 < S.r y ∧ tn < 12 ∧ to = (tn : Int) ∧ S.r x = S.r y ∧ S.c x = S.c y ∧ RK S A tn (S.r x) (S.c x) (fun i j => S.N x (5 * i + j) + (if lz = 0 then S.N y (5 * i + j) else - S.N y (5 * i + j))) q S' A') ∨ (¬ (∃ x y : Nat, x < 12 ∧ y < 12 ∧ t = (x : Int) ∧ u = (y : Int) ∧ 0 < S.r x ∧ 0 < S.r y ∧ 0 ≤ to ∧ to < 12 ∧ S.r x = S.r y ∧ S.c x = S.c y) ∧ some (.int (iZ 0)) = q ∧ S' = S ∧ A' = A)) := by
  rintro q S1 A1 q2 S2 A2 h k
  rcases h with ⟨x, y, n, a1, a2, a3, a4, a5, a6, a7, a8, a9, a10, a11⟩ | ⟨a1, a2, a3, a4⟩
  · rcases k with ⟨x', y', n', b1, b2, b3, b4, b5, b6, b7, b8, b9, b10, b11⟩ | ⟨b1, b2, b3, b4⟩
    · obtain rfl := natc a3 b3
      obtain rfl := natc a4 b4
      obtain rfl := natc a8 b8
      exact uq_rk _ _ _ _ _ _ a11 b11
    · exact absurd ⟨x, y, a1, a2, a3, a4, a5, a6, by omega, by omega, a9, a10⟩ b1
  · rcases k with ⟨x', y', n', b1, b2, b3, b4, b5, b6, b7, b8, b9, b10, b11⟩ | ⟨b1, b2, b3, b4⟩
    · exact absurd ⟨x', y', b1, b2, b3, b4, b5, b6, by omega, by omega, b9, b10⟩ a1
    · rw [a3, b3, a4, b4]; exact ⟨a2.symm.trans b2, SEq.rf, AEq.rf⟩
theorem uq_times {S : TSt} {A : ASt} {t u to : Int} : UQ (fun q S' A' => (∃ x y tn : Nat, x < 12 ∧ y < 12 ∧ t = (x : Int) ∧ u = (y : Int) ∧ 0 < S.r x ∧ 0 < S.r y ∧ tn < 12 ∧ to = (tn : Int) ∧ S.c x = S.r y ∧ RK S A tn (S.r x) (S.c y) (fun i j => Sg (fun k => S.N x (5 * i + k) * S.N y (5 * k + j)) (S.r y)) q S' A') ∨ (¬ (∃ x y : Nat, x < 12 ∧ y < 12 ∧ t = (x : Int) ∧ u = (y : Int) ∧ 0 < S.r x ∧ 0 < S.r y ∧ 0 ≤ to ∧ to < 12 ∧ S.c x = S.r y) ∧ some (.int (iZ 0)) = q ∧ S' = S ∧ A' = A)) := by
  rintro q S1 A1 q2 S2 A2 h k
  rcases h with ⟨x, y, n, a1, a2, a3, a4, a5, a6, a7, a8, a9, a11⟩ | ⟨a1, a2, a3, a4⟩
  · rcases k with ⟨x', y', n', b1, b2, b3, b4, b5, b6, b7, b8, b9, b11⟩ | ⟨b1, b2, b3, b4⟩
    · obtain rfl := natc a3 b3
      obtain rfl := natc a4 b4
      obtain rfl := natc a8 b8
      exact uq_rk _ _ _ _ _ _ a11 b11
    · exact absurd ⟨x, y, a1, a2, a3, a4, a5, a6, by omega, by omega, a9⟩ b1
  · rcases k with ⟨x', y', n', b1, b2, b3, b4, b5, b6, b7, b8, b9, b11⟩ | ⟨b1, b2, b3, b4⟩
    · exact absurd ⟨x', y', b1, b2, b3, b4, b5, b6, by omega, by omega, b9⟩ a1
    · rw [a3, b3, a4, b4]; exact ⟨a2.symm.trans b2, SEq.rf, AEq.rf⟩
theorem uq_turn {S : TSt} {A : ASt} {t to : Int} : UQ (fun q S' A' => (∃ a tn : Nat, a < 12 ∧ t = (a : Int) ∧ 0 < S.r a ∧ tn < 12 ∧ to = (tn : Int) ∧ RK S A tn (S.c a) (S.r a) (fun i j => S.N a (5 * j + i)) q S' A') ∨ (¬ (∃ a : Nat, a < 12 ∧ t = (a : Int) ∧ 0 < S.r a ∧ 0 ≤ to ∧ to < 12) ∧ some (.int (iZ 0)) = q ∧ S' = S ∧ A' = A)) := by
  rintro q S1 A1 q2 S2 A2 h k
  rcases h with ⟨x, n, a1, a3, a5, a7, a8, a11⟩ | ⟨a1, a2, a3, a4⟩
  · rcases k with ⟨x', n', b1, b3, b5, b7, b8, b11⟩ | ⟨b1, b2, b3, b4⟩
    · obtain rfl := natc a3 b3
      obtain rfl := natc a8 b8
      exact uq_rk _ _ _ _ _ _ a11 b11
    · exact absurd ⟨x, a1, a3, a5, by omega, by omega⟩ b1
  · rcases k with ⟨x', n', b1, b3, b5, b7, b8, b11⟩ | ⟨b1, b2, b3, b4⟩
    · exact absurd ⟨x', b1, b3, b5, by omega, by omega⟩ a1
    · rw [a3, b3, a4, b4]; exact ⟨a2.symm.trans b2, SEq.rf, AEq.rf⟩
theorem uq_stair {S : TSt} {A : ASt} {t : Int} : UQ (fun q S' A' => S' = S ∧ ((∃ (n h1 : Nat) (l1 : Nat → Nat) (B : Mat), n < 12 ∧ t = (n : Int) ∧ 0 < S.r n ∧ Stair B h1 (S.c n) l1 ∧ SpEq (TM (S.N n)) (S.r n) B h1 (S.c n) ∧ some (.int (iZ h1)) = q ∧ AIs A' h1 (S.c n) B) ∨ ((∀ n : Nat, n < 12 → t = (n : Int) → S.r n = 0) ∧ some (.int (iZ (-1))) = q ∧ A' = A))) := by
  rintro q S1 A1 q2 S2 A2 ⟨rfl, h⟩ ⟨rfl, k⟩
  rcases h with ⟨n, h1, l1, B1, a1, a2, a3, s1, e1, a5, a6⟩ | ⟨a1, a2, a3⟩
  · rcases k with ⟨n', h2, l2, B2, b1, b2, b3, s2, e2, b5, b6⟩ | ⟨b1, b2, b3⟩
    · obtain rfl := natc a2 b2
      obtain ⟨rfl, -, eb⟩ := stair_uniq s1 s2 (e1.sy.tr e2)
      exact ⟨a5.symm.trans b5, SEq.rf, a6.eq b6 eb⟩
    · have := b1 n a1 a2; omega
  · rcases k with ⟨n', h2, l2, B2, b1, b2, b3, s2, e2, b5, b6⟩ | ⟨b1, b2, b3⟩
    · have := a1 n' b1 b2; omega
    · rw [a3, b3]; exact ⟨a2.symm.trans b2, SEq.rf, AEq.rf⟩
theorem uq_kernel {S : TSt} {A : ASt} {t : Int} : UQ (fun q S' A' => S' = S ∧ ((∃ (n h1 : Nat) (l1 : Nat → Nat) (B : Mat), n < 12 ∧ t = (n : Int) ∧ 0 < S.r n ∧ Stair B h1 (S.r n) l1 ∧ (∀ x, Span B h1 (S.r n) x ↔ KerP (S.N n) (S.r n) (S.c n) x) ∧ some (.int (iZ h1)) = q ∧ AIs A' h1 (S.r n) B) ∨ ((∀ n : Nat, n < 12 → t = (n : Int) → S.r n = 0) ∧ some (.int (iZ (-1))) = q ∧ A' = A))) := by
  rintro q S1 A1 q2 S2 A2 ⟨rfl, h⟩ ⟨rfl, k⟩
  rcases h with ⟨n, h1, l1, B1, a1, a2, a3, s1, e1, a5, a6⟩ | ⟨a1, a2, a3⟩
  · rcases k with ⟨n', h2, l2, B2, b1, b2, b3, s2, e2, b5, b6⟩ | ⟨b1, b2, b3⟩
    · obtain rfl := natc a2 b2
      obtain ⟨rfl, -, eb⟩ := stair_uniq s1 s2 (fun v => (e1 v).trans (e2 v).symm)
      exact ⟨a5.symm.trans b5, SEq.rf, a6.eq b6 eb⟩
    · have := b1 n a1 a2; omega
  · rcases k with ⟨n', h2, l2, B2, b1, b2, b3, s2, e2, b5, b6⟩ | ⟨b1, b2, b3⟩
    · have := a1 n' b1 b2; omega
    · rw [a3, b3]; exact ⟨a2.symm.trans b2, SEq.rf, AEq.rf⟩
theorem uq_join {S : TSt} {A : ASt} {t u : Int} : UQ (fun q S' A' => (∃ x y : Nat, x < 12 ∧ y < 12 ∧ t = (x : Int) ∧ u = (y : Int) ∧ 0 < S.r x ∧ 0 < S.r y ∧ S.c x = S.c y ∧ (fun q S' A' => S' = S ∧ ∃ (h1 : Nat) (l1 : Nat → Nat) (B : Mat), Stair B h1 (S.c x) l1 ∧ SpEq (JM (S.N x) (S.N y) (S.r x)) (S.r x + S.r y) B h1 (S.c x) ∧ some (.int (iZ h1)) = q ∧ AIs A' h1 (S.c x) B) q S' A') ∨ (¬ (∃ n m : Nat, n < 12 ∧ m < 12 ∧ t = (n : Int) ∧ u = (m : Int) ∧ 0 < S.r n ∧ 0 < S.r m ∧ S.c n = S.c m) ∧ some (.int (iZ (-1))) = q ∧ S' = S ∧ A' = A)) := by
  rintro q S1 A1 q2 S2 A2 h k
  rcases h with ⟨x, y, a1, a2, a3, a4, a5, a6, a7, rfl, h1, l1, B1, s1, e1, a8, a9⟩ | ⟨a1, a2, a3, a4⟩
  · rcases k with ⟨x', y', b1, b2, b3, b4, b5, b6, b7, rfl, h2, l2, B2, s2, e2, b8, b9⟩ | ⟨b1, b2, b3, b4⟩
    · obtain rfl := natc a3 b3
      obtain rfl := natc a4 b4
      obtain ⟨rfl, -, eb⟩ := stair_uniq s1 s2 (e1.sy.tr e2)
      exact ⟨a8.symm.trans b8, SEq.rf, a9.eq b9 eb⟩
    · exact absurd ⟨x, y, a1, a2, a3, a4, a5, a6, a7⟩ b1
  · rcases k with ⟨x', y', b1, b2, b3, b4, b5, b6, b7, -⟩ | ⟨b1, b2, b3, b4⟩
    · exact absurd ⟨x', y', b1, b2, b3, b4, b5, b6, b7⟩ a1
    · rw [a3, b3, a4, b4]; exact ⟨a2.symm.trans b2, SEq.rf, AEq.rf⟩
theorem uq_within {S : TSt} {A : ASt} {t u : Int} : UQ (fun q S' A' => S' = S ∧ A' = A ∧ ((∃ x y : Nat, x < 12 ∧ y < 12 ∧ t = (x : Int) ∧ u = (y : Int) ∧ 0 < S.r x ∧ 0 < S.r y ∧ S.c x = S.c y ∧ (WinP S x y ∧ some (.int (iZ 1)) = q ∨ ¬ WinP S x y ∧ some (.int (iZ 0)) = q)) ∨ (¬ (∃ n m : Nat, n < 12 ∧ m < 12 ∧ t = (n : Int) ∧ u = (m : Int) ∧ 0 < S.r n ∧ 0 < S.r m ∧ S.c n = S.c m) ∧ some (.int (iZ (-1))) = q))) := by
  rintro q S1 A1 q2 S2 A2 ⟨rfl, d1, h⟩ ⟨rfl, d2, k⟩
  refine ⟨?_, SEq.rf, by rw [d1, d2]; exact AEq.rf⟩
  rcases h with ⟨x, y, a1, a2, a3, a4, a5, a6, a7, a8⟩ | ⟨a1, a2⟩
  · rcases k with ⟨x', y', b1, b2, b3, b4, b5, b6, b7, b8⟩ | ⟨b1, b2⟩
    · obtain rfl := natc a3 b3
      obtain rfl := natc a4 b4
      rcases a8 with ⟨c1, c2⟩ | ⟨c1, c2⟩
      · rcases b8 with ⟨f1, f2⟩ | ⟨f1, f2⟩
        · exact c2.symm.trans f2
        · exact absurd c1 f1
      · rcases b8 with ⟨f1, f2⟩ | ⟨f1, f2⟩
        · exact absurd f1 c1
        · exact c2.symm.trans f2
    · exact absurd ⟨x, y, a1, a2, a3, a4, a5, a6, a7⟩ b1
  · rcases k with ⟨x', y', b1, b2, b3, b4, b5, b6, b7, b8⟩ | ⟨b1, b2⟩
    · exact absurd ⟨x', y', b1, b2, b3, b4, b5, b6, b7⟩ a1
    · exact a2.symm.trans b2
/-- the reference, its ANSWER given by other words -/
theorem RX.congA {g : GX} {mo : Nat} {V : AH} {zs : Nat → Int} {S : TSt} {A A2 : ASt} (h : RX g mo V zs S A) (e : AEq A A2) (hO : AOK A2) : RX g mo V zs S A2 := by
  obtain ⟨⟨rk, kn, h0⟩, h1, h2, h3, h4, h5, h6, h7, h8, h9, h10⟩ := h
  obtain ⟨e1, e2, e3, e4⟩ := e
  refine ⟨⟨rk, kn, ?_⟩, h1, h2, h3, h4, h5, h6, h7, fun i j hi hj => ?_, h9, hO⟩
  · rw [h0]
    unfold arZ acZ
    rw [e1, e2, e3]
  · rw [h8 i j (by omega) (by omega)]
    exact e4 i j (by omega) (by omega)
