/-! ===== the reference: both: the rows of the kernel times a ===== -/
theorem Sg_addf (f h : Nat → Int) (n : Nat) : Sg (fun i => f i + h i) n = Sg f n + Sg h n := by
  have := Sg_lin f h 1 1 n
  rw [Int.one_mul, Int.one_mul] at this
  rw [← this]
  exact Sg_congr (fun i _ => by rw [Int.one_mul, Int.one_mul])
theorem Sg_swp (f : Nat → Nat → Int) (m : Nat) : ∀ n : Nat, Sg (fun i => Sg (fun j => f i j) m) n = Sg (fun j => Sg (fun i => f i j) n) m
  | 0 => (Sg_zero (fun _ _ => rfl)).symm
  | n + 1 => by
    show Sg (fun i => Sg (fun j => f i j) m) n + Sg (fun j => f n j) m = Sg (fun j => Sg (fun i => f i j) n + f n j) m
    rw [Sg_swp f m n, Sg_addf]
theorem ech_h {A B : Mat} {h k w : Nat} {l l' : Nat → Nat} (ea : Ech A h w l) (eb : Ech B k w l') (hs : ∀ i, i < h → Span B k w (A i)) : h ≤ k := by
  have hex : ∀ i, i < h → ∃ m, m < k ∧ l' m = l i := fun i hi => by
    obtain ⟨t, h1, h2, h3⟩ := rb_ex l' (l i) k
    obtain ⟨hiw, hi0, hiz⟩ := ea.1 i hi
    obtain ⟨c, hc⟩ := hs i hi
    have hc0 := ech_coef eb hc t h1 (fun m hm => hiz _ (h2 m hm))
    rcases Nat.lt_or_ge t k with ht | ht
    · refine ⟨t, ht, ?_⟩
      rcases Nat.lt_or_eq_of_le (h3 ht) with hq | hq
      · refine absurd ?_ hi0
        rw [hc _ hiw]
        refine Sg_zero (fun m hm => ?_)
        rcases Nat.lt_or_ge m t with h4 | h4
        · rw [hc0 m h4, Int.zero_mul]
        · have h5 : l i < l' m := by
            rcases Nat.lt_or_eq_of_le h4 with h6 | h6
            · exact Nat.lt_trans hq (eb.2 t m h6 hm)
            · rw [← h6]; exact hq
          rw [(eb.1 m hm).2.2 _ h5, Int.mul_zero]
      · exact hq.symm
    · refine absurd ?_ hi0
      rw [hc _ hiw]
      exact Sg_zero (fun m hm => by rw [hc0 m (by omega), Int.zero_mul])
  have hle : ∀ i, i < h → ∀ m, m < k → l' m = l i → i ≤ m := by
    intro i
    induction i with
    | zero => intro _ m _ _; omega
    | succ i ih =>
      intro hi m hm e
      obtain ⟨m0, h0, e0⟩ := hex i (by omega)
      have h1 := ih (by omega) m0 h0 e0
      have h2 := ea.2 i (i + 1) (by omega) hi
      rcases Nat.lt_or_ge m0 m with q | q
      · omega
      · rcases Nat.lt_or_eq_of_le q with q2 | q2
        · have := eb.2 m m0 q2 h0
          omega
        · rw [q2] at e; omega
  rcases Nat.eq_zero_or_pos h with q | q
  · omega
  · obtain ⟨m, hm, e⟩ := hex (h - 1) (by omega)
    have := hle (h - 1) (by omega) m hm e
    omega
/-- of the kernel's row i the first k numbers times the rows of a, taken off -/
def PZ (zs N : Nat → Int) (i k j : Nat) : Int := Sg (fun q => -(zs (165 + 10 * i + q) * N (5 * q + j))) k
def NZ (zs N : Nat → Int) (rx : Nat) : Mat := fun i j => PZ zs N i rx j
theorem PZ.step {zs N : Nat → Int} {i k j : Nat} : PZ zs N i (k + 1) j = PZ zs N i k j - zs (165 + 10 * i + k) * N (5 * k + j) := by
  show PZ zs N i k j + -(zs (165 + 10 * i + k) * N (5 * k + j)) = _
  omega
theorem PZ.bd {zs N : Nat → Int} {i k j : Nat} (hk : k ≤ 5) (hj : j < 5) (hN : ∀ e, e < 25 → -1000 ≤ N e ∧ N e ≤ 1000) (hz : ∀ q, q < k → ab (zs (165 + 10 * i + q)) ≤ 10 * TM10) : ab (PZ zs N i k j) ≤ XB := by
  have ht := tm10
  have h1 := Sg_ab (f := fun q => -(zs (165 + 10 * i + q) * N (5 * q + j))) (b := 10000 * TM10) (n := k) (fun q hq => by
    rw [ab_neg, ab_mul]
    have a1 := hz q hq
    have a2 : ab (N (5 * q + j)) ≤ 1000 := by have := hN (5 * q + j) (by omega); unfold ab; omega
    have a3 : ab (zs (165 + 10 * i + q)) * ab (N (5 * q + j)) ≤ 10 * TM10 * 1000 := Int.mul_le_mul a1 a2 (ab0 _) (by omega)
    omega)
  have h2 : (k : Int) * (10000 * TM10) ≤ 5 * (10000 * TM10) := Int.mul_le_mul_of_nonneg_right (by omega) (by omega)
  unfold XB
  exact Int.le_trans h1 (by omega)
/-- the rows reach what both lattices have -/
theorem nz_span {zs N M : Nat → Int} {c rx ry κ : Nat} (hc : c ≤ 5) (hk : ∀ u, Span (fun i j => zs (165 + 10 * i + j)) κ (rx + ry) u ↔ KerP (jN N M rx) (rx + ry) c u) : ∀ v, Span (NZ zs N rx) κ c v ↔ Span (TM N) rx c v ∧ Span (TM M) ry c v := by
  have hJ : ∀ (u : Nat → Int) (j : Nat), j < c → Sg (fun i => u i * jN N M rx (5 * i + j)) (rx + ry) = Sg (fun i => u i * TM N i j) rx + Sg (fun i => u (rx + i) * TM M i j) ry := fun u j hj => by
    rw [Sg_app]
    congr 1
    · exact Sg_congr (fun i hi => by rw [jN_at (by omega)]; show u i * (if i < rx then N (5 * i + j) else _) = _; rw [if_pos hi])
    · exact Sg_congr (fun i hi => by rw [jN_at (by omega)]; show u (rx + i) * (if rx + i < rx then _ else M (5 * (rx + i - rx) + j)) = _; rw [if_neg (by omega), show rx + i - rx = i by omega])
  have hneg : ∀ (f : Nat → Int) n, Sg (fun i => - f i) n = - Sg f n := fun f n => by
    have := Sg_lin f (fun _ => 0) (-1) 0 n
    rw [Sg_congr (f := fun i => - f i) (h := fun i => -1 * f i + 0 * 0) (fun i _ => by omega), this]
    omega
  intro v
  constructor
  · intro hv
    refine ⟨span_sub (fun i hi => ?_) hv, span_sub (fun i hi => ?_) hv⟩
    · refine ⟨fun q => - zs (165 + 10 * i + q), fun j hj => ?_⟩
      exact Sg_congr (fun q _ => by show -(zs (165 + 10 * i + q) * N (5 * q + j)) = - zs (165 + 10 * i + q) * N (5 * q + j); rw [Int.neg_mul])
    · have hK := (hk _).mp (Span.row (A := fun i j => zs (165 + 10 * i + j)) (w := rx + ry) hi)
      refine ⟨fun q => zs (165 + 10 * i + (rx + q)), fun j hj => ?_⟩
      have h1 := hK j hj
      rw [hJ (fun q => zs (165 + 10 * i + q)) j hj] at h1
      have h3 : Sg (fun q => zs (165 + 10 * i + q) * TM N q j) rx + Sg (fun q => zs (165 + 10 * i + (rx + q)) * TM M q j) ry = 0 := h1
      have h2 : NZ zs N rx i j = - Sg (fun q => zs (165 + 10 * i + q) * TM N q j) rx := hneg (fun q => zs (165 + 10 * i + q) * N (5 * q + j)) rx
      show NZ zs N rx i j = Sg (fun q => zs (165 + 10 * i + (rx + q)) * TM M q j) ry
      rw [h2]
      omega
  · rintro ⟨⟨p, hp⟩, ⟨q, hq⟩⟩
    obtain ⟨cf, hcf⟩ := (hk (fun i => if i < rx then - p i else q (i - rx))).mpr (fun j hj => by
      rw [hJ _ j hj]
      have e1 : Sg (fun i => (if i < rx then - p i else q (i - rx)) * TM N i j) rx = - v j := by
        rw [hp j hj, ← hneg]
        exact Sg_congr (fun i hi => by rw [if_pos hi, Int.neg_mul])
      have e2 : Sg (fun i => (if rx + i < rx then - p (rx + i) else q (rx + i - rx)) * TM M i j) ry = v j := by
        rw [hq j hj]
        exact Sg_congr (fun i hi => by rw [if_neg (by omega), show rx + i - rx = i by omega])
      rw [e1, e2]
      omega)
    refine ⟨cf, fun j hj => ?_⟩
    have e3 : ∀ i, i < rx → p i = Sg (fun a => cf a * - zs (165 + 10 * a + i)) κ := fun i hi => by
      have : (if i < rx then - p i else q (i - rx)) = Sg (fun a => cf a * zs (165 + 10 * a + i)) κ := hcf i (by omega)
      rw [if_pos hi] at this
      have h2 := hneg (fun a => cf a * zs (165 + 10 * a + i)) κ
      rw [Sg_congr (f := fun a => cf a * - zs (165 + 10 * a + i)) (h := fun a => - (cf a * zs (165 + 10 * a + i))) (fun a _ => by rw [Int.mul_neg]), h2]
      omega
    rw [hp j hj, Sg_congr (f := fun i => p i * TM N i j) (h := fun i => Sg (fun a => cf a * -(zs (165 + 10 * a + i) * N (5 * i + j))) κ) (fun i hi => by
      rw [e3 i hi, ← Sg_mulr]
      exact Sg_congr (fun a _ => by show cf a * - zs (165 + 10 * a + i) * N (5 * i + j) = _; rw [Int.mul_neg, Int.neg_mul, Int.mul_neg, Int.mul_assoc])), Sg_swp]
    refine Sg_congr (fun a _ => ?_)
    show _ = cf a * PZ zs N a rx j
    unfold PZ
    have := Sg_mulr (fun i => -(zs (165 + 10 * a + i) * N (5 * i + j))) (cf a) rx
    rw [Int.mul_comm (cf a), ← this]
    exact Sg_congr (fun i _ => by rw [Int.mul_comm])
def InB : Nat → Prop := fun q => (265 ≤ q ∧ q < 365) ∨ (415 ≤ q ∧ q ≤ 418) ∨ (450 ≤ q ∧ q < 455)
/-- rows before i stand, and of row i the first k have been taken off in columns before j -/
def BtI (zs N : Nat → Int) (rx : Nat) (z : Nat → Int) (i : Nat) : Prop := (∀ a j, a < i → j < 5 → z (265 + 10 * a + j) = NZ zs N rx a j) ∧ Frm zs z InB
set_option maxRecDepth 20000 in
theorem bo_z (d : Nat) {g : GX} {V0 : AH} {mo sz x y κ rx : Nat} {rk kn ar ac : Int} {zs : Nat → Int} {S : TSt} {Q : AQ} {i : Nat} (hκ : κ ≤ 10) (hi : i < κ) (hKK : ∀ {V : AH} {z : Nat → Int}, V mo = some (moO mo rk kn ar ac) → MN g mo V z → (∀ a, ¬ EN mo a → V a = V0 a) → BtI zs (S.N x) rx z i → (∀ e, e < 5 → z (265 + 10 * i + e) = 0) → AW g mX6_both (d + 7) 78 [(4, .int (iZ (i : Int))), (3, .int (iZ (κ : Int))), (0, .ref mo), (1, .int (iZ (x : Int))), (2, .int (iZ (y : Int)))] [] V sz Q) : ∀ (f j : Nat), j + f = 5 → ∀ {V : AH} {z : Nat → Int}, V mo = some (moO mo rk kn ar ac) → MN g mo V z → (∀ a, ¬ EN mo a → V a = V0 a) → BtI zs (S.N x) rx z i → (∀ e, e < j → z (265 + 10 * i + e) = 0) → AW g mX6_both (d + 7) 49 [(5, .int (iZ (j : Int))), (4, .int (iZ (i : Int))), (3, .int (iZ (κ : Int))), (0, .ref mo), (1, .int (iZ (x : Int))), (2, .int (iZ (y : Int)))] [] V sz Q
  | 0, j, hf, V, z, hmo, hM, hV, hI, hZ => by
    obtain rfl : j = 5 := by omega
    refine aw_iload dX6_both_49 (by rfl) ?_
    refine aw_iconstZ dX6_both_51 ?_
    refine aw_icmp_geZ (tgt := 78) dX6_both_52 (by decide) (by omega) (by omega) (fun hc_52 => ?_) (fun hc_52 => ?_)
    · refine aw_pk [4, 3, 0, 1, 2] (by rfl) ?_
      exact hKK hmo hM hV hI hZ
    · exact absurd hc_52 (by omega)
  | f + 1, j, hf, V, z, hmo, hM, hV, hI, hZ => by
    have IH := fun j hj => @bo_z d g V0 mo sz x y κ rx rk kn ar ac zs S Q i hκ hi hKK f j hj
    refine aw_iload dX6_both_49 (by rfl) ?_
    refine aw_iconstZ dX6_both_51 ?_
    refine aw_icmp_geZ (tgt := 78) dX6_both_52 (by decide) (by omega) (by omega) (fun hc_52 => ?_) (fun hc_52 => ?_)
    · exact absurd hc_52 (by omega)
    · refine aw_aload_n dX6_both_55 (by rfl) (Or.inr ⟨_, rfl⟩) ?_
      refine aw_sipushZ dX6_both_56 (by decide) ?_
      refine aw_bipushZ dX6_both_59 (by decide) ?_
      refine aw_iload dX6_both_61 (by rfl) ?_
      refine aw_imulZ dX6_both_63 ?_
      refine aw_iaddZ dX6_both_64 ?_
      refine aw_iload dX6_both_65 (by rfl) ?_
      refine aw_iaddZ dX6_both_67 ?_
      refine aw_topi (y := ((265 + 10 * i + j : Nat) : Int)) (by omega) ?_
      refine aw_lconstZ (z := 0) dX6_both_68 (by decide) ?_
      refine aw_callv vX6_83 dX6_both_69 hmo (m_becomes g (d + 6) (c := 265 + 10 * i + j) (v := 0) ⟨_, _, _, _, hmo⟩ hM (by omega) (by omega)) (by rfl) (by rfl) (by omega) (Nat.le_of_ble_eq_true rfl) ?_
      rintro _ V1 _ _ _ ⟨rfl, rfl, rfl, hE1, rfl, hM1⟩ -
      refine q0 ?_
      refine aw_iincZ dX6_both_72 (by rfl) (by decide) ?_
      refine aw_goto (tgt := 49) dX6_both_75 (by decide) ?_
      rw [show ((j : Int) + 1) = ((j + 1 : Nat) : Int) by omega]
      refine aw_pk [5, 4, 3, 0, 1, 2] (by rfl) ?_
      refine IH (j + 1) (by omega) ((hE1 mo (by unfold EN; omega)).trans hmo) hM1 (fun a ha => (hE1 a ha).trans (hV a ha)) ⟨fun a e ha he => ?_, fun q hq => ?_⟩ (fun e he => ?_)
      · rw [upF_ne _ _ (by omega)]; exact hI.1 a e ha he
      · rw [upF_ne _ _ (by unfold InB at hq; omega)]; exact hI.2 q hq
      · by_cases c : e = j
        · rw [c, upF_self]
        · rw [upF_ne _ _ (by omega)]; exact hZ e (by omega)
set_option maxRecDepth 20000 in
theorem bo_r (d : Nat) {g : GX} {V0 : AH} {mo sz x y κ rx : Nat} {rk kn ar ac : Int} {zs : Nat → Int} {S : TSt} {Q : AQ} {i k : Nat} {z1 : Nat → Int} (hT0 : RTb g mo V0 S) (hx : x < 12) (hrx : rx = S.r x) (hr5 : rx ≤ 5) (hNb : ∀ k, k < 25 → -1000 ≤ S.N x k ∧ S.N x k ≤ 1000) (hκ : κ ≤ 10) (hzb : ∀ i q, i < κ → q < 5 → ab (zs (165 + 10 * i + q)) ≤ 10 * TM10) (hi : i < κ) (hk : k < 5) (hKK : ∀ {V : AH}, V mo = some (moO mo rk kn ar ac) → MN g mo V (rowZ z1 (S.N x) k 5) → (∀ a, ¬ EN mo a → V a = V0 a) → AW g mX6_both (d + 7) 146 [(5, .int (iZ (k : Int))), (4, .int (iZ (i : Int))), (3, .int (iZ (κ : Int))), (0, .ref mo), (1, .int (iZ (x : Int))), (2, .int (iZ (y : Int)))] [] V sz Q) : ∀ (f j : Nat), j + f = 5 → ∀ {V : AH}, V mo = some (moO mo rk kn ar ac) → MN g mo V (rowZ z1 (S.N x) k j) → (∀ a, ¬ EN mo a → V a = V0 a) → AW g mX6_both (d + 7) 114 [(6, .int (iZ (j : Int))), (5, .int (iZ (k : Int))), (4, .int (iZ (i : Int))), (3, .int (iZ (κ : Int))), (0, .ref mo), (1, .int (iZ (x : Int))), (2, .int (iZ (y : Int)))] [] V sz Q
  | 0, j, hf, V, hmo, hM, hV => by
    obtain rfl : j = 5 := by omega
    refine aw_iload dX6_both_114 (by rfl) ?_
    refine aw_iconstZ dX6_both_116 ?_
    refine aw_icmp_geZ (tgt := 146) dX6_both_117 (by decide) (by omega) (by omega) (fun hc_117 => ?_) (fun hc_117 => ?_)
    · refine aw_pk [5, 4, 3, 0, 1, 2] (by rfl) ?_
      exact hKK hmo hM hV
    · exact absurd hc_117 (by omega)
  | f + 1, j, hf, V, hmo, hM, hV => by
    have IH := fun j hj => @bo_r d g V0 mo sz x y κ rx rk kn ar ac zs S Q i k z1 hT0 hx hrx hr5 hNb hκ hzb hi hk hKK f j hj
    refine aw_iload dX6_both_114 (by rfl) ?_
    refine aw_iconstZ dX6_both_116 ?_
    refine aw_icmp_geZ (tgt := 146) dX6_both_117 (by decide) (by omega) (by omega) (fun hc_117 => ?_) (fun hc_117 => ?_)
    · exact absurd hc_117 (by omega)
    · refine aw_aload_n dX6_both_120 (by rfl) (Or.inr ⟨_, rfl⟩) ?_
      refine aw_sipushZ dX6_both_121 (by decide) ?_
      refine aw_iload dX6_both_124 (by rfl) ?_
      refine aw_iaddZ dX6_both_126 ?_
      refine aw_topi (y := ((450 + j : Nat) : Int)) (by omega) ?_
      refine aw_aload_n dX6_both_127 (by rfl) (Or.inr ⟨_, rfl⟩) ?_
      refine aw_iload_n dX6_both_128 (by rfl) ?_
      refine aw_iload dX6_both_129 (by rfl) ?_
      refine aw_iload dX6_both_131 (by rfl) ?_
      refine aw_callv vX6_148 dX6_both_133 hmo (m_at3 g (d + 6) (t := x) (i := k) (j := j) hmo (hT0.kept (fun a h1 h2 => hV a (by unfold EN; omega))) hx hk (by omega)) (by rfl) (by rfl) (by omega) (Nat.le_of_ble_eq_true rfl) ?_
      rintro _ _ _ _ _ ⟨rfl, rfl, rfl, rfl, rfl⟩ -
      refine q0 ?_
      refine aw_i2lZ dX6_both_136 (by have := hNb (5 * k + j) (by omega); omega) ?_
      refine aw_callv vX6_83 dX6_both_137 hmo (m_becomes g (d + 6) (c := 450 + j) (v := S.N x (5 * k + j)) ⟨_, _, _, _, hmo⟩ hM (by omega) (by have := hNb (5 * k + j) (by omega); omega)) (by rfl) (by rfl) (by omega) (Nat.le_of_ble_eq_true rfl) ?_
      rintro _ V1 _ _ _ ⟨rfl, rfl, rfl, hE1, rfl, hM1⟩ -
      refine q0 ?_
      refine aw_iincZ dX6_both_140 (by rfl) (by decide) ?_
      refine aw_goto (tgt := 114) dX6_both_143 (by decide) ?_
      rw [show ((j : Int) + 1) = ((j + 1 : Nat) : Int) by omega]
      refine aw_pk [6, 5, 4, 3, 0, 1, 2] (by rfl) ?_
      exact IH (j + 1) (by omega) ((hE1 mo (by unfold EN; omega)).trans hmo) (by rw [← rowZ.up]; exact hM1) (fun a ha => (hE1 a ha).trans (hV a ha))
theorem xb_sm : SmM XB := by
  unfold SmM XB
  decide +kernel
set_option maxRecDepth 20000 in
theorem bo_k (d : Nat) {g : GX} {V0 : AH} {mo sz x y κ rx : Nat} {rk kn ar ac : Int} {zs : Nat → Int} {S : TSt} {Q : AQ} {i : Nat} (hT0 : RTb g mo V0 S) (hx : x < 12) (hrx : rx = S.r x) (hr5 : rx ≤ 5) (hNb : ∀ k, k < 25 → -1000 ≤ S.N x k ∧ S.N x k ≤ 1000) (hκ : κ ≤ 10) (hzb : ∀ i q, i < κ → q < 5 → ab (zs (165 + 10 * i + q)) ≤ 10 * TM10) (hi : i < κ) (hKK : ∀ {V : AH} {z : Nat → Int}, V mo = some (moO mo rk kn ar ac) → MN g mo V z → (∀ a, ¬ EN mo a → V a = V0 a) → BtI zs (S.N x) rx z i → (∀ e, e < 5 → z (265 + 10 * i + e) = PZ zs (S.N x) i rx e) → AW g mX6_both (d + 7) 172 [(4, .int (iZ (i : Int))), (3, .int (iZ (κ : Int))), (0, .ref mo), (1, .int (iZ (x : Int))), (2, .int (iZ (y : Int)))] [] V sz Q) : ∀ (f k : Nat), k + f = rx → ∀ {V : AH} {z : Nat → Int}, V mo = some (moO mo rk kn ar ac) → MN g mo V z → (∀ a, ¬ EN mo a → V a = V0 a) → BtI zs (S.N x) rx z i → (∀ e, e < 5 → z (265 + 10 * i + e) = PZ zs (S.N x) i k e) → AW g mX6_both (d + 7) 81 [(5, .int (iZ (k : Int))), (4, .int (iZ (i : Int))), (3, .int (iZ (κ : Int))), (0, .ref mo), (1, .int (iZ (x : Int))), (2, .int (iZ (y : Int)))] [] V sz Q
  | 0, k, hf, V, z, hmo, hM, hV, hI, hP => by
    obtain rfl : rx = k := by omega
    have hT := hT0.kept (V' := V) (fun a h1 h2 => hV a (by unfold EN; omega))
    obtain ⟨TH, RR, CC, NN, HH, t1, t2, t3, t4, t5, t6⟩ := id hT
    have hrr : RR x = (rx : Int) := by rw [hrx]; exact (t6 x hx).2.1
    refine aw_iload dX6_both_81 (by rfl) ?_
    refine aw_aload_n dX6_both_83 (by rfl) (Or.inr ⟨_, rfl⟩) ?_
    refine aw_get fX6_37 dX6_both_84 hmo (by rfl) ?_
    refine aw_iload_n dX6_both_87 (by rfl) ?_
    refine aw_ialdZ (x) dX6_both_88 t2 (by omega) (by omega) (by omega) ?_
    rw [hrr]
    refine aw_icmp_geZ (tgt := 172) dX6_both_89 (by decide) (by omega) (by omega) (fun hc_89 => ?_) (fun hc_89 => ?_)
    · refine aw_pk [4, 3, 0, 1, 2] (by rfl) ?_
      exact hKK hmo hM hV hI hP
    · exact absurd hc_89 (by omega)
  | f + 1, k, hf, V, z, hmo, hM, hV, hI, hP => by
    have IH := fun k hk => @bo_k d g V0 mo sz x y κ rx rk kn ar ac zs S Q i hT0 hx hrx hr5 hNb hκ hzb hi hKK f k hk
    have hT := hT0.kept (V' := V) (fun a h1 h2 => hV a (by unfold EN; omega))
    obtain ⟨TH, RR, CC, NN, HH, t1, t2, t3, t4, t5, t6⟩ := id hT
    have hrr : RR x = (rx : Int) := by rw [hrx]; exact (t6 x hx).2.1
    refine aw_iload dX6_both_81 (by rfl) ?_
    refine aw_aload_n dX6_both_83 (by rfl) (Or.inr ⟨_, rfl⟩) ?_
    refine aw_get fX6_37 dX6_both_84 hmo (by rfl) ?_
    refine aw_iload_n dX6_both_87 (by rfl) ?_
    refine aw_ialdZ (x) dX6_both_88 t2 (by omega) (by omega) (by omega) ?_
    rw [hrr]
    refine aw_icmp_geZ (tgt := 172) dX6_both_89 (by decide) (by omega) (by omega) (fun hc_89 => ?_) (fun hc_89 => ?_)
    · exact absurd hc_89 (by omega)
    · refine aw_aload_n dX6_both_92 (by rfl) (Or.inr ⟨_, rfl⟩) ?_
      refine aw_sipushZ dX6_both_93 (by decide) ?_
      refine aw_bipushZ dX6_both_96 (by decide) ?_
      refine aw_iload dX6_both_98 (by rfl) ?_
      refine aw_imulZ dX6_both_100 ?_
      refine aw_iaddZ dX6_both_101 ?_
      refine aw_iload dX6_both_102 (by rfl) ?_
      refine aw_iaddZ dX6_both_104 ?_
      refine aw_topi (y := ((165 + 10 * i + k : Nat) : Int)) (by omega) ?_
      refine aw_sipushZ dX6_both_105 (by decide) ?_
      refine aw_topi (y := ((416 : Nat) : Int)) (by omega) ?_
      refine aw_callv vX6_67 dX6_both_108 hmo (m_copies g (d + 6) (a := 165 + 10 * i + k) (c := 416) ⟨_, _, _, _, hmo⟩ hM (by omega) (by omega)) (by rfl) (by rfl) (by omega) (Nat.le_of_ble_eq_true rfl) ?_
      rintro _ V1 _ _ _ ⟨rfl, rfl, rfl, hE1, rfl, hM1⟩ -
      refine q0 ?_
      refine aw_iconstZ dX6_both_111 ?_
      refine aw_istore dX6_both_112 (by decide) ?_
      refine aw_pk [6, 5, 4, 3, 0, 1, 2] (by rfl) ?_
      refine bo_r d (V0 := V0) (κ := κ) (rx := rx) (zs := zs) (z1 := upF z 416 (z (165 + 10 * i + k))) hT0 hx hrx hr5 hNb hκ hzb hi (by omega) (fun {V2} hmo2 hM2 hV2 => ?_) 5 0 (by omega) ((hE1 mo (by unfold EN; omega)).trans hmo) (by rw [rowZ.nil]; exact hM1) (fun a ha => (hE1 a ha).trans (hV a ha))
      have hz416 : ∀ q, q ≠ 416 → ¬ (450 ≤ q ∧ q < 455) → rowZ (upF z 416 (z (165 + 10 * i + k))) (S.N x) k 5 q = z q := fun q h1 h2 => by rw [rowZ.ne h2, upF_ne _ _ h1]
      have hzq : rowZ (upF z 416 (z (165 + 10 * i + k))) (S.N x) k 5 416 = zs (165 + 10 * i + k) := by rw [rowZ.ne (by omega), upF_self]; exact hI.2 _ (by unfold InB; omega)
      have hbq := hzb i k hi (by omega)
      have hp1 : ∀ e, e < 5 → ab (PZ zs (S.N x) i (k + 1) e) ≤ XB := fun e he => PZ.bd (by omega) he hNb (fun q hq => hzb i q hi (by omega))
      refine aw_aload_n dX6_both_146 (by rfl) (Or.inr ⟨_, rfl⟩) ?_
      refine aw_sipushZ dX6_both_147 (by decide) ?_
      refine aw_bipushZ dX6_both_150 (by decide) ?_
      refine aw_iload dX6_both_152 (by rfl) ?_
      refine aw_imulZ dX6_both_154 ?_
      refine aw_iaddZ dX6_both_155 ?_
      refine aw_topi (y := ((265 + 10 * i : Nat) : Int)) (by omega) ?_
      refine aw_sipushZ dX6_both_156 (by decide) ?_
      refine aw_topi (y := ((450 : Nat) : Int)) (by omega) ?_
      refine aw_iconstZ dX6_both_159 ?_
      refine aw_sipushZ dX6_both_160 (by decide) ?_
      refine aw_topi (y := ((416 : Nat) : Int)) (by omega) ?_
      refine aw_callv vX6_100 dX6_both_163 hmo2 (m_takesRow g (d + 4) (a := 265 + 10 * i) (e := 450) (n := 5) (f := 416) ⟨_, _, _, _, hmo2⟩ hM2 (by omega) (by omega) (by omega) (by omega) (fun e he => by
        rw [hzq, rowZ.at he]
        refine smT xb_sm ?_
        have a2 : ab (S.N x (5 * k + e)) ≤ 1000 := by have := hNb (5 * k + e) (by omega); unfold ab; omega
        have ht := tm10
        rw [ab_mul]
        have a3 : ab (zs (165 + 10 * i + k)) * ab (S.N x (5 * k + e)) ≤ 10 * TM10 * 1000 := Int.mul_le_mul hbq a2 (ab0 _) (by omega)
        unfold XB
        omega) (fun e he => by
        rw [hz416 _ (by omega) (by omega), hzq, rowZ.at he, hP e he, ← PZ.step]
        exact smT xb_sm (hp1 e he))) (by rfl) (by rfl) (by omega) (Nat.le_of_ble_eq_true rfl) ?_
      rintro _ V3 _ _ _ ⟨rfl, rfl, rfl, hE3, rfl, z3, hM3, hTk⟩ -
      refine q0 ?_
      refine aw_iincZ dX6_both_166 (by rfl) (by decide) ?_
      refine aw_goto (tgt := 81) dX6_both_169 (by decide) ?_
      rw [show ((k : Int) + 1) = ((k + 1 : Nat) : Int) by omega]
      refine aw_pk [5, 4, 3, 0, 1, 2] (by rfl) ?_
      refine IH (k + 1) (by omega) ((hE3 mo (by unfold EN; omega)).trans hmo2) hM3 (fun a ha => (hE3 a ha).trans (hV2 a ha)) ⟨fun a e ha he => ?_, fun q hq => ?_⟩ (fun e he => ?_)
      · rw [hTk _ (by omega), if_neg (by omega), hz416 _ (by omega) (by omega)]; exact hI.1 a e ha he
      · unfold InB at hq
        rw [hTk _ (by omega), if_neg (by omega), hz416 _ (by omega) (by omega)]; exact hI.2 q (by unfold InB; omega)
      · rw [hTk _ (by omega), if_pos (by omega), hz416 _ (by omega) (by omega), hzq, show 450 + (265 + 10 * i + e - (265 + 10 * i)) = 450 + e by omega, rowZ.at he, hP e he, ← PZ.step]
set_option maxRecDepth 20000 in
theorem bo_i (d : Nat) {g : GX} {V0 : AH} {mo sz x y κ rx : Nat} {rk kn ar ac : Int} {zs : Nat → Int} {S : TSt} {Q : AQ} (hT0 : RTb g mo V0 S) (hx : x < 12) (hrx : rx = S.r x) (hr5 : rx ≤ 5) (hNb : ∀ k, k < 25 → -1000 ≤ S.N x k ∧ S.N x k ≤ 1000) (hκ : κ ≤ 10) (hzb : ∀ i q, i < κ → q < 5 → ab (zs (165 + 10 * i + q)) ≤ 10 * TM10) (hKK : ∀ {V : AH} {z : Nat → Int}, V mo = some (moO mo rk kn ar ac) → MN g mo V z → (∀ a, ¬ EN mo a → V a = V0 a) → BtI zs (S.N x) rx z κ → AW g mX6_both (d + 7) 178 [(3, .int (iZ (κ : Int))), (0, .ref mo), (1, .int (iZ (x : Int))), (2, .int (iZ (y : Int)))] [] V sz Q) : ∀ (f i : Nat), i + f = κ → ∀ {V : AH} {z : Nat → Int}, V mo = some (moO mo rk kn ar ac) → MN g mo V z → (∀ a, ¬ EN mo a → V a = V0 a) → BtI zs (S.N x) rx z i → AW g mX6_both (d + 7) 40 [(4, .int (iZ (i : Int))), (3, .int (iZ (κ : Int))), (0, .ref mo), (1, .int (iZ (x : Int))), (2, .int (iZ (y : Int)))] [] V sz Q
  | 0, i, hf, V, z, hmo, hM, hV, hI => by
    obtain rfl : κ = i := by omega
    refine aw_iload dX6_both_40 (by rfl) ?_
    refine aw_iload_n dX6_both_42 (by rfl) ?_
    refine aw_icmp_geZ (tgt := 178) dX6_both_43 (by decide) (by omega) (by omega) (fun hc_43 => ?_) (fun hc_43 => ?_)
    · refine aw_pk [3, 0, 1, 2] (by rfl) ?_
      exact hKK hmo hM hV hI
    · exact absurd hc_43 (by omega)
  | f + 1, i, hf, V, z, hmo, hM, hV, hI => by
    have IH := fun i hi => @bo_i d g V0 mo sz x y κ rx rk kn ar ac zs S Q hT0 hx hrx hr5 hNb hκ hzb hKK f i hi
    refine aw_iload dX6_both_40 (by rfl) ?_
    refine aw_iload_n dX6_both_42 (by rfl) ?_
    refine aw_icmp_geZ (tgt := 178) dX6_both_43 (by decide) (by omega) (by omega) (fun hc_43 => ?_) (fun hc_43 => ?_)
    · exact absurd hc_43 (by omega)
    · refine aw_iconstZ dX6_both_46 ?_
      refine aw_istore dX6_both_47 (by decide) ?_
      refine aw_pk [5, 4, 3, 0, 1, 2] (by rfl) ?_
      refine bo_z d (V0 := V0) (rx := rx) (zs := zs) hκ (by omega) (fun {V1 z1} hmo1 hM1 hV1 hI1 hZ1 => ?_) 5 0 (by omega) hmo hM hV hI (fun e he => absurd he (by omega))
      refine aw_iconstZ dX6_both_78 ?_
      refine aw_istore dX6_both_79 (by decide) ?_
      refine aw_pk [5, 4, 3, 0, 1, 2] (by rfl) ?_
      refine bo_k d (V0 := V0) (zs := zs) hT0 hx hrx hr5 hNb hκ hzb (by omega) (fun {V2 z2} hmo2 hM2 hV2 hI2 hP2 => ?_) rx 0 (by omega) hmo1 hM1 hV1 hI1 (fun e he => by rw [hZ1 e he]; rfl)
      refine aw_iincZ dX6_both_172 (by rfl) (by decide) ?_
      refine aw_goto (tgt := 40) dX6_both_175 (by decide) ?_
      rw [show ((i : Int) + 1) = ((i + 1 : Nat) : Int) by omega]
      refine aw_pk [4, 3, 0, 1, 2] (by rfl) ?_
      refine IH (i + 1) (by omega) hmo2 hM2 hV2 ⟨fun a e ha he => ?_, hI2.2⟩
      by_cases c : a = i
      · subst c; exact hP2 e he
      · exact hI2.1 a e (by omega) he
