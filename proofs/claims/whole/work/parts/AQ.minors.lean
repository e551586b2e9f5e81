/-! ===== minors: what divides all of them; mathematics alone ===== -/
theorem dvd_mr {d x y : Int} (h : d ∣ y) : d ∣ x * y := by
  obtain ⟨c, rfl⟩ := h
  exact ⟨x * c, by rw [← Int.mul_assoc, Int.mul_comm x d, Int.mul_assoc]⟩
theorem dvd_ml {d x y : Int} (h : d ∣ x) : d ∣ x * y := by
  obtain ⟨c, rfl⟩ := h
  exact ⟨c * y, by rw [Int.mul_assoc]⟩
theorem dvd_tr {a b c : Int} (h : a ∣ b) (k : b ∣ c) : a ∣ c := by
  obtain ⟨x, rfl⟩ := h
  obtain ⟨y, rfl⟩ := k
  exact ⟨x * y, by rw [Int.mul_assoc]⟩
theorem dvd_ad {d x y : Int} (h : d ∣ x) (k : d ∣ y) : d ∣ x + y := by
  obtain ⟨a, rfl⟩ := h
  obtain ⟨b, rfl⟩ := k
  exact ⟨a + b, by rw [Int.mul_add]⟩
theorem dvd_ng {d x : Int} (h : d ∣ x) : d ∣ -x := by
  obtain ⟨a, rfl⟩ := h
  exact ⟨-a, by rw [Int.mul_neg]⟩
theorem dvd_z (d : Int) : d ∣ 0 := ⟨0, by rw [Int.mul_zero]⟩
theorem Sg_dvd {d : Int} {f : Nat → Int} : ∀ {n : Nat}, (∀ i, i < n → d ∣ f i) → d ∣ Sg f n
  | 0, _ => dvd_z d
  | n + 1, h => dvd_ad (Sg_dvd (fun i hi => h i (by omega))) (h n (by omega))
def ncs (x : Nat) (p : Nat → Nat) : Nat → Nat
  | 0 => x
  | a + 1 => p a
theorem ncs_cns (H : Mat) (x : Nat) (p : Nat → Nat) : (fun a => H (ncs x p a)) = cns (H x) (fun a => H (p a)) := by
  funext a
  cases a <;> rfl
theorem cns_hd (H : Mat) (p : Nat → Nat) : (fun a => H (p a)) = cns (H (p 0)) (fun a => H (p (a + 1))) := by
  funext a
  cases a <;> rfl
theorem ML.swap2 {n : Nat} {F : Mat → Int} (h : ML (n + 2) F) (x y : Nat → Int) (v : Mat) : F (cns x (cns y v)) = - F (cns y (cns x v)) := by
  have h1 := h.swap (cns x (cns y v)) (i := 0) (by omega) x y
  have e1 : upF (upF (cns x (cns y v)) 0 x) (0 + 1) y = cns x (cns y v) := by
    funext a
    unfold upF
    match a with
    | 0 => rfl
    | 1 => rfl
    | a + 2 => rfl
  have e2 : upF (upF (cns x (cns y v)) 0 y) (0 + 1) x = cns y (cns x v) := by
    funext a
    unfold upF
    match a with
    | 0 => rfl
    | 1 => rfl
    | a + 2 => rfl
  rw [e1, e2] at h1
  exact h1
/-- rows that are sums: what divides the form at all tuples of the summed rows divides it there -/
theorem ml_span {d : Int} : ∀ (k : Nat) {F : Mat → Int}, ML k F → ∀ (H : Mat) (n : Nat), (∀ p : Nat → Nat, (∀ a, a < k → p a < n) → d ∣ F (fun a => H (p a))) → ∀ cf : Mat, d ∣ F (fun a j => Sg (fun i => cf a i * H i j) n)
  | 0, F, h, H, n, hp, cf => by
    rw [h.1 (fun a j => Sg (fun i => cf a i * H i j) n) (fun _ => H 0) (fun i hi => absurd hi (by omega))]
    exact hp (fun _ => 0) (fun a ha => absurd ha (by omega))
  | k + 1, F, h, H, n, hp, cf => by
    have e0 := h.sum (fun a j => Sg (fun i => cf a i * H i j) n) (i := 0) (by omega) (cf 0) H n
    rw [upF_idd _ rfl] at e0
    rw [e0]
    refine Sg_dvd (fun i hi => dvd_mr ?_)
    have e1 : upF (fun a j => Sg (fun i => cf a i * H i j) n) 0 (H i) = cns (H i) (fun a j => Sg (fun i => cf (a + 1) i * H i j) n) := by
      funext a
      cases a with
      | zero => rw [upF_self]; rfl
      | succ a => rw [upF_ne _ _ (by omega)]; rfl
    rw [e1]
    refine ml_span k (h.cons (H i)) H n (fun p hp' => ?_) (fun a i => cf (a + 1) i)
    have h2 := hp (ncs i p) (fun a ha => by
      cases a with
      | zero => exact hi
      | succ a => exact hp' a (by omega))
    rwa [ncs_cns] at h2
theorem inc_lt {k : Nat} {q : Nat → Nat} (h : ∀ a, a + 1 < k → q a < q (a + 1)) : ∀ a, a + 1 < k → q 0 < q (a + 1)
  | 0, ha => h 0 ha
  | a + 1, ha => by
    have h1 := inc_lt h a (by omega)
    have h2 := h (a + 1) ha
    omega
theorem inc_ge {k : Nat} {q : Nat → Nat} (h : ∀ a, a + 1 < k → q a < q (a + 1)) : ∀ a, a < k → a ≤ q a
  | 0, _ => Nat.zero_le _
  | a + 1, ha => by
    have h1 := inc_ge h a (by omega)
    have h2 := h a ha
    omega
/-- what divides an alternating form at all rising tuples divides it at all tuples -/
theorem ml_inc {d : Int} (H : Mat) (n : Nat) : ∀ (k : Nat) {F : Mat → Int}, ML k F → ∀ lo : Nat, (∀ p : Nat → Nat, (∀ a, a < k → lo ≤ p a ∧ p a < n) → (∀ a, a + 1 < k → p a < p (a + 1)) → d ∣ F (fun a => H (p a))) → ∀ p : Nat → Nat, (∀ a, a < k → lo ≤ p a ∧ p a < n) → d ∣ F (fun a => H (p a))
  | 0, F, h, lo, hI, p, hp => hI p hp (fun a ha => absurd ha (by omega))
  | 1, F, h, lo, hI, p, hp => hI p hp (fun a ha => absurd ha (by omega))
  | k + 2, F, h, lo, hI, p, hp => by
    rw [cns_hd H p]
    refine ml_inc H n (k + 1) (h.cons (H (p 0))) lo (fun q hq hinc => ?_) (fun a => p (a + 1)) (fun a ha => hp (a + 1) (by omega))
    have hx := hp 0 (by omega)
    have hq0 := hq 0 (by omega)
    rcases Nat.lt_trichotomy (p 0) (q 0) with c | c | c
    · have h2 := hI (ncs (p 0) q) (fun a ha => by
        cases a with
        | zero => exact hx
        | succ a => exact hq a (by omega)) (fun a ha => by
        cases a with
        | zero => exact c
        | succ a => exact hinc a (by omega))
      rwa [ncs_cns] at h2
    · have h2 : F (cns (H (p 0)) (fun a => H (q a))) = 0 := h.2.2 _ 0 (by omega) (by show H (p 0) = H (q 0); rw [c])
      show d ∣ F (cns (H (p 0)) (fun a => H (q a)))
      rw [h2]
      exact dvd_z d
    · show d ∣ F (cns (H (p 0)) (fun a => H (q a)))
      rw [cns_hd H q, h.swap2]
      refine dvd_ng ?_
      have h2 := ml_inc H n (k + 1) (h.cons (H (q 0))) (q 0 + 1) (fun q' hq' hinc' => by
        have h3 := hI (ncs (q 0) q') (fun a ha => by
          cases a with
          | zero => exact hq0
          | succ a =>
            have := hq' a (by omega)
            exact ⟨by show lo ≤ q' a; omega, this.2⟩) (fun a ha => by
          cases a with
          | zero => have := hq' 0 (by omega); show q 0 < q' 0; omega
          | succ a => exact hinc' a (by omega))
        rwa [ncs_cns] at h3) (ncs (p 0) (fun a => q (a + 1))) (fun a ha => by
        cases a with
        | zero => exact ⟨c, hx.2⟩
        | succ a =>
          have := inc_lt hinc a (by omega)
          exact ⟨this, (hq (a + 1) (by omega)).2⟩)
      rwa [ncs_cns] at h2
/-- d divides every k by k minor: rows below n, columns below w -/
def DVT (k : Nat) (A : Mat) (n w : Nat) (d : Int) : Prop := ∀ p c : Nat → Nat, (∀ a, a < k → p a < n) → (∀ b, b < k → c b < w) → d ∣ det k (fun a b => A (p a) (c b))
theorem DVT.inc {k : Nat} {A : Mat} {n w : Nat} {d : Int} (h : ∀ p c : Nat → Nat, (∀ a, a < k → p a < n) → (∀ a, a + 1 < k → p a < p (a + 1)) → (∀ b, b < k → c b < w) → (∀ b, b + 1 < k → c b < c (b + 1)) → d ∣ det k (fun a b => A (p a) (c b))) : DVT k A n w d := by
  intro p c hp hc
  refine ml_inc (fun i b => A i (c b)) n k (ml_det k) 0 (fun p hp hpi => ?_) p (fun a ha => ⟨Nat.zero_le _, hp a ha⟩)
  rw [← det_T k]
  refine ml_inc (fun j a => A (p a) j) w k (ml_det k) 0 (fun c hc hci => ?_) c (fun a ha => ⟨Nat.zero_le _, hc a ha⟩)
  show d ∣ det k (fun b a => A (p a) (c b))
  rw [← det_T k]
  exact h p c (fun a ha => (hp a ha).2) hpi (fun b hb => (hc b hb).2) hci
theorem DVT.span {k : Nat} {A B : Mat} {n m w : Nat} {d : Int} (hB : ∀ i, i < m → Span A n w (B i)) (h : DVT k A n w d) : DVT k B m w d := by
  intro p c hp hc
  have hch : ∀ i, ∃ cf : Nat → Int, i < m → ∀ j, j < w → B i j = Sg (fun e => cf e * A e j) n := fun i => by
    by_cases hi : i < m
    · obtain ⟨cf, hcf⟩ := hB i hi
      exact ⟨cf, fun _ => hcf⟩
    · exact ⟨fun _ => 0, fun z => absurd z hi⟩
  rw [det_congr (B := fun a b => Sg (fun e => (hch (p a)).choose e * A e (c b)) n) (fun a b ha hb => (hch (p a)).choose_spec (hp a ha) (c b) (hc b hb))]
  exact ml_span k (ml_det k) (fun e b => A e (c b)) n (fun q hq => h q c hq hc) (fun a e => (hch (p a)).choose e)
theorem DVT.eq {k : Nat} {A B : Mat} {n m w : Nat} {d : Int} (hs : SpEq A n B m w) : DVT k A n w d ↔ DVT k B m w d := ⟨fun h => h.span (fun _ hi => (hs _).mpr (Span.row hi)), fun h => h.span (fun _ hi => (hs _).mp (Span.row hi))⟩
theorem DVT.T {k : Nat} {A : Mat} {n w : Nat} {d : Int} : DVT k A n w d ↔ DVT k (fun i j => A j i) w n d := by
  constructor
  · intro h p c hp hc
    rw [← det_T k]
    exact h c p hc hp
  · intro h p c hp hc
    rw [← det_T k]
    exact h c p hc hp
theorem DVT.cong {k : Nat} {A B : Mat} {n w : Nat} {d : Int} (e : ∀ i j, i < n → j < w → A i j = B i j) (h : DVT k A n w d) : DVT k B n w d := by
  intro p c hp hc
  rw [← det_congr (A := fun a b => A (p a) (c b)) (fun a b ha hb => e _ _ (hp a ha) (hc b hb))]
  exact h p c hp hc
/-- more rows than there are -/
theorem DVT.void {k : Nat} {A : Mat} {n w : Nat} {d : Int} (h : n < k) : DVT k A n w d := DVT.inc (fun p c hp hpi _ _ => by
  have h1 := inc_ge hpi (k - 1) (by omega)
  have h2 := hp (k - 1) (by omega)
  exact absurd h1 (by omega))
theorem Pd_dvd {f h : Nat → Int} : ∀ {n : Nat}, (∀ i, i < n → f i ∣ h i) → Pd f n ∣ Pd h n
  | 0, _ => ⟨1, rfl⟩
  | n + 1, q => by
    obtain ⟨x, hx⟩ := Pd_dvd (f := f) (h := h) (n := n) (fun i hi => q i (by omega))
    obtain ⟨y, hy⟩ := q n (by omega)
    refine ⟨x * y, ?_⟩
    show Pd h n * h n = Pd f n * f n * (x * y)
    rw [hx, hy, Int.mul_assoc, Int.mul_assoc, ← Int.mul_assoc x, Int.mul_comm x, Int.mul_assoc]
theorem chain_dvd {dd : Nat → Int} {r : Nat} (h : ∀ i, i + 1 < r → dd i ∣ dd (i + 1)) {i : Nat} : ∀ x, i + x < r → dd i ∣ dd (i + x)
  | 0, _ => ⟨1, by rw [Int.mul_one]; rfl⟩
  | x + 1, hx => dvd_tr (chain_dvd h x (by omega)) (h (i + x) hx)
/-- a diagonal -/
def Dg (dd : Nat → Int) : Mat := fun i j => if i = j then dd i else 0
theorem dg_div {dd : Nat → Int} {r w k : Nat} {d : Int} (hw : r ≤ w) (hch : ∀ i, i + 1 < r → dd i ∣ dd (i + 1)) (hk : k ≤ r) : DVT k (Dg dd) r w d ↔ d ∣ Pd dd k := by
  constructor
  · intro h
    have h1 := h (fun a => a) (fun a => a) (fun a ha => by omega) (fun a ha => by omega)
    rw [det_low (fun i j hij hj => by show (if i = j then dd i else 0) = 0; rw [if_neg (by omega)])] at h1
    have e : Pd (fun i => Dg dd i i) k = Pd dd k := congrArg (fun f => Pd f k) (funext (fun i => if_pos rfl))
    rwa [e] at h1
  · intro h
    refine DVT.inc (fun p c hp hpi hc hci => ?_)
    have e1 : det k (fun a b => Dg dd (p a) (c b)) = det k (fun a b => Sg (fun e => (if e = a then dd (p a) else 0) * (if p e = c b then 1 else 0)) k) := det_congr (fun a b ha hb => by
      rw [Sg_one (k := a) ha (fun e _ hne => by rw [if_neg hne, Int.zero_mul]), if_pos rfl]
      show (if p a = c b then dd (p a) else 0) = _
      split
      · rw [Int.mul_one]
      · rw [Int.mul_zero])
    rw [e1, ml_main k (ml_det k) (fun a e => if e = a then dd (p a) else 0) (fun e b => if p e = c b then 1 else 0), det_low (fun i j hij hj => by rw [if_neg (by omega)])]
    refine dvd_ml (dvd_tr h (Pd_dvd (fun a ha => ?_)))
    rw [if_pos rfl]
    have h1 := inc_ge hpi a ha
    have h2 := chain_dvd hch (i := a) (p a - a) (by have := hp a ha; omega)
    rwa [show a + (p a - a) = p a by omega] at h2
/-- a STAIR has a minor of its height: the product of its leads -/
theorem ech_minor {A : Mat} {h w : Nat} {l : Nat → Nat} {d : Int} (e : Ech A h w l) (hd : DVT h A h w d) : d ∣ Pd (fun i => A i (l i)) h := by
  have h1 := hd (fun a => a) l (fun a ha => ha) (fun b hb => (e.1 b hb).1)
  rw [← det_T h, det_low (A := fun i j => A j (l i)) (fun i j hij hj => (e.1 j hj).2.2 _ (e.2 i j hij hj))] at h1
  exact h1
theorem Pd_ne {f : Nat → Int} : ∀ {n : Nat}, (∀ i, i < n → f i ≠ 0) → Pd f n ≠ 0
  | 0, _ => by show (1 : Int) ≠ 0; omega
  | n + 1, h => fun z => by
    rcases Int.mul_eq_zero.mp z with q | q
    · exact Pd_ne (fun i hi => h i (by omega)) q
    · exact h n (by omega) q
theorem ech_not0 {A : Mat} {h w : Nat} {l : Nat → Nat} (e : Ech A h w l) : ¬ DVT h A h w 0 := fun z => by
  obtain ⟨x, hx⟩ := ech_minor e z
  exact Pd_ne (fun i hi => (e.1 i hi).2.1) (hx.trans (Int.zero_mul x))
/-- heights of the STAIRS of a table and of what it is with rows and columns changed -/
theorem ech_hT {A B : Mat} {h w m : Nat} {l l' : Nat → Nat} (e : Ech A h w l) (e' : Ech B m h l') (hs : SpEq (fun i j => A j i) w B m h) : m = h := by
  have h1 := e'.le_w
  by_cases q : m < h
  · exact absurd (DVT.T.mpr ((DVT.eq hs).mpr (DVT.void q))) (ech_not0 e)
  · omega
/-- the greatest common divisor of all minors -/
def GcP (k : Nat) (A : Mat) (n w : Nat) (G : Int) : Prop := 0 ≤ G ∧ ∀ d : Int, d ∣ G ↔ DVT k A n w d
theorem dvd_anti {a b : Int} (ha : 0 ≤ a) (hb : 0 ≤ b) (h1 : a ∣ b) (h2 : b ∣ a) : a = b := by
  have e1 := Nat.dvd_antisymm (Int.natAbs_dvd_natAbs.mpr h1) (Int.natAbs_dvd_natAbs.mpr h2)
  omega
theorem GcP.uniq {k : Nat} {A : Mat} {n w : Nat} {G G' : Int} (h : GcP k A n w G) (h' : GcP k A n w G') : G = G' := dvd_anti h.1 h'.1 ((h'.2 G).mpr ((h.2 G).mp ⟨1, by rw [Int.mul_one]⟩)) ((h.2 G').mpr ((h'.2 G').mp ⟨1, by rw [Int.mul_one]⟩))
theorem bez : ∀ (m n : Nat), ∃ s t : Int, s * (m : Int) + t * (n : Int) = ((Nat.gcd m n : Nat) : Int)
  | 0, n => ⟨0, 1, by rw [Nat.gcd_zero_left]; omega⟩
  | m + 1, n => by
    have hlt : n % (m + 1) < m + 1 := Nat.mod_lt _ (by omega)
    obtain ⟨s, t, h⟩ := bez (n % (m + 1)) (m + 1)
    rw [← Nat.gcd_rec (m + 1) n] at h
    refine ⟨t - s * ((n / (m + 1) : Nat) : Int), s, ?_⟩
    rw [← h]
    have e : (n : Int) = ((m + 1 : Nat) : Int) * ((n / (m + 1) : Nat) : Int) + ((n % (m + 1) : Nat) : Int) := by
      have := Nat.div_add_mod n (m + 1)
      rw [← Int.natCast_mul, ← Int.natCast_add, this]
    generalize ((n / (m + 1) : Nat) : Int) = q at *
    generalize ((n % (m + 1) : Nat) : Int) = r at *
    generalize ((m + 1 : Nat) : Int) = M at *
    rw [e, Int.sub_mul, Int.mul_add, Int.mul_assoc, Int.mul_comm q M]
    omega
termination_by m => m
