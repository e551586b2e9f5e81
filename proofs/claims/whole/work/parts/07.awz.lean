/-! ===== machine numbers by whole numbers: iZ, jZ ===== -/
def iZ (z : Int) : Int32 := Int32.ofInt z
def jZ (z : Int) : Int64 := Int64.ofInt z
abbrev R32 (z : Int) : Prop := -2147483648 ≤ z ∧ z < 2147483648
abbrev R64 (z : Int) : Prop := -9223372036854775808 ≤ z ∧ z < 9223372036854775808
theorem iZ_toInt {z : Int} (h : R32 z) : (iZ z).toInt = z := Int32.toInt_ofInt_of_le (by simpa using h.1) (by simpa using h.2)
theorem jZ_toInt {z : Int} (h : R64 z) : (jZ z).toInt = z := Int64.toInt_ofInt_of_le (by simpa using h.1) (by simpa using h.2)
theorem iZ_of (x : Int32) : x = iZ x.toInt := (Int32.ofInt_toInt x).symm
theorem jZ_of (x : Int64) : x = jZ x.toInt := (Int64.ofInt_toInt x).symm
theorem iZ_R (x : Int32) : R32 x.toInt := ⟨by have := Int32.le_toInt x; simpa using this, by have := Int32.toInt_lt x; simpa using this⟩
theorem jZ_R (x : Int64) : R64 x.toInt := ⟨by have := Int64.le_toInt x; simpa using this, by have := Int64.toInt_lt x; simpa using this⟩
theorem iZ_add (a b : Int) : iZ a + iZ b = iZ (a + b) := (Int32.ofInt_add a b).symm
theorem iZ_mul (a b : Int) : iZ a * iZ b = iZ (a * b) := (Int32.ofInt_mul a b).symm
theorem iZ_neg (a : Int) : - iZ a = iZ (-a) := Int32.neg_ofInt
theorem iZ_sub (a b : Int) : iZ a - iZ b = iZ (a - b) := (Int32.ofInt_sub a b).symm
theorem jZ_add (a b : Int) : jZ a + jZ b = jZ (a + b) := (Int64.ofInt_add a b).symm
theorem jZ_mul (a b : Int) : jZ a * jZ b = jZ (a * b) := (Int64.ofInt_mul a b).symm
theorem jZ_neg (a : Int) : - jZ a = jZ (-a) := Int64.neg_ofInt
theorem jZ_sub (a b : Int) : jZ a - jZ b = jZ (a - b) := (Int64.ofInt_sub a b).symm
theorem iZ_lt {a b : Int} (ha : R32 a) (hb : R32 b) : iZ a < iZ b ↔ a < b := by rw [Int32.lt_iff_toInt_lt, iZ_toInt ha, iZ_toInt hb]
theorem iZ_le {a b : Int} (ha : R32 a) (hb : R32 b) : iZ a ≤ iZ b ↔ a ≤ b := by rw [Int32.le_iff_toInt_le, iZ_toInt ha, iZ_toInt hb]
theorem iZ_eq {a b : Int} (ha : R32 a) (hb : R32 b) : iZ a = iZ b ↔ a = b := by rw [← Int32.toInt_inj, iZ_toInt ha, iZ_toInt hb]
theorem jZ_lt {a b : Int} (ha : R64 a) (hb : R64 b) : jZ a < jZ b ↔ a < b := by rw [Int64.lt_iff_toInt_lt, jZ_toInt ha, jZ_toInt hb]
theorem jZ_eq {a b : Int} (ha : R64 a) (hb : R64 b) : jZ a = jZ b ↔ a = b := by rw [← Int64.toInt_inj, jZ_toInt ha, jZ_toInt hb]
theorem nI_iZ (n : Nat) : nI n = iZ (n : Int) := Int32.ofInt_eq_ofNat.symm
theorem ixZ {n k : Nat} {x : Int} (hx : x = (k : Int)) (hk : k < n) (hn : n < 2147483648) : ix (iZ x) n k := by
  subst hx
  rw [← nI_iZ]
  exact ix_nI hk hn
theorem i2lZ {a : Int} (h : R32 a) : (iZ a).toInt64 = jZ a := by
  rw [← Int64.toInt_inj, Int32.toInt_toInt64, iZ_toInt h, jZ_toInt ⟨by omega, by omega⟩]
theorem l2iZ (a : Int) : (jZ a).toInt32 = iZ a := Int64.toInt32_ofInt
theorem iZ_div {a b : Int} (ha : R32 a) (hb : R32 b) (h0 : b ≠ 0) (h1 : b ≠ -1 ∨ a ≠ -2147483648) : iZ a / iZ b = iZ (a.tdiv b) := by
  rw [← Int32.toInt_inj]
  have h2 : R32 (a.tdiv b) := by
    have hle : (a.tdiv b).natAbs ≤ a.natAbs := by rw [Int.natAbs_tdiv]; exact Nat.div_le_self _ _
    by_cases hm : b = -1
    · subst hm
      have : a.tdiv (-1) = -a := by rw [Int.tdiv_neg, Int.tdiv_one]
      rw [this]
      have h1 := h1.resolve_left (by simp)
      omega
    · by_cases hb1 : b = 1
      · subst hb1; rw [Int.tdiv_one]; exact ha
      · have h3 : (a.tdiv b).natAbs ≤ a.natAbs / 2 := by
          rw [Int.natAbs_tdiv]
          exact Nat.div_le_div_left (by omega) (by omega)
        omega
  rw [Int32.toInt_div, iZ_toInt ha, iZ_toInt hb, iZ_toInt h2]
  exact Int.bmod_eq_of_le (by simp; omega) (by simp; omega)
theorem jZ_div {a b : Int} (ha : R64 a) (hb : R64 b) (h0 : b ≠ 0) (h1 : b ≠ -1 ∨ a ≠ -9223372036854775808) : jZ a / jZ b = jZ (a.tdiv b) := by
  rw [← Int64.toInt_inj]
  have h2 : R64 (a.tdiv b) := by
    have hle : (a.tdiv b).natAbs ≤ a.natAbs := by rw [Int.natAbs_tdiv]; exact Nat.div_le_self _ _
    by_cases hm : b = -1
    · subst hm
      have : a.tdiv (-1) = -a := by rw [Int.tdiv_neg, Int.tdiv_one]
      rw [this]
      have h1 := h1.resolve_left (by simp)
      omega
    · by_cases hb1 : b = 1
      · subst hb1; rw [Int.tdiv_one]; exact ha
      · have h3 : (a.tdiv b).natAbs ≤ a.natAbs / 2 := by
          rw [Int.natAbs_tdiv]
          exact Nat.div_le_div_left (by omega) (by omega)
        omega
  rw [Int64.toInt_div, jZ_toInt ha, jZ_toInt hb, jZ_toInt h2]
  exact Int.bmod_eq_of_le (by simp; omega) (by simp; omega)
theorem iZ_rem {a b : Int} (ha : R32 a) (hb : R32 b) (h0 : b ≠ 0) (h1 : b ≠ -1 ∨ a ≠ -2147483648) : iZ a - iZ a / iZ b * iZ b = iZ (a.tmod b) := by
  rw [iZ_div ha hb h0 h1, iZ_mul, iZ_sub]
  congr 1
  have := Int.tmod_add_mul_tdiv a b
  have h2 : b * a.tdiv b = a.tdiv b * b := Int.mul_comm _ _
  omega
theorem jZ_rem {a b : Int} (ha : R64 a) (hb : R64 b) (h0 : b ≠ 0) (h1 : b ≠ -1 ∨ a ≠ -9223372036854775808) : jZ a - jZ a / jZ b * jZ b = jZ (a.tmod b) := by
  rw [jZ_div ha hb h0 h1, jZ_mul, jZ_sub]
  congr 1
  have := Int.tmod_add_mul_tdiv a b
  have h2 : b * a.tdiv b = a.tdiv b * b := Int.mul_comm _ _
  omega
def cmpZ (a b : Int) : Int := if b < a then 1 else if a = b then 0 else -1
theorem lcmpZ {a b : Int} (ha : R64 a) (hb : R64 b) : lg_cmp (jZ a) (jZ b) = iZ (cmpZ a b) := by
  unfold lg_cmp cmpZ
  simp only [gt_iff_lt, jZ_lt hb ha, jZ_eq ha hb]
  by_cases h1 : b < a
  · simp only [h1, if_true]; rfl
  · by_cases h2 : a = b
    · subst h2; simp only [Int.lt_irrefl, if_true, if_false]; rfl
    · simp only [h1, h2, if_false]; rfl
theorem cmpZ_lt {a b : Int} : cmpZ a b < 0 ↔ a < b := by unfold cmpZ; repeat' split <;> omega
theorem cmpZ_le {a b : Int} : cmpZ a b ≤ 0 ↔ a ≤ b := by unfold cmpZ; repeat' split <;> omega
theorem cmpZ_gt {a b : Int} : 0 < cmpZ a b ↔ b < a := by unfold cmpZ; repeat' split <;> omega
theorem cmpZ_ge {a b : Int} : 0 ≤ cmpZ a b ↔ b ≤ a := by unfold cmpZ; repeat' split <;> omega
theorem cmpZ_eq {a b : Int} : cmpZ a b = 0 ↔ a = b := by unfold cmpZ; repeat' split <;> omega
theorem cmpZ_R (a b : Int) : R32 (cmpZ a b) := by unfold cmpZ; repeat' split <;> omega
abbrev aIz (g : GX) (n : Nat) (F : Nat → Int) : va_E := aI g n (fun k => iZ (F k))
abbrev aJz (g : GX) (n : Nat) (F : Nat → Int) : va_E := aJ g n (fun k => jZ (F k))
abbrev aZz (g : GX) (n : Nat) (F : Nat → Int) : va_E := aZ g n (fun k => iZ (F k))
def upF {α : Type} (F : Nat → α) (k : Nat) (x : α) : Nat → α := fun j => if j = k then x else F j
theorem upF_self {α : Type} (F : Nat → α) (k : Nat) (x : α) : upF F k x k = x := by simp [upF]
theorem upF_ne {α : Type} (F : Nat → α) {k j : Nat} (x : α) (h : j ≠ k) : upF F k x j = F j := by simp [upF, h]
theorem upd_iZ (F : Nat → Int) (k : Nat) (x : Int) : upd (fun j => iZ (F j)) k (iZ x) = fun j => iZ (upF F k x j) := by
  funext j; unfold upd upF; split <;> rfl
theorem updL_jZ (F : Nat → Int) (k : Nat) (x : Int) : vp_updL (fun j => jZ (F j)) k (jZ x) = fun j => jZ (upF F k x j) := by
  funext j; unfold vp_updL upF; split <;> rfl
theorem AHu_self (V : AH) (a : Nat) (e : va_E) : AHu V a e a = some e := by simp [AHu]
theorem AHu_ne {V : AH} {a b : Nat} {e : va_E} (h : b ≠ a) : AHu V a e b = V b := by simp [AHu, h]
section AWZ
variable {g : GX} {M : MI} {d pc : Nat} {lv : List (Nat × Value)} {st : List Value} {V : AH} {sz : Nat} {Q : AQ}
theorem aw_iconstZ {n : Int} (hd : decode M.2.1 pc = .ok (.iconst n, 1)) (k : AW g M d (pc + 1) lv (.int (iZ n) :: st) V sz Q) : AW g M d pc lv st V sz Q := aw_iconst hd rfl k
theorem aw_bipushZ {n : Int} (hd : decode M.2.1 pc = .ok (.bipush n, 2)) (hv : (Int8.ofInt n).toInt32 = iZ n) (k : AW g M d (pc + 2) lv (.int (iZ n) :: st) V sz Q) : AW g M d pc lv st V sz Q := aw_bipush hd hv k
theorem aw_sipushZ {n : Int} (hd : decode M.2.1 pc = .ok (.sipush n, 3)) (hv : (Int16.ofInt n).toInt32 = iZ n) (k : AW g M d (pc + 3) lv (.int (iZ n) :: st) V sz Q) : AW g M d pc lv st V sz Q := aw_sipush hd hv k
theorem aw_lconstZ {n : Fin 2} {z : Int} (hd : decode M.2.1 pc = .ok (.lconst n, 1)) (hv : Int64.ofNat (n : Nat) = jZ z) (k : AW g M d (pc + 1) lv (.long (jZ z) :: st) V sz Q) : AW g M d pc lv st V sz Q := aw_lconst hd hv k
theorem aw_ldcZ {idx : Nat} {z : Int} {v : Int32} (hc : Cond.constant M.1.cls idx v ∈ GW) (hd : decode M.2.1 pc = .ok (.ldc idx, 2)) (hv : v = iZ z) (k : AW g M d (pc + 2) lv (.int (iZ z) :: st) V sz Q) : AW g M d pc lv st V sz Q := aw_ldc hc hd (hv ▸ k)
theorem aw_ldcwZ {idx : Nat} {z : Int} {v : Int32} (hc : Cond.constant M.1.cls idx v ∈ GW) (hd : decode M.2.1 pc = .ok (.ldc_w idx, 3)) (hv : v = iZ z) (k : AW g M d (pc + 3) lv (.int (iZ z) :: st) V sz Q) : AW g M d pc lv st V sz Q := aw_ldcw hc hd (hv ▸ k)
theorem aw_ldc2Z {idx : Nat} {z : Int} {v : Int64} (hc : Cond.constantLong M.1.cls idx v ∈ GW) (hd : decode M.2.1 pc = .ok (.ldc2_w idx, 3)) (hv : v = jZ z) (k : AW g M d (pc + 3) lv (.long (jZ z) :: st) V sz Q) : AW g M d pc lv st V sz Q := aw_ldc2 hc hd (hv ▸ k)
theorem aw_iincZ {i : Nat} {n x : Int} (hd : decode M.2.1 pc = .ok (.iinc i n, 3)) (hl : lv.lookup i = some (.int (iZ x))) (hn : i < M.2.2.1) (k : AW g M d (pc + 3) (st1 lv i (.int (iZ (x + n)))) st V sz Q) : AW g M d pc lv st V sz Q := aw_iinc hd hl hn (by rw [show Int32.ofInt n = iZ n from rfl, iZ_add]; exact k)
theorem aw_iaddZ {x y : Int} (hd : decode M.2.1 pc = .ok (.iadd, 1)) (k : AW g M d (pc + 1) lv (.int (iZ (x + y)) :: st) V sz Q) : AW g M d pc lv (.int (iZ y) :: .int (iZ x) :: st) V sz Q := aw_iadd hd (by rw [iZ_add]; exact k)
theorem aw_isubZ {x y : Int} (hd : decode M.2.1 pc = .ok (.isub, 1)) (k : AW g M d (pc + 1) lv (.int (iZ (x - y)) :: st) V sz Q) : AW g M d pc lv (.int (iZ y) :: .int (iZ x) :: st) V sz Q := aw_isub hd (by rw [iZ_sub]; exact k)
theorem aw_imulZ {x y : Int} (hd : decode M.2.1 pc = .ok (.imul, 1)) (k : AW g M d (pc + 1) lv (.int (iZ (x * y)) :: st) V sz Q) : AW g M d pc lv (.int (iZ y) :: .int (iZ x) :: st) V sz Q := aw_imul hd (by rw [iZ_mul]; exact k)
theorem aw_laddZ {x y : Int} (hd : decode M.2.1 pc = .ok (.ladd, 1)) (k : AW g M d (pc + 1) lv (.long (jZ (x + y)) :: st) V sz Q) : AW g M d pc lv (.long (jZ y) :: .long (jZ x) :: st) V sz Q := aw_ladd hd (by rw [jZ_add]; exact k)
theorem aw_lsubZ {x y : Int} (hd : decode M.2.1 pc = .ok (.lsub, 1)) (k : AW g M d (pc + 1) lv (.long (jZ (x - y)) :: st) V sz Q) : AW g M d pc lv (.long (jZ y) :: .long (jZ x) :: st) V sz Q := aw_lsub hd (by rw [jZ_sub]; exact k)
theorem aw_lmulZ {x y : Int} (hd : decode M.2.1 pc = .ok (.lmul, 1)) (k : AW g M d (pc + 1) lv (.long (jZ (x * y)) :: st) V sz Q) : AW g M d pc lv (.long (jZ y) :: .long (jZ x) :: st) V sz Q := aw_lmul hd (by rw [jZ_mul]; exact k)
theorem aw_inegZ {x : Int} (hd : decode M.2.1 pc = .ok (.ineg, 1)) (k : AW g M d (pc + 1) lv (.int (iZ (-x)) :: st) V sz Q) : AW g M d pc lv (.int (iZ x) :: st) V sz Q := aw_ineg hd (by rw [iZ_neg]; exact k)
theorem aw_lnegZ {x : Int} (hd : decode M.2.1 pc = .ok (.lneg, 1)) (k : AW g M d (pc + 1) lv (.long (jZ (-x)) :: st) V sz Q) : AW g M d pc lv (.long (jZ x) :: st) V sz Q := aw_lneg hd (by rw [jZ_neg]; exact k)
theorem aw_i2lZ {x : Int} (hd : decode M.2.1 pc = .ok (.i2l, 1)) (hx : R32 x) (k : AW g M d (pc + 1) lv (.long (jZ x) :: st) V sz Q) : AW g M d pc lv (.int (iZ x) :: st) V sz Q := aw_i2l hd (by rw [i2lZ hx]; exact k)
theorem aw_l2iZ {x : Int} (hd : decode M.2.1 pc = .ok (.l2i, 1)) (k : AW g M d (pc + 1) lv (.int (iZ x) :: st) V sz Q) : AW g M d pc lv (.long (jZ x) :: st) V sz Q := aw_l2i hd (by rw [l2iZ]; exact k)
theorem aw_idivZ {x y : Int} (hd : decode M.2.1 pc = .ok (.idiv, 1)) (hx : R32 x) (hy : R32 y) (h0 : 0 < y) (k : AW g M d (pc + 1) lv (.int (iZ (x.tdiv y)) :: st) V sz Q) : AW g M d pc lv (.int (iZ y) :: .int (iZ x) :: st) V sz Q := aw_idiv hd (fun h => by have := (iZ_eq hy (b := 0) (by omega)).mp h; omega) (by rw [iZ_div hx hy (by omega) (by omega)]; exact k)
theorem aw_iremZ {x y : Int} (hd : decode M.2.1 pc = .ok (.irem, 1)) (hx : R32 x) (hy : R32 y) (h0 : 0 < y) (k : AW g M d (pc + 1) lv (.int (iZ (x.tmod y)) :: st) V sz Q) : AW g M d pc lv (.int (iZ y) :: .int (iZ x) :: st) V sz Q := aw_irem hd (fun h => by have := (iZ_eq hy (b := 0) (by omega)).mp h; omega) (by rw [iZ_rem hx hy (by omega) (by omega)]; exact k)
theorem aw_ldivZ {x y : Int} (hd : decode M.2.1 pc = .ok (.ldiv, 1)) (hx : R64 x) (hy : R64 y) (h0 : y ≠ 0) (h1 : y ≠ -1 ∨ x ≠ -9223372036854775808) (k : AW g M d (pc + 1) lv (.long (jZ (x.tdiv y)) :: st) V sz Q) : AW g M d pc lv (.long (jZ y) :: .long (jZ x) :: st) V sz Q := aw_ldiv hd (fun h => by have := (jZ_eq hy (b := 0) (by omega)).mp h; omega) (by rw [jZ_div hx hy h0 h1]; exact k)
theorem aw_lremZ {x y : Int} (hd : decode M.2.1 pc = .ok (.lrem, 1)) (hx : R64 x) (hy : R64 y) (h0 : y ≠ 0) (h1 : y ≠ -1 ∨ x ≠ -9223372036854775808) (k : AW g M d (pc + 1) lv (.long (jZ (x.tmod y)) :: st) V sz Q) : AW g M d pc lv (.long (jZ y) :: .long (jZ x) :: st) V sz Q := aw_lrem hd (fun h => by have := (jZ_eq hy (b := 0) (by omega)).mp h; omega) (by rw [jZ_rem hx hy h0 h1]; exact k)
theorem aw_lcmpZ {x y : Int} (hd : decode M.2.1 pc = .ok (.lcmp, 1)) (hx : R64 x) (hy : R64 y) (k : AW g M d (pc + 1) lv (.int (iZ (cmpZ x y)) :: st) V sz Q) : AW g M d pc lv (.long (jZ y) :: .long (jZ x) :: st) V sz Q := aw_lcmp hd (by rw [lcmpZ hx hy]; exact k)
theorem aw_ialdZ {a n : Nat} {F : Nat → Int} {x : Int} (kn : Nat) (hd : decode M.2.1 pc = .ok (.iaload, 1)) (hV : V a = some (aIz g n F)) (hx : x = (kn : Int)) (hk : kn < n) (hn : n < 2147483648) (kk : AW g M d (pc + 1) lv (.int (iZ (F kn)) :: st) V sz Q) : AW g M d pc lv (.int (iZ x) :: .ref a :: st) V sz Q := aw_iald hd hV (ixZ hx hk hn) kk
theorem aw_laldZ {a n : Nat} {F : Nat → Int} {x : Int} (kn : Nat) (hd : decode M.2.1 pc = .ok (.laload, 1)) (hV : V a = some (aJz g n F)) (hx : x = (kn : Int)) (hk : kn < n) (hn : n < 2147483648) (kk : AW g M d (pc + 1) lv (.long (jZ (F kn)) :: st) V sz Q) : AW g M d pc lv (.int (iZ x) :: .ref a :: st) V sz Q := aw_lald hd hV (ixZ hx hk hn) kk
theorem aw_zaldZ {a n : Nat} {F : Nat → Int} {x : Int} (kn : Nat) (hd : decode M.2.1 pc = .ok (.baload, 1)) (hV : V a = some (aZz g n F)) (hx : x = (kn : Int)) (hk : kn < n) (hn : n < 2147483648) (kk : AW g M d (pc + 1) lv (.int (iZ (F kn)) :: st) V sz Q) : AW g M d pc lv (.int (iZ x) :: .ref a :: st) V sz Q := aw_zald hd hV (ixZ hx hk hn) kk
theorem aw_iastZ {a n : Nat} {F : Nat → Int} {x y : Int} (kn : Nat) (hd : decode M.2.1 pc = .ok (.iastore, 1)) (hV : V a = some (aIz g n F)) (hx : x = (kn : Int)) (hk : kn < n) (hn : n < 2147483648) (kk : AW g M d (pc + 1) lv st (AHu V a (aIz g n (upF F kn y))) sz Q) : AW g M d pc lv (.int (iZ y) :: .int (iZ x) :: .ref a :: st) V sz Q := aw_iast hd hV (ixZ hx hk hn) (by rw [upd_iZ]; exact kk)
theorem aw_lastZ {a n : Nat} {F : Nat → Int} {x y : Int} (kn : Nat) (hd : decode M.2.1 pc = .ok (.lastore, 1)) (hV : V a = some (aJz g n F)) (hx : x = (kn : Int)) (hk : kn < n) (hn : n < 2147483648) (kk : AW g M d (pc + 1) lv st (AHu V a (aJz g n (upF F kn y))) sz Q) : AW g M d pc lv (.long (jZ y) :: .int (iZ x) :: .ref a :: st) V sz Q := aw_last hd hV (ixZ hx hk hn) (by rw [updL_jZ]; exact kk)
theorem nar01 {y : Int} (h : y = 0 ∨ y = 1) : narrow .boolean (.int (iZ y)) = .int (iZ y) := by rcases h with rfl | rfl <;> rfl
theorem aw_zastZ {a n : Nat} {F : Nat → Int} {x y : Int} (kn : Nat) (hd : decode M.2.1 pc = .ok (.bastore, 1)) (hV : V a = some (aZz g n F)) (hx : x = (kn : Int)) (hk : kn < n) (hn : n < 2147483648) (h01 : y = 0 ∨ y = 1) (kk : AW g M d (pc + 1) lv st (AHu V a (aZz g n (upF F kn y))) sz Q) : AW g M d pc lv (.int (iZ y) :: .int (iZ x) :: .ref a :: st) V sz Q := aw_zast hd hV (ixZ hx hk hn) (nar01 h01) (by rw [upd_iZ]; exact kk)
theorem aw_aaldZ {a n t0 : Nat} {C : String} {f : Nat → Option Nat} {x : Int} (kn : Nat) (ht : (tysOf g)[t0]? = some (g.2.2 t0, .object C)) (hd : decode M.2.1 pc = .ok (.aaload, 1)) (hV : V a = some (aQ g t0 n f)) (hx : x = (kn : Int)) (hk : kn < n) (hn : n < 2147483648) (kk : AW g M d (pc + 1) lv (va_rf (f kn) :: st) V sz Q) : AW g M d pc lv (.int (iZ x) :: .ref a :: st) V sz Q := aw_aald ht hd hV (ixZ hx hk hn) kk
theorem aw_alenZ {a t0 : Nat} {x : vp_A} {q : FieldType} (ht : (tysOf g)[t0]? = some (g.2.2 t0, q)) (hd : decode M.2.1 pc = .ok (.arraylength, 1)) (hV : V a = some (.inl (g.2.2 t0, x))) (kk : AW g M d (pc + 1) lv (.int (iZ (x.1 : Int)) :: st) V sz Q) : AW g M d pc lv (.ref a :: st) V sz Q := aw_alen ht hd hV (by rw [nI_iZ]; exact kk)
/-- the top of the stack, said otherwise -/
theorem aw_top {v v' : Value} (h : v = v') (k : AW g M d pc lv (v' :: st) V sz Q) : AW g M d pc lv (v :: st) V sz Q := h ▸ k
theorem aw_topi {x y : Int} (h : x = y) (k : AW g M d pc lv (.int (iZ y) :: st) V sz Q) : AW g M d pc lv (.int (iZ x) :: st) V sz Q := h ▸ k
theorem aw_topl {x y : Int} (h : x = y) (k : AW g M d pc lv (.long (jZ y) :: st) V sz Q) : AW g M d pc lv (.long (jZ x) :: st) V sz Q := h ▸ k
theorem aw_lv {lv' : List (Nat × Value)} (h : lv = lv') (k : AW g M d pc lv' st V sz Q) : AW g M d pc lv st V sz Q := h ▸ k
theorem aw_V {V' : AH} (h : V = V') (k : AW g M d pc lv st V' sz Q) : AW g M d pc lv st V sz Q := h ▸ k
theorem aw_if_eqZ {x : Int} {off : Int} {tgt : Nat} (hd : decode M.2.1 pc = .ok (.ifCond .eq off, 3)) (ht : (pc : Int) + off = (tgt : Int)) (hx : R32 x)  (kt : x = 0 → AW g M d tgt lv st V sz Q) (kf : ¬ x = 0 → AW g M d (pc + 3) lv st V sz Q) : AW g M d pc lv (.int (iZ x) :: st) V sz Q := aw_if_eq hd ht (fun h => kt ((iZ_eq hx (by omega : R32 0)).mp h)) (fun h => kf (fun q => h ((iZ_eq hx (by omega : R32 0)).mpr q)))
theorem aw_icmp_eqZ {x y : Int} {off : Int} {tgt : Nat} (hd : decode M.2.1 pc = .ok (.if_icmp .eq off, 3)) (ht : (pc : Int) + off = (tgt : Int)) (hx : R32 x) (hy : R32 y) (kt : x = y → AW g M d tgt lv st V sz Q) (kf : ¬ x = y → AW g M d (pc + 3) lv st V sz Q) : AW g M d pc lv (.int (iZ y) :: .int (iZ x) :: st) V sz Q := aw_icmp_eq hd ht (fun h => kt ((iZ_eq hx hy).mp h)) (fun h => kf (fun q => h ((iZ_eq hx hy).mpr q)))
theorem aw_if_neZ {x : Int} {off : Int} {tgt : Nat} (hd : decode M.2.1 pc = .ok (.ifCond .ne off, 3)) (ht : (pc : Int) + off = (tgt : Int)) (hx : R32 x)  (kt : ¬ x = 0 → AW g M d tgt lv st V sz Q) (kf : x = 0 → AW g M d (pc + 3) lv st V sz Q) : AW g M d pc lv (.int (iZ x) :: st) V sz Q := aw_if_ne hd ht (fun h => kt (fun q => h ((iZ_eq hx (by omega : R32 0)).mpr q))) (fun h => kf ((iZ_eq hx (by omega : R32 0)).mp h))
theorem aw_icmp_neZ {x y : Int} {off : Int} {tgt : Nat} (hd : decode M.2.1 pc = .ok (.if_icmp .ne off, 3)) (ht : (pc : Int) + off = (tgt : Int)) (hx : R32 x) (hy : R32 y) (kt : ¬ x = y → AW g M d tgt lv st V sz Q) (kf : x = y → AW g M d (pc + 3) lv st V sz Q) : AW g M d pc lv (.int (iZ y) :: .int (iZ x) :: st) V sz Q := aw_icmp_ne hd ht (fun h => kt (fun q => h ((iZ_eq hx hy).mpr q))) (fun h => kf ((iZ_eq hx hy).mp h))
theorem aw_if_ltZ {x : Int} {off : Int} {tgt : Nat} (hd : decode M.2.1 pc = .ok (.ifCond .lt off, 3)) (ht : (pc : Int) + off = (tgt : Int)) (hx : R32 x)  (kt : x < 0 → AW g M d tgt lv st V sz Q) (kf : ¬ x < 0 → AW g M d (pc + 3) lv st V sz Q) : AW g M d pc lv (.int (iZ x) :: st) V sz Q := aw_if_lt hd ht (fun h => kt ((iZ_lt hx (by omega : R32 0)).mp h)) (fun h => kf (fun q => h ((iZ_lt hx (by omega : R32 0)).mpr q)))
theorem aw_icmp_ltZ {x y : Int} {off : Int} {tgt : Nat} (hd : decode M.2.1 pc = .ok (.if_icmp .lt off, 3)) (ht : (pc : Int) + off = (tgt : Int)) (hx : R32 x) (hy : R32 y) (kt : x < y → AW g M d tgt lv st V sz Q) (kf : ¬ x < y → AW g M d (pc + 3) lv st V sz Q) : AW g M d pc lv (.int (iZ y) :: .int (iZ x) :: st) V sz Q := aw_icmp_lt hd ht (fun h => kt ((iZ_lt hx hy).mp h)) (fun h => kf (fun q => h ((iZ_lt hx hy).mpr q)))
theorem aw_if_geZ {x : Int} {off : Int} {tgt : Nat} (hd : decode M.2.1 pc = .ok (.ifCond .ge off, 3)) (ht : (pc : Int) + off = (tgt : Int)) (hx : R32 x)  (kt : 0 ≤ x → AW g M d tgt lv st V sz Q) (kf : ¬ 0 ≤ x → AW g M d (pc + 3) lv st V sz Q) : AW g M d pc lv (.int (iZ x) :: st) V sz Q := aw_if_ge hd ht (fun h => kt ((iZ_le (by omega : R32 0) hx).mp h)) (fun h => kf (fun q => h ((iZ_le (by omega : R32 0) hx).mpr q)))
theorem aw_icmp_geZ {x y : Int} {off : Int} {tgt : Nat} (hd : decode M.2.1 pc = .ok (.if_icmp .ge off, 3)) (ht : (pc : Int) + off = (tgt : Int)) (hx : R32 x) (hy : R32 y) (kt : y ≤ x → AW g M d tgt lv st V sz Q) (kf : ¬ y ≤ x → AW g M d (pc + 3) lv st V sz Q) : AW g M d pc lv (.int (iZ y) :: .int (iZ x) :: st) V sz Q := aw_icmp_ge hd ht (fun h => kt ((iZ_le hy hx).mp h)) (fun h => kf (fun q => h ((iZ_le hy hx).mpr q)))
theorem aw_if_gtZ {x : Int} {off : Int} {tgt : Nat} (hd : decode M.2.1 pc = .ok (.ifCond .gt off, 3)) (ht : (pc : Int) + off = (tgt : Int)) (hx : R32 x)  (kt : 0 < x → AW g M d tgt lv st V sz Q) (kf : ¬ 0 < x → AW g M d (pc + 3) lv st V sz Q) : AW g M d pc lv (.int (iZ x) :: st) V sz Q := aw_if_gt hd ht (fun h => kt ((iZ_lt (by omega : R32 0) hx).mp h)) (fun h => kf (fun q => h ((iZ_lt (by omega : R32 0) hx).mpr q)))
theorem aw_icmp_gtZ {x y : Int} {off : Int} {tgt : Nat} (hd : decode M.2.1 pc = .ok (.if_icmp .gt off, 3)) (ht : (pc : Int) + off = (tgt : Int)) (hx : R32 x) (hy : R32 y) (kt : y < x → AW g M d tgt lv st V sz Q) (kf : ¬ y < x → AW g M d (pc + 3) lv st V sz Q) : AW g M d pc lv (.int (iZ y) :: .int (iZ x) :: st) V sz Q := aw_icmp_gt hd ht (fun h => kt ((iZ_lt hy hx).mp h)) (fun h => kf (fun q => h ((iZ_lt hy hx).mpr q)))
theorem aw_if_leZ {x : Int} {off : Int} {tgt : Nat} (hd : decode M.2.1 pc = .ok (.ifCond .le off, 3)) (ht : (pc : Int) + off = (tgt : Int)) (hx : R32 x)  (kt : x ≤ 0 → AW g M d tgt lv st V sz Q) (kf : ¬ x ≤ 0 → AW g M d (pc + 3) lv st V sz Q) : AW g M d pc lv (.int (iZ x) :: st) V sz Q := aw_if_le hd ht (fun h => kt ((iZ_le hx (by omega : R32 0)).mp h)) (fun h => kf (fun q => h ((iZ_le hx (by omega : R32 0)).mpr q)))
theorem aw_icmp_leZ {x y : Int} {off : Int} {tgt : Nat} (hd : decode M.2.1 pc = .ok (.if_icmp .le off, 3)) (ht : (pc : Int) + off = (tgt : Int)) (hx : R32 x) (hy : R32 y) (kt : x ≤ y → AW g M d tgt lv st V sz Q) (kf : ¬ x ≤ y → AW g M d (pc + 3) lv st V sz Q) : AW g M d pc lv (.int (iZ y) :: .int (iZ x) :: st) V sz Q := aw_icmp_le hd ht (fun h => kt ((iZ_le hx hy).mp h)) (fun h => kf (fun q => h ((iZ_le hx hy).mpr q)))
end AWZ
