/-! ===== shifts and masks by whole numbers; digits ===== -/
theorem iZ_nn (x : Int) (h : 0 ≤ x) (h2 : x < 2147483648) : (iZ x).toBitVec.toNat = x.toNat := by
  show (BitVec.ofInt 32 x).toNat = x.toNat
  rw [BitVec.toNat_ofInt]
  congr 1
  exact Int.emod_eq_of_lt h (by simp; omega)
theorem jZ_nn (x : Int) (h : 0 ≤ x) (h2 : x < 18446744073709551616) : (jZ x).toBitVec.toNat = x.toNat := by
  show (BitVec.ofInt 64 x).toNat = x.toNat
  rw [BitVec.toNat_ofInt]
  congr 1
  exact Int.emod_eq_of_lt h (by simp; omega)
theorem jZ_mask (x : Int) (k : Nat) (hk : k ≤ 62) : jZ x &&& jZ (2 ^ k - 1) = jZ (x % 2 ^ k) := by
  apply Int64.toBitVec_inj.1
  rw [Int64.toBitVec_and]
  apply BitVec.eq_of_toNat_eq
  have hp : (2 : Int) ^ k ≤ 2 ^ 62 := by
    have := Nat.pow_le_pow_right (show 0 < 2 by omega) hk
    exact_mod_cast this
  have hp0 : (0 : Int) < 2 ^ k := by exact_mod_cast Nat.two_pow_pos k
  have h62 : (2 : Int) ^ 62 = 4611686018427387904 := by decide
  have hm0 := Int.emod_nonneg x (show (2 : Int) ^ k ≠ 0 by omega)
  have hm1 := Int.emod_lt_of_pos x hp0
  rw [BitVec.toNat_and, jZ_nn (2 ^ k - 1) (by omega) (by omega), jZ_nn (x % 2 ^ k) hm0 (by omega)]
  have e1 : ((2 : Int) ^ k - 1).toNat = 2 ^ k - 1 := by
    have : (2 : Int) ^ k = ((2 ^ k : Nat) : Int) := by norm_cast
    omega
  rw [e1, Nat.and_two_pow_sub_one_eq_mod]
  show (BitVec.ofInt 64 x).toNat % 2 ^ k = _
  rw [BitVec.toNat_ofInt]
  apply Int.ofNat_inj.mp
  have e2 : ((2 : Nat) ^ k : Nat) = ((2 ^ k : Nat)) := rfl
  have hn : (0 : Int) ≤ x % ((2 ^ 64 : Nat) : Int) := Int.emod_nonneg _ (by decide)
  rw [Int.natCast_emod, Int.toNat_of_nonneg hn, Int.toNat_of_nonneg hm0]
  have hd : ((2 ^ k : Nat) : Int) ∣ ((2 ^ 64 : Nat) : Int) := by
    exact_mod_cast Nat.pow_dvd_pow 2 (by omega)
  rw [Int.emod_emod_of_dvd _ hd]
  norm_cast
theorem shk (k : Nat) (hk : k < 64) : ((iZ (k : Int)).toInt64 &&& 63) = jZ (k : Int) := by
  rw [i2lZ ⟨by omega, by omega⟩]
  have := jZ_mask (k : Int) 6 (by omega)
  rw [show (63 : Int64) = jZ (2 ^ 6 - 1) by decide, this]
  congr 1
  have : (2 : Int) ^ 6 = 64 := by decide
  omega
theorem shs : ∀ k : Fin 64, ((BitVec.ofNat 64 k).smod 64#64) = BitVec.ofNat 64 k := by decide +kernel
theorem jZ_nat (k : Nat) : (jZ (k : Int)).toBitVec = BitVec.ofNat 64 k := by
  show BitVec.ofInt 64 (k : Int) = _
  exact BitVec.ofInt_natCast 64 k
theorem jZ_shr {x : Int} {k : Nat} (hx : R64 x) (hk : k < 64) : jZ x >>> ((iZ (k : Int)).toInt64 &&& 63) = jZ (x / 2 ^ k) := by
  rw [shk k hk]
  have hp : (0 : Int) < 2 ^ k := by exact_mod_cast Nat.two_pow_pos k
  have hr : R64 (x / 2 ^ k) := by
    by_cases h0 : 0 ≤ x
    · have h1 := Int.ediv_nonneg h0 (Int.le_of_lt hp)
      have h2 : x / 2 ^ k ≤ x := Int.ediv_le_self _ h0
      omega
    · have h1 : x / 2 ^ k < 0 := Int.ediv_neg_of_neg_of_pos (by omega) hp
      have h2 : x ≤ x / 2 ^ k := by
        apply (Int.le_ediv_iff_mul_le hp).mpr
        have : x * 2 ^ k ≤ x * 1 := Int.mul_le_mul_of_nonpos_left (by omega) (by omega)
        omega
      omega
  rw [← Int64.toInt_inj, jZ_toInt hr]
  show (jZ x >>> jZ (k : Int)).toBitVec.toInt = _
  rw [Int64.toBitVec_shiftRight, jZ_nat]
  have := shs ⟨k, hk⟩
  dsimp only at this
  rw [show (64 : BitVec 64) = 64#64 from rfl, this, BitVec.sshiftRight', BitVec.toInt_sshiftRight, BitVec.toNat_ofNat, Nat.mod_eq_of_lt (by omega)]
  show (jZ x).toInt >>> k = _
  rw [jZ_toInt hx, Int.shiftRight_eq_div_pow]
  norm_cast
theorem jZ_shl {x : Int} {k : Nat} (hx : 0 ≤ x) (h2 : x * 2 ^ k < 9223372036854775808) (hk : k < 64) : jZ x <<< ((iZ (k : Int)).toInt64 &&& 63) = jZ (x * 2 ^ k) := by
  rw [shk k hk]
  have hp : (1 : Int) ≤ 2 ^ k := by
    have := Nat.two_pow_pos k
    exact_mod_cast this
  have h3 : x ≤ x * 2 ^ k := by
    have := Int.mul_le_mul_of_nonneg_left hp hx
    omega
  apply Int64.toBitVec_inj.1
  rw [Int64.toBitVec_shiftLeft, jZ_nat]
  have := shs ⟨k, hk⟩
  dsimp only at this
  rw [show (64 : BitVec 64) = 64#64 from rfl, this]
  apply BitVec.eq_of_toNat_eq
  rw [BitVec.shiftLeft_eq', BitVec.toNat_shiftLeft, BitVec.toNat_ofNat, Nat.mod_eq_of_lt (show k < 2 ^ 64 by omega), jZ_nn x hx (by omega), jZ_nn (x * 2 ^ k) (by omega) (by omega), Nat.shiftLeft_eq]
  have e : (x * 2 ^ k).toNat = x.toNat * 2 ^ k := by
    apply Int.ofNat_inj.mp
    rw [Int.toNat_of_nonneg (by omega)]
    push_cast
    rw [Int.toNat_of_nonneg hx]
  rw [← e]
  exact Nat.mod_eq_of_lt (by omega)
theorem jZ_ushr {x : Int} {k : Nat} (hx : 0 ≤ x) (h2 : x < 9223372036854775808) (hk : k < 64) : ((jZ x).toUInt64 >>> ((iZ (k : Int)).toInt64.toUInt64 &&& Int64.toUInt64 63)).toInt64 = jZ (x / 2 ^ k) := by
  have hp : (0 : Int) < 2 ^ k := by exact_mod_cast Nat.two_pow_pos k
  have h3 : x / 2 ^ k ≤ x := Int.ediv_le_self _ hx
  have h4 := Int.ediv_nonneg hx (Int.le_of_lt hp)
  rw [← Int64.toUInt64_and, shk k hk]
  apply Int64.toBitVec_inj.1
  apply BitVec.eq_of_toNat_eq
  rw [UInt64.toBitVec_toInt64, UInt64.toBitVec_shiftRight, Int64.toBitVec_toUInt64, Int64.toBitVec_toUInt64, jZ_nat]
  have hm : (BitVec.ofNat 64 k % 64) = BitVec.ofNat 64 k := by
    apply BitVec.eq_of_toNat_eq
    rw [BitVec.toNat_umod]
    show (k % 2 ^ 64) % 64 = k % 2 ^ 64
    rw [Nat.mod_eq_of_lt (show k < 2 ^ 64 by omega), Nat.mod_eq_of_lt hk]
  first | rw [hm] | skip
  rw [BitVec.ushiftRight_eq', BitVec.toNat_ushiftRight, BitVec.toNat_ofNat, Nat.mod_eq_of_lt (show k < 2 ^ 64 by omega), jZ_nn x hx (by omega), jZ_nn _ h4 (by omega), Nat.shiftRight_eq_div_pow]
  apply Int.ofNat_inj.mp
  rw [Int.natCast_ediv, Int.toNat_of_nonneg hx, Int.toNat_of_nonneg h4]
  norm_cast
section AWS
variable {g : GX} {M : MI} {d pc : Nat} {lv : List (Nat × Value)} {st : List Value} {V : AH} {sz : Nat} {Q : AQ}
theorem aw_landM {x y : Int} (n : Nat) (hd : decode M.2.1 pc = .ok (.land, 1)) (hy : y = 2 ^ n - 1) (hn : n ≤ 62) (k : AW g M d (pc + 1) lv (.long (jZ (x % 2 ^ n)) :: st) V sz Q) : AW g M d pc lv (.long (jZ y) :: .long (jZ x) :: st) V sz Q := aw_land hd (by rw [hy, jZ_mask x n hn]; exact k)
theorem aw_lshrZ {x y : Int} (n : Nat) (hd : decode M.2.1 pc = .ok (.lshr, 1)) (hy : y = (n : Int)) (hn : n < 64) (hx : R64 x) (k : AW g M d (pc + 1) lv (.long (jZ (x / 2 ^ n)) :: st) V sz Q) : AW g M d pc lv (.int (iZ y) :: .long (jZ x) :: st) V sz Q := aw_lshr hd (by rw [hy, jZ_shr hx hn]; exact k)
theorem aw_lshlZ {x y : Int} (n : Nat) (hd : decode M.2.1 pc = .ok (.lshl, 1)) (hy : y = (n : Int)) (hn : n < 64) (hx : 0 ≤ x) (h2 : x * 2 ^ n < 9223372036854775808) (k : AW g M d (pc + 1) lv (.long (jZ (x * 2 ^ n)) :: st) V sz Q) : AW g M d pc lv (.int (iZ y) :: .long (jZ x) :: st) V sz Q := aw_lshl hd (by rw [hy, jZ_shl hx h2 hn]; exact k)
theorem aw_lushrZ {x y : Int} (n : Nat) (hd : decode M.2.1 pc = .ok (.lushr, 1)) (hy : y = (n : Int)) (hn : n < 64) (hx : 0 ≤ x) (h2 : x < 9223372036854775808) (k : AW g M d (pc + 1) lv (.long (jZ (x / 2 ^ n)) :: st) V sz Q) : AW g M d pc lv (.int (iZ y) :: .long (jZ x) :: st) V sz Q := aw_lushr hd (by rw [hy, jZ_ushr hx h2 hn]; exact k)
end AWS
/-! digits to a base -/
def mg (B : Int) (F : Nat → Int) : Nat → Int
  | 0 => 0
  | n + 1 => mg B F n + F n * B ^ n
def trimN (F : Nat → Int) : Nat → Nat
  | 0 => 0
  | n + 1 => if F n = 0 then trimN F n else n + 1
theorem mg_congr {B : Int} {F G : Nat → Int} : ∀ {n : Nat}, (∀ k, k < n → F k = G k) → mg B F n = mg B G n
  | 0, _ => rfl
  | n + 1, h => by simp only [mg]; rw [mg_congr (fun k hk => h k (by omega)), h n (by omega)]
theorem pw_pos {B : Int} (hB : 0 < B) (n : Nat) : 0 < B ^ n := Int.pow_pos hB
theorem mg_bd {B : Int} (hB : 0 < B) {F : Nat → Int} : ∀ {n : Nat}, (∀ k, k < n → 0 ≤ F k ∧ F k < B) → 0 ≤ mg B F n ∧ mg B F n < B ^ n
  | 0, _ => by simp [mg]
  | n + 1, h => by
    obtain ⟨h1, h2⟩ := mg_bd hB (n := n) (fun k hk => h k (by omega))
    obtain ⟨h3, h4⟩ := h n (by omega)
    have hp := pw_pos hB n
    simp only [mg]
    have a1 : 0 ≤ F n * B ^ n := Int.mul_nonneg h3 (by omega)
    have a2 : (F n + 1) * B ^ n ≤ B * B ^ n := Int.mul_le_mul_of_nonneg_right (by omega) (by omega)
    rw [Int.add_mul, Int.one_mul] at a2
    rw [Int.pow_succ, Int.mul_comm (B ^ n) B]
    omega
theorem mg_top {B : Int} (hB : 0 < B) {F : Nat → Int} {n : Nat} (h : ∀ k, k < n + 1 → 0 ≤ F k ∧ F k < B) (ht : F n ≠ 0) : B ^ n ≤ mg B F (n + 1) := by
  obtain ⟨h1, h2⟩ := mg_bd hB (n := n) (fun k hk => h k (by omega))
  obtain ⟨h3, h4⟩ := h n (by omega)
  have hp := pw_pos hB n
  simp only [mg]
  have a2 : 1 * B ^ n ≤ F n * B ^ n := Int.mul_le_mul_of_nonneg_right (by omega) (by omega)
  omega
theorem trimN_le (F : Nat → Int) : ∀ n, trimN F n ≤ n
  | 0 => Nat.le_refl _
  | n + 1 => by
    unfold trimN
    have := trimN_le F n
    split <;> omega
theorem mg_trim (B : Int) (F : Nat → Int) : ∀ n, mg B F (trimN F n) = mg B F n
  | 0 => rfl
  | n + 1 => by
    unfold trimN
    split
    · rename_i h
      rw [mg_trim B F n]
      simp [mg, h]
    · rfl
theorem trimN_top (F : Nat → Int) : ∀ n, trimN F n = 0 ∨ F (trimN F n - 1) ≠ 0
  | 0 => Or.inl rfl
  | n + 1 => by
    unfold trimN
    split
    · exact trimN_top F n
    · rename_i h
      exact Or.inr h
theorem mg_zero {B : Int} (hB : 0 < B) {F : Nat → Int} {n : Nat} (h : ∀ k, k < n → 0 ≤ F k ∧ F k < B) (ht : n = 0 ∨ F (n - 1) ≠ 0) : mg B F n = 0 ↔ n = 0 := by
  constructor
  · intro hz
    rcases ht with h0 | h0
    · exact h0
    · cases n with
      | zero => rfl
      | succ n =>
        have := mg_top hB h h0
        have := pw_pos hB n
        omega
  · rintro rfl; rfl
theorem pw_le_add {B : Int} (hB : 1 ≤ B) (m : Nat) : ∀ j : Nat, B ^ m ≤ B ^ (m + j)
  | 0 => Int.le_refl _
  | j + 1 => by
    have h1 := pw_le_add hB m j
    have h2 := pw_pos (show 0 < B by omega) (m + j)
    rw [← Nat.add_assoc, Int.pow_succ]
    have h3 : B ^ (m + j) * 1 ≤ B ^ (m + j) * B := Int.mul_le_mul_of_nonneg_left hB (by omega)
    omega
theorem pw_le {B : Int} (hB : 1 ≤ B) {m n : Nat} (h : m ≤ n) : B ^ m ≤ B ^ n := by
  have := pw_le_add hB m (n - m)
  rwa [Nat.add_sub_cancel' h] at this
theorem pw_lt_inv {B : Int} (hB : 1 ≤ B) {m n : Nat} (h : B ^ m < B ^ n) : m < n := by
  rcases Nat.lt_or_ge m n with q | q
  · exact q
  · have := pw_le hB q; omega
