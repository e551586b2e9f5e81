/-! ===== divideLong: from its loop's start to its end, over the world ===== -/
theorem c_zero {a c P S : Int} (h : a + c * P = S) (ha : 0 ≤ a) (hc : 0 ≤ c) (hP : 0 < P) (hS : S < P) : c = 0 := by
  rcases Int.lt_or_le 0 c with h1 | h1
  · have : 1 * P ≤ c * P := Int.mul_le_mul_of_nonneg_right (by omega) (by omega)
    omega
  · omega
theorem sh_pow {sh k : Nat} (h : sh ≤ k) : (2 : Int) ^ (k - sh) * 2 ^ sh = 2 ^ k := by
  rw [← Int.pow_add, Nat.sub_add_cancel h]
/-- the dividend, moved: no limb more than one -/
theorem dl_na {na sh : Nat} {a : Int} (h0 : 0 ≤ a) (h : a < 2147483648 ^ na) (hsh : sh ≤ 30) : a * 2 ^ sh < 2147483648 ^ (na + 1) := by
  have hp : (0 : Int) < 2 ^ sh := by exact_mod_cast Nat.two_pow_pos sh
  have hp2 : (2 : Int) ^ sh ≤ 2 ^ 30 := pw_le (by omega) hsh
  rw [show (2 : Int) ^ 30 = 1073741824 by decide] at hp2
  rw [Int.pow_succ]
  have h1 : a * 2 ^ sh ≤ a * 1073741824 := Int.mul_le_mul_of_nonneg_left hp2 h0
  generalize (2147483648 : Int) ^ na = P at *
  omega
/-- the divisor, moved: as many limbs, the top one with its top bit -/
theorem dl_nb {F Vd : Nat → Int} {m sh : Nat} {c : Int} (hF : ∀ k, k < m + 1 → 0 ≤ F k ∧ F k < 2147483648) (hV : ∀ k, k < m + 1 → 0 ≤ Vd k ∧ Vd k < 2147483648) (hsh : sh ≤ 30) (h1 : 2 ^ (31 - (sh + 1)) ≤ F m) (h2 : F m < 2 ^ (32 - (sh + 1))) (hc : 0 ≤ c) (he : mg 2147483648 Vd (m + 1) + c * 2147483648 ^ (m + 1) = mg 2147483648 F (m + 1) * 2 ^ sh) : mg 2147483648 Vd (m + 1) = mg 2147483648 F (m + 1) * 2 ^ sh ∧ 2147483648 ≤ 2 * Vd m := by
  have hp : (0 : Int) < 2 ^ sh := by exact_mod_cast Nat.two_pow_pos sh
  have hP := pw_pos (show (0 : Int) < 2147483648 by omega) m
  have b1 := mg_bd (show (0 : Int) < 2147483648 by omega) (F := F) (n := m) (fun k hk => hF k (by omega))
  have b2 := mg_bd (show (0 : Int) < 2147483648 by omega) (F := Vd) (n := m) (fun k hk => hV k (by omega))
  have b3 := mg_bd (show (0 : Int) < 2147483648 by omega) (F := Vd) (n := m + 1) hV
  have e1 : (2 : Int) ^ (31 - (sh + 1)) * 2 ^ sh = 1073741824 := by
    rw [show 31 - (sh + 1) = 30 - sh by omega, sh_pow hsh]; decide
  have e2 : (2 : Int) ^ (32 - (sh + 1)) * 2 ^ sh = 2147483648 := by
    rw [show 32 - (sh + 1) = 31 - sh by omega, sh_pow (by omega)]; decide
  have f1 : 1073741824 ≤ F m * 2 ^ sh := by
    rw [← e1]; exact Int.mul_le_mul_of_nonneg_right h1 (by omega)
  have f2 : (F m + 1) * 2 ^ sh ≤ 2147483648 := by
    rw [← e2]; exact Int.mul_le_mul_of_nonneg_right (by omega) (by omega)
  have g1 : mg 2147483648 F (m + 1) * 2 ^ sh = mg 2147483648 F m * 2 ^ sh + F m * 2 ^ sh * 2147483648 ^ m := by
    simp only [mg]
    rw [Int.add_mul, Int.mul_assoc, Int.mul_comm (2147483648 ^ m) (2 ^ sh), ← Int.mul_assoc]
  have g2 : mg 2147483648 F m * 2 ^ sh < 2147483648 ^ m * 2 ^ sh := Int.mul_lt_mul_of_pos_right b1.2 hp
  have g3 : (F m + 1) * 2 ^ sh * 2147483648 ^ m ≤ 2147483648 * 2147483648 ^ m := Int.mul_le_mul_of_nonneg_right f2 (by omega)
  have g4 : (F m + 1) * 2 ^ sh * 2147483648 ^ m = F m * 2 ^ sh * 2147483648 ^ m + 2147483648 ^ m * 2 ^ sh := by
    rw [Int.add_mul, Int.one_mul, Int.add_mul, Int.mul_comm (2 ^ sh) (2147483648 ^ m)]
  have g5 : 0 ≤ mg 2147483648 F m * 2 ^ sh := Int.mul_nonneg b1.1 (by omega)
  have g6 : 1073741824 * 2147483648 ^ m ≤ F m * 2 ^ sh * 2147483648 ^ m := Int.mul_le_mul_of_nonneg_right f1 (by omega)
  have ps : (2147483648 : Int) ^ (m + 1) = 2147483648 * 2147483648 ^ m := by rw [Int.pow_succ, Int.mul_comm]
  have hlt : mg 2147483648 F (m + 1) * 2 ^ sh < 2147483648 ^ (m + 1) := by rw [g1, ps]; omega
  have hc0 := c_zero he b3.1 hc (pw_pos (by omega) _) hlt
  subst hc0
  rw [Int.zero_mul, Int.add_zero] at he
  refine ⟨he, ?_⟩
  have h9 : mg 2147483648 Vd (m + 1) = mg 2147483648 Vd m + Vd m * 2147483648 ^ m := rfl
  rcases Int.lt_or_le (2 * Vd m) 2147483648 with q | q
  · exfalso
    have : (Vd m + 1) * 2147483648 ^ m ≤ 1073741824 * 2147483648 ^ m := Int.mul_le_mul_of_nonneg_right (by omega) (by omega)
    rw [Int.add_mul, Int.one_mul] at this
    rw [g1] at he
    omega
  · exact q
/-- behind divideLong: the quotient's limbs stand; its sign is still to be set -/
def DLQ (g : GX) (ws : List Nat) (SA : Nat → Prop) (V : AH) (sz : Nat) (Z : Nat → Int) (P L : Nat → Nat) (qq : Nat) (za zb : Int) : AQ := fun r V' sz' mc ms => some (.int (iZ (if (za.natAbs : Int) % (zb.natAbs : Int) = 0 then 1 else 0))) = r ∧ ∃ (P' L' : Nat → Nat) (nq : Nat) (sq : Int), V' qq = some (whO sq nq (P' qq)) ∧ ∀ z : Int, (z.natAbs : Int) = (za.natAbs : Int) / (zb.natAbs : Int) → WStp g ws SA V sz P L (AHu V' qq (whO z.sign nq (P' qq))) sz' (upF Z qq z) P' L' mc ms
theorem dl_fin (g : GX) (d : Nat) {ws : List Nat} {SA : Nat → Prop} {V : AH} {sz : Nat} {Z : Nat → Int} {P L : Nat → Nat} {dk r dv on gr sm fa pr' qq nq n N na sh : Nat} {za zb cU cV : Int} {A Bd U Vd Q0 : Nat → Int} (h : WG g ws SA V sz Z P L) (hr : r ∈ ws) (hdv : dv ∈ ws) (hq : qq ∈ ws) (hrd : r ≠ dv) (hrq : r ≠ qq) (hdq : dv ≠ qq) (hSA : SA dk) (hdk : V dk = some (dkO r dv on gr sm fa pr')) (hzr : Z r = 0) (hU : Whl g V r (Z r).sign 0 (P r) (L r) U) (hV : Whl g V dv (Z dv).sign 0 (P dv) (L dv) Vd) (hQ : Whl g V qq (Z qq).sign nq (P qq) (L qq) Q0) (hn : 1 ≤ n) (hLr : na + 1 ≤ L r) (hLd : n ≤ L dv) (hLq : N ≤ L qq) (hN : N + n = na + 1) (hA : ∀ k, k < na → 0 ≤ A k ∧ A k < 2147483648) (hB : ∀ k, k < n → 0 ≤ Bd k ∧ Bd k < 2147483648) (hmA : mg 2147483648 A na = (za.natAbs : Int)) (hmB : mg 2147483648 Bd n = (zb.natAbs : Int)) (hsh : sh ≤ 30) (hk3 : 2 ^ (31 - (sh + 1)) ≤ Bd (n - 1)) (hk4 : Bd (n - 1) < 2 ^ (32 - (sh + 1))) (hU2 : mg 2147483648 U (na + 1) + cU * 2147483648 ^ (na + 1) = mg 2147483648 (pad A na) (na + 1) * 2 ^ sh) (hU3 : 0 ≤ cU) (hV2 : mg 2147483648 Vd n + cV * 2147483648 ^ n = mg 2147483648 (pad Bd n) n * 2 ^ sh) (hV3 : 0 ≤ cV) : AW g mX0_divideLong (d + 3) 95 [(7, .int (iZ ((N : Int) - 1))), (4, .int (iZ n)), (5, .int (iZ N)), (0, .ref dk), (3, .ref qq)] [] V sz (DLQ g ws SA V sz Z P L qq za zb) := by
  have hp : (0 : Int) < 2 ^ sh := by exact_mod_cast Nat.two_pow_pos sh
  have ba := mg_bd (show (0 : Int) < 2147483648 by omega) hA
  have bb := mg_bd (show (0 : Int) < 2147483648 by omega) hB
  have bU := mg_bd (show (0 : Int) < 2147483648 by omega) (F := U) (n := na + 1) (fun k hk => hU.2.2.2.2.2.2 k (by omega))
  rw [mg_pad (by omega), hmA] at hU2
  rw [mg_pad (Nat.le_refl _)] at hV2
  rw [hmA] at ba
  have hlA := dl_na (na := na) ba.1 ba.2 hsh
  have hcU := c_zero hU2 bU.1 hU3 (pw_pos (by omega) _) hlA
  subst hcU
  rw [Int.zero_mul, Int.add_zero] at hU2
  obtain ⟨m, rfl⟩ : ∃ m, n = m + 1 := ⟨n - 1, by omega⟩
  rw [Nat.add_sub_cancel] at hk3 hk4
  obtain ⟨hVe, hVt⟩ := dl_nb hB (fun k hk => hV.2.2.2.2.2.2 k (by omega)) hsh hk3 hk4 hV3 hV2
  rw [hmB] at hVe bb
  have hB0 : Bd m ≠ 0 := by
    have : (0 : Int) < 2 ^ (31 - (sh + 1)) := by exact_mod_cast Nat.two_pow_pos _
    omega
  have hbt := mg_top (show (0 : Int) < 2147483648 by omega) hB hB0
  rw [hmB] at hbt
  have hb0 : (0 : Int) < (zb.natAbs : Int) := by
    have := pw_pos (show (0 : Int) < 2147483648 by omega) m
    omega
  have hlt : mg 2147483648 U (N + (m + 1)) < (zb.natAbs : Int) * 2 ^ sh * 2147483648 ^ N := by
    rw [hN, hU2]
    have e1 : (2147483648 : Int) ^ m * 2147483648 ^ N ≤ (zb.natAbs : Int) * 2147483648 ^ N := Int.mul_le_mul_of_nonneg_right hbt (Int.le_of_lt (pw_pos (by omega) N))
    rw [← Int.pow_add, show m + N = na by omega] at e1
    have e2 : (za.natAbs : Int) * 2 ^ sh < (zb.natAbs : Int) * 2147483648 ^ N * 2 ^ sh := Int.mul_lt_mul_of_pos_right (by omega) hp
    rw [Int.mul_assoc, Int.mul_comm (2147483648 ^ N) (2 ^ sh), ← Int.mul_assoc] at e2
    exact e2
  have hI : (za.natAbs : Int) * 2 ^ sh = (zb.natAbs : Int) * 2 ^ sh * (mg 2147483648 Q0 N - mg 2147483648 Q0 N) + mg 2147483648 U (N + (m + 1)) := by
    rw [Int.sub_self, Int.mul_zero, Int.zero_add, hN, hU2]
  obtain ⟨-, -, hkP⟩ := h.2.2.2.2 dk hSA
  have hkw := (h.2.2.2.2 dk hSA).2.1
  refine dl_loop g d (V0 := V) (v := (zb.natAbs : Int) * 2 ^ sh) (T := (za.natAbs : Int) * 2 ^ sh) (sd := (Z dv).sign) (nd := 0) (Vd := Vd) (by omega) hLd (by omega) hLq hVe.symm hVt (hkP r hr) (hkP qq hq) (h.2.2.2.1 r hr qq hq) (h.2.2.2.1 qq hq r hr) (h.2.2.2.1 dv hdv r hr) (h.2.2.1 dv hdv r hr hrd.symm) (h.2.2.2.1 dv hdv qq hq) (h.2.2.1 dv hdv qq hq hdq) (h.2.2.1 qq hq r hr hrq.symm) (fun V2 U2 Q2 a1 a2 a3 a4 a5 => ?_) N (Nat.le_refl _) hdk hU hV hQ hI hlt (fun _ _ _ => rfl)
  have hdk2 : V2 dk = some (dkO r dv on gr sm fa pr') := (a5 dk (hkP r hr) (hkP qq hq)).trans hdk
  have bU2 := mg_bd (show (0 : Int) < 2147483648 by omega) (F := U2) (n := m + 1) (fun k hk => a1.2.2.2.2.2.2 k (by omega))
  have bQ2 := mg_bd (show (0 : Int) < 2147483648 by omega) (F := Q2) (n := N) (fun k hk => a2.2.2.2.2.2.2 k (by omega))
  rw [Nat.zero_add, show mg 2147483648 Q2 0 = 0 from rfl, Int.sub_zero] at a3
  rw [Nat.zero_add, show (2147483648 : Int) ^ 0 = 1 from rfl, Int.mul_one] at a4
  obtain ⟨hqe, hxe⟩ := dl_end (r := 0) hb0 a3 ⟨bU2.1, a4⟩ bQ2.1
  refine dl_tail g d hdk2 a1 a2 (by omega) hLq (fun e => hkw (e ▸ hq)) hrq (h.2.2.2.1 qq hq r hr) ?_
  refine ⟨?_, P, L, trimN Q2 N, _, AHu_self _ _ _, fun z hz => ?_⟩
  · congr 3
    by_cases hx : mg 2147483648 U2 (m + 1) = 0
    · rw [if_pos hx, if_pos (hxe.mp hx)]
    · rw [if_neg hx, if_neg (fun e => hx (hxe.mpr e))]
  · rw [AHu_AHu]
    have hl := trimN_le Q2 N
    refine h.two hr hq hrq hzr (a1.kept (AHu_ne hrq) (AHu_ne (h.2.2.2.1 qq hq r hr).symm)) ⟨trimN Q2 N, Q2, a2.set (by omega), ?_, trimN_top Q2 N⟩ (fun a b1 b2 b3 => by rw [AHu_ne b2]; exact a5 a b1 b3)
    rw [mg_trim, hqe, hz]
