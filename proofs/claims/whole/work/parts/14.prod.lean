/-! ===== Whole.product ===== -/
theorem mg_upd {B : Int} {F : Nat → Int} {k : Nat} {x : Int} : ∀ {N : Nat}, k < N → mg B (upF F k x) N = mg B F N + (x - F k) * B ^ k
  | 0, h => absurd h (by omega)
  | N + 1, h => by
    by_cases hq : k = N
    · subst hq
      simp only [mg]
      rw [mg_upF, upF_self, Int.sub_mul]
      omega
    · simp only [mg]
      rw [mg_upd (N := N) (by omega), upF_ne F x (Ne.symm hq)]
      omega
theorem pr_bd {c dg b r : Int} (hc : 0 ≤ c ∧ c < 2147483648) (hd : 0 ≤ dg ∧ dg < 2147483648) (hb : 0 ≤ b ∧ b < 2147483648) (hr : 0 ≤ r ∧ r < 2147483648) : (0 ≤ c + (dg * b + r) ∧ c + (dg * b + r) < 4611686018427387904) ∧ R64 (c + (dg * b + r)) ∧ (0 ≤ (c + (dg * b + r)) % 2147483648 ∧ (c + (dg * b + r)) % 2147483648 < 2147483648) ∧ 0 ≤ (c + (dg * b + r)) / 2147483648 ∧ (c + (dg * b + r)) / 2147483648 < 2147483648 := by
  have h1 : 0 ≤ dg * b := Int.mul_nonneg hd.1 hb.1
  have h2 : dg * b ≤ 2147483647 * 2147483647 := Int.mul_le_mul (by omega) (by omega) hb.1 (by omega)
  generalize dg * b = e at h1 h2 ⊢
  omega
theorem pr_step {R Bv : Nat → Int} {N i k : Nat} {c dg M : Int} (hk : i + k < N) (hE : mg 2147483648 R N + c * 2147483648 ^ (i + k) = M + dg * mg 2147483648 Bv k * 2147483648 ^ i) : mg 2147483648 (upF R (i + k) ((c + (dg * Bv k + R (i + k))) % 2147483648)) N + (c + (dg * Bv k + R (i + k))) / 2147483648 * 2147483648 ^ (i + (k + 1)) = M + dg * mg 2147483648 Bv (k + 1) * 2147483648 ^ i := by
  have hmd := Int.emod_add_mul_ediv (c + (dg * Bv k + R (i + k))) 2147483648
  rw [mg_upd hk, ← Nat.add_assoc, Int.pow_succ]
  have e0 : dg * mg 2147483648 Bv (k + 1) * 2147483648 ^ i = dg * mg 2147483648 Bv k * 2147483648 ^ i + dg * Bv k * 2147483648 ^ (i + k) := by
    simp only [mg]
    rw [Int.mul_add, Int.add_mul, Int.pow_add, Int.mul_comm ((2147483648 : Int) ^ i) (2147483648 ^ k)]
    simp only [Int.mul_assoc]
  rw [e0]
  generalize (2147483648 : Int) ^ (i + k) = P at hE ⊢
  generalize hv : (c + (dg * Bv k + R (i + k))) = v at hmd ⊢
  generalize v / 2147483648 = q at hmd ⊢
  generalize v % 2147483648 = r at hmd ⊢
  have e2 : q * (P * 2147483648) = 2147483648 * q * P := by
    rw [Int.mul_comm P 2147483648, ← Int.mul_assoc, Int.mul_comm q 2147483648]
  have e3 : (r + 2147483648 * q) * P = (c + (dg * Bv k + R (i + k))) * P := by rw [hmd, hv]
  rw [Int.add_mul, Int.add_mul, Int.add_mul] at e3
  rw [Int.sub_mul, e2]
  omega
theorem pr_fin {R Bv A : Nat → Int} {N i mm : Nat} {c : Int} (hk : i + mm < N) (h0 : R (i + mm) = 0) (hE : mg 2147483648 R N + c * 2147483648 ^ (i + mm) = mg 2147483648 A i * mg 2147483648 Bv mm + A i * mg 2147483648 Bv mm * 2147483648 ^ i) : mg 2147483648 (upF R (i + mm) c) N = mg 2147483648 A (i + 1) * mg 2147483648 Bv mm := by
  rw [mg_upd hk, h0, Int.sub_zero, hE]
  simp only [mg]
  rw [Int.add_mul]
  congr 1
  rw [Int.mul_assoc, Int.mul_comm (mg 2147483648 Bv mm), ← Int.mul_assoc]
abbrev mX4_product : MI := (yX4_product, cX4_product, 10, none, noX)
theorem dX4_product_0 : decode cX4_product 0 = .ok (.aload_n 1, 1) := by decide +kernel
theorem dX4_product_1 : decode cX4_product 1 = .ok (.getfield 15, 3) := by decide +kernel
theorem dX4_product_4 : decode cX4_product 4 = .ok (.aload_n 2, 1) := by decide +kernel
theorem dX4_product_5 : decode cX4_product 5 = .ok (.getfield 15, 3) := by decide +kernel
theorem dX4_product_8 : decode cX4_product 8 = .ok (.iadd, 1) := by decide +kernel
theorem dX4_product_9 : decode cX4_product 9 = .ok (.istore_n 3, 1) := by decide +kernel
theorem dX4_product_10 : decode cX4_product 10 = .ok (.aload_n 0, 1) := by decide +kernel
theorem dX4_product_11 : decode cX4_product 11 = .ok (.iload_n 3, 1) := by decide +kernel
theorem dX4_product_12 : decode cX4_product 12 = .ok (.invokevirtual 36, 3) := by decide +kernel
theorem dX4_product_15 : decode cX4_product 15 = .ok (.iconst 0, 1) := by decide +kernel
theorem dX4_product_16 : decode cX4_product 16 = .ok (.istore 4, 2) := by decide +kernel
theorem dX4_product_18 : decode cX4_product 18 = .ok (.iload 4, 2) := by decide +kernel
theorem dX4_product_20 : decode cX4_product 20 = .ok (.iload_n 3, 1) := by decide +kernel
theorem dX4_product_21 : decode cX4_product 21 = .ok (.if_icmp .ge 17, 3) := by decide +kernel
theorem dX4_product_24 : decode cX4_product 24 = .ok (.aload_n 0, 1) := by decide +kernel
theorem dX4_product_25 : decode cX4_product 25 = .ok (.getfield 18, 3) := by decide +kernel
theorem dX4_product_28 : decode cX4_product 28 = .ok (.iload 4, 2) := by decide +kernel
theorem dX4_product_30 : decode cX4_product 30 = .ok (.iconst 0, 1) := by decide +kernel
theorem dX4_product_31 : decode cX4_product 31 = .ok (.iastore, 1) := by decide +kernel
theorem dX4_product_32 : decode cX4_product 32 = .ok (.iinc 4 1, 3) := by decide +kernel
theorem dX4_product_35 : decode cX4_product 35 = .ok (.goto (-17), 3) := by decide +kernel
theorem dX4_product_38 : decode cX4_product 38 = .ok (.iconst 0, 1) := by decide +kernel
theorem dX4_product_39 : decode cX4_product 39 = .ok (.istore 4, 2) := by decide +kernel
theorem dX4_product_41 : decode cX4_product 41 = .ok (.iload 4, 2) := by decide +kernel
theorem dX4_product_43 : decode cX4_product 43 = .ok (.aload_n 1, 1) := by decide +kernel
theorem dX4_product_44 : decode cX4_product 44 = .ok (.getfield 15, 3) := by decide +kernel
theorem dX4_product_47 : decode cX4_product 47 = .ok (.if_icmp .ge 107, 3) := by decide +kernel
theorem dX4_product_50 : decode cX4_product 50 = .ok (.aload_n 1, 1) := by decide +kernel
theorem dX4_product_51 : decode cX4_product 51 = .ok (.getfield 18, 3) := by decide +kernel
theorem dX4_product_54 : decode cX4_product 54 = .ok (.iload 4, 2) := by decide +kernel
theorem dX4_product_56 : decode cX4_product 56 = .ok (.iaload, 1) := by decide +kernel
theorem dX4_product_57 : decode cX4_product 57 = .ok (.i2l, 1) := by decide +kernel
theorem dX4_product_58 : decode cX4_product 58 = .ok (.lstore 5, 2) := by decide +kernel
theorem dX4_product_60 : decode cX4_product 60 = .ok (.lconst 0, 1) := by decide +kernel
theorem dX4_product_61 : decode cX4_product 61 = .ok (.lstore 7, 2) := by decide +kernel
theorem dX4_product_63 : decode cX4_product 63 = .ok (.iconst 0, 1) := by decide +kernel
theorem dX4_product_64 : decode cX4_product 64 = .ok (.istore 9, 2) := by decide +kernel
theorem dX4_product_66 : decode cX4_product 66 = .ok (.iload 9, 2) := by decide +kernel
theorem dX4_product_68 : decode cX4_product 68 = .ok (.aload_n 2, 1) := by decide +kernel
theorem dX4_product_69 : decode cX4_product 69 = .ok (.getfield 15, 3) := by decide +kernel
theorem dX4_product_72 : decode cX4_product 72 = .ok (.if_icmp .ge 61, 3) := by decide +kernel
theorem dX4_product_75 : decode cX4_product 75 = .ok (.lload 7, 2) := by decide +kernel
theorem dX4_product_77 : decode cX4_product 77 = .ok (.lload 5, 2) := by decide +kernel
theorem dX4_product_79 : decode cX4_product 79 = .ok (.aload_n 2, 1) := by decide +kernel
theorem dX4_product_80 : decode cX4_product 80 = .ok (.getfield 18, 3) := by decide +kernel
theorem dX4_product_83 : decode cX4_product 83 = .ok (.iload 9, 2) := by decide +kernel
theorem dX4_product_85 : decode cX4_product 85 = .ok (.iaload, 1) := by decide +kernel
theorem dX4_product_86 : decode cX4_product 86 = .ok (.i2l, 1) := by decide +kernel
theorem dX4_product_87 : decode cX4_product 87 = .ok (.lmul, 1) := by decide +kernel
theorem dX4_product_88 : decode cX4_product 88 = .ok (.aload_n 0, 1) := by decide +kernel
theorem dX4_product_89 : decode cX4_product 89 = .ok (.getfield 18, 3) := by decide +kernel
theorem dX4_product_92 : decode cX4_product 92 = .ok (.iload 4, 2) := by decide +kernel
theorem dX4_product_94 : decode cX4_product 94 = .ok (.iload 9, 2) := by decide +kernel
theorem dX4_product_96 : decode cX4_product 96 = .ok (.iadd, 1) := by decide +kernel
theorem dX4_product_97 : decode cX4_product 97 = .ok (.iaload, 1) := by decide +kernel
theorem dX4_product_98 : decode cX4_product 98 = .ok (.i2l, 1) := by decide +kernel
theorem dX4_product_99 : decode cX4_product 99 = .ok (.ladd, 1) := by decide +kernel
theorem dX4_product_100 : decode cX4_product 100 = .ok (.ladd, 1) := by decide +kernel
theorem dX4_product_101 : decode cX4_product 101 = .ok (.lstore 7, 2) := by decide +kernel
theorem dX4_product_103 : decode cX4_product 103 = .ok (.aload_n 0, 1) := by decide +kernel
theorem dX4_product_104 : decode cX4_product 104 = .ok (.getfield 18, 3) := by decide +kernel
theorem dX4_product_107 : decode cX4_product 107 = .ok (.iload 4, 2) := by decide +kernel
theorem dX4_product_109 : decode cX4_product 109 = .ok (.iload 9, 2) := by decide +kernel
theorem dX4_product_111 : decode cX4_product 111 = .ok (.iadd, 1) := by decide +kernel
theorem dX4_product_112 : decode cX4_product 112 = .ok (.lload 7, 2) := by decide +kernel
theorem dX4_product_114 : decode cX4_product 114 = .ok (.ldc2_w 34, 3) := by decide +kernel
theorem dX4_product_117 : decode cX4_product 117 = .ok (.land, 1) := by decide +kernel
theorem dX4_product_118 : decode cX4_product 118 = .ok (.l2i, 1) := by decide +kernel
theorem dX4_product_119 : decode cX4_product 119 = .ok (.iastore, 1) := by decide +kernel
theorem dX4_product_120 : decode cX4_product 120 = .ok (.lload 7, 2) := by decide +kernel
theorem dX4_product_122 : decode cX4_product 122 = .ok (.bipush 31, 2) := by decide +kernel
theorem dX4_product_124 : decode cX4_product 124 = .ok (.lshr, 1) := by decide +kernel
theorem dX4_product_125 : decode cX4_product 125 = .ok (.lstore 7, 2) := by decide +kernel
theorem dX4_product_127 : decode cX4_product 127 = .ok (.iinc 9 1, 3) := by decide +kernel
theorem dX4_product_130 : decode cX4_product 130 = .ok (.goto (-64), 3) := by decide +kernel
theorem dX4_product_133 : decode cX4_product 133 = .ok (.aload_n 0, 1) := by decide +kernel
theorem dX4_product_134 : decode cX4_product 134 = .ok (.getfield 18, 3) := by decide +kernel
theorem dX4_product_137 : decode cX4_product 137 = .ok (.iload 4, 2) := by decide +kernel
theorem dX4_product_139 : decode cX4_product 139 = .ok (.aload_n 2, 1) := by decide +kernel
theorem dX4_product_140 : decode cX4_product 140 = .ok (.getfield 15, 3) := by decide +kernel
theorem dX4_product_143 : decode cX4_product 143 = .ok (.iadd, 1) := by decide +kernel
theorem dX4_product_144 : decode cX4_product 144 = .ok (.lload 7, 2) := by decide +kernel
theorem dX4_product_146 : decode cX4_product 146 = .ok (.l2i, 1) := by decide +kernel
theorem dX4_product_147 : decode cX4_product 147 = .ok (.iastore, 1) := by decide +kernel
theorem dX4_product_148 : decode cX4_product 148 = .ok (.iinc 4 1, 3) := by decide +kernel
theorem dX4_product_151 : decode cX4_product 151 = .ok (.goto (-110), 3) := by decide +kernel
theorem dX4_product_154 : decode cX4_product 154 = .ok (.aload_n 0, 1) := by decide +kernel
theorem dX4_product_155 : decode cX4_product 155 = .ok (.iload_n 3, 1) := by decide +kernel
theorem dX4_product_156 : decode cX4_product 156 = .ok (.putfield 15, 3) := by decide +kernel
theorem dX4_product_159 : decode cX4_product 159 = .ok (.aload_n 0, 1) := by decide +kernel
theorem dX4_product_160 : decode cX4_product 160 = .ok (.aload_n 1, 1) := by decide +kernel
theorem dX4_product_161 : decode cX4_product 161 = .ok (.getfield 9, 3) := by decide +kernel
theorem dX4_product_164 : decode cX4_product 164 = .ok (.aload_n 2, 1) := by decide +kernel
theorem dX4_product_165 : decode cX4_product 165 = .ok (.getfield 9, 3) := by decide +kernel
theorem dX4_product_168 : decode cX4_product 168 = .ok (.imul, 1) := by decide +kernel
theorem dX4_product_169 : decode cX4_product 169 = .ok (.putfield 9, 3) := by decide +kernel
theorem dX4_product_172 : decode cX4_product 172 = .ok (.aload_n 0, 1) := by decide +kernel
theorem dX4_product_173 : decode cX4_product 173 = .ok (.invokevirtual 71, 3) := by decide +kernel
theorem dX4_product_176 : decode cX4_product 176 = .ok (.return_, 1) := by decide +kernel
/-- nothing has changed but two cells, wherever -/
def Fr2 (V V' : AH) (w p : Nat) : Prop := ∀ a, a ≠ w → a ≠ p → V' a = V a
theorem Fr2.upd {V V' : AH} {w p a : Nat} {e : va_E} (h : Fr2 V V' w p) (ha : a = w ∨ a = p) : Fr2 V (AHu V' a e) w p := fun b h2 h3 => by
  rw [AHu_ne (by omega)]; exact h b h2 h3
theorem mg_all0 {B : Int} {F : Nat → Int} : ∀ {n : Nat}, (∀ j, j < n → F j = 0) → mg B F n = 0
  | 0, _ => rfl
  | n + 1, h => by
    simp only [mg]
    rw [mg_all0 (fun j hj => h j (by omega)), h n (by omega), Int.zero_mul]
    rfl
theorem prod_tail (g : GX) (d : Nat) {V0 V : AH} {sz0 sz p0 w u v p L n0 n mm len L0 mc ms pu pv Ku Kv : Nat} {F A Bv : Nat → Int} {s su sv z' : Int} (hW : Whl g V w s n0 p L F) (hlen : len ≤ L) (hU : Whl g V u su n pu Ku A) (hVv : Whl g V v sv mm pv Kv Bv) (hwu : w ≠ u) (hwv : w ≠ v) (hz : mg 2147483648 F len = (z'.natAbs : Int)) (hσ : z' ≠ 0 → su * sv = z'.sign) (hfr : Fr V0 sz0 V w p0) (hD : DL V sz) (hp0 : p = w ∨ p = p0 ∨ sz0 ≤ p) (hc : L0 + mc ≤ L) (hs : L0 * L0 + ms ≤ L * L) : AW g mX4_product (d + 3) 154 [(0, .ref w), (1, .ref u), (2, .ref v), (3, .int (iZ len))] [] V sz (fun r2 V2 sz2 dc ds => WPost g V0 sz0 w p0 L0 z' r2 V2 sz2 (mc + dc) (ms + ds)) := by
  obtain ⟨hw, hp, hwp, hn, h4, hL, hF⟩ := id hW
  obtain ⟨hu, -⟩ := id hU
  obtain ⟨hv, -⟩ := id hVv
  have hW2 : Whl g (AHu (AHu V w (whO s len p)) w (whO (su * sv) len p)) w (su * sv) len p L F := (hW.set (s' := s) hlen).set hlen
  refine aw_aload_n dX4_product_154 (by rfl) (Or.inr ⟨_, rfl⟩) ?_
  refine aw_iload_n dX4_product_155 (by rfl) ?_
  refine aw_put fX4_15 dX4_product_156 (by assumption) (by rfl) (by rfl) (Nat.le_of_ble_eq_true rfl) ?_
  have hw1 : (AHu V w (whO s len p)) w = some (whO s len p) := AHu_self _ _ _
  have hu1 : (AHu V w (whO s len p)) u = some (whO su n pu) := by rw [AHu_ne hwu.symm]; exact hu
  have hv1 : (AHu V w (whO s len p)) v = some (whO sv mm pv) := by rw [AHu_ne hwv.symm]; exact hv
  show AW g mX4_product (d + 3) _ _ _ (AHu V w (whO s len p)) _ _
  refine aw_aload_n dX4_product_159 (by rfl) (Or.inr ⟨_, rfl⟩) ?_
  refine aw_aload_n dX4_product_160 (by rfl) (Or.inr ⟨_, rfl⟩) ?_
  refine aw_get fX4_9 dX4_product_161 (by assumption) (by rfl) ?_
  refine aw_aload_n dX4_product_164 (by rfl) (Or.inr ⟨_, rfl⟩) ?_
  refine aw_get fX4_9 dX4_product_165 (by assumption) (by rfl) ?_
  refine aw_imulZ dX4_product_168 ?_
  refine aw_put fX4_9 dX4_product_169 (by assumption) (by rfl) (by rfl) (Nat.le_of_ble_eq_true rfl) ?_
  show AW g mX4_product (d + 3) _ _ _ (AHu (AHu V w (whO s len p)) w (whO (su * sv) len p)) _ _
  refine aw_aload_n dX4_product_172 (by rfl) (Or.inr ⟨_, rfl⟩) ?_
  have hw2 : (AHu (AHu V w (whO s len p)) w (whO (su * sv) len p)) w = some (whO (su * sv) len p) := AHu_self _ _ _
  refine aw_callv vX4_71 dX4_product_173 (by assumption) (t_trim g (d + 2) hW2) (by rfl) (by rfl) (by omega) (Nat.le_of_ble_eq_true rfl) ?_
  rintro _ _ _ _ _ ⟨rfl, rfl, rfl, rfl, rfl⟩ -
  refine aw_ret dX4_product_176 rfl ?_
  refine ⟨rfl, p, L, WhV.trim hW2 hz hσ, by omega, by omega, hp0.elim (fun h => absurd h hwp.symm) id, ?_, ?_⟩
  · exact ((hfr.upd (Or.inl rfl)).upd (Or.inl rfl)).upd (Or.inl rfl)
  · exact ((hD.upd (hD.lt hw)).upd (hD.lt hw)).upd (hD.lt hw)
theorem prod_inner (g : GX) (d : Nat) {V0 : AH} {sz0 p0 sz w u v p L len n0 n mm i pu pv Ku Kv : Nat} {s su sv : Int} {A Bv : Nat → Int} {Q : AQ} (hpu : p ≠ u) (hpv : p ≠ v) (hppu : pu ≠ p) (hppv : pv ≠ p) (hN : len = n + mm) (hlen : len ≤ L) (hi : i < n) (hAi : 0 ≤ A i ∧ A i < 2147483648) (hp0 : p = w ∨ p = p0 ∨ sz0 ≤ p)
    (hK : ∀ (V : AH) (R : Nat → Int), Whl g V w s n0 p L R → (Whl g V u su n pu Ku A ∧ Whl g V v sv mm pv Kv Bv) → (∀ j, i + 1 + mm ≤ j → j < len → R j = 0) → mg 2147483648 R len = mg 2147483648 A (i + 1) * mg 2147483648 Bv mm → Fr V0 sz0 V w p0 → DL V sz → AW g mX4_product (d + 3) 41 [(4, .int (iZ (i + 1 : Nat))), (0, .ref w), (1, .ref u), (2, .ref v), (3, .int (iZ len))] [] V sz Q) : ∀ (x k : Nat), k + x = mm → ∀ {V : AH} {R : Nat → Int} {c : Int}, Whl g V w s n0 p L R → Whl g V u su n pu Ku A → Whl g V v sv mm pv Kv Bv → (∀ j, i + mm ≤ j → j < len → R j = 0) → mg 2147483648 R len + c * 2147483648 ^ (i + k) = mg 2147483648 A i * mg 2147483648 Bv mm + A i * mg 2147483648 Bv k * 2147483648 ^ i → (0 ≤ c ∧ c < 2147483648) → Fr V0 sz0 V w p0 → DL V sz → AW g mX4_product (d + 3) 66 [(9, .int (iZ k)), (7, .long (jZ c)), (5, .long (jZ (A i))), (4, .int (iZ i)), (0, .ref w), (1, .ref u), (2, .ref v), (3, .int (iZ len))] [] V sz Q
  | 0, k, hx, V, R, c, hW, hU, hVv, hz, hE, hc, hfr, hD => by
    obtain rfl : mm = k := by omega
    obtain ⟨hw, hp, hwp, hn, h4, hL, hF⟩ := id hW
    obtain ⟨hu, hq, huq, hm1, h4', hK', hG⟩ := id hU
    obtain ⟨hv, hqv, hvq, hm2, h4'', hK'', hG2⟩ := id hVv
    have hUa : Whl g (AHu V p (aIz g L (upF R (i + mm) c))) u su n pu Ku A ∧ Whl g (AHu V p (aIz g L (upF R (i + mm) c))) v sv mm pv Kv Bv := ⟨hU.kept (AHu_ne hpu.symm) (AHu_ne hppu), hVv.kept (AHu_ne hpv.symm) (AHu_ne hppv)⟩
    refine aw_iload dX4_product_66 (by rfl) ?_
    refine aw_aload_n dX4_product_68 (by rfl) (Or.inr ⟨_, rfl⟩) ?_
    refine aw_get fX4_15 dX4_product_69 (by assumption) (by rfl) ?_
    refine aw_icmp_geZ (tgt := 133) dX4_product_72 (by decide) (by omega) (by omega) (fun hc_72 => ?_) (fun hc_72 => ?_)
    · refine aw_aload_n dX4_product_133 (by rfl) (Or.inr ⟨_, rfl⟩) ?_
      refine aw_get fX4_18 dX4_product_134 (by assumption) (by rfl) ?_
      refine aw_iload dX4_product_137 (by rfl) ?_
      refine aw_aload_n dX4_product_139 (by rfl) (Or.inr ⟨_, rfl⟩) ?_
      refine aw_get fX4_15 dX4_product_140 (by assumption) (by rfl) ?_
      refine aw_iaddZ dX4_product_143 ?_
      refine aw_lload dX4_product_144 (by rfl) ?_
      refine aw_l2iZ dX4_product_146 ?_
      refine aw_iastZ (i + mm) dX4_product_147 (by assumption) (by omega) (by omega) (by omega) ?_
      refine aw_iincZ dX4_product_148 (by rfl) (by decide) ?_
      refine aw_goto (tgt := 41) dX4_product_151 (by decide) ?_
      refine aw_pk [4, 0, 1, 2, 3] (by rfl) ?_
      rw [show ((i : Int) + 1) = ((i + 1 : Nat) : Int) by omega]
      exact hK _ _ (hW.arr (upF_lim hF hc)) hUa (fun j h1 h2 => by rw [upF_ne _ _ (by omega)]; exact hz j (by omega) h2) (pr_fin (by omega) (hz (i + mm) (by omega) (by omega)) hE) (hfr.upd hp0) (hD.upd (hD.lt hp))
    · exact absurd hc_72 (by omega)
  | x + 1, k, hx, V, R, c, hW, hU, hVv, hz, hE, hc, hfr, hD => by
    obtain ⟨hw, hp, hwp, hn, h4, hL, hF⟩ := id hW
    obtain ⟨hv, hqv, hvq, hm2, h4'', hK'', hG2⟩ := id hVv
    have e31 : (2 : Int) ^ 31 = 2147483648 := by decide
    have hBk := hG2 k (by omega)
    have hRk := hF (i + k) (by omega)
    have hb := pr_bd hc hAi hBk hRk
    have hE' := pr_step (by omega) hE
    have IH := prod_inner g d hpu hpv hppu hppv hN hlen hi hAi hp0 hK x (k + 1) (by omega) (hW.arr (upF_lim hF hb.2.2.1)) (hU.kept (AHu_ne hpu.symm) (AHu_ne hppu)) (hVv.kept (AHu_ne hpv.symm) (AHu_ne hppv)) (fun j h1 h2 => by rw [upF_ne _ _ (by omega)]; exact hz j h1 h2) hE' hb.2.2.2 (hfr.upd hp0) (hD.upd (hD.lt hp))
    clear hE hE' hK hz hfr hD
    refine aw_iload dX4_product_66 (by rfl) ?_
    refine aw_aload_n dX4_product_68 (by rfl) (Or.inr ⟨_, rfl⟩) ?_
    refine aw_get fX4_15 dX4_product_69 (by assumption) (by rfl) ?_
    refine aw_icmp_geZ (tgt := 133) dX4_product_72 (by decide) (by omega) (by omega) (fun hc_72 => ?_) (fun hc_72 => ?_)
    · exact absurd hc_72 (by omega)
    · refine aw_lload dX4_product_75 (by rfl) ?_
      refine aw_lload dX4_product_77 (by rfl) ?_
      refine aw_aload_n dX4_product_79 (by rfl) (Or.inr ⟨_, rfl⟩) ?_
      refine aw_get fX4_18 dX4_product_80 (by assumption) (by rfl) ?_
      refine aw_iload dX4_product_83 (by rfl) ?_
      refine aw_ialdZ (k) dX4_product_85 (by assumption) (by omega) (by omega) (by omega) ?_
      refine aw_i2lZ dX4_product_86 (by omega) ?_
      refine aw_lmulZ dX4_product_87 ?_
      refine aw_aload_n dX4_product_88 (by rfl) (Or.inr ⟨_, rfl⟩) ?_
      refine aw_get fX4_18 dX4_product_89 (by assumption) (by rfl) ?_
      refine aw_iload dX4_product_92 (by rfl) ?_
      refine aw_iload dX4_product_94 (by rfl) ?_
      refine aw_iaddZ dX4_product_96 ?_
      refine aw_ialdZ (i + k) dX4_product_97 (by assumption) (by omega) (by omega) (by omega) ?_
      refine aw_i2lZ dX4_product_98 (by omega) ?_
      refine aw_laddZ dX4_product_99 ?_
      refine aw_laddZ dX4_product_100 ?_
      refine aw_lstore dX4_product_101 (by decide) ?_
      skip
      refine aw_aload_n dX4_product_103 (by rfl) (Or.inr ⟨_, rfl⟩) ?_
      refine aw_get fX4_18 dX4_product_104 (by assumption) (by rfl) ?_
      refine aw_iload dX4_product_107 (by rfl) ?_
      refine aw_iload dX4_product_109 (by rfl) ?_
      refine aw_iaddZ dX4_product_111 ?_
      refine aw_lload dX4_product_112 (by rfl) ?_
      refine aw_ldc2Z (z := 2147483647) qX4_34 dX4_product_114 (by decide) ?_
      refine aw_landM 31 dX4_product_117 (by decide) (by decide) ?_
      refine aw_l2iZ dX4_product_118 ?_
      refine aw_iastZ (i + k) dX4_product_119 (by assumption) (by omega) (by omega) (by omega) ?_
      rw [e31]
      refine aw_lload dX4_product_120 (by rfl) ?_
      refine aw_bipushZ dX4_product_122 (by decide) ?_
      refine aw_lshrZ 31 dX4_product_124 (by rfl) (by decide) hb.2.1 ?_
      refine aw_lstore dX4_product_125 (by decide) ?_
      rw [e31]
      refine aw_iincZ dX4_product_127 (by rfl) (by decide) ?_
      refine aw_goto (tgt := 66) dX4_product_130 (by decide) ?_
      refine aw_pk [9, 7, 5, 4, 0, 1, 2, 3] (by rfl) ?_
      rw [show ((k : Int) + 1) = ((k + 1 : Nat) : Int) by omega]
      exact IH
theorem prod_outer (g : GX) (d : Nat) {V0 : AH} {sz0 p0 sz w u v p L len n0 n mm pu pv Ku Kv : Nat} {s su sv : Int} {A Bv : Nat → Int} {Q : AQ} (hpu : p ≠ u) (hpv : p ≠ v) (hppu : pu ≠ p) (hppv : pv ≠ p) (hN : len = n + mm) (hlen : len ≤ L) (hp0 : p = w ∨ p = p0 ∨ sz0 ≤ p)
    (hK : ∀ (V : AH) (R : Nat → Int), Whl g V w s n0 p L R → (Whl g V u su n pu Ku A ∧ Whl g V v sv mm pv Kv Bv) → mg 2147483648 R len = mg 2147483648 A n * mg 2147483648 Bv mm → Fr V0 sz0 V w p0 → DL V sz → AW g mX4_product (d + 3) 154 [(0, .ref w), (1, .ref u), (2, .ref v), (3, .int (iZ len))] [] V sz Q) : ∀ (x i : Nat), i + x = n → ∀ {V : AH} {R : Nat → Int}, Whl g V w s n0 p L R → Whl g V u su n pu Ku A → Whl g V v sv mm pv Kv Bv → (∀ j, i + mm ≤ j → j < len → R j = 0) → mg 2147483648 R len = mg 2147483648 A i * mg 2147483648 Bv mm → Fr V0 sz0 V w p0 → DL V sz → AW g mX4_product (d + 3) 41 [(4, .int (iZ i)), (0, .ref w), (1, .ref u), (2, .ref v), (3, .int (iZ len))] [] V sz Q
  | 0, i, hx, V, R, hW, hU, hVv, hz, hE, hfr, hD => by
    obtain rfl : n = i := by omega
    obtain ⟨hw, hp, hwp, hn, h4, hL, hF⟩ := id hW
    obtain ⟨hu, hq, huq, hm1, h4', hK', hG⟩ := id hU
    have hUa := hU
    have hVb := hVv
    have hK := fun V R a b c d e f => hK V R a ⟨b, c⟩ d e f
    refine aw_iload dX4_product_41 (by rfl) ?_
    refine aw_aload_n dX4_product_43 (by rfl) (Or.inr ⟨_, rfl⟩) ?_
    refine aw_get fX4_15 dX4_product_44 (by assumption) (by rfl) ?_
    refine aw_icmp_geZ (tgt := 154) dX4_product_47 (by decide) (by omega) (by omega) (fun hc_47 => ?_) (fun hc_47 => ?_)
    · refine aw_pk [0, 1, 2, 3] (by rfl) ?_
      exact hK V R hW hUa hVb hE hfr hD
    · exact absurd hc_47 (by omega)
  | x + 1, i, hx, V, R, hW, hU, hVv, hz, hE, hfr, hD => by
    obtain ⟨hw, hp, hwp, hn, h4, hL, hF⟩ := id hW
    obtain ⟨hu, hq, huq, hm1, h4', hK', hG⟩ := id hU
    have hAi := hG i (by omega)
    have IN := prod_inner g d (V0 := V0) (sz0 := sz0) (p0 := p0) (sz := sz) (w := w) (i := i) (Q := Q) hpu hpv hppu hppv hN hlen (by omega) hAi hp0 (fun V2 R2 a1 a2 a3 a4 a5 a6 => prod_outer g d hpu hpv hppu hppv hN hlen hp0 hK x (i + 1) (by omega) a1 a2.1 a2.2 a3 a4 a5 a6) mm 0 (by omega) (c := 0) hW hU hVv hz (by rw [hE]; simp [mg]) (by omega) hfr hD
    clear hE hK hz hfr hD
    refine aw_iload dX4_product_41 (by rfl) ?_
    refine aw_aload_n dX4_product_43 (by rfl) (Or.inr ⟨_, rfl⟩) ?_
    refine aw_get fX4_15 dX4_product_44 (by assumption) (by rfl) ?_
    refine aw_icmp_geZ (tgt := 154) dX4_product_47 (by decide) (by omega) (by omega) (fun hc_47 => ?_) (fun hc_47 => ?_)
    · exact absurd hc_47 (by omega)
    · refine aw_aload_n dX4_product_50 (by rfl) (Or.inr ⟨_, rfl⟩) ?_
      refine aw_get fX4_18 dX4_product_51 (by assumption) (by rfl) ?_
      refine aw_iload dX4_product_54 (by rfl) ?_
      refine aw_ialdZ (i) dX4_product_56 (by assumption) (by omega) (by omega) (by omega) ?_
      refine aw_i2lZ dX4_product_57 (by omega) ?_
      refine aw_lstore dX4_product_58 (by decide) ?_
      refine aw_lconstZ (z := 0) dX4_product_60 (by decide) ?_
      refine aw_lstore dX4_product_61 (by decide) ?_
      refine aw_iconstZ dX4_product_63 ?_
      refine aw_istore dX4_product_64 (by decide) ?_
      refine aw_pk [9, 7, 5, 4, 0, 1, 2, 3] (by rfl) ?_
      exact IN
theorem prod_zero (g : GX) (d : Nat) {V0 V1 : AH} {sz0 p0 sz w u v p L len n0 n mm pu pv Ku Kv : Nat} {s su sv : Int} {A Bv : Nat → Int} {Q : AQ} (hlen : len ≤ L) (hp0 : p = w ∨ p = p0 ∨ sz0 ≤ p) (hUf : ∀ V2 : AH, Fr2 V1 V2 w p → Whl g V2 u su n pu Ku A ∧ Whl g V2 v sv mm pv Kv Bv)
    (hK : ∀ (V : AH) (R : Nat → Int), Whl g V w s n0 p L R → (Whl g V u su n pu Ku A ∧ Whl g V v sv mm pv Kv Bv) → (∀ j, j < len → R j = 0) → Fr V0 sz0 V w p0 → DL V sz → AW g mX4_product (d + 3) 41 [(4, .int (iZ (0 : Nat))), (0, .ref w), (1, .ref u), (2, .ref v), (3, .int (iZ len))] [] V sz Q) : ∀ (x k : Nat), k + x = len → ∀ {V : AH} {R : Nat → Int}, Whl g V w s n0 p L R → Fr2 V1 V w p → (∀ j, j < k → R j = 0) → Fr V0 sz0 V w p0 → DL V sz → AW g mX4_product (d + 3) 18 [(4, .int (iZ k)), (0, .ref w), (1, .ref u), (2, .ref v), (3, .int (iZ len))] [] V sz Q
  | 0, k, hx, V, R, hW, hf2, hz, hfr, hD => by
    obtain rfl : len = k := by omega
    obtain ⟨hw, hp, hwp, hn, h4, hL, hF⟩ := id hW
    have hUf := fun V (_ : Fr V0 sz0 V w p0) => hUf V
    have hUf2 := hUf V hfr hf2
    have hUf : ∀ V' : AH, Fr V0 sz0 V' w p0 → Whl g V u su n pu Ku A ∧ Whl g V v sv mm pv Kv Bv := fun _ _ => hUf2
    refine aw_iload dX4_product_18 (by rfl) ?_
    refine aw_iload_n dX4_product_20 (by rfl) ?_
    refine aw_icmp_geZ (tgt := 38) dX4_product_21 (by decide) (by omega) (by omega) (fun hc_21 => ?_) (fun hc_21 => ?_)
    · refine aw_iconstZ dX4_product_38 ?_
      refine aw_istore dX4_product_39 (by decide) ?_
      refine aw_pk [4, 0, 1, 2, 3] (by rfl) ?_
      exact hK V R hW (hUf V hfr) hz hfr hD
    · exact absurd hc_21 (by omega)
  | x + 1, k, hx, V, R, hW, hf2, hz, hfr, hD => by
    obtain ⟨hw, hp, hwp, hn, h4, hL, hF⟩ := id hW
    have IH := prod_zero g d (V0 := V0) (V1 := V1) (sz0 := sz0) (p0 := p0) (sz := sz) (w := w) (u := u) (v := v) (p := p) (L := L) (len := len) hlen hp0 hUf hK x (k + 1) (by omega) (hW.arr (upF_lim (k := k) (x := 0) hF (by omega))) (hf2.upd (Or.inr rfl)) (fun j hj => by
      by_cases hjk : j = k
      · subst hjk; exact upF_self _ _ _
      · rw [upF_ne _ _ hjk]; exact hz j (by omega)) (hfr.upd hp0) (hD.upd (hD.lt hp))
    clear hK hz hfr hD hUf
    refine aw_iload dX4_product_18 (by rfl) ?_
    refine aw_iload_n dX4_product_20 (by rfl) ?_
    refine aw_icmp_geZ (tgt := 38) dX4_product_21 (by decide) (by omega) (by omega) (fun hc_21 => ?_) (fun hc_21 => ?_)
    · exact absurd hc_21 (by omega)
    · refine aw_aload_n dX4_product_24 (by rfl) (Or.inr ⟨_, rfl⟩) ?_
      refine aw_get fX4_18 dX4_product_25 (by assumption) (by rfl) ?_
      refine aw_iload dX4_product_28 (by rfl) ?_
      refine aw_iconstZ dX4_product_30 ?_
      refine aw_iastZ (k) dX4_product_31 (by assumption) (by omega) (by omega) (by omega) ?_
      refine aw_iincZ dX4_product_32 (by rfl) (by decide) ?_
      refine aw_goto (tgt := 18) dX4_product_35 (by decide) ?_
      refine aw_pk [4, 0, 1, 2, 3] (by rfl) ?_
      rw [show ((k : Int) + 1) = ((k + 1 : Nat) : Int) by omega]
      exact IH
theorem t_product (g : GX) (d : Nat) {w p L u v pu pv Ku Kv n0 : Nat} {F0 : Nat → Int} {s z1 z2 : Int} {V : AH} {sz : Nat} (hW : Whl g V w s n0 p L F0) (hUV : WhV g V u z1 pu Ku) (hVV : WhV g V v z2 pv Kv) (hD : DL V sz) (hwu : w ≠ u) (hwv : w ≠ v) (hpu : p ≠ u) (hpv : p ≠ v) (hwpu : w ≠ pu) (hwpv : w ≠ pv) (hppu : p ≠ pu) (hppv : p ≠ pv) (h1 : (z1.natAbs : Int) < 2147483648 ^ 150) (h2 : (z2.natAbs : Int) < 2147483648 ^ 150) (h12 : ((z1 * z2).natAbs : Int) < 2147483648 ^ 150) : AMet g mX4_product (d + 3) [.ref w, .ref u, .ref v] V sz (WPost g V sz w p L (z1 * z2)) := by
  obtain ⟨n, A, hU, hmu, htu⟩ := hUV
  obtain ⟨mm, Bv, hVv, hmv, htv⟩ := hVV
  obtain ⟨hw, hp, hwp, hn, h4, hL, hF⟩ := id hW
  obtain ⟨hu, hq, huq, hm1, h4', hK', hG⟩ := id hU
  obtain ⟨hv, hqv, hvq, hm2, h4'', hK'', hG2⟩ := id hVv
  have hn1 : n ≤ 150 := top_le hm1 hG htu (by rw [hmu]; exact h1)
  have hm3 : mm ≤ 150 := top_le hm2 hG2 htv (by rw [hmv]; exact h2)
  have hnm : n + mm ≤ 151 := by
    rcases Nat.eq_zero_or_pos n with h0 | h0
    · omega
    · rcases Nat.eq_zero_or_pos mm with h3 | h3
      · omega
      · obtain ⟨a, rfl⟩ : ∃ a, n = a + 1 := ⟨n - 1, by omega⟩
        obtain ⟨b, rfl⟩ : ∃ b, mm = b + 1 := ⟨mm - 1, by omega⟩
        have e1 := mg_top (show (0 : Int) < 2147483648 by omega) (F := A) (n := a) (fun j hj => hG j (by omega)) (by rcases htu with h | h; exact absurd h (by omega); simpa using h)
        have e2 := mg_top (show (0 : Int) < 2147483648 by omega) (F := Bv) (n := b) (fun j hj => hG2 j (by omega)) (by rcases htv with h | h; exact absurd h (by omega); simpa using h)
        rw [hmu] at e1
        rw [hmv] at e2
        have e3 : (2147483648 : Int) ^ a * 2147483648 ^ b ≤ (z1.natAbs : Int) * (z2.natAbs : Int) := Int.mul_le_mul e1 e2 (Int.le_of_lt (pw_pos (by omega) b)) (Int.natCast_nonneg _)
        rw [← Int.pow_add] at e3
        have e4 : ((z1 * z2).natAbs : Int) = (z1.natAbs : Int) * (z2.natAbs : Int) := by rw [Int.natAbs_mul, Int.natCast_mul]
        have e5 := pw_lt_inv (show (1 : Int) ≤ 2147483648 by omega) (show (2147483648 : Int) ^ (a + b) < 2147483648 ^ 150 by omega)
        omega
  clear h1 h2 h12
  refine AMet.of rfl rfl (Nat.le_of_ble_eq_true rfl) ?_
  show AW g mX4_product (d + 3) 0 [(0, .ref w), (1, .ref u), (2, .ref v)] [] V sz _
  refine aw_aload_n dX4_product_0 (by rfl) (Or.inr ⟨_, rfl⟩) ?_
  refine aw_get fX4_15 dX4_product_1 (by assumption) (by rfl) ?_
  refine aw_aload_n dX4_product_4 (by rfl) (Or.inr ⟨_, rfl⟩) ?_
  refine aw_get fX4_15 dX4_product_5 (by assumption) (by rfl) ?_
  refine aw_iaddZ dX4_product_8 ?_
  refine aw_topi (y := ((n + mm : Nat) : Int)) (by omega) ?_
  refine aw_istore_n dX4_product_9 (by decide) ?_
  refine aw_aload_n dX4_product_10 (by rfl) (Or.inr ⟨_, rfl⟩) ?_
  refine aw_iload_n dX4_product_11 (by rfl) ?_
  refine aw_callv vX4_36 dX4_product_12 (by assumption) (t_makeRoom g d hW hD (len := n + mm) (by omega)) (by rfl) (by rfl) (by omega) (Nat.le_of_ble_eq_true rfl) ?_
  rintro r V1 sz1 mc ms ⟨rfl, p1, L1, F1, hW1, hl1, hc1, hs1, hF1, hp1, hfr1, hD1⟩ hdm
  have hus := hD.lt hu
  have hqs := hD.lt hq
  have hvs := hD.lt hv
  have hqvs := hD.lt hqv
  have hps := hD.lt hp
  have hws := hD.lt hw
  have hp1u : p1 ≠ u := by omega
  have hp1v : p1 ≠ v := by omega
  have hp1q : pu ≠ p1 := by omega
  have hp1r : pv ≠ p1 := by omega
  have hUf : ∀ V2 : AH, Fr2 V1 V2 w p1 → Whl g V2 u z1.sign n pu Ku A ∧ Whl g V2 v z2.sign mm pv Kv Bv := fun V2 h2 => ⟨hU.kept ((h2 u hwu.symm hp1u.symm).trans (hfr1 u hus hwu.symm hpu.symm)) ((h2 pu hwpu.symm hp1q).trans (hfr1 pu hqs hwpu.symm hppu.symm)), hVv.kept ((h2 v hwv.symm hp1v.symm).trans (hfr1 v hvs hwv.symm hpv.symm)) ((h2 pv hwpv.symm hp1r).trans (hfr1 pv hqvs hwpv.symm hppv.symm))⟩
  refine aw_pk [0, 1, 2, 3] (by rfl) ?_
  have T0 : ∀ (V2 : AH) (R : Nat → Int), Whl g V2 w s n0 p1 L1 R → (Whl g V2 u z1.sign n pu Ku A ∧ Whl g V2 v z2.sign mm pv Kv Bv) → mg 2147483648 R (n + mm) = mg 2147483648 A n * mg 2147483648 Bv mm → Fr V sz V2 w p → DL V2 sz1 → AW g mX4_product (d + 3) 154 [(0, .ref w), (1, .ref u), (2, .ref v), (3, .int (iZ (n + mm : Nat)))] [] V2 sz1 (fun r2 V2 sz2 dc ds => WPost g V sz w p L (z1 * z2) r2 V2 sz2 (mc + dc) (ms + ds)) := fun V2 R a1 a2 a3 a4 a5 => prod_tail g d (V0 := V) (sz0 := sz) (p0 := p) (z' := z1 * z2) (mc := mc) (ms := ms) (L0 := L) a1 hl1 a2.1 a2.2 hwu hwv (by rw [a3, hmu, hmv, Int.natAbs_mul, Int.natCast_mul]) (fun _ => (Int.sign_mul z1 z2).symm) a4 a5 (by omega) hc1 hs1
  have T1 := fun (V2 : AH) (R : Nat → Int) (a1 : Whl g V2 w s n0 p1 L1 R) (a2 : Whl g V2 u z1.sign n pu Ku A ∧ Whl g V2 v z2.sign mm pv Kv Bv) (a3 : ∀ j, j < n + mm → R j = 0) (a4 : Fr V sz V2 w p) (a5 : DL V2 sz1) => prod_outer g d (V0 := V) (sz0 := sz) (p0 := p) (sz := sz1) (len := n + mm) (n := n) (mm := mm) (p := p1) (L := L1) hp1u hp1v hp1q hp1r (by omega) hl1 (by omega) T0 n 0 (by omega) a1 a2.1 a2.2 (fun j h1 h2 => a3 j h2) (by rw [mg_all0 a3]; simp [mg]) a4 a5
  have T2 := prod_zero g d (V0 := V) (sz0 := sz) (p0 := p) (sz := sz1) (len := n + mm) (p := p1) (L := L1) (V1 := V1) (u := u) (v := v) hl1 (by omega) hUf (fun V2 R a1 a2 a3 a4 a5 => T1 V2 R a1 a2 a3 a4 a5) (n + mm) 0 (by omega) hW1 (fun _ _ _ => rfl) (fun j hj => absurd hj (by omega)) hfr1 hD1
  refine aw_iconstZ dX4_product_15 ?_
  refine aw_istore dX4_product_16 (by decide) ?_
  refine aw_pk [4, 0, 1, 2, 3] (by rfl) ?_
  exact T2
