/-! ===== Whole.plus ===== -/
def pickL (lv : List (Nat × Value)) (ks : List Nat) : List (Nat × Value) := ks.filterMap (fun i => (lv.lookup i).map (fun v => (i, v)))
theorem lk_mem {i : Nat} {l : List (Nat × Value)} {v : Value} (h : l.lookup i = some v) : (i, v) ∈ l := by
  obtain ⟨j, hj⟩ := lk_pos h
  exact List.mem_of_getElem? hj
theorem aw_pk {g : GX} {M : MI} {d pc : Nat} {lv lv' : List (Nat × Value)} {st : List Value} {V : AH} {sz : Nat} {Q : AQ} (ks : List Nat) (h : pickL lv ks = lv') (k : AW g M d pc lv' st V sz Q) : AW g M d pc lv st V sz Q :=
  AW.step (fun _ _ _ _ _ _ _ _ _ _ _ _ _ _ ls _ hC hl _ _ _ kk => kk ls ⟨hl.1, hl.2.1, fun q hq => by
    rw [← h] at hq
    obtain ⟨i, -, hi⟩ := List.mem_filterMap.mp hq
    obtain ⟨v, hv, rfl⟩ := Option.map_eq_some_iff.mp hi
    exact hl.2.2 _ (lk_mem hv)⟩) k
theorem aI_inj {g : GX} {L K : Nat} {F G : Nat → Int} (h : (aIz g L F) = aIz g K G) : L = K ∧ ∀ j, iZ (F j) = iZ (G j) := by
  have h1 := Sum.inl.inj h
  have h2 := (Prod.mk.inj h1).2
  have h3 := Prod.mk.inj h2
  exact ⟨h3.1, fun j => congrFun (Sum.inl.inj h3.2) j⟩
/-- a Whole when another's limb, or its own, is written -/
theorem Whl.wr {g : GX} {V : AH} {x p L nx px Lx k : Nat} {sx r : Int} {F Fx : Nat → Int} (hx : Whl g V x sx nx px Lx Fx) (hp : V p = some (aIz g L F)) (hpx : p ≠ x) (hr : 0 ≤ r ∧ r < 2147483648) : ∃ Fx' : Nat → Int, Whl g (AHu V p (aIz g L (upF F k r))) x sx nx px Lx Fx' ∧ ∀ j, j ≠ k → Fx' j = Fx j := by
  obtain ⟨h1, h2, h3, h4, h5, h6, h7⟩ := hx
  by_cases hq : px = p
  · subst hq
    have e := Option.some.inj (hp.symm.trans h2)
    obtain ⟨e1, e2⟩ := aI_inj e
    subst e1
    refine ⟨upF Fx k r, ⟨by rw [AHu_ne h3]; exact h1, ?_, h3, h4, h5, h6, upF_lim h7 hr⟩, fun j hj => upF_ne Fx r hj⟩
    rw [AHu_self]
    have e3 : (fun j => iZ (upF F k r j)) = fun j => iZ (upF Fx k r j) := by
      funext j
      unfold upF
      split
      · rfl
      · exact e2 j
    show some (aI g L (fun j => iZ (upF F k r j))) = some (aI g L (fun j => iZ (upF Fx k r j)))
    rw [e3]
  · exact ⟨Fx, ⟨by rw [AHu_ne hpx.symm]; exact h1, by rw [AHu_ne hq]; exact h2, h3, h4, h5, h6, h7⟩, fun _ _ => rfl⟩
abbrev mX4_plus : MI := (yX4_plus, cX4_plus, 14, none, noX)
theorem dX4_plus_0 : decode cX4_plus 0 = .ok (.aload_n 1, 1) := by decide +kernel
theorem dX4_plus_1 : decode cX4_plus 1 = .ok (.getfield 9, 3) := by decide +kernel
theorem dX4_plus_4 : decode cX4_plus 4 = .ok (.iload_n 2, 1) := by decide +kernel
theorem dX4_plus_5 : decode cX4_plus 5 = .ok (.imul, 1) := by decide +kernel
theorem dX4_plus_6 : decode cX4_plus 6 = .ok (.istore_n 3, 1) := by decide +kernel
theorem dX4_plus_7 : decode cX4_plus 7 = .ok (.iload_n 3, 1) := by decide +kernel
theorem dX4_plus_8 : decode cX4_plus 8 = .ok (.ifCond .ne 4, 3) := by decide +kernel
theorem dX4_plus_11 : decode cX4_plus 11 = .ok (.return_, 1) := by decide +kernel
theorem dX4_plus_12 : decode cX4_plus 12 = .ok (.aload_n 0, 1) := by decide +kernel
theorem dX4_plus_13 : decode cX4_plus 13 = .ok (.getfield 9, 3) := by decide +kernel
theorem dX4_plus_16 : decode cX4_plus 16 = .ok (.iload_n 3, 1) := by decide +kernel
theorem dX4_plus_17 : decode cX4_plus 17 = .ok (.ineg, 1) := by decide +kernel
theorem dX4_plus_18 : decode cX4_plus 18 = .ok (.if_icmp .ne 7, 3) := by decide +kernel
theorem dX4_plus_21 : decode cX4_plus 21 = .ok (.iconst 1, 1) := by decide +kernel
theorem dX4_plus_22 : decode cX4_plus 22 = .ok (.goto 4, 3) := by decide +kernel
theorem dX4_plus_25 : decode cX4_plus 25 = .ok (.iconst 0, 1) := by decide +kernel
theorem dX4_plus_26 : decode cX4_plus 26 = .ok (.istore 4, 2) := by decide +kernel
theorem dX4_plus_28 : decode cX4_plus 28 = .ok (.iload 4, 2) := by decide +kernel
theorem dX4_plus_30 : decode cX4_plus 30 = .ok (.ifCond .eq 15, 3) := by decide +kernel
theorem dX4_plus_33 : decode cX4_plus 33 = .ok (.aload_n 0, 1) := by decide +kernel
theorem dX4_plus_34 : decode cX4_plus 34 = .ok (.aload_n 1, 1) := by decide +kernel
theorem dX4_plus_35 : decode cX4_plus 35 = .ok (.invokevirtual 61, 3) := by decide +kernel
theorem dX4_plus_38 : decode cX4_plus 38 = .ok (.ifCond .ge 7, 3) := by decide +kernel
theorem dX4_plus_41 : decode cX4_plus 41 = .ok (.iconst 1, 1) := by decide +kernel
theorem dX4_plus_42 : decode cX4_plus 42 = .ok (.goto 4, 3) := by decide +kernel
theorem dX4_plus_45 : decode cX4_plus 45 = .ok (.iconst 0, 1) := by decide +kernel
theorem dX4_plus_46 : decode cX4_plus 46 = .ok (.istore 5, 2) := by decide +kernel
theorem dX4_plus_48 : decode cX4_plus 48 = .ok (.iload 5, 2) := by decide +kernel
theorem dX4_plus_50 : decode cX4_plus 50 = .ok (.ifCond .eq 7, 3) := by decide +kernel
theorem dX4_plus_53 : decode cX4_plus 53 = .ok (.aload_n 1, 1) := by decide +kernel
theorem dX4_plus_54 : decode cX4_plus 54 = .ok (.goto 4, 3) := by decide +kernel
theorem dX4_plus_57 : decode cX4_plus 57 = .ok (.aload_n 0, 1) := by decide +kernel
theorem dX4_plus_58 : decode cX4_plus 58 = .ok (.astore 6, 2) := by decide +kernel
theorem dX4_plus_60 : decode cX4_plus 60 = .ok (.iload 5, 2) := by decide +kernel
theorem dX4_plus_62 : decode cX4_plus 62 = .ok (.ifCond .eq 7, 3) := by decide +kernel
theorem dX4_plus_65 : decode cX4_plus 65 = .ok (.aload_n 0, 1) := by decide +kernel
theorem dX4_plus_66 : decode cX4_plus 66 = .ok (.goto 4, 3) := by decide +kernel
theorem dX4_plus_69 : decode cX4_plus 69 = .ok (.aload_n 1, 1) := by decide +kernel
theorem dX4_plus_70 : decode cX4_plus 70 = .ok (.astore 7, 2) := by decide +kernel
theorem dX4_plus_72 : decode cX4_plus 72 = .ok (.aload_n 0, 1) := by decide +kernel
theorem dX4_plus_73 : decode cX4_plus 73 = .ok (.getfield 15, 3) := by decide +kernel
theorem dX4_plus_76 : decode cX4_plus 76 = .ok (.aload_n 1, 1) := by decide +kernel
theorem dX4_plus_77 : decode cX4_plus 77 = .ok (.getfield 15, 3) := by decide +kernel
theorem dX4_plus_80 : decode cX4_plus 80 = .ok (.invokestatic 65, 3) := by decide +kernel
theorem dX4_plus_83 : decode cX4_plus 83 = .ok (.iconst 1, 1) := by decide +kernel
theorem dX4_plus_84 : decode cX4_plus 84 = .ok (.iadd, 1) := by decide +kernel
theorem dX4_plus_85 : decode cX4_plus 85 = .ok (.istore 8, 2) := by decide +kernel
theorem dX4_plus_87 : decode cX4_plus 87 = .ok (.aload_n 0, 1) := by decide +kernel
theorem dX4_plus_88 : decode cX4_plus 88 = .ok (.iload 8, 2) := by decide +kernel
theorem dX4_plus_90 : decode cX4_plus 90 = .ok (.invokevirtual 36, 3) := by decide +kernel
theorem dX4_plus_93 : decode cX4_plus 93 = .ok (.lconst 0, 1) := by decide +kernel
theorem dX4_plus_94 : decode cX4_plus 94 = .ok (.lstore 9, 2) := by decide +kernel
theorem dX4_plus_96 : decode cX4_plus 96 = .ok (.iconst 0, 1) := by decide +kernel
theorem dX4_plus_97 : decode cX4_plus 97 = .ok (.istore 11, 2) := by decide +kernel
theorem dX4_plus_99 : decode cX4_plus 99 = .ok (.iload 11, 2) := by decide +kernel
theorem dX4_plus_101 : decode cX4_plus 101 = .ok (.iload 8, 2) := by decide +kernel
theorem dX4_plus_103 : decode cX4_plus 103 = .ok (.if_icmp .ge 97, 3) := by decide +kernel
theorem dX4_plus_106 : decode cX4_plus 106 = .ok (.iload 11, 2) := by decide +kernel
theorem dX4_plus_108 : decode cX4_plus 108 = .ok (.aload 7, 2) := by decide +kernel
theorem dX4_plus_110 : decode cX4_plus 110 = .ok (.getfield 15, 3) := by decide +kernel
theorem dX4_plus_113 : decode cX4_plus 113 = .ok (.if_icmp .ge 15, 3) := by decide +kernel
theorem dX4_plus_116 : decode cX4_plus 116 = .ok (.aload 7, 2) := by decide +kernel
theorem dX4_plus_118 : decode cX4_plus 118 = .ok (.getfield 18, 3) := by decide +kernel
theorem dX4_plus_121 : decode cX4_plus 121 = .ok (.iload 11, 2) := by decide +kernel
theorem dX4_plus_123 : decode cX4_plus 123 = .ok (.iaload, 1) := by decide +kernel
theorem dX4_plus_124 : decode cX4_plus 124 = .ok (.i2l, 1) := by decide +kernel
theorem dX4_plus_125 : decode cX4_plus 125 = .ok (.goto 4, 3) := by decide +kernel
theorem dX4_plus_128 : decode cX4_plus 128 = .ok (.lconst 0, 1) := by decide +kernel
theorem dX4_plus_129 : decode cX4_plus 129 = .ok (.lstore 12, 2) := by decide +kernel
theorem dX4_plus_131 : decode cX4_plus 131 = .ok (.lload 9, 2) := by decide +kernel
theorem dX4_plus_133 : decode cX4_plus 133 = .ok (.iload 11, 2) := by decide +kernel
theorem dX4_plus_135 : decode cX4_plus 135 = .ok (.aload 6, 2) := by decide +kernel
theorem dX4_plus_137 : decode cX4_plus 137 = .ok (.getfield 15, 3) := by decide +kernel
theorem dX4_plus_140 : decode cX4_plus 140 = .ok (.if_icmp .ge 14, 3) := by decide +kernel
theorem dX4_plus_143 : decode cX4_plus 143 = .ok (.aload 6, 2) := by decide +kernel
theorem dX4_plus_145 : decode cX4_plus 145 = .ok (.getfield 18, 3) := by decide +kernel
theorem dX4_plus_148 : decode cX4_plus 148 = .ok (.iload 11, 2) := by decide +kernel
theorem dX4_plus_150 : decode cX4_plus 150 = .ok (.iaload, 1) := by decide +kernel
theorem dX4_plus_151 : decode cX4_plus 151 = .ok (.goto 4, 3) := by decide +kernel
theorem dX4_plus_154 : decode cX4_plus 154 = .ok (.iconst 0, 1) := by decide +kernel
theorem dX4_plus_155 : decode cX4_plus 155 = .ok (.i2l, 1) := by decide +kernel
theorem dX4_plus_156 : decode cX4_plus 156 = .ok (.iload 4, 2) := by decide +kernel
theorem dX4_plus_158 : decode cX4_plus 158 = .ok (.ifCond .eq 9, 3) := by decide +kernel
theorem dX4_plus_161 : decode cX4_plus 161 = .ok (.lload 12, 2) := by decide +kernel
theorem dX4_plus_163 : decode cX4_plus 163 = .ok (.lneg, 1) := by decide +kernel
theorem dX4_plus_164 : decode cX4_plus 164 = .ok (.goto 5, 3) := by decide +kernel
theorem dX4_plus_167 : decode cX4_plus 167 = .ok (.lload 12, 2) := by decide +kernel
theorem dX4_plus_169 : decode cX4_plus 169 = .ok (.ladd, 1) := by decide +kernel
theorem dX4_plus_170 : decode cX4_plus 170 = .ok (.ladd, 1) := by decide +kernel
theorem dX4_plus_171 : decode cX4_plus 171 = .ok (.lstore 9, 2) := by decide +kernel
theorem dX4_plus_173 : decode cX4_plus 173 = .ok (.aload_n 0, 1) := by decide +kernel
theorem dX4_plus_174 : decode cX4_plus 174 = .ok (.getfield 18, 3) := by decide +kernel
theorem dX4_plus_177 : decode cX4_plus 177 = .ok (.iload 11, 2) := by decide +kernel
theorem dX4_plus_179 : decode cX4_plus 179 = .ok (.lload 9, 2) := by decide +kernel
theorem dX4_plus_181 : decode cX4_plus 181 = .ok (.ldc2_w 34, 3) := by decide +kernel
theorem dX4_plus_184 : decode cX4_plus 184 = .ok (.land, 1) := by decide +kernel
theorem dX4_plus_185 : decode cX4_plus 185 = .ok (.l2i, 1) := by decide +kernel
theorem dX4_plus_186 : decode cX4_plus 186 = .ok (.iastore, 1) := by decide +kernel
theorem dX4_plus_187 : decode cX4_plus 187 = .ok (.lload 9, 2) := by decide +kernel
theorem dX4_plus_189 : decode cX4_plus 189 = .ok (.bipush 31, 2) := by decide +kernel
theorem dX4_plus_191 : decode cX4_plus 191 = .ok (.lshr, 1) := by decide +kernel
theorem dX4_plus_192 : decode cX4_plus 192 = .ok (.lstore 9, 2) := by decide +kernel
theorem dX4_plus_194 : decode cX4_plus 194 = .ok (.iinc 11 1, 3) := by decide +kernel
theorem dX4_plus_197 : decode cX4_plus 197 = .ok (.goto (-98), 3) := by decide +kernel
theorem dX4_plus_200 : decode cX4_plus 200 = .ok (.aload_n 0, 1) := by decide +kernel
theorem dX4_plus_201 : decode cX4_plus 201 = .ok (.iload 8, 2) := by decide +kernel
theorem dX4_plus_203 : decode cX4_plus 203 = .ok (.putfield 15, 3) := by decide +kernel
theorem dX4_plus_206 : decode cX4_plus 206 = .ok (.aload_n 0, 1) := by decide +kernel
theorem dX4_plus_207 : decode cX4_plus 207 = .ok (.aload_n 0, 1) := by decide +kernel
theorem dX4_plus_208 : decode cX4_plus 208 = .ok (.getfield 9, 3) := by decide +kernel
theorem dX4_plus_211 : decode cX4_plus 211 = .ok (.ifCond .eq 8, 3) := by decide +kernel
theorem dX4_plus_214 : decode cX4_plus 214 = .ok (.iload 5, 2) := by decide +kernel
theorem dX4_plus_216 : decode cX4_plus 216 = .ok (.ifCond .eq 7, 3) := by decide +kernel
theorem dX4_plus_219 : decode cX4_plus 219 = .ok (.iload_n 3, 1) := by decide +kernel
theorem dX4_plus_220 : decode cX4_plus 220 = .ok (.goto 7, 3) := by decide +kernel
theorem dX4_plus_223 : decode cX4_plus 223 = .ok (.aload_n 0, 1) := by decide +kernel
theorem dX4_plus_224 : decode cX4_plus 224 = .ok (.getfield 9, 3) := by decide +kernel
theorem dX4_plus_227 : decode cX4_plus 227 = .ok (.putfield 9, 3) := by decide +kernel
theorem dX4_plus_230 : decode cX4_plus 230 = .ok (.aload_n 0, 1) := by decide +kernel
theorem dX4_plus_231 : decode cX4_plus 231 = .ok (.invokevirtual 71, 3) := by decide +kernel
theorem dX4_plus_234 : decode cX4_plus 234 = .ok (.return_, 1) := by decide +kernel
theorem plus_arith {F A D : Nat → Int} {c : Int} {k : Nat} (hinv : mg 2147483648 F k + c * 2147483648 ^ k = mg 2147483648 A k + mg 2147483648 D k) (hc : -1 ≤ c ∧ c ≤ 1) (hA : 0 ≤ A k ∧ A k < 2147483648) (hD : -2147483648 < D k ∧ D k < 2147483648) : R64 (c + (A k + D k)) ∧ 0 ≤ (c + (A k + D k)) % 2147483648 ∧ (c + (A k + D k)) % 2147483648 < 2147483648 ∧ (-1 ≤ (c + (A k + D k)) / 2147483648 ∧ (c + (A k + D k)) / 2147483648 ≤ 1) ∧ mg 2147483648 (upF F k ((c + (A k + D k)) % 2147483648)) (k + 1) + (c + (A k + D k)) / 2147483648 * 2147483648 ^ (k + 1) = mg 2147483648 A (k + 1) + mg 2147483648 D (k + 1) := by
  refine ⟨by omega, by omega, by omega, by omega, ?_⟩
  have hmd := Int.emod_add_mul_ediv (c + (A k + D k)) 2147483648
  simp only [mg]
  rw [mg_upF, upF_self, Int.pow_succ]
  generalize hP : (2147483648 : Int) ^ k = P at hinv ⊢
  generalize hq : (c + (A k + D k)) / 2147483648 = q at hmd ⊢
  generalize hr : (c + (A k + D k)) % 2147483648 = r at hmd ⊢
  have e2 : q * (P * 2147483648) = 2147483648 * q * P := by
    rw [Int.mul_comm P 2147483648, ← Int.mul_assoc, Int.mul_comm q 2147483648]
  have e3 : (r + 2147483648 * q) * P = (c + (A k + D k)) * P := by rw [hmd]
  rw [Int.add_mul, Int.add_mul, Int.add_mul] at e3
  omega
theorem plus_loop (g : GX) (d : Nat) {V0 : AH} {sz0 p0 sz : Nat} {w u x y p L len nx ny n : Nat} {s op sm th : Int} {A Bs D : Nat → Int} {Q : AQ} (hpx : p ≠ x) (hpy : p ≠ y) (hlen : len ≤ L) (hopR : op = 0 ∨ op = 1) (hA : ∀ j, 0 ≤ A j ∧ A j < 2147483648) (hBs : ∀ j, 0 ≤ Bs j ∧ Bs j < 2147483648) (hAz : ∀ j, nx ≤ j → A j = 0) (hBz : ∀ j, ny ≤ j → Bs j = 0) (hDp : op = 0 → ∀ j, D j = Bs j) (hDm : op ≠ 0 → ∀ j, D j = - Bs j) (hp0 : p = w ∨ p = p0 ∨ sz0 ≤ p)
    (hK : ∀ (V : AH) (F : Nat → Int) (c : Int), Whl g V w s n p L F → mg 2147483648 F len + c * 2147483648 ^ len = mg 2147483648 A len + mg 2147483648 D len → (-1 ≤ c ∧ c ≤ 1) → Fr V0 sz0 V w p0 → DL V sz → AW g mX4_plus (d + 3) 200 [(8, .int (iZ len)), (5, .int (iZ sm)), (4, .int (iZ op)), (3, .int (iZ th)), (0, .ref w), (1, .ref u)] [] V sz Q) : ∀ (i k : Nat), k + i = len → ∀ {V : AH} {F : Nat → Int} {c : Int}, Whl g V w s n p L F → (∃ (sx : Int) (px Lx : Nat) (Fx : Nat → Int), Whl g V x sx nx px Lx Fx ∧ ∀ j, k ≤ j → j < nx → Fx j = A j) → (∃ (sy : Int) (py Ly : Nat) (Fy : Nat → Int), Whl g V y sy ny py Ly Fy ∧ ∀ j, k ≤ j → j < ny → Fy j = Bs j) → mg 2147483648 F k + c * 2147483648 ^ k = mg 2147483648 A k + mg 2147483648 D k → (-1 ≤ c ∧ c ≤ 1) → Fr V0 sz0 V w p0 → DL V sz → AW g mX4_plus (d + 3) 99 [(11, .int (iZ k)), (9, .long (jZ c)), (8, .int (iZ len)), (7, .ref y), (6, .ref x), (5, .int (iZ sm)), (4, .int (iZ op)), (3, .int (iZ th)), (0, .ref w), (1, .ref u)] [] V sz Q
  | 0, k, hi, V, F, c, hW, hX, hY, hinv, hc, hfr, hD2 => by
    obtain rfl : len = k := by omega
    obtain ⟨hw, hp, hwp, hn, h4, hL, hF⟩ := id hW
    refine aw_iload dX4_plus_99 (by rfl) ?_
    refine aw_iload dX4_plus_101 (by rfl) ?_
    refine aw_icmp_geZ (tgt := 200) dX4_plus_103 (by decide) (by omega) (by omega) (fun hc_103 => ?_) (fun hc_103 => ?_)
    · refine aw_pk [8, 5, 4, 3, 0, 1] (by rfl) ?_
      exact hK V F c hW hinv hc hfr hD2
    · exact absurd hc_103 (by omega)
  | i + 1, k, hi, V, F, c, hW, hX, hY, hinv, hc, hfr, hD2 => by
    obtain ⟨hw, hp, hwp, hn, h4, hL, hF⟩ := id hW
    obtain ⟨sx, px, Lx, Fx, hWx, hFx⟩ := hX
    obtain ⟨sy, py, Ly, Fy, hWy, hFy⟩ := hY
    obtain ⟨hx1, hx2, hx3, hx4, hx5, hx6, hx7⟩ := id hWx
    obtain ⟨hy1, hy2, hy3, hy4, hy5, hy6, hy7⟩ := id hWy
    have e31 : (2 : Int) ^ 31 = 2147483648 := by decide
    have hAk := hA k
    have hBk := hBs k
    have hA1 : k < nx → Fx k = A k := fun h => hFx k (Nat.le_refl _) h
    have hA0 : nx ≤ k → 0 = A k := fun h => (hAz k h).symm
    have hB1 : k < ny → Fy k = Bs k := fun h => hFy k (Nat.le_refl _) h
    have hB0 : ny ≤ k → 0 = Bs k := fun h => (hBz k h).symm
    have hD0 : op = 0 → Bs k = D k := fun h => (hDp h k).symm
    have hD1 : ¬ op = 0 → - Bs k = D k := fun h => (hDm h k).symm
    have hDk : -2147483648 < D k ∧ D k < 2147483648 := by
      by_cases h : op = 0
      · have := hD0 h; omega
      · have := hD1 h; omega
    have hxk : k < nx → k < Lx := fun h => by omega
    have hyk : k < ny → k < Ly := fun h => by omega
    have hFxk : k < nx → 0 ≤ Fx k ∧ Fx k < 2147483648 := fun h => hx7 k (by omega)
    have hFyk : k < ny → 0 ≤ Fy k ∧ Fy k < 2147483648 := fun h => hy7 k (by omega)
    obtain ⟨hv64, hm0, hm1, hc2, hinv'⟩ := plus_arith (F := F) (A := A) (D := D) (k := k) hinv hc hAk hDk
    obtain ⟨Fx', hWx', hFx'⟩ := hWx.wr (k := k) hp hpx ⟨hm0, hm1⟩
    obtain ⟨Fy', hWy', hFy'⟩ := hWy.wr (k := k) hp hpy ⟨hm0, hm1⟩
    have IH := plus_loop g d (V0 := V0) (sz0 := sz0) (p0 := p0) (sz := sz) (w := w) (u := u) (x := x) (y := y) (p := p) (L := L) (len := len) (s := s) (op := op) (sm := sm) (th := th) hpx hpy hlen hopR hA hBs hAz hBz hDp hDm hp0 hK i (k + 1) (by omega) (hW.arr (upF_lim hF ⟨hm0, hm1⟩)) ⟨sx, px, Lx, Fx', hWx', fun j h1 h2 => by rw [hFx' j (by omega)]; exact hFx j (by omega) h2⟩ ⟨sy, py, Ly, Fy', hWy', fun j h1 h2 => by rw [hFy' j (by omega)]; exact hFy j (by omega) h2⟩ hinv' hc2 (hfr.upd hp0) (hD2.upd (hD2.lt hp))
    clear hinv hinv' hK hWx' hWy' hFx' hFy' hfr hD2
    have hop32 : R32 op := by rcases hopR with h | h <;> rw [h] <;> omega
    have J169 : AW g mX4_plus (d + 3) 169 (st2 [(11, .int (iZ k)), (9, .long (jZ c)), (8, .int (iZ len)), (7, .ref y), (6, .ref x), (5, .int (iZ sm)), (4, .int (iZ op)), (3, .int (iZ th)), (0, .ref w), (1, .ref u)] 12 (.long (jZ (Bs k)))) [.long (jZ (D k)), .long (jZ (A k)), .long (jZ c)] V sz Q := by
      refine aw_laddZ dX4_plus_169 ?_
      refine aw_laddZ dX4_plus_170 ?_
      refine aw_topl (y := c + (A k + D k)) rfl ?_
      refine aw_lstore dX4_plus_171 (by decide) ?_
      refine aw_aload_n dX4_plus_173 (by rfl) (Or.inr ⟨_, rfl⟩) ?_
      refine aw_get fX4_18 dX4_plus_174 (by assumption) (by rfl) ?_
      refine aw_iload dX4_plus_177 (by rfl) ?_
      refine aw_lload dX4_plus_179 (by rfl) ?_
      refine aw_ldc2Z (z := 2147483647) qX4_34 dX4_plus_181 (by decide) ?_
      refine aw_landM 31 dX4_plus_184 (by decide) (by decide) ?_
      refine aw_l2iZ dX4_plus_185 ?_
      refine aw_iastZ (k) dX4_plus_186 (by assumption) (by omega) (by omega) (by omega) ?_
      rw [e31]
      refine aw_lload dX4_plus_187 (by rfl) ?_
      refine aw_bipushZ dX4_plus_189 (by decide) ?_
      refine aw_lshrZ 31 dX4_plus_191 (by rfl) (by decide) hv64 ?_
      refine aw_lstore dX4_plus_192 (by decide) ?_
      rw [e31]
      refine aw_iincZ dX4_plus_194 (by rfl) (by decide) ?_
      refine aw_goto (tgt := 99) dX4_plus_197 (by decide) ?_
      refine aw_pk [11, 9, 8, 7, 6, 5, 4, 3, 0, 1] (by rfl) ?_
      rw [show ((k : Int) + 1) = ((k + 1 : Nat) : Int) by omega]
      exact IH
    have J155 : AW g mX4_plus (d + 3) 155 (st2 [(11, .int (iZ k)), (9, .long (jZ c)), (8, .int (iZ len)), (7, .ref y), (6, .ref x), (5, .int (iZ sm)), (4, .int (iZ op)), (3, .int (iZ th)), (0, .ref w), (1, .ref u)] 12 (.long (jZ (Bs k)))) [.int (iZ (A k)), .long (jZ c)] V sz Q := by
      refine aw_i2lZ dX4_plus_155 (by omega) ?_
      refine aw_iload dX4_plus_156 (by rfl) ?_
      refine aw_if_eqZ (tgt := 167) dX4_plus_158 (by decide) hop32 (fun hc_158 => ?_) (fun hc_158 => ?_)
      · refine aw_lload dX4_plus_167 (by rfl) ?_
        refine aw_topl (y := D k) (by first | exact hD0 hc_158 | exact hD1 hc_158) ?_
        exact J169
      · refine aw_lload dX4_plus_161 (by rfl) ?_
        refine aw_lnegZ dX4_plus_163 ?_
        refine aw_goto (tgt := 169) dX4_plus_164 (by decide) ?_
        refine aw_topl (y := D k) (by first | exact hD0 hc_158 | exact hD1 hc_158) ?_
        exact J169
    have J129 : AW g mX4_plus (d + 3) 129 [(11, .int (iZ k)), (9, .long (jZ c)), (8, .int (iZ len)), (7, .ref y), (6, .ref x), (5, .int (iZ sm)), (4, .int (iZ op)), (3, .int (iZ th)), (0, .ref w), (1, .ref u)] [.long (jZ (Bs k))] V sz Q := by
      refine aw_lstore dX4_plus_129 (by decide) ?_
      refine aw_lload dX4_plus_131 (by rfl) ?_
      refine aw_iload dX4_plus_133 (by rfl) ?_
      refine aw_aload dX4_plus_135 (by rfl) (Or.inr ⟨_, rfl⟩) ?_
      refine aw_get fX4_15 dX4_plus_137 (by assumption) (by rfl) ?_
      refine aw_icmp_geZ (tgt := 154) dX4_plus_140 (by decide) (by omega) (by omega) (fun hc_140 => ?_) (fun hc_140 => ?_)
      · refine aw_iconstZ dX4_plus_154 ?_
        refine aw_topi (y := A k) (by first | exact hA1 (by omega) | exact hA0 (by omega)) ?_
        exact J155
      · refine aw_aload dX4_plus_143 (by rfl) (Or.inr ⟨_, rfl⟩) ?_
        refine aw_get fX4_18 dX4_plus_145 (by assumption) (by rfl) ?_
        refine aw_iload dX4_plus_148 (by rfl) ?_
        refine aw_ialdZ (k) dX4_plus_150 (by assumption) (by omega) (by omega) (by omega) ?_
        refine aw_goto (tgt := 155) dX4_plus_151 (by decide) ?_
        refine aw_topi (y := A k) (by first | exact hA1 (by omega) | exact hA0 (by omega)) ?_
        exact J155
    refine aw_iload dX4_plus_99 (by rfl) ?_
    refine aw_iload dX4_plus_101 (by rfl) ?_
    refine aw_icmp_geZ (tgt := 200) dX4_plus_103 (by decide) (by omega) (by omega) (fun hc_103 => ?_) (fun hc_103 => ?_)
    · exact absurd hc_103 (by omega)
    · refine aw_iload dX4_plus_106 (by rfl) ?_
      refine aw_aload dX4_plus_108 (by rfl) (Or.inr ⟨_, rfl⟩) ?_
      refine aw_get fX4_15 dX4_plus_110 (by assumption) (by rfl) ?_
      refine aw_icmp_geZ (tgt := 128) dX4_plus_113 (by decide) (by omega) (by omega) (fun hc_113 => ?_) (fun hc_113 => ?_)
      · refine aw_lconstZ (z := 0) dX4_plus_128 (by decide) ?_
        refine aw_topl (y := Bs k) (by first | exact hB1 (by omega) | exact hB0 (by omega)) ?_
        exact J129
      · refine aw_aload dX4_plus_116 (by rfl) (Or.inr ⟨_, rfl⟩) ?_
        refine aw_get fX4_18 dX4_plus_118 (by assumption) (by rfl) ?_
        refine aw_iload dX4_plus_121 (by rfl) ?_
        refine aw_ialdZ (k) dX4_plus_123 (by assumption) (by omega) (by omega) (by omega) ?_
        refine aw_i2lZ dX4_plus_124 (by omega) ?_
        refine aw_goto (tgt := 129) dX4_plus_125 (by decide) ?_
        refine aw_topl (y := Bs k) (by first | exact hB1 (by omega) | exact hB0 (by omega)) ?_
        exact J129
