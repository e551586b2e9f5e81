/-! ===== the JDK's own methods that are reached ===== -/
/-- an exact end -/
def Ex (r0 : Option Value) (V0 : AH) (sz0 mc0 ms0 : Nat) : AQ := fun r V' sz' mc ms => r0 = r ∧ V0 = V' ∧ sz0 = sz' ∧ mc0 = mc ∧ ms0 = ms
theorem AHu_AHu (V : AH) (a : Nat) (e e' : va_E) : AHu (AHu V a e) a e' = AHu V a e' := by
  funext b; unfold AHu; split <;> rfl
theorem AHu_same {V : AH} {a : Nat} {e : va_E} (h : V a = some e) : AHu V a e = V := by
  funext b; unfold AHu; split
  · rename_i hb; rw [hb, h]
  · rfl
theorem AHu_comm {V : AH} {a b : Nat} {e e' : va_E} (h : a ≠ b) : AHu (AHu V a e) b e' = AHu (AHu V b e') a e := by
  funext c; unfold AHu
  by_cases h1 : c = a
  · by_cases h2 : c = b
    · exact absurd (h1.symm.trans h2) h
    · simp [h1, h]
  · by_cases h2 : c = b
    · simp [h2, Ne.symm h]
    · simp [h1, h2]
def cpF (F G : Nat → Int) (sp dp n : Nat) : Nat → Int := fun k => if dp ≤ k ∧ k < dp + n then F (sp + (k - dp)) else G k
theorem va_cpy_iZ (F G : Nat → Int) (sp dp n : Nat) : va_cpy (fun k => iZ (F k)) (fun k => iZ (G k)) sp dp n = fun k => iZ (cpF F G sp dp n k) := by
  funext k; unfold va_cpy cpF; split <;> rfl
theorem iZ_clamp {x : Int} {k : Nat} (hx : x = (k : Int)) (hk : k < 2147483648) : (iZ x).toNatClampNeg = k := by
  subst hx; rw [← nI_iZ]; exact nI_clamp (by omega)
theorem iZ_nlt {x : Int} (h0 : 0 ≤ x) (h1 : x < 2147483648) : ¬ iZ x < 0 := fun h => by
  have := (iZ_lt (show R32 x by omega) (show R32 0 by omega)).mp h
  omega
section AWCP
variable {g : GX} {M : MI} {d pc : Nat} {lv : List (Nat × Value)} {st : List Value} {V : AH} {sz : Nat} {Q : AQ}
/-- System.arraycopy of ints -/
theorem aw_copyi {idx a0 a n0 n1 : Nat} {F G : Nat → Int} {x y z : Int} (sp dp n : Nat) (hlk : Cond.methodLink M.1.cls idx arraycopyName ∈ GW) (hnt : Cond.native arraycopyName ∈ GW ∧ Cond.static arraycopyName ∈ GW ∧ Cond.initialized "java/lang/System" ∈ GW) (hd : decode M.2.1 pc = .ok (.invokestatic idx, 3)) (h0 : V a0 = some (aIz g n0 F)) (h1 : V a = some (aIz g n1 G)) (hx : x = (sp : Int)) (hy : y = (dp : Int)) (hz : z = (n : Int)) (hs : sp + n ≤ n0) (ht : dp + n ≤ n1) (hn0 : n0 < 2147483648) (hn1 : n1 < 2147483648) (hd1 : 1 ≤ d) (hst : (st.map Value.category).sum ≤ 8)
    (kk : AW g M d (pc + 3) lv st (AHu V a (aIz g n1 (cpF F G sp dp n))) sz Q) : AW g M d pc lv (.int (iZ z) :: .int (iZ y) :: .ref a :: .int (iZ x) :: .ref a0 :: st) V sz Q :=
  AW.hstep (pc1 := 0) (ps1 := 0) (AHu_dm (Or.inl (ne_of_some h1))) (fun A p e R s m args below meth c H locs cells slots ls ZQ hC hl hH hA hS _ _ kk => by
    obtain ⟨hex, hb, hml, -, -, ho, -, hts, ⟨hK, hN⟩, hfr, hlo, -⟩ := hC
    have hc0 : H[a0]? = some (vp_cell (g.2.2 0) (n0, .inl (fun k => iZ (F k)))) := hH.2 _ _ h0
    have hc1 : H[a]? = some (vp_cell (g.2.2 0) (n1, .inl (fun k => iZ (G k)))) := hH.2 _ _ h1
    have e0 := iZ_clamp hx (by omega)
    have e1 := iZ_clamp hy (by omega)
    have e2 := iZ_clamp hz (by omega)
    obtain ⟨-, k0, hk0, cm0, hkk0⟩ := (hK.2 0 _ rfl).1 n0 (fun j => .int (iZ (F j)))
    obtain ⟨-, k1, hk1, cm1, hkk1⟩ := (hK.2 0 _ rfl).1 n1 (fun j => .int (iZ (G j)))
    intro T hT X
    obtain ⟨vm', X', step⟩ := X.arraycopy hex ho (hts _ hlk) (hts _ hnt.1) (hts _ hnt.2.1) (hts _ hnt.2.2) (src := a0) (dst := a) (cs := vp_cell (g.2.2 0) (n0, .inl (fun k => iZ (F k)))) (cd := vp_cell (g.2.2 0) (n1, .inl (fun k => iZ (G k)))) (srcPos := iZ x) (destPos := iZ y) (n := iZ z) (by rw [hT]; exact hc0) (by rw [hT]; exact hc1)
      (fun _ h => by cases h) (fun _ h => by cases h) (fun h => by cases h) (fun h => by cases h) hk0 hk1 hkk0 hkk1 (by rfl) (iZ_nlt (by omega) (by omega)) (iZ_nlt (by omega) (by omega)) (iZ_nlt (by omega) (by omega))
      (by rw [iZ_toInt (show R32 x by omega), iZ_toInt (show R32 z by omega)]; show ¬ _ > ((arrV (g.2.2 0) n0 (fun j => .int (iZ (F j)))).slots.size : Int); rw [arrV_size]; omega)
      (by rw [iZ_toInt (show R32 y by omega), iZ_toInt (show R32 z by omega)]; show ¬ _ > ((arrV (g.2.2 0) n1 (fun j => .int (iZ (G j)))).slots.size : Int); rw [arrV_size]; omega)
      (fun vm₁ _ i hi => by
        rw [e2] at hi
        have e : (vp_cell (g.2.2 0) (n0, .inl (fun k => iZ (F k)))).slots.getD ((iZ x).toNatClampNeg + i) .null = .int (iZ (F (sp + i))) := by
          rw [e0]
          show (arrV (g.2.2 0) n0 (fun j => .int (iZ (F j)))).slots.getD _ _ = _
          rw [Array.getD_eq_getD_getElem?, arrV_read _ _ (by omega)]
          rfl
        rw [e]
        exact ⟨rfl, trivial⟩)
      (g := F0 m pc ls (.int (iZ z) :: .int (iZ y) :: .ref a :: .int (iZ x) :: .ref a0 :: st)) rfl (hl.1.trans hml.symm) (rest := st) rfl (by rw [hb]; exact hd) (by omega)
      (by
        have h8 : 2 * (F0 m pc ls (.int (iZ z) :: .int (iZ y) :: .ref a :: .int (iZ x) :: .ref a0 :: st)).monitorRoom + (st.map fun v => v.category).sum ≤ 8 := lv_room hst
        have h9 : nativeFrameWords "java/lang/System" "arraycopy" 5 + 11 ≤ 32 := by decide +kernel
        omega)
    have ec : copied (vp_cell (g.2.2 0) (n0, .inl (fun k => iZ (F k)))) (vp_cell (g.2.2 0) (n1, .inl (fun k => iZ (G k)))) (iZ x) (iZ y) (iZ z) = vp_cell (g.2.2 0) (n1, .inl (fun k => iZ (cpF F G sp dp n k))) := by
      have := va_copied (fun z => Value.int z) (g.2.2 0) (g.2.2 0) (fun k => iZ (F k)) (fun k => iZ (G k)) (sp := (iZ x).toNatClampNeg) (dp := (iZ y).toNatClampNeg) (n := (iZ z).toNatClampNeg) (n0 := n0) (n1 := n1) (by rw [e0, e2]; exact hs)
      refine this.trans ?_
      rw [e0, e1, e2, va_cpy_iZ]
      rfl
    rw [ec] at X' step
    have hla : a < H.size := (Array.getElem?_eq_some_iff.mp hc1).1
    have hheap : ((T.setVm vm').setCell a (vp_cell (g.2.2 0) (n1, .inl (fun k => iZ (cpF F G sp dp n k))))).heap = H.setIfInBounds a (vp_cell (g.2.2 0) (n1, .inl (fun k => iZ (cpF F G sp dp n k)))) := by rw [← hT]; rfl
    have oq : ∀ q : Nat, q ≠ a → (H.setIfInBounds a (vp_cell (g.2.2 0) (n1, .inl (fun k => iZ (cpF F G sp dp n k)))))[q]? = H[q]? := fun q hq => by simp [Array.getElem?_setIfInBounds, Ne.symm hq]
    have hAa := hA a (ne_of_some h1)
    obtain ⟨t, a1, b1⟩ := kk _ _ (hv_upd hH (show (H.setIfInBounds a _)[a]? = some _ by simp [Array.getElem?_setIfInBounds, hla]) (by simp) oq) (fun b hb => au_in hA hAa hb) ⟨by simp; exact hS.1, fun q g1 g2 => by
        rw [oq q (fun e => g2 (by rw [e]; exact hAa))]
        exact hS.2.1 q g1 g2, fun q hq => by
        rcases List.mem_append.mp hq with h | h
        · exact hS.2.2 q h
        · obtain ⟨z, -, hz⟩ := List.mem_map.mp h
          rw [← hz]
          exact hAa⟩ _ hheap X'
    exact ⟨t, step t a1, b1⟩) (q0 kk)
end AWCP
theorem cp_links : Cond.native arraycopyName ∈ GW ∧ Cond.static arraycopyName ∈ GW ∧ Cond.initialized "java/lang/System" ∈ GW := by decide +kernel
theorem cp_J7 : Cond.methodLink RJ7 150 arraycopyName ∈ GW := by decide +kernel
theorem jZ_ushrN {x : Int} (hx : x < 0) (h2 : -9223372036854775808 ≤ x) : ((jZ x).toUInt64 >>> ((iZ (63 : Int)).toInt64.toUInt64 &&& Int64.toUInt64 63)).toInt64 = jZ 1 := by
  rw [← Int64.toUInt64_and, show ((iZ (63 : Int)).toInt64 &&& 63) = jZ 63 by decide]
  apply Int64.toBitVec_inj.1
  apply BitVec.eq_of_toNat_eq
  rw [UInt64.toBitVec_toInt64, UInt64.toBitVec_shiftRight, Int64.toBitVec_toUInt64, Int64.toBitVec_toUInt64]
  have hm : ((jZ 63).toBitVec % 64) = BitVec.ofNat 64 63 := by decide
  first | rw [hm] | rw [show (jZ 63).toBitVec = BitVec.ofNat 64 63 by decide]
  rw [BitVec.ushiftRight_eq', BitVec.toNat_ushiftRight, BitVec.toNat_ofNat]
  show (BitVec.ofInt 64 x).toNat >>> (63 % 2 ^ 64) = (jZ 1).toBitVec.toNat
  rw [show (jZ 1).toBitVec.toNat = 1 by decide, BitVec.toNat_ofInt, Nat.shiftRight_eq_div_pow, show 63 % 2 ^ 64 = 63 by decide]
  have : (x % ((2 ^ 64 : Nat) : Int)).toNat = (x + 18446744073709551616).toNat := by
    congr 1
    rw [← Int.add_emod_right]
    exact Int.emod_eq_of_lt (by simp; omega) (by simp; omega)
  rw [this]
  have h3 : (2 : Nat) ^ 63 = 9223372036854775808 := by decide
  rw [h3]
  omega
abbrev mJ13_signum_95d88 : MI := (yJ13_signum_95d88, cJ13_signum_95d88, 2, (some FieldType.int), noX)
theorem dJ13_signum_95d88_0 : decode cJ13_signum_95d88 0 = .ok (.lload_n 0, 1) := by decide +kernel
theorem dJ13_signum_95d88_1 : decode cJ13_signum_95d88 1 = .ok (.bipush 63, 2) := by decide +kernel
theorem dJ13_signum_95d88_3 : decode cJ13_signum_95d88 3 = .ok (.lshr, 1) := by decide +kernel
theorem dJ13_signum_95d88_4 : decode cJ13_signum_95d88 4 = .ok (.lload_n 0, 1) := by decide +kernel
theorem dJ13_signum_95d88_5 : decode cJ13_signum_95d88 5 = .ok (.lneg, 1) := by decide +kernel
theorem dJ13_signum_95d88_6 : decode cJ13_signum_95d88 6 = .ok (.bipush 63, 2) := by decide +kernel
theorem dJ13_signum_95d88_8 : decode cJ13_signum_95d88 8 = .ok (.lushr, 1) := by decide +kernel
theorem dJ13_signum_95d88_9 : decode cJ13_signum_95d88 9 = .ok (.lor, 1) := by decide +kernel
theorem dJ13_signum_95d88_10 : decode cJ13_signum_95d88 10 = .ok (.l2i, 1) := by decide +kernel
theorem dJ13_signum_95d88_11 : decode cJ13_signum_95d88 11 = .ok (.ireturn, 1) := by decide +kernel
theorem t_signum (g : GX) (d : Nat) {x : Int} {V : AH} {sz : Nat} (hx : R64 x) (hx2 : x ≠ -9223372036854775808) : AMet g mJ13_signum_95d88 d [.long (jZ x)] V sz (Ex (some (.int (iZ x.sign))) V sz 0 0) := by
  refine AMet.of rfl rfl (Nat.le_of_ble_eq_true rfl) ?_
  show AW g mJ13_signum_95d88 d 0 [(0, .long (jZ x))] [] V sz _
  refine aw_lload_n dJ13_signum_95d88_0 (by rfl) ?_
  refine aw_bipushZ dJ13_signum_95d88_1 (by decide) ?_
  refine aw_lshrZ 63 dJ13_signum_95d88_3 (by rfl) (by decide) hx ?_
  refine aw_lload_n dJ13_signum_95d88_4 (by rfl) ?_
  refine aw_lnegZ dJ13_signum_95d88_5 ?_
  refine aw_bipushZ dJ13_signum_95d88_6 (by decide) ?_
  refine aw_lushr dJ13_signum_95d88_8 ?_
  refine aw_lor dJ13_signum_95d88_9 ?_
  refine aw_l2i dJ13_signum_95d88_10 ?_
  have key : (jZ (x / 2 ^ 63) ||| ((jZ (-x)).toUInt64 >>> ((iZ (63 : Int)).toInt64.toUInt64 &&& Int64.toUInt64 63)).toInt64).toInt32 = iZ x.sign := by
    have h63 : (2 : Int) ^ 63 = 9223372036854775808 := by decide
    rcases Int.lt_trichotomy x 0 with h | h | h
    · have hu := jZ_ushr (x := -x) (k := 63) (by omega) (by omega) (by decide)
      rw [show ((63 : Nat) : Int) = 63 from rfl] at hu
      rw [show x / 2 ^ 63 = -1 by rw [h63]; omega, hu, show -x / 2 ^ 63 = 0 by rw [h63]; omega, Int.sign_eq_neg_one_of_neg h]
      decide
    · subst h; decide
    · rw [show x / 2 ^ 63 = 0 by rw [h63]; omega, jZ_ushrN (x := -x) (by omega) (by omega), Int.sign_eq_one_of_pos h]
      decide
  rw [key]
  refine aw_iret dJ13_signum_95d88_11 rfl (by rfl) ?_
  exact ⟨rfl, rfl, rfl, rfl, rfl⟩
theorem mx_links : Cond.static Lib.Math.max.name ∈ GW ∧ Cond.initialized "java/lang/Math" ∈ GW ∧ Cond.code Lib.Math.max.name Lib.Math.max.code 2 (some .int) ∈ GW := by decide +kernel
theorem mi_links : Cond.static Lib.Math.min.name ∈ GW ∧ Cond.initialized "java/lang/Math" ∈ GW ∧ Cond.code Lib.Math.min.name Lib.Math.min.code 2 (some .int) ∈ GW := by decide +kernel
theorem ma_links : Cond.static Lib.MathLoose.abs_long.x ∈ GW ∧ Cond.initialized "java/lang/Math" ∈ GW ∧ Cond.code Lib.MathLoose.abs_long.x Lib.MathLoose.abs_long.code 2 (some .long) ∈ GW := by decide +kernel
section AWM
variable {g : GX} {M : MI} {d pc : Nat} {lv : List (Nat × Value)} {st : List Value} {V : AH} {sz : Nat} {Q : AQ}
theorem aw_max {idx : Nat} {x y : Int} (hlk : Cond.methodLink M.1.cls idx Lib.Math.max.name ∈ GW) (hd : decode M.2.1 pc = .ok (.invokestatic idx, 3)) (hx : R32 x) (hy : R32 y) (h1 : 1 ≤ d) (hst : (st.map Value.category).sum ≤ 8) (k : AW g M d (pc + 3) lv (.int (iZ (max x y)) :: st) V sz Q) : AW g M d pc lv (.int (iZ y) :: .int (iZ x) :: st) V sz Q :=
  AW.hstep (pc1 := 0) (ps1 := 0) Dm.rf (fun A p e R s m args below meth c H locs cells slots ls ZQ hC hl hH hA hS c1 c2 kk => by
    obtain ⟨hex, hb, hml, -, -, ho, -, hts, hKK, hfr, hlo, -⟩ := hC
    have hst' : (st.map fun v => v.category).sum ≤ 8 := hst
    refine va_mmax hex hb (hml.trans hl.1.symm) ho (hts _ hlk) (hts _ mx_links.1) (hts _ mx_links.2.1) (hts _ mx_links.2.2) (by omega) (by omega) (by omega) (by omega) hd ?_
    have e : (if iZ x < iZ y then iZ y else iZ x) = iZ (max x y) := by
      simp only [iZ_lt hx hy]
      split <;> (congr 1; omega)
    rw [e]
    exact kk H locs hH hA hS) (q0 k)
theorem aw_min {idx : Nat} {x y : Int} (hlk : Cond.methodLink M.1.cls idx Lib.Math.min.name ∈ GW) (hd : decode M.2.1 pc = .ok (.invokestatic idx, 3)) (hx : R32 x) (hy : R32 y) (h1 : 1 ≤ d) (hst : (st.map Value.category).sum ≤ 8) (k : AW g M d (pc + 3) lv (.int (iZ (min x y)) :: st) V sz Q) : AW g M d pc lv (.int (iZ y) :: .int (iZ x) :: st) V sz Q :=
  AW.hstep (pc1 := 0) (ps1 := 0) Dm.rf (fun A p e R s m args below meth c H locs cells slots ls ZQ hC hl hH hA hS c1 c2 kk => by
    obtain ⟨hex, hb, hml, -, -, ho, -, hts, hKK, hfr, hlo, -⟩ := hC
    have hst' : (st.map fun v => v.category).sum ≤ 8 := hst
    refine va_mmin hex hb (hml.trans hl.1.symm) ho (hts _ hlk) (hts _ mi_links.1) (hts _ mi_links.2.1) (hts _ mi_links.2.2) (by omega) (by omega) (by omega) (by omega) hd ?_
    have e : (if iZ y < iZ x then iZ y else iZ x) = iZ (min x y) := by
      simp only [iZ_lt hy hx]
      split <;> (congr 1; omega)
    rw [e]
    exact kk H locs hH hA hS) (q0 k)
theorem aw_absl {idx : Nat} {x : Int} (hlk : Cond.methodLink M.1.cls idx Lib.MathLoose.abs_long.x ∈ GW) (hd : decode M.2.1 pc = .ok (.invokestatic idx, 3)) (hx : R64 x) (h1 : 1 ≤ d) (hst : (st.map Value.category).sum ≤ 8) (k : AW g M d (pc + 3) lv (.long (jZ (x.natAbs : Int)) :: st) V sz Q) : AW g M d pc lv (.long (jZ x) :: st) V sz Q :=
  AW.hstep (pc1 := 0) (ps1 := 0) Dm.rf (fun A p e R s m args below meth c H locs cells slots ls ZQ hC hl hH hA hS c1 c2 kk => by
    obtain ⟨hex, hb, hml, -, -, ho, -, hts, hKK, hfr, hlo, -⟩ := hC
    have hst' : (st.map fun v => v.category).sum ≤ 8 := hst
    refine va_mabs_long hex hb (hml.trans hl.1.symm) ho (hts _ hlk) (hts _ ma_links.1) (hts _ ma_links.2.1) (hts _ ma_links.2.2) (by omega) (by omega) (by omega) (by omega) hd ?_
    have e : (if 0 < jZ x then jZ x else -(jZ x)) = jZ (x.natAbs : Int) := by
      have h0 : (0 < jZ x) ↔ 0 < x := jZ_lt (a := 0) (by omega) hx
      simp only [h0, jZ_neg]
      split <;> (congr 1; omega)
    rw [e]
    exact kk H locs hH hA hS) (q0 k)
end AWM
abbrev mJ7_copyOf_59c91 : MI := (yJ7_copyOf_59c91, cJ7_copyOf_59c91, 3, (some (FieldType.array FieldType.int)), noX)
theorem dJ7_copyOf_59c91_0 : decode cJ7_copyOf_59c91 0 = .ok (.iload_n 1, 1) := by decide +kernel
theorem dJ7_copyOf_59c91_1 : decode cJ7_copyOf_59c91 1 = .ok (.aload_n 0, 1) := by decide +kernel
theorem dJ7_copyOf_59c91_2 : decode cJ7_copyOf_59c91 2 = .ok (.arraylength, 1) := by decide +kernel
theorem dJ7_copyOf_59c91_3 : decode cJ7_copyOf_59c91 3 = .ok (.if_icmp .ne 11, 3) := by decide +kernel
theorem dJ7_copyOf_59c91_6 : decode cJ7_copyOf_59c91 6 = .ok (.aload_n 0, 1) := by decide +kernel
theorem dJ7_copyOf_59c91_7 : decode cJ7_copyOf_59c91 7 = .ok (.invokevirtual 316, 3) := by decide +kernel
theorem dJ7_copyOf_59c91_10 : decode cJ7_copyOf_59c91 10 = .ok (.checkcast 317, 3) := by decide +kernel
theorem dJ7_copyOf_59c91_13 : decode cJ7_copyOf_59c91 13 = .ok (.areturn, 1) := by decide +kernel
theorem dJ7_copyOf_59c91_14 : decode cJ7_copyOf_59c91 14 = .ok (.iload_n 1, 1) := by decide +kernel
theorem dJ7_copyOf_59c91_15 : decode cJ7_copyOf_59c91 15 = .ok (.newarray .int, 2) := by decide +kernel
theorem dJ7_copyOf_59c91_17 : decode cJ7_copyOf_59c91 17 = .ok (.astore_n 2, 1) := by decide +kernel
theorem dJ7_copyOf_59c91_18 : decode cJ7_copyOf_59c91 18 = .ok (.aload_n 0, 1) := by decide +kernel
theorem dJ7_copyOf_59c91_19 : decode cJ7_copyOf_59c91 19 = .ok (.iconst 0, 1) := by decide +kernel
theorem dJ7_copyOf_59c91_20 : decode cJ7_copyOf_59c91 20 = .ok (.aload_n 2, 1) := by decide +kernel
theorem dJ7_copyOf_59c91_21 : decode cJ7_copyOf_59c91 21 = .ok (.iconst 0, 1) := by decide +kernel
theorem dJ7_copyOf_59c91_22 : decode cJ7_copyOf_59c91 22 = .ok (.aload_n 0, 1) := by decide +kernel
theorem dJ7_copyOf_59c91_23 : decode cJ7_copyOf_59c91 23 = .ok (.arraylength, 1) := by decide +kernel
theorem dJ7_copyOf_59c91_24 : decode cJ7_copyOf_59c91 24 = .ok (.iload_n 1, 1) := by decide +kernel
theorem dJ7_copyOf_59c91_25 : decode cJ7_copyOf_59c91 25 = .ok (.invokestatic 304, 3) := by decide +kernel
theorem dJ7_copyOf_59c91_28 : decode cJ7_copyOf_59c91 28 = .ok (.invokestatic 150, 3) := by decide +kernel
theorem dJ7_copyOf_59c91_31 : decode cJ7_copyOf_59c91 31 = .ok (.aload_n 2, 1) := by decide +kernel
theorem dJ7_copyOf_59c91_32 : decode cJ7_copyOf_59c91 32 = .ok (.areturn, 1) := by decide +kernel
theorem t_copyOf (g : GX) (d : Nat) {p L len : Nat} {F : Nat → Int} {V : AH} {sz : Nat} (hp : V p = some (aIz g L F)) (hps : p ≠ sz) (hL : L < len) (hl : len ≤ 1000000) : AMet g mJ7_copyOf_59c91 (d + 1) [.ref p, .int (iZ len)] V sz (Ex (some (.ref sz)) (AHu V sz (aIz g len (fun k => if k < L then F k else 0))) (sz + 1) 1 len) := by
  refine AMet.of rfl rfl (Nat.le_of_ble_eq_true rfl) ?_
  show AW g mJ7_copyOf_59c91 (d + 1) 0 [(0, .ref p), (1, .int (iZ len))] [] V sz _
  refine aw_iload_n dJ7_copyOf_59c91_0 (by rfl) ?_
  refine aw_aload_n dJ7_copyOf_59c91_1 (by rfl) (Or.inr ⟨_, rfl⟩) ?_
  refine aw_alenZ (t0 := 0) (by rfl) dJ7_copyOf_59c91_2 (by assumption) ?_
  refine aw_icmp_neZ (tgt := 14) dJ7_copyOf_59c91_3 (by decide) (by omega) (by omega) (fun hc_3 => ?_) (fun hc_3 => ?_)
  · refine aw_iload_n dJ7_copyOf_59c91_14 (by rfl) ?_
    refine aw_newI (N := len) dJ7_copyOf_59c91_15 (iZ_nlt (by omega) (by omega)) (iZ_clamp rfl (by omega)) (by omega) ?_
    have hs := AHu_self V sz (aI g len (fun _ => 0))
    have hs : (AHu V sz (aIz g len (fun _ => 0))) sz = some (aIz g len (fun _ => 0)) := hs
    have hp1 : (AHu V sz (aIz g len (fun _ => 0))) p = some (aIz g L F) := by rw [AHu_ne hps]; exact hp
    show AW g mJ7_copyOf_59c91 (d + 1) _ _ _ (AHu V sz (aIz g len (fun _ => 0))) _ _
    refine aw_astore_n dJ7_copyOf_59c91_17 (by decide) (Or.inr ⟨_, rfl⟩) ?_
    refine aw_aload_n dJ7_copyOf_59c91_18 (by rfl) (Or.inr ⟨_, rfl⟩) ?_
    refine aw_iconstZ dJ7_copyOf_59c91_19 ?_
    refine aw_aload_n dJ7_copyOf_59c91_20 (by rfl) (Or.inr ⟨_, rfl⟩) ?_
    refine aw_iconstZ dJ7_copyOf_59c91_21 ?_
    refine aw_aload_n dJ7_copyOf_59c91_22 (by rfl) (Or.inr ⟨_, rfl⟩) ?_
    refine aw_alenZ (t0 := 0) (by rfl) dJ7_copyOf_59c91_23 (by assumption) ?_
    refine aw_iload_n dJ7_copyOf_59c91_24 (by rfl) ?_
    refine aw_min sJ7_304.2.2 dJ7_copyOf_59c91_25 (by omega) (by omega) (by omega) (Nat.le_of_ble_eq_true rfl) ?_
    rw [show min (L : Int) (len : Int) = (L : Int) by omega]
    refine aw_copyi 0 0 L cp_J7 cp_links dJ7_copyOf_59c91_28 hp1 hs rfl rfl rfl (by omega) (by omega) (by omega) (by omega) (by omega) (Nat.le_of_ble_eq_true rfl) ?_
    refine aw_aload_n dJ7_copyOf_59c91_31 (by rfl) (Or.inr ⟨_, rfl⟩) ?_
    refine aw_aret dJ7_copyOf_59c91_32 rfl (Or.inr ⟨_, rfl⟩) (Or.inr ⟨_, rfl⟩) ?_
    refine ⟨rfl, ?_, rfl, rfl, by omega⟩
    rw [AHu_AHu]
    congr 3
    funext k
    unfold cpF
    by_cases hk : k < L
    · simp [hk]
    · simp [hk]
  · exact absurd hc_3 (by omega)
