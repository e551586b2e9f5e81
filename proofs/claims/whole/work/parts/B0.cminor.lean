/-! ===== Integer.bitCount; the class: minorWithout ===== -/
abbrev ushI (x y : Int32) : Int32 := (x.toUInt32 >>> (y.toUInt32 &&& Int32.toUInt32 31)).toInt32
abbrev bcI1 (x : Int32) : Int32 := x - (ushI x (iZ 1) &&& iZ 1431655765)
abbrev bcI2 (x : Int32) : Int32 := (x &&& iZ 858993459) + (ushI x (iZ 2) &&& iZ 858993459)
abbrev bcI3 (x : Int32) : Int32 := (x + ushI x (iZ 4)) &&& iZ 252645135
abbrev bcI4 (x : Int32) : Int32 := x + ushI x (iZ 8)
abbrev bcI5 (x : Int32) : Int32 := x + ushI x (iZ 16)
theorem bcI : ∀ s : Fin 32, (bcI5 (bcI4 (bcI3 (bcI2 (bcI1 (iZ ((s : Nat) : Int)))))) &&& iZ 63) = iZ ((rkb s 5 : Nat) : Int) := by decide +kernel
abbrev mJ6_bitCount_0f7a4 : MI := (yJ6_bitCount_0f7a4, cJ6_bitCount_0f7a4, 1, (some FieldType.int), noX)
theorem dJ6_bitCount_0f7a4_0 : decode cJ6_bitCount_0f7a4 0 = .ok (.iload_n 0, 1) := by decide +kernel
theorem dJ6_bitCount_0f7a4_1 : decode cJ6_bitCount_0f7a4 1 = .ok (.iload_n 0, 1) := by decide +kernel
theorem dJ6_bitCount_0f7a4_2 : decode cJ6_bitCount_0f7a4 2 = .ok (.iconst 1, 1) := by decide +kernel
theorem dJ6_bitCount_0f7a4_3 : decode cJ6_bitCount_0f7a4 3 = .ok (.iushr, 1) := by decide +kernel
theorem dJ6_bitCount_0f7a4_4 : decode cJ6_bitCount_0f7a4 4 = .ok (.ldc_w 265, 3) := by decide +kernel
theorem dJ6_bitCount_0f7a4_7 : decode cJ6_bitCount_0f7a4 7 = .ok (.iand, 1) := by decide +kernel
theorem dJ6_bitCount_0f7a4_8 : decode cJ6_bitCount_0f7a4 8 = .ok (.isub, 1) := by decide +kernel
theorem dJ6_bitCount_0f7a4_9 : decode cJ6_bitCount_0f7a4 9 = .ok (.istore_n 0, 1) := by decide +kernel
theorem dJ6_bitCount_0f7a4_10 : decode cJ6_bitCount_0f7a4 10 = .ok (.iload_n 0, 1) := by decide +kernel
theorem dJ6_bitCount_0f7a4_11 : decode cJ6_bitCount_0f7a4 11 = .ok (.ldc_w 266, 3) := by decide +kernel
theorem dJ6_bitCount_0f7a4_14 : decode cJ6_bitCount_0f7a4 14 = .ok (.iand, 1) := by decide +kernel
theorem dJ6_bitCount_0f7a4_15 : decode cJ6_bitCount_0f7a4 15 = .ok (.iload_n 0, 1) := by decide +kernel
theorem dJ6_bitCount_0f7a4_16 : decode cJ6_bitCount_0f7a4 16 = .ok (.iconst 2, 1) := by decide +kernel
theorem dJ6_bitCount_0f7a4_17 : decode cJ6_bitCount_0f7a4 17 = .ok (.iushr, 1) := by decide +kernel
theorem dJ6_bitCount_0f7a4_18 : decode cJ6_bitCount_0f7a4 18 = .ok (.ldc_w 266, 3) := by decide +kernel
theorem dJ6_bitCount_0f7a4_21 : decode cJ6_bitCount_0f7a4 21 = .ok (.iand, 1) := by decide +kernel
theorem dJ6_bitCount_0f7a4_22 : decode cJ6_bitCount_0f7a4 22 = .ok (.iadd, 1) := by decide +kernel
theorem dJ6_bitCount_0f7a4_23 : decode cJ6_bitCount_0f7a4 23 = .ok (.istore_n 0, 1) := by decide +kernel
theorem dJ6_bitCount_0f7a4_24 : decode cJ6_bitCount_0f7a4 24 = .ok (.iload_n 0, 1) := by decide +kernel
theorem dJ6_bitCount_0f7a4_25 : decode cJ6_bitCount_0f7a4 25 = .ok (.iload_n 0, 1) := by decide +kernel
theorem dJ6_bitCount_0f7a4_26 : decode cJ6_bitCount_0f7a4 26 = .ok (.iconst 4, 1) := by decide +kernel
theorem dJ6_bitCount_0f7a4_27 : decode cJ6_bitCount_0f7a4 27 = .ok (.iushr, 1) := by decide +kernel
theorem dJ6_bitCount_0f7a4_28 : decode cJ6_bitCount_0f7a4 28 = .ok (.iadd, 1) := by decide +kernel
theorem dJ6_bitCount_0f7a4_29 : decode cJ6_bitCount_0f7a4 29 = .ok (.ldc_w 267, 3) := by decide +kernel
theorem dJ6_bitCount_0f7a4_32 : decode cJ6_bitCount_0f7a4 32 = .ok (.iand, 1) := by decide +kernel
theorem dJ6_bitCount_0f7a4_33 : decode cJ6_bitCount_0f7a4 33 = .ok (.istore_n 0, 1) := by decide +kernel
theorem dJ6_bitCount_0f7a4_34 : decode cJ6_bitCount_0f7a4 34 = .ok (.iload_n 0, 1) := by decide +kernel
theorem dJ6_bitCount_0f7a4_35 : decode cJ6_bitCount_0f7a4 35 = .ok (.iload_n 0, 1) := by decide +kernel
theorem dJ6_bitCount_0f7a4_36 : decode cJ6_bitCount_0f7a4 36 = .ok (.bipush 8, 2) := by decide +kernel
theorem dJ6_bitCount_0f7a4_38 : decode cJ6_bitCount_0f7a4 38 = .ok (.iushr, 1) := by decide +kernel
theorem dJ6_bitCount_0f7a4_39 : decode cJ6_bitCount_0f7a4 39 = .ok (.iadd, 1) := by decide +kernel
theorem dJ6_bitCount_0f7a4_40 : decode cJ6_bitCount_0f7a4 40 = .ok (.istore_n 0, 1) := by decide +kernel
theorem dJ6_bitCount_0f7a4_41 : decode cJ6_bitCount_0f7a4 41 = .ok (.iload_n 0, 1) := by decide +kernel
theorem dJ6_bitCount_0f7a4_42 : decode cJ6_bitCount_0f7a4 42 = .ok (.iload_n 0, 1) := by decide +kernel
theorem dJ6_bitCount_0f7a4_43 : decode cJ6_bitCount_0f7a4 43 = .ok (.bipush 16, 2) := by decide +kernel
theorem dJ6_bitCount_0f7a4_45 : decode cJ6_bitCount_0f7a4 45 = .ok (.iushr, 1) := by decide +kernel
theorem dJ6_bitCount_0f7a4_46 : decode cJ6_bitCount_0f7a4 46 = .ok (.iadd, 1) := by decide +kernel
theorem dJ6_bitCount_0f7a4_47 : decode cJ6_bitCount_0f7a4 47 = .ok (.istore_n 0, 1) := by decide +kernel
theorem dJ6_bitCount_0f7a4_48 : decode cJ6_bitCount_0f7a4 48 = .ok (.iload_n 0, 1) := by decide +kernel
theorem dJ6_bitCount_0f7a4_49 : decode cJ6_bitCount_0f7a4 49 = .ok (.bipush 63, 2) := by decide +kernel
theorem dJ6_bitCount_0f7a4_51 : decode cJ6_bitCount_0f7a4 51 = .ok (.iand, 1) := by decide +kernel
theorem dJ6_bitCount_0f7a4_52 : decode cJ6_bitCount_0f7a4 52 = .ok (.ireturn, 1) := by decide +kernel
set_option maxRecDepth 20000 in
theorem t_bitCount (g : GX) (d : Nat) {V : AH} {sz s : Nat} (hs : s < 32) : AMet g mJ6_bitCount_0f7a4 d [.int (iZ (s : Int))] V sz (Ex (some (.int (iZ ((rkb s 5 : Nat) : Int)))) V sz 0 0) := by
  refine AMet.of rfl rfl (Nat.le_of_ble_eq_true rfl) ?_
  show AW g mJ6_bitCount_0f7a4 d 0 [(0, .int (iZ (s : Int)))] [] V sz _
  refine aw_iload_n dJ6_bitCount_0f7a4_0 (by rfl) ?_
  refine aw_iload_n dJ6_bitCount_0f7a4_1 (by rfl) ?_
  refine aw_iconstZ dJ6_bitCount_0f7a4_2 ?_
  refine aw_iushr dJ6_bitCount_0f7a4_3 ?_
  refine aw_ldcwZ (z := 1431655765) qJ6_265 dJ6_bitCount_0f7a4_4 (by decide) ?_
  refine aw_iand dJ6_bitCount_0f7a4_7 ?_
  refine aw_isub dJ6_bitCount_0f7a4_8 ?_
  refine aw_istore_n dJ6_bitCount_0f7a4_9 (by decide) ?_
  refine aw_iload_n dJ6_bitCount_0f7a4_10 (by rfl) ?_
  refine aw_ldcwZ (z := 858993459) qJ6_266 dJ6_bitCount_0f7a4_11 (by decide) ?_
  refine aw_iand dJ6_bitCount_0f7a4_14 ?_
  refine aw_iload_n dJ6_bitCount_0f7a4_15 (by rfl) ?_
  refine aw_iconstZ dJ6_bitCount_0f7a4_16 ?_
  refine aw_iushr dJ6_bitCount_0f7a4_17 ?_
  refine aw_ldcwZ (z := 858993459) qJ6_266 dJ6_bitCount_0f7a4_18 (by decide) ?_
  refine aw_iand dJ6_bitCount_0f7a4_21 ?_
  refine aw_iadd dJ6_bitCount_0f7a4_22 ?_
  refine aw_istore_n dJ6_bitCount_0f7a4_23 (by decide) ?_
  refine aw_iload_n dJ6_bitCount_0f7a4_24 (by rfl) ?_
  refine aw_iload_n dJ6_bitCount_0f7a4_25 (by rfl) ?_
  refine aw_iconstZ dJ6_bitCount_0f7a4_26 ?_
  refine aw_iushr dJ6_bitCount_0f7a4_27 ?_
  refine aw_iadd dJ6_bitCount_0f7a4_28 ?_
  refine aw_ldcwZ (z := 252645135) qJ6_267 dJ6_bitCount_0f7a4_29 (by decide) ?_
  refine aw_iand dJ6_bitCount_0f7a4_32 ?_
  refine aw_istore_n dJ6_bitCount_0f7a4_33 (by decide) ?_
  refine aw_iload_n dJ6_bitCount_0f7a4_34 (by rfl) ?_
  refine aw_iload_n dJ6_bitCount_0f7a4_35 (by rfl) ?_
  refine aw_bipushZ dJ6_bitCount_0f7a4_36 (by decide) ?_
  refine aw_iushr dJ6_bitCount_0f7a4_38 ?_
  refine aw_iadd dJ6_bitCount_0f7a4_39 ?_
  refine aw_istore_n dJ6_bitCount_0f7a4_40 (by decide) ?_
  refine aw_iload_n dJ6_bitCount_0f7a4_41 (by rfl) ?_
  refine aw_iload_n dJ6_bitCount_0f7a4_42 (by rfl) ?_
  refine aw_bipushZ dJ6_bitCount_0f7a4_43 (by decide) ?_
  refine aw_iushr dJ6_bitCount_0f7a4_45 ?_
  refine aw_iadd dJ6_bitCount_0f7a4_46 ?_
  refine aw_istore_n dJ6_bitCount_0f7a4_47 (by decide) ?_
  refine aw_iload_n dJ6_bitCount_0f7a4_48 (by rfl) ?_
  refine aw_bipushZ dJ6_bitCount_0f7a4_49 (by decide) ?_
  refine aw_iand dJ6_bitCount_0f7a4_51 ?_
  refine aw_iret dJ6_bitCount_0f7a4_52 rfl (by rfl) ?_
  exact ⟨congrArg (fun x => some (Value.int x)) (bcI ⟨s, hs⟩).symm, rfl, rfl, rfl, rfl⟩
theorem bt9 : ∀ s : Fin 32, ∀ j : Fin 5, ((s : Nat) / 2 ^ (j : Nat) % 2 * 2 ^ (j : Nat) = 0 ↔ (s : Nat) / 2 ^ (j : Nat) % 2 = 0) ∧ (s : Nat) / 2 ^ (j : Nat) % 2 * 2 ^ (j : Nat) < 32 := by decide +kernel
theorem bt10 : ∀ n : Fin 6, ∀ o : Fin 32, (2 ^ (n : Nat) - 1) &&& (o : Nat) = o → (2 ^ (n : Nat) - 1 - (o : Nat)) &&& (o : Nat) = 0 ∧ 2 ^ (n : Nat) - 1 - (o : Nat) < 2 ^ (n : Nat) := by decide +kernel
theorem i32_fin : ∀ n : Fin 6, ∀ o : Fin 32, (2 ^ (n : Nat) - 1) &&& (o : Nat) = o → (iZ ((2 : Int) ^ (n : Nat) - 1) &&& (iZ ((o : Nat) : Int) ^^^ iZ (-1 : Int))) = iZ ((2 ^ (n : Nat) - 1 - (o : Nat) : Nat) : Int) := by decide +kernel
theorem bt11 : ∀ s o : Fin 32, (s : Nat) &&& (o : Nat) < 32 := by decide +kernel
theorem pw6 : ∀ n : Fin 6, 1 ≤ 2 ^ (n : Nat) ∧ 2 ^ (n : Nat) ≤ 32 := by decide +kernel
/-- which row and column are left out -/
def MwP (w : Nat) (row : Int) (oN : Nat) (rr : Nat → Nat) : Prop := (row = -1 ∧ oN = 0 ∧ rr = fun a => a) ∨ ∃ r c : Nat, r < w ∧ c < w ∧ row = (r : Int) ∧ oN = 2 ^ c ∧ rr = sk r
theorem MwP.lt {w oN s : Nat} {row : Int} {rr : Nat → Nat} (h : MwP w row oN rr) (hw : w ≤ 5) (h0 : 0 < s) (hs : s < 2 ^ w) (hs32 : s < 32) (ho : s &&& oN = 0) : rr (rkb s 5 - 1) < w := by
  have h1 : 0 < rkb s 5 := bt3 ⟨s, hs32⟩ h0
  rcases h with ⟨-, -, rfl⟩ | ⟨r, c, hr, hc, -, rfl, rfl⟩
  · have h2 : rkb s 5 ≤ w := (bt6 ⟨s, hs32⟩ ⟨w, by omega⟩ hs).1
    show rkb s 5 - 1 < w
    omega
  · have h2 : rkb s 5 ≤ w - 1 := bt7 ⟨s, hs32⟩ ⟨w, by omega⟩ ⟨c, by omega⟩ hc hs ho
    unfold sk
    split <;> omega
/-- what the machine adds up -/
def mwG (N F : Nat → Int) (s i : Nat) : Nat → Int := fun j => if s / 2 ^ j % 2 = 1 then sgI (rkb s 5 - 1 - rkb s j) * N (5 * i + j) * F (s - 2 ^ j) else 0
abbrev mX5_minorWithout : MI := (yX5_minorWithout, cX5_minorWithout, 14, (some FieldType.long), noX)
theorem dX5_minorWithout_0 : decode cX5_minorWithout 0 = .ok (.aload_n 1, 1) := by decide +kernel
theorem dX5_minorWithout_1 : decode cX5_minorWithout 1 = .ok (.getfield 79, 3) := by decide +kernel
theorem dX5_minorWithout_4 : decode cX5_minorWithout 4 = .ok (.istore 4, 2) := by decide +kernel
theorem dX5_minorWithout_6 : decode cX5_minorWithout 6 = .ok (.iload_n 3, 1) := by decide +kernel
theorem dX5_minorWithout_7 : decode cX5_minorWithout 7 = .ok (.ifCond .ge 7, 3) := by decide +kernel
theorem dX5_minorWithout_10 : decode cX5_minorWithout 10 = .ok (.iconst 0, 1) := by decide +kernel
theorem dX5_minorWithout_11 : decode cX5_minorWithout 11 = .ok (.goto 6, 3) := by decide +kernel
theorem dX5_minorWithout_14 : decode cX5_minorWithout 14 = .ok (.iconst 1, 1) := by decide +kernel
theorem dX5_minorWithout_15 : decode cX5_minorWithout 15 = .ok (.iload_n 3, 1) := by decide +kernel
theorem dX5_minorWithout_16 : decode cX5_minorWithout 16 = .ok (.ishl, 1) := by decide +kernel
theorem dX5_minorWithout_17 : decode cX5_minorWithout 17 = .ok (.istore 5, 2) := by decide +kernel
theorem dX5_minorWithout_19 : decode cX5_minorWithout 19 = .ok (.aload_n 0, 1) := by decide +kernel
theorem dX5_minorWithout_20 : decode cX5_minorWithout 20 = .ok (.getfield 60, 3) := by decide +kernel
theorem dX5_minorWithout_23 : decode cX5_minorWithout 23 = .ok (.iconst 0, 1) := by decide +kernel
theorem dX5_minorWithout_24 : decode cX5_minorWithout 24 = .ok (.lconst 1, 1) := by decide +kernel
theorem dX5_minorWithout_25 : decode cX5_minorWithout 25 = .ok (.lastore, 1) := by decide +kernel
theorem dX5_minorWithout_26 : decode cX5_minorWithout 26 = .ok (.iconst 1, 1) := by decide +kernel
theorem dX5_minorWithout_27 : decode cX5_minorWithout 27 = .ok (.istore 6, 2) := by decide +kernel
theorem dX5_minorWithout_29 : decode cX5_minorWithout 29 = .ok (.iload 6, 2) := by decide +kernel
theorem dX5_minorWithout_31 : decode cX5_minorWithout 31 = .ok (.iconst 1, 1) := by decide +kernel
theorem dX5_minorWithout_32 : decode cX5_minorWithout 32 = .ok (.iload 4, 2) := by decide +kernel
theorem dX5_minorWithout_34 : decode cX5_minorWithout 34 = .ok (.ishl, 1) := by decide +kernel
theorem dX5_minorWithout_35 : decode cX5_minorWithout 35 = .ok (.if_icmp .ge 151, 3) := by decide +kernel
theorem dX5_minorWithout_38 : decode cX5_minorWithout 38 = .ok (.iload 6, 2) := by decide +kernel
theorem dX5_minorWithout_40 : decode cX5_minorWithout 40 = .ok (.iload 5, 2) := by decide +kernel
theorem dX5_minorWithout_42 : decode cX5_minorWithout 42 = .ok (.iand, 1) := by decide +kernel
theorem dX5_minorWithout_43 : decode cX5_minorWithout 43 = .ok (.ifCond .eq 6, 3) := by decide +kernel
theorem dX5_minorWithout_46 : decode cX5_minorWithout 46 = .ok (.goto 134, 3) := by decide +kernel
theorem dX5_minorWithout_49 : decode cX5_minorWithout 49 = .ok (.iload 6, 2) := by decide +kernel
theorem dX5_minorWithout_51 : decode cX5_minorWithout 51 = .ok (.invokestatic 251, 3) := by decide +kernel
theorem dX5_minorWithout_54 : decode cX5_minorWithout 54 = .ok (.iconst 1, 1) := by decide +kernel
theorem dX5_minorWithout_55 : decode cX5_minorWithout 55 = .ok (.isub, 1) := by decide +kernel
theorem dX5_minorWithout_56 : decode cX5_minorWithout 56 = .ok (.istore 7, 2) := by decide +kernel
theorem dX5_minorWithout_58 : decode cX5_minorWithout 58 = .ok (.iload_n 2, 1) := by decide +kernel
theorem dX5_minorWithout_59 : decode cX5_minorWithout 59 = .ok (.ifCond .lt 16, 3) := by decide +kernel
theorem dX5_minorWithout_62 : decode cX5_minorWithout 62 = .ok (.iload 7, 2) := by decide +kernel
theorem dX5_minorWithout_64 : decode cX5_minorWithout 64 = .ok (.iload_n 2, 1) := by decide +kernel
theorem dX5_minorWithout_65 : decode cX5_minorWithout 65 = .ok (.if_icmp .lt 10, 3) := by decide +kernel
theorem dX5_minorWithout_68 : decode cX5_minorWithout 68 = .ok (.iload 7, 2) := by decide +kernel
theorem dX5_minorWithout_70 : decode cX5_minorWithout 70 = .ok (.iconst 1, 1) := by decide +kernel
theorem dX5_minorWithout_71 : decode cX5_minorWithout 71 = .ok (.iadd, 1) := by decide +kernel
theorem dX5_minorWithout_72 : decode cX5_minorWithout 72 = .ok (.goto 5, 3) := by decide +kernel
theorem dX5_minorWithout_75 : decode cX5_minorWithout 75 = .ok (.iload 7, 2) := by decide +kernel
theorem dX5_minorWithout_77 : decode cX5_minorWithout 77 = .ok (.istore 8, 2) := by decide +kernel
theorem dX5_minorWithout_79 : decode cX5_minorWithout 79 = .ok (.lconst 0, 1) := by decide +kernel
theorem dX5_minorWithout_80 : decode cX5_minorWithout 80 = .ok (.lstore 9, 2) := by decide +kernel
theorem dX5_minorWithout_82 : decode cX5_minorWithout 82 = .ok (.iconst 0, 1) := by decide +kernel
theorem dX5_minorWithout_83 : decode cX5_minorWithout 83 = .ok (.istore 11, 2) := by decide +kernel
theorem dX5_minorWithout_85 : decode cX5_minorWithout 85 = .ok (.iload 11, 2) := by decide +kernel
theorem dX5_minorWithout_87 : decode cX5_minorWithout 87 = .ok (.iload 4, 2) := by decide +kernel
theorem dX5_minorWithout_89 : decode cX5_minorWithout 89 = .ok (.if_icmp .ge 82, 3) := by decide +kernel
theorem dX5_minorWithout_92 : decode cX5_minorWithout 92 = .ok (.iload 8, 2) := by decide +kernel
theorem dX5_minorWithout_94 : decode cX5_minorWithout 94 = .ok (.iload 4, 2) := by decide +kernel
theorem dX5_minorWithout_96 : decode cX5_minorWithout 96 = .ok (.if_icmp .ge 75, 3) := by decide +kernel
theorem dX5_minorWithout_99 : decode cX5_minorWithout 99 = .ok (.iload 6, 2) := by decide +kernel
theorem dX5_minorWithout_101 : decode cX5_minorWithout 101 = .ok (.iconst 1, 1) := by decide +kernel
theorem dX5_minorWithout_102 : decode cX5_minorWithout 102 = .ok (.iload 11, 2) := by decide +kernel
theorem dX5_minorWithout_104 : decode cX5_minorWithout 104 = .ok (.ishl, 1) := by decide +kernel
theorem dX5_minorWithout_105 : decode cX5_minorWithout 105 = .ok (.iand, 1) := by decide +kernel
theorem dX5_minorWithout_106 : decode cX5_minorWithout 106 = .ok (.ifCond .eq 59, 3) := by decide +kernel
theorem dX5_minorWithout_109 : decode cX5_minorWithout 109 = .ok (.aload_n 1, 1) := by decide +kernel
theorem dX5_minorWithout_110 : decode cX5_minorWithout 110 = .ok (.getfield 86, 3) := by decide +kernel
theorem dX5_minorWithout_113 : decode cX5_minorWithout 113 = .ok (.iload 8, 2) := by decide +kernel
theorem dX5_minorWithout_115 : decode cX5_minorWithout 115 = .ok (.iconst 5, 1) := by decide +kernel
theorem dX5_minorWithout_116 : decode cX5_minorWithout 116 = .ok (.imul, 1) := by decide +kernel
theorem dX5_minorWithout_117 : decode cX5_minorWithout 117 = .ok (.iload 11, 2) := by decide +kernel
theorem dX5_minorWithout_119 : decode cX5_minorWithout 119 = .ok (.iadd, 1) := by decide +kernel
theorem dX5_minorWithout_120 : decode cX5_minorWithout 120 = .ok (.iaload, 1) := by decide +kernel
theorem dX5_minorWithout_121 : decode cX5_minorWithout 121 = .ok (.i2l, 1) := by decide +kernel
theorem dX5_minorWithout_122 : decode cX5_minorWithout 122 = .ok (.aload_n 0, 1) := by decide +kernel
theorem dX5_minorWithout_123 : decode cX5_minorWithout 123 = .ok (.getfield 60, 3) := by decide +kernel
theorem dX5_minorWithout_126 : decode cX5_minorWithout 126 = .ok (.iload 6, 2) := by decide +kernel
theorem dX5_minorWithout_128 : decode cX5_minorWithout 128 = .ok (.iconst 1, 1) := by decide +kernel
theorem dX5_minorWithout_129 : decode cX5_minorWithout 129 = .ok (.iload 11, 2) := by decide +kernel
theorem dX5_minorWithout_131 : decode cX5_minorWithout 131 = .ok (.ishl, 1) := by decide +kernel
theorem dX5_minorWithout_132 : decode cX5_minorWithout 132 = .ok (.ixor, 1) := by decide +kernel
theorem dX5_minorWithout_133 : decode cX5_minorWithout 133 = .ok (.laload, 1) := by decide +kernel
theorem dX5_minorWithout_134 : decode cX5_minorWithout 134 = .ok (.lmul, 1) := by decide +kernel
theorem dX5_minorWithout_135 : decode cX5_minorWithout 135 = .ok (.lstore 12, 2) := by decide +kernel
theorem dX5_minorWithout_137 : decode cX5_minorWithout 137 = .ok (.lload 9, 2) := by decide +kernel
theorem dX5_minorWithout_139 : decode cX5_minorWithout 139 = .ok (.iload 6, 2) := by decide +kernel
theorem dX5_minorWithout_141 : decode cX5_minorWithout 141 = .ok (.iload 11, 2) := by decide +kernel
theorem dX5_minorWithout_143 : decode cX5_minorWithout 143 = .ok (.iconst 1, 1) := by decide +kernel
theorem dX5_minorWithout_144 : decode cX5_minorWithout 144 = .ok (.iadd, 1) := by decide +kernel
theorem dX5_minorWithout_145 : decode cX5_minorWithout 145 = .ok (.ishr, 1) := by decide +kernel
theorem dX5_minorWithout_146 : decode cX5_minorWithout 146 = .ok (.invokestatic 251, 3) := by decide +kernel
theorem dX5_minorWithout_149 : decode cX5_minorWithout 149 = .ok (.iconst 2, 1) := by decide +kernel
theorem dX5_minorWithout_150 : decode cX5_minorWithout 150 = .ok (.irem, 1) := by decide +kernel
theorem dX5_minorWithout_151 : decode cX5_minorWithout 151 = .ok (.ifCond .ne 8, 3) := by decide +kernel
theorem dX5_minorWithout_154 : decode cX5_minorWithout 154 = .ok (.lload 12, 2) := by decide +kernel
theorem dX5_minorWithout_156 : decode cX5_minorWithout 156 = .ok (.goto 6, 3) := by decide +kernel
theorem dX5_minorWithout_159 : decode cX5_minorWithout 159 = .ok (.lload 12, 2) := by decide +kernel
theorem dX5_minorWithout_161 : decode cX5_minorWithout 161 = .ok (.lneg, 1) := by decide +kernel
theorem dX5_minorWithout_162 : decode cX5_minorWithout 162 = .ok (.ladd, 1) := by decide +kernel
theorem dX5_minorWithout_163 : decode cX5_minorWithout 163 = .ok (.lstore 9, 2) := by decide +kernel
theorem dX5_minorWithout_165 : decode cX5_minorWithout 165 = .ok (.iinc 11 1, 3) := by decide +kernel
theorem dX5_minorWithout_168 : decode cX5_minorWithout 168 = .ok (.goto (-83), 3) := by decide +kernel
theorem dX5_minorWithout_171 : decode cX5_minorWithout 171 = .ok (.aload_n 0, 1) := by decide +kernel
theorem dX5_minorWithout_172 : decode cX5_minorWithout 172 = .ok (.getfield 60, 3) := by decide +kernel
theorem dX5_minorWithout_175 : decode cX5_minorWithout 175 = .ok (.iload 6, 2) := by decide +kernel
theorem dX5_minorWithout_177 : decode cX5_minorWithout 177 = .ok (.lload 9, 2) := by decide +kernel
theorem dX5_minorWithout_179 : decode cX5_minorWithout 179 = .ok (.lastore, 1) := by decide +kernel
theorem dX5_minorWithout_180 : decode cX5_minorWithout 180 = .ok (.iinc 6 1, 3) := by decide +kernel
theorem dX5_minorWithout_183 : decode cX5_minorWithout 183 = .ok (.goto (-154), 3) := by decide +kernel
theorem dX5_minorWithout_186 : decode cX5_minorWithout 186 = .ok (.aload_n 0, 1) := by decide +kernel
theorem dX5_minorWithout_187 : decode cX5_minorWithout 187 = .ok (.getfield 60, 3) := by decide +kernel
theorem dX5_minorWithout_190 : decode cX5_minorWithout 190 = .ok (.iconst 1, 1) := by decide +kernel
theorem dX5_minorWithout_191 : decode cX5_minorWithout 191 = .ok (.iload 4, 2) := by decide +kernel
theorem dX5_minorWithout_193 : decode cX5_minorWithout 193 = .ok (.ishl, 1) := by decide +kernel
theorem dX5_minorWithout_194 : decode cX5_minorWithout 194 = .ok (.iconst 1, 1) := by decide +kernel
theorem dX5_minorWithout_195 : decode cX5_minorWithout 195 = .ok (.isub, 1) := by decide +kernel
theorem dX5_minorWithout_196 : decode cX5_minorWithout 196 = .ok (.iload 5, 2) := by decide +kernel
theorem dX5_minorWithout_198 : decode cX5_minorWithout 198 = .ok (.iconst (-1), 1) := by decide +kernel
theorem dX5_minorWithout_199 : decode cX5_minorWithout 199 = .ok (.ixor, 1) := by decide +kernel
theorem dX5_minorWithout_200 : decode cX5_minorWithout 200 = .ok (.iand, 1) := by decide +kernel
theorem dX5_minorWithout_201 : decode cX5_minorWithout 201 = .ok (.laload, 1) := by decide +kernel
theorem dX5_minorWithout_202 : decode cX5_minorWithout 202 = .ok (.lreturn, 1) := by decide +kernel
set_option maxRecDepth 20000 in
theorem mw_in (g : GX) (d : Nat) {b x i s oN : Nat} {S : TSt} {A : ASt} {row : Int} {V : AH} {sz : Nat} {F : Nat → Int} {Q : AQ} (hb : V b = some (bnO b A.t)) (x1 : V (b + 647 + 3 * x) = some (tbO (S.r x) (S.c x) (b + 647 + 3 * x + 1) (b + 647 + 3 * x + 2))) (x2 : V (b + 647 + 3 * x + 1) = some (aIz g 25 (S.N x))) (hF : V (b + 646) = some (aJz g 32 F)) (qx : ∀ k, k < 25 → -1000 ≤ S.N x k ∧ S.N x k ≤ 1000) (hc5 : S.c x ≤ 5) (hi : i < S.c x) (hs : s < 32) (hKK : ∀ {sm : Int}, sm = Sg (mwG (S.N x) F s i) (S.c x) → AW g mX5_minorWithout (d + 1) 171 [(11, .int (iZ (S.c x : Nat))), (9, .long (jZ sm)), (8, .int (iZ (i : Int))), (6, .int (iZ (s : Int))), (4, .int (iZ (S.c x : Nat))), (5, .int (iZ (oN : Int))), (0, .ref b), (1, .ref (b + 647 + 3 * x)), (2, .int (iZ row))] [] V sz Q) : ∀ (f j : Nat) (sm : Int), j + f = S.c x → sm = Sg (mwG (S.N x) F s i) j → AW g mX5_minorWithout (d + 1) 85 [(11, .int (iZ (j : Int))), (9, .long (jZ sm)), (8, .int (iZ (i : Int))), (6, .int (iZ (s : Int))), (4, .int (iZ (S.c x : Nat))), (5, .int (iZ (oN : Int))), (0, .ref b), (1, .ref (b + 647 + 3 * x)), (2, .int (iZ row))] [] V sz Q
  | 0, j, sm, hf, hsm => by
    obtain rfl : j = S.c x := by omega
    refine aw_iload dX5_minorWithout_85 (by rfl) ?_
    refine aw_iload dX5_minorWithout_87 (by rfl) ?_
    refine aw_icmp_geZ (tgt := 171) dX5_minorWithout_89 (by decide) (by omega) (by omega) (fun hc_89 => ?_) (fun hc_89 => ?_)
    · exact hKK hsm
    · exact absurd hc_89 (by omega)
  | f + 1, j, sm, hf, hsm => by
    have IH := fun j sm hj => @mw_in g d b x i s oN S A row V sz F Q hb x1 x2 hF qx hc5 hi hs hKK f j sm hj
    have h9 := bt9 ⟨s, hs⟩ ⟨j, by omega⟩
    have h9a : s / 2 ^ j % 2 * 2 ^ j = 0 ↔ s / 2 ^ j % 2 = 0 := h9.1
    have h9b : s / 2 ^ j % 2 * 2 ^ j < 32 := h9.2
    refine aw_iload dX5_minorWithout_85 (by rfl) ?_
    refine aw_iload dX5_minorWithout_87 (by rfl) ?_
    refine aw_icmp_geZ (tgt := 171) dX5_minorWithout_89 (by decide) (by omega) (by omega) (fun hc_89 => ?_) (fun hc_89 => ?_)
    · exact absurd hc_89 (by omega)
    · refine aw_iload dX5_minorWithout_92 (by rfl) ?_
      refine aw_iload dX5_minorWithout_94 (by rfl) ?_
      refine aw_icmp_geZ (tgt := 171) dX5_minorWithout_96 (by decide) (by omega) (by omega) (fun hc_96 => ?_) (fun hc_96 => ?_)
      · exact absurd hc_96 (by omega)
      · refine aw_iload dX5_minorWithout_99 (by rfl) ?_
        refine aw_iconstZ dX5_minorWithout_101 ?_
        refine aw_iload dX5_minorWithout_102 (by rfl) ?_
        refine aw_ishl1Z j dX5_minorWithout_104 rfl (by omega) ?_
        refine aw_iand dX5_minorWithout_105 ?_
        have eb : (iZ (s : Int) &&& iZ ((2 : Int) ^ j)) = iZ ((s / 2 ^ j % 2 * 2 ^ j : Nat) : Int) := i32_bit ⟨s, hs⟩ ⟨j, by omega⟩
        rw [eb]
        refine aw_if_eqZ (tgt := 165) dX5_minorWithout_106 (by decide) (by omega) (fun hc_106 => ?_) (fun hc_106 => ?_)
        · have hbit : s / 2 ^ j % 2 = 0 := h9a.mp (by omega)
          refine aw_iincZ dX5_minorWithout_165 (by rfl) (by decide) ?_
          refine aw_goto (tgt := 85) dX5_minorWithout_168 (by decide) ?_
          rw [show ((j : Int) + 1) = ((j + 1 : Nat) : Int) by omega]
          refine aw_pk [11, 9, 8, 6, 4, 5, 0, 1, 2] (by rfl) ?_
          refine IH (j + 1) _ (by omega) ?_
          show _ = Sg (mwG (S.N x) F s i) j + mwG (S.N x) F s i j
          rw [hsm]
          first
          | (rw [show mwG (S.N x) F s i j = 0 from if_neg (by omega)]; omega)
          | (have e : mwG (S.N x) F s i j = sgI (rkb s 5 - 1 - rkb s j) * S.N x (5 * i + j) * F (s - 2 ^ j) := if_pos hbit
             rw [e, sgI_par]
             first
             | (rw [if_neg (by omega), Int.neg_mul, Int.neg_mul, Int.one_mul])
             | (rw [if_pos (by omega), Int.one_mul]))
        · have hbit : s / 2 ^ j % 2 = 1 := by
            have : ¬ s / 2 ^ j % 2 = 0 := fun z => hc_106 (by rw [h9a.mpr z]; rfl)
            omega
          obtain ⟨-, -, f3, f4, -⟩ := bt1 ⟨s, hs⟩ ⟨j, by omega⟩ hbit
          have f3 : rkb s j < rkb s 5 := f3
          have f4 : rkb (s / 2 ^ (j + 1)) 5 = rkb s 5 - 1 - rkb s j := f4
          have f5 : rkb s 5 ≤ 5 := (bt6 ⟨s, hs⟩ ⟨5, by omega⟩ (show s < 2 ^ 5 by omega)).1
          refine aw_aload_n dX5_minorWithout_109 (by rfl) (Or.inr ⟨_, rfl⟩) ?_
          refine aw_get fX5_86 dX5_minorWithout_110 x1 (by rfl) ?_
          refine aw_iload dX5_minorWithout_113 (by rfl) ?_
          refine aw_iconstZ dX5_minorWithout_115 ?_
          refine aw_imulZ dX5_minorWithout_116 ?_
          refine aw_iload dX5_minorWithout_117 (by rfl) ?_
          refine aw_iaddZ dX5_minorWithout_119 ?_
          refine aw_ialdZ (5 * i + j) dX5_minorWithout_120 x2 (by omega) (by omega) (by omega) ?_
          refine aw_i2lZ dX5_minorWithout_121 (by have := qx (5 * i + j) (by omega); omega) ?_
          refine aw_aload_n dX5_minorWithout_122 (by rfl) (Or.inr ⟨_, rfl⟩) ?_
          refine aw_get fX5_60 dX5_minorWithout_123 hb (by rfl) ?_
          refine aw_iload dX5_minorWithout_126 (by rfl) ?_
          refine aw_iconstZ dX5_minorWithout_128 ?_
          refine aw_iload dX5_minorWithout_129 (by rfl) ?_
          refine aw_ishl1Z j dX5_minorWithout_131 rfl (by omega) ?_
          refine aw_ixor dX5_minorWithout_132 ?_
          have ex : (iZ (s : Int) ^^^ iZ ((2 : Int) ^ j)) = iZ ((s - 2 ^ j : Nat) : Int) := i32_xor ⟨s, hs⟩ ⟨j, by omega⟩ hbit
          rw [ex]
          refine aw_laldZ (s - 2 ^ j) dX5_minorWithout_133 hF rfl (Nat.lt_of_le_of_lt (Nat.sub_le _ _) hs) (by omega) ?_
          refine aw_lmulZ dX5_minorWithout_134 ?_
          refine aw_lstore dX5_minorWithout_135 (by decide) ?_
          refine aw_lload dX5_minorWithout_137 (by rfl) ?_
          refine aw_iload dX5_minorWithout_139 (by rfl) ?_
          refine aw_iload dX5_minorWithout_141 (by rfl) ?_
          refine aw_iconstZ dX5_minorWithout_143 ?_
          refine aw_iaddZ dX5_minorWithout_144 ?_
          refine aw_ishrZ (j + 1) dX5_minorWithout_145 (by omega) (by omega) (by omega) (by omega) ?_
          refine aw_topi (y := ((s / 2 ^ (j + 1) : Nat) : Int)) (by rw [Int.natCast_ediv, Int.natCast_pow]; rfl) ?_
          refine aw_calls sX5_251 dX5_minorWithout_146 (t_bitCount g d (s := s / 2 ^ (j + 1)) (Nat.lt_of_le_of_lt (Nat.div_le_self _ _) hs)) (by rfl) (by rfl) (by omega) (Nat.le_of_ble_eq_true rfl) ?_
          rintro _ _ _ _ _ ⟨rfl, rfl, rfl, rfl, rfl⟩ -
          refine q0 ?_
          rw [f4]
          refine aw_iconstZ dX5_minorWithout_149 ?_
          refine aw_iremZ dX5_minorWithout_150 (by omega) (by omega) (by omega) ?_
          refine aw_topi (y := (((rkb s 5 - 1 - rkb s j) % 2 : Nat) : Int)) (by rfl) ?_
          refine aw_if_neZ (tgt := 159) dX5_minorWithout_151 (by decide) (by omega) (fun hc_151 => ?_) (fun hc_151 => ?_)
          · refine aw_lload dX5_minorWithout_159 (by rfl) ?_
            refine aw_lnegZ dX5_minorWithout_161 ?_
            refine aw_laddZ dX5_minorWithout_162 ?_
            refine aw_lstore dX5_minorWithout_163 (by decide) ?_
            refine aw_iincZ dX5_minorWithout_165 (by rfl) (by decide) ?_
            refine aw_goto (tgt := 85) dX5_minorWithout_168 (by decide) ?_
            rw [show ((j : Int) + 1) = ((j + 1 : Nat) : Int) by omega]
            refine aw_pk [11, 9, 8, 6, 4, 5, 0, 1, 2] (by rfl) ?_
            refine IH (j + 1) _ (by omega) ?_
            show _ = Sg (mwG (S.N x) F s i) j + mwG (S.N x) F s i j
            rw [hsm]
            first
            | (rw [show mwG (S.N x) F s i j = 0 from if_neg (by omega)]; omega)
            | (have e : mwG (S.N x) F s i j = sgI (rkb s 5 - 1 - rkb s j) * S.N x (5 * i + j) * F (s - 2 ^ j) := if_pos hbit
               rw [e, sgI_par]
               first
               | (rw [if_neg (by omega), Int.neg_mul, Int.neg_mul, Int.one_mul])
               | (rw [if_pos (by omega), Int.one_mul]))
          · refine aw_lload dX5_minorWithout_154 (by rfl) ?_
            refine aw_goto (tgt := 162) dX5_minorWithout_156 (by decide) ?_
            refine aw_laddZ dX5_minorWithout_162 ?_
            refine aw_lstore dX5_minorWithout_163 (by decide) ?_
            refine aw_iincZ dX5_minorWithout_165 (by rfl) (by decide) ?_
            refine aw_goto (tgt := 85) dX5_minorWithout_168 (by decide) ?_
            rw [show ((j : Int) + 1) = ((j + 1 : Nat) : Int) by omega]
            refine aw_pk [11, 9, 8, 6, 4, 5, 0, 1, 2] (by rfl) ?_
            refine IH (j + 1) _ (by omega) ?_
            show _ = Sg (mwG (S.N x) F s i) j + mwG (S.N x) F s i j
            rw [hsm]
            first
            | (rw [show mwG (S.N x) F s i j = 0 from if_neg (by omega)]; omega)
            | (have e : mwG (S.N x) F s i j = sgI (rkb s 5 - 1 - rkb s j) * S.N x (5 * i + j) * F (s - 2 ^ j) := if_pos hbit
               rw [e, sgI_par]
               first
               | (rw [if_neg (by omega), Int.neg_mul, Int.neg_mul, Int.one_mul])
               | (rw [if_pos (by omega), Int.one_mul]))
