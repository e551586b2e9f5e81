/-! ===== the law's loop, the law ===== -/
theorem dL_law_0 : decode cL_law 0 = .ok (.new 7, 3) := by decide +kernel
theorem dL_law_3 : decode cL_law 3 = .ok (.dup, 1) := by decide +kernel
theorem dL_law_4 : decode cL_law 4 = .ok (.invokespecial 9, 3) := by decide +kernel
theorem dL_law_7 : decode cL_law 7 = .ok (.astore_n 1, 1) := by decide +kernel
theorem dL_law_8 : decode cL_law 8 = .ok (.new 10, 3) := by decide +kernel
theorem dL_law_11 : decode cL_law 11 = .ok (.dup, 1) := by decide +kernel
theorem dL_law_12 : decode cL_law 12 = .ok (.invokespecial 12, 3) := by decide +kernel
theorem dL_law_15 : decode cL_law 15 = .ok (.astore_n 2, 1) := by decide +kernel
theorem dL_law_16 : decode cL_law 16 = .ok (.iconst 0, 1) := by decide +kernel
theorem dL_law_17 : decode cL_law 17 = .ok (.istore_n 3, 1) := by decide +kernel
theorem dL_law_18 : decode cL_law 18 = .ok (.iload_n 3, 1) := by decide +kernel
theorem dL_law_19 : decode cL_law 19 = .ok (.aload_n 0, 1) := by decide +kernel
theorem dL_law_20 : decode cL_law 20 = .ok (.arraylength, 1) := by decide +kernel
theorem dL_law_21 : decode cL_law 21 = .ok (.bipush 8, 2) := by decide +kernel
theorem dL_law_23 : decode cL_law 23 = .ok (.isub, 1) := by decide +kernel
theorem dL_law_24 : decode cL_law 24 = .ok (.if_icmp .gt 1146, 3) := by decide +kernel
theorem dL_law_27 : decode cL_law 27 = .ok (.aload_n 0, 1) := by decide +kernel
theorem dL_law_28 : decode cL_law 28 = .ok (.iload_n 3, 1) := by decide +kernel
theorem dL_law_29 : decode cL_law 29 = .ok (.iaload, 1) := by decide +kernel
theorem dL_law_30 : decode cL_law 30 = .ok (.bipush 31, 2) := by decide +kernel
theorem dL_law_32 : decode cL_law 32 = .ok (.iand, 1) := by decide +kernel
theorem dL_law_33 : decode cL_law 33 = .ok (.tableswitch 1131 0 27 #[127, 170, 257, 290, 333, 366, 389, 422, 465, 498, 567, 610, 643, 676, 699, 722, 745, 768, 791, 834, 877, 920, 953, 986, 1019, 1052, 1085, 1108], 127) := by decide +kernel
theorem dL_law_1164 : decode cL_law 1164 = .ok (.iinc 3 8, 3) := by decide +kernel
theorem dL_law_1167 : decode cL_law 1167 = .ok (.goto (-1149), 3) := by decide +kernel
theorem dL_law_1170 : decode cL_law 1170 = .ok (.iconst 1, 1) := by decide +kernel
theorem dL_law_1171 : decode cL_law 1171 = .ok (.ireturn, 1) := by decide +kernel
theorem lw_switch {g : GX} {nm : String} {sb Ls b i : Nat} {xs : Nat → Int32} {V : AH} {sz : Nat} {Z : Nat → Int} {P L : Nat → Nat} {zs : Nat → Int} {S : TSt} {A : ASt} (hL : Ls ≤ 4096) (hi : i + 8 ≤ Ls) (h : LI g b V sz Z P L zs S A) (nx : Lnx g nm sb Ls xs b i) : AW g (mLw nm sb Ls xs) 13 27 (lwv sb b i) [] V sz (LwQ b L) := by
  refine aw_aload_n dL_law_27 (by rfl) (Or.inr ⟨_, rfl⟩) ?_
  refine aw_iload_n dL_law_28 (by rfl) ?_
  refine aw_sld i dL_law_29 (by omega) (by omega) (by omega) ?_
  refine aw_bipushZ dL_law_30 (by decide) ?_
  refine aw_iand dL_law_32 ?_
  generalize iZ (xz xs i) &&& iZ 31 = w
  have key : ∀ k : Nat, k < 28 → w.toInt = (k : Int) → AW g (mLw nm sb Ls xs) 13 33 (lwv sb b i) [.int w] V sz (LwQ b L) := fun k hk hw => by
    match k, hk, hw with
    | 0, _, hw => exact aw_tableIn (off := 127) (tgt := 160) dL_law_33 (by omega) (by omega) (by rw [hw]; rfl) (by decide) (lw_k_table hL hi h nx)
    | 1, _, hw => exact aw_tableIn (off := 170) (tgt := 203) dL_law_33 (by omega) (by omega) (by rw [hw]; rfl) (by decide) (lw_k_leaf hL hi h nx)
    | 2, _, hw => exact aw_tableIn (off := 257) (tgt := 290) dL_law_33 (by omega) (by omega) (by rw [hw]; rfl) (by decide) (lw_k_tear hL hi h nx)
    | 3, _, hw => exact aw_tableIn (off := 290) (tgt := 323) dL_law_33 (by omega) (by omega) (by rw [hw]; rfl) (by decide) (lw_k_get hL hi h nx)
    | 4, _, hw => exact aw_tableIn (off := 333) (tgt := 366) dL_law_33 (by omega) (by omega) (by rw [hw]; rfl) (by decide) (lw_k_about hL hi h nx)
    | 5, _, hw => exact aw_tableIn (off := 366) (tgt := 399) dL_law_33 (by omega) (by omega) (by rw [hw]; rfl) (by decide) (lw_k_answer hL hi h nx)
    | 6, _, hw => exact aw_tableIn (off := 389) (tgt := 422) dL_law_33 (by omega) (by omega) (by rw [hw]; rfl) (by decide) (lw_k_sign hL hi h nx)
    | 7, _, hw => exact aw_tableIn (off := 422) (tgt := 455) dL_law_33 (by omega) (by omega) (by rw [hw]; rfl) (by decide) (lw_k_bits hL hi h nx)
    | 8, _, hw => exact aw_tableIn (off := 465) (tgt := 498) dL_law_33 (by omega) (by omega) (by rw [hw]; rfl) (by decide) (lw_k_length hL hi h nx)
    | 9, _, hw => exact aw_tableIn (off := 498) (tgt := 531) dL_law_33 (by omega) (by omega) (by rw [hw]; rfl) (by decide) (lw_k_add hL hi h nx)
    | 10, _, hw => exact aw_tableIn (off := 567) (tgt := 600) dL_law_33 (by omega) (by omega) (by rw [hw]; rfl) (by decide) (lw_k_times hL hi h nx)
    | 11, _, hw => exact aw_tableIn (off := 610) (tgt := 643) dL_law_33 (by omega) (by omega) (by rw [hw]; rfl) (by decide) (lw_k_turn hL hi h nx)
    | 12, _, hw => exact aw_tableIn (off := 643) (tgt := 676) dL_law_33 (by omega) (by omega) (by rw [hw]; rfl) (by decide) (lw_k_over hL hi h nx)
    | 13, _, hw => exact aw_tableIn (off := 676) (tgt := 709) dL_law_33 (by omega) (by omega) (by rw [hw]; rfl) (by decide) (lw_k_worth hL hi h nx)
    | 14, _, hw => exact aw_tableIn (off := 699) (tgt := 732) dL_law_33 (by omega) (by omega) (by rw [hw]; rfl) (by decide) (lw_k_stair hL hi h nx)
    | 15, _, hw => exact aw_tableIn (off := 722) (tgt := 755) dL_law_33 (by omega) (by omega) (by rw [hw]; rfl) (by decide) (lw_k_sizes hL hi h nx)
    | 16, _, hw => exact aw_tableIn (off := 745) (tgt := 778) dL_law_33 (by omega) (by omega) (by rw [hw]; rfl) (by decide) (lw_k_kernel hL hi h nx)
    | 17, _, hw => exact aw_tableIn (off := 768) (tgt := 801) dL_law_33 (by omega) (by omega) (by rw [hw]; rfl) (by decide) (lw_k_back hL hi h nx)
    | 18, _, hw => exact aw_tableIn (off := 791) (tgt := 824) dL_law_33 (by omega) (by omega) (by rw [hw]; rfl) (by decide) (lw_k_solve hL hi h nx)
    | 19, _, hw => exact aw_tableIn (off := 834) (tgt := 867) dL_law_33 (by omega) (by omega) (by rw [hw]; rfl) (by decide) (lw_k_reach hL hi h nx)
    | 20, _, hw => exact aw_tableIn (off := 877) (tgt := 910) dL_law_33 (by omega) (by omega) (by rw [hw]; rfl) (by decide) (lw_k_order hL hi h nx)
    | 21, _, hw => exact aw_tableIn (off := 920) (tgt := 953) dL_law_33 (by omega) (by omega) (by rw [hw]; rfl) (by decide) (lw_k_join hL hi h nx)
    | 22, _, hw => exact aw_tableIn (off := 953) (tgt := 986) dL_law_33 (by omega) (by omega) (by rw [hw]; rfl) (by decide) (lw_k_both hL hi h nx)
    | 23, _, hw => exact aw_tableIn (off := 986) (tgt := 1019) dL_law_33 (by omega) (by omega) (by rw [hw]; rfl) (by decide) (lw_k_within hL hi h nx)
    | 24, _, hw => exact aw_tableIn (off := 1019) (tgt := 1052) dL_law_33 (by omega) (by omega) (by rw [hw]; rfl) (by decide) (lw_k_index hL hi h nx)
    | 25, _, hw => exact aw_tableIn (off := 1052) (tgt := 1085) dL_law_33 (by omega) (by omega) (by rw [hw]; rfl) (by decide) (lw_k_quotient hL hi h nx)
    | 26, _, hw => exact aw_tableIn (off := 1085) (tgt := 1118) dL_law_33 (by omega) (by omega) (by rw [hw]; rfl) (by decide) (lw_k_dual hL hi h nx)
    | 27, _, hw => exact aw_tableIn (off := 1108) (tgt := 1141) dL_law_33 (by omega) (by omega) (by rw [hw]; rfl) (by decide) (lw_k_count hL hi h nx)
    | k + 28, hk, _ => exact absurd hk (by omega)
  by_cases c : w.toInt < 0 ∨ 27 < w.toInt
  · exact aw_tableOut (tgt := 1164) dL_law_33 c (by decide) (nx _ _ _ _ _ _ _ _ h)
  · exact key w.toInt.toNat (by omega) (by omega)
theorem lw_loop {g : GX} {nm : String} {sb Ls b : Nat} {xs : Nat → Int32} (hL : Ls ≤ 4096) : ∀ (n i : Nat) {V : AH} {sz : Nat} {Z : Nat → Int} {P L : Nat → Nat} {zs : Nat → Int} {S : TSt} {A : ASt}, Ls ≤ i + 8 * n → i ≤ 4096 → LI g b V sz Z P L zs S A → AW g (mLw nm sb Ls xs) 13 18 (lwv sb b i) [] V sz (LwQ b L)
  | 0, i, V, sz, Z, P, L, zs, S, A, hn, hi, h => by
    refine aw_iload_n dL_law_18 (by rfl) ?_
    refine aw_aload_n dL_law_19 (by rfl) (Or.inr ⟨_, rfl⟩) ?_
    refine aw_slen dL_law_20 ?_
    refine aw_bipushZ dL_law_21 (by decide) ?_
    refine aw_isubZ dL_law_23 ?_
    refine aw_icmp_gtZ (tgt := 1170) dL_law_24 (by decide) (by omega) (by omega) (fun hc_24 => ?_) (fun hc_24 => ?_)
    · refine aw_iconstZ dL_law_1170 ?_
      refine aw_iret dL_law_1171 rfl (by rfl) ?_
      exact ⟨rfl, by have := wg_sum h.1; omega, by have := wg_sum h.1; omega⟩
    · exact absurd hc_24 (by omega)
  | n + 1, i, V, sz, Z, P, L, zs, S, A, hn, hi, h => by
    refine aw_iload_n dL_law_18 (by rfl) ?_
    refine aw_aload_n dL_law_19 (by rfl) (Or.inr ⟨_, rfl⟩) ?_
    refine aw_slen dL_law_20 ?_
    refine aw_bipushZ dL_law_21 (by decide) ?_
    refine aw_isubZ dL_law_23 ?_
    refine aw_icmp_gtZ (tgt := 1170) dL_law_24 (by decide) (by omega) (by omega) (fun hc_24 => ?_) (fun hc_24 => ?_)
    · refine aw_iconstZ dL_law_1170 ?_
      refine aw_iret dL_law_1171 rfl (by rfl) ?_
      exact ⟨rfl, by have := wg_sum h.1; omega, by have := wg_sum h.1; omega⟩
    · refine lw_switch hL (by omega) h (fun V2 sz2 Z2 P2 L2 zs2 S2 A2 h2 => ?_)
      refine aw_iincZ dL_law_1164 (by rfl) (Nat.le_of_ble_eq_true rfl) ?_
      refine aw_goto (tgt := 18) dL_law_1167 (by decide) ?_
      rw [show ((i : Int) + 8) = ((i + 8 : Nat) : Int) by omega]
      refine aw_pk [3, 2, 1, 0] (by rfl) ?_
      exact lw_loop hL n (i + 8) (by omega) (by omega) h2
/-- the law, over an empty world: it comes to true, within its room -/
def LwE : AQ := fun r _ _ dc ds => some (.int (iZ 1)) = r ∧ dc ≤ 600000 ∧ ds ≤ 7302250
theorem lw_main (g : GX) (nm : String) {sb Ls : Nat} {xs : Nat → Int32} (hL : Ls ≤ 4096) (b : Nat) : AW g (mLw nm sb Ls xs) 13 0 [(0, .ref sb)] [] (fun _ => none) b LwE := by
  refine aw_new nfL_7 dL_law_0 ?_
  refine aw_dup dL_law_3 rfl ?_
  refine aw_calli iL_9 dL_law_4 (t_newB g 8 (AHu_self _ _ _) (DL.nw (fun a ha => absurd rfl ha))) (by rfl) (by rfl) (by omega) (Nat.le_of_ble_eq_true rfl) ?_
  rintro _ V1 _ _ _ ⟨rfl, rfl, rfl, rfl, k1, D1, B1⟩ -
  refine aw_sz (sz1 := b + 683) (by omega) ?_
  have D1 : DL V1 (b + 683) := D1
  refine aw_astore_n dL_law_7 (Nat.le_of_ble_eq_true rfl) (Or.inr ⟨_, rfl⟩) ?_
  refine aw_new nfL_10 dL_law_8 ?_
  refine aw_dup dL_law_11 rfl ?_
  refine aw_calli iL_12 dL_law_12 (t_newM g 11 (AHu_self _ _ _) (DL.nw D1)) (by rfl) (by rfl) (by omega) (Nat.le_of_ble_eq_true rfl) ?_
  rintro _ V2 _ _ _ ⟨rfl, rfl, rfl, rfl, k2, D2, M2⟩ -
  refine aw_sz (sz1 := b + 699) (by omega) ?_
  have D2 : DL V2 (b + 699) := D2
  refine aw_astore_n dL_law_15 (Nat.le_of_ble_eq_true rfl) (Or.inr ⟨_, rfl⟩) ?_
  refine aw_iconstZ dL_law_16 ?_
  refine aw_istore_n dL_law_17 (Nat.le_of_ble_eq_true rfl) ?_
  have e2 : ∀ a, a < b + 683 → V2 a = V1 a := fun a ha => (k2 a (by omega) (by omega)).trans (AHu_ne (by omega))
  have W1 := bn_wg (X := fun _ => False) B1 D1 (fun _ q => q.elim) (Nat.le_refl _)
  have hI : LI g b V2 (b + 699) (Z0b b) (fun w => w + 1) (fun _ => 4) (fun _ => 0) S0 A0s := ⟨wg_new W1 e2 D2 (fun a q => ⟨q.1, by
    have h1 : a ≤ b + 683 + 15 := q.2
    omega⟩) (by omega), cx_off (bn_cx B1) e2, mo_rx M2⟩
  refine AW.mono (fun r V' sz' dc ds hq => ?_) (lw_loop hL Ls 0 (by omega) (by omega) hI)
  obtain ⟨q1, q2, q3⟩ := hq
  refine ⟨q1, ?_, ?_⟩
  · show 1 + (682 + (1 + (15 + dc))) ≤ 600000
    omega
  · show 11 + (2822 + (19 + (47813 + ds))) ≤ 7302250
    omega
