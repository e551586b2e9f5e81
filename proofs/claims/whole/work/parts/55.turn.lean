/-! ===== add, times, turn ===== -/
def FLd (F : Nat → Int) (cn : Nat) (vl : Mat) (n : Nat) : Prop := ∀ i j, j < cn → i * cn + j < n → F (i * cn + j) = vl i j
theorem FLd.step {F : Nat → Int} {cn i j : Nat} {vl : Mat} (h : FLd F cn vl (i * cn + j)) (hj : j < cn) : FLd (upF F (i * cn + j) (vl i j)) cn vl (i * cn + (j + 1)) := fun a e he hn => by
  by_cases q : a * cn + e = i * cn + j
  · obtain ⟨rfl, rfl⟩ := idx_inj he hj q
    rw [upF_self]
  · rw [upF_ne _ _ q]; exact h a e he (by omega)
/-- a table made of numbers vl -/
def MkT (S : TSt) (to rn cn : Nat) (vl : Mat) (S' : TSt) : Prop := ∃ N H : Nat → Int, S' = upT S to rn cn N H ∧ (∀ i j, i < 5 → j < 5 → N (5 * i + j) = if i < rn ∧ j < cn then vl i j else 0) ∧ ∀ i, i < 5 → H i = if i < rn then 1 else 0
def okV (rn cn : Nat) (vl : Mat) : Prop := ∀ i j, i < rn → j < cn → -1000 ≤ vl i j ∧ vl i j ≤ 1000
theorem okV.all {F : Nat → Int} {rn cn : Nat} {vl : Mat} (h : FLd F cn vl (rn * cn)) : okV rn cn vl ↔ ∀ k, k < rn * cn → -1000 ≤ F k ∧ F k ≤ 1000 := by
  constructor
  · intro q k hk
    have hc : 0 < cn := by
      rcases Nat.eq_zero_or_pos cn with e | e
      · rw [e] at hk; omega
      · exact e
    have e := Nat.div_add_mod k cn
    have hm := Nat.mod_lt k hc
    have hd : k / cn < rn := Nat.div_lt_of_lt_mul (by rw [Nat.mul_comm]; exact hk)
    rw [Nat.mul_comm] at e
    rw [← e, h _ _ hm (by omega)]
    exact q _ _ hd hm
  · intro q i j hi hj
    have h1 : (i + 1) * cn ≤ rn * cn := Nat.mul_le_mul_right _ hi
    rw [Nat.add_mul] at h1
    rw [← h i j hj (by omega)]
    exact q _ (by omega)
def RK (S : TSt) (A : ASt) (to rn cn : Nat) (vl : Mat) : Option Value → TSt → ASt → Prop := fun q S' A' => A' = A ∧ (okV rn cn vl ∧ some (.int (iZ 1)) = q ∧ MkT S to rn cn vl S' ∨ ¬ okV rn cn vl ∧ some (.int (iZ 0)) = q ∧ S' = S)
theorem km_fin {S : TSt} {to rn cn : Nat} {vl : Mat} {F N H : Nat → Int} (hOk : TOK S) (hrc : rn ≤ 5 ∧ cn ≤ 5 ∧ 1 ≤ cn) (hK : KM F cn rn 0 N H) (hF : FLd F cn vl (rn * cn)) (hv : okV rn cn vl) : TOK (upT S to rn cn N H) ∧ MkT S to rn cn vl (upT S to rn cn N H) := by
  have hN : ∀ i j, i < 5 → j < 5 → N (5 * i + j) = if i < rn ∧ j < cn then vl i j else 0 := fun i j hi hj => by
    rw [hK.1 i j hi hj]
    by_cases q : i < rn ∧ j < cn
    · have h1 := idx_lt hrc.2.1 q.1 q.2
      rw [if_pos (Or.inl q), if_pos q, hF i j q.2 h1.1]
    · rw [if_neg (by omega), if_neg q]
  refine ⟨hOk.up ⟨hrc.1, hrc.2.1, Or.inr hrc.2.2, fun k hk => ?_, hK.2.2, fun i j hi hj h3 => ?_, fun i hi h3 => by rw [hK.2.1 i hi, if_neg (by omega)]⟩, N, H, rfl, hN, hK.2.1⟩
  · have h1 := hN (k / 5) (k % 5) (by omega) (by omega)
    rw [show 5 * (k / 5) + k % 5 = k by omega] at h1
    rw [h1]
    split
    · rename_i q; exact hv _ _ q.1 q.2
    · omega
  · rw [hN i j hi hj]
    rw [if_neg (fun q => ?_)]
    rcases h3 with h3 | h3 | h3
    · omega
    · omega
    · rw [hK.2.1 i hi, if_pos q.1] at h3; omega
abbrev mX5_turn : MI := (yX5_turn, cX5_turn, 7, (some FieldType.boolean), noX)
theorem dX5_turn_0 : decode cX5_turn 0 = .ok (.aload_n 0, 1) := by decide +kernel
theorem dX5_turn_1 : decode cX5_turn 1 = .ok (.iload_n 1, 1) := by decide +kernel
theorem dX5_turn_2 : decode cX5_turn 2 = .ok (.invokevirtual 72, 3) := by decide +kernel
theorem dX5_turn_5 : decode cX5_turn 5 = .ok (.astore_n 3, 1) := by decide +kernel
theorem dX5_turn_6 : decode cX5_turn 6 = .ok (.aload_n 3, 1) := by decide +kernel
theorem dX5_turn_7 : decode cX5_turn 7 = .ok (.ifnull 10, 3) := by decide +kernel
theorem dX5_turn_10 : decode cX5_turn 10 = .ok (.iload_n 2, 1) := by decide +kernel
theorem dX5_turn_11 : decode cX5_turn 11 = .ok (.invokestatic 65, 3) := by decide +kernel
theorem dX5_turn_14 : decode cX5_turn 14 = .ok (.ifCond .ne 5, 3) := by decide +kernel
theorem dX5_turn_17 : decode cX5_turn 17 = .ok (.iconst 0, 1) := by decide +kernel
theorem dX5_turn_18 : decode cX5_turn 18 = .ok (.ireturn, 1) := by decide +kernel
theorem dX5_turn_19 : decode cX5_turn 19 = .ok (.iconst 0, 1) := by decide +kernel
theorem dX5_turn_20 : decode cX5_turn 20 = .ok (.istore 4, 2) := by decide +kernel
theorem dX5_turn_22 : decode cX5_turn 22 = .ok (.iconst 0, 1) := by decide +kernel
theorem dX5_turn_23 : decode cX5_turn 23 = .ok (.istore 5, 2) := by decide +kernel
theorem dX5_turn_25 : decode cX5_turn 25 = .ok (.iload 5, 2) := by decide +kernel
theorem dX5_turn_27 : decode cX5_turn 27 = .ok (.aload_n 3, 1) := by decide +kernel
theorem dX5_turn_28 : decode cX5_turn 28 = .ok (.getfield 79, 3) := by decide +kernel
theorem dX5_turn_31 : decode cX5_turn 31 = .ok (.if_icmp .ge 49, 3) := by decide +kernel
theorem dX5_turn_34 : decode cX5_turn 34 = .ok (.iconst 0, 1) := by decide +kernel
theorem dX5_turn_35 : decode cX5_turn 35 = .ok (.istore 6, 2) := by decide +kernel
theorem dX5_turn_37 : decode cX5_turn 37 = .ok (.iload 6, 2) := by decide +kernel
theorem dX5_turn_39 : decode cX5_turn 39 = .ok (.aload_n 3, 1) := by decide +kernel
theorem dX5_turn_40 : decode cX5_turn 40 = .ok (.getfield 96, 3) := by decide +kernel
theorem dX5_turn_43 : decode cX5_turn 43 = .ok (.if_icmp .ge 31, 3) := by decide +kernel
theorem dX5_turn_46 : decode cX5_turn 46 = .ok (.aload_n 0, 1) := by decide +kernel
theorem dX5_turn_47 : decode cX5_turn 47 = .ok (.getfield 56, 3) := by decide +kernel
theorem dX5_turn_50 : decode cX5_turn 50 = .ok (.iload 4, 2) := by decide +kernel
theorem dX5_turn_52 : decode cX5_turn 52 = .ok (.aload_n 3, 1) := by decide +kernel
theorem dX5_turn_53 : decode cX5_turn 53 = .ok (.getfield 86, 3) := by decide +kernel
theorem dX5_turn_56 : decode cX5_turn 56 = .ok (.iload 6, 2) := by decide +kernel
theorem dX5_turn_58 : decode cX5_turn 58 = .ok (.iconst 5, 1) := by decide +kernel
theorem dX5_turn_59 : decode cX5_turn 59 = .ok (.imul, 1) := by decide +kernel
theorem dX5_turn_60 : decode cX5_turn 60 = .ok (.iload 5, 2) := by decide +kernel
theorem dX5_turn_62 : decode cX5_turn 62 = .ok (.iadd, 1) := by decide +kernel
theorem dX5_turn_63 : decode cX5_turn 63 = .ok (.iaload, 1) := by decide +kernel
theorem dX5_turn_64 : decode cX5_turn 64 = .ok (.iastore, 1) := by decide +kernel
theorem dX5_turn_65 : decode cX5_turn 65 = .ok (.iinc 4 1, 3) := by decide +kernel
theorem dX5_turn_68 : decode cX5_turn 68 = .ok (.iinc 6 1, 3) := by decide +kernel
theorem dX5_turn_71 : decode cX5_turn 71 = .ok (.goto (-34), 3) := by decide +kernel
theorem dX5_turn_74 : decode cX5_turn 74 = .ok (.iinc 5 1, 3) := by decide +kernel
theorem dX5_turn_77 : decode cX5_turn 77 = .ok (.goto (-52), 3) := by decide +kernel
theorem dX5_turn_80 : decode cX5_turn 80 = .ok (.aload_n 0, 1) := by decide +kernel
theorem dX5_turn_81 : decode cX5_turn 81 = .ok (.iload_n 2, 1) := by decide +kernel
theorem dX5_turn_82 : decode cX5_turn 82 = .ok (.aload_n 3, 1) := by decide +kernel
theorem dX5_turn_83 : decode cX5_turn 83 = .ok (.getfield 79, 3) := by decide +kernel
theorem dX5_turn_86 : decode cX5_turn 86 = .ok (.aload_n 3, 1) := by decide +kernel
theorem dX5_turn_87 : decode cX5_turn 87 = .ok (.getfield 96, 3) := by decide +kernel
theorem dX5_turn_90 : decode cX5_turn 90 = .ok (.invokevirtual 133, 3) := by decide +kernel
theorem dX5_turn_93 : decode cX5_turn 93 = .ok (.ireturn, 1) := by decide +kernel
theorem tn_in (d : Nat) {g : GX} {b : Nat} {X : Nat → Prop} {Z : Nat → Int} {S : TSt} {A : ASt} {a to : Nat} (ha : a < 12 ∧ 0 < S.r a) (hto : to < 12) {i : Nat} (hi : i < S.c a) {n0 : Nat} (hn0 : n0 = i * S.r a + S.r a) (hKK : ∀ {V : AH} {sz : Nat} {P L : Nat → Nat} {F : Nat → Int}, WG g (wsB b) (SAB b X) V sz Z P L → CX g b X V Z S A → V (b + 645) = some (aIz g 25 F) → FLd F (S.r a) (fun i j => S.N a (5 * j + i)) (i * S.r a + S.r a) → (∀ k, k < n0 → R32 (F k)) → AW g mX5_turn (d + 3) 74 [(5, .int (iZ i)), (4, .int (iZ n0)), (3, .ref (b + 647 + 3 * a)), (0, .ref b), (2, .int (iZ to))] [] V sz (CE g b X V sz L (RK S A to (S.c a) (S.r a) (fun i j => S.N a (5 * j + i))))) : ∀ (x j n : Nat), j + x = S.r a → n = i * S.r a + j → ∀ {V : AH} {sz : Nat} {P L : Nat → Nat} {F : Nat → Int}, WG g (wsB b) (SAB b X) V sz Z P L → CX g b X V Z S A → V (b + 645) = some (aIz g 25 F) → FLd F (S.r a) (fun i j => S.N a (5 * j + i)) n → (∀ k, k < n → R32 (F k)) → AW g mX5_turn (d + 3) 37 [(6, .int (iZ j)), (5, .int (iZ i)), (4, .int (iZ n)), (3, .ref (b + 647 + 3 * a)), (0, .ref b), (2, .int (iZ to))] [] V sz (CE g b X V sz L (RK S A to (S.c a) (S.r a) (fun i j => S.N a (5 * j + i))))
  | 0, j, n, hx, hn, V, sz, P, L, F, hw0, h, hMd, hF, hFr => by
    obtain rfl : n = n0 := by omega
    obtain ⟨⟨hb, hb1⟩, hTb, hOk, -⟩ := id h
    obtain ⟨hT1, hT2, hT3, -⟩ := hTb a ha.1
    obtain ⟨hr5, hc5, hrc1, hNr, -⟩ := hOk a ha.1
    refine aw_iload dX5_turn_37 (by rfl) ?_
    refine aw_aload_n dX5_turn_39 (by rfl) (Or.inr ⟨_, rfl⟩) ?_
    refine aw_get fX5_96 dX5_turn_40 (by assumption) (by rfl) ?_
    refine aw_icmp_geZ (tgt := 74) dX5_turn_43 (by decide) (by omega) (by omega) (fun hc_43 => ?_) (fun hc_43 => ?_)
    · exact aw_pk [5, 4, 3, 0, 2] (by rfl) (hKK hw0 h hMd (by rw [show i * S.r a + S.r a = n by omega]; exact hF) (fun k hk => hFr k (by omega)))
    · exact absurd hc_43 (by omega)
  | x + 1, j, n, hx, hn, V, sz, P, L, F, hw0, h, hMd, hF, hFr => by
    have IH := fun j n hj hn => @tn_in d g b X Z S A a to ha hto i hi n0 hn0 hKK x j n hj hn
    clear hKK
    obtain ⟨⟨hb, hb1⟩, hTb, hOk, -⟩ := id h
    obtain ⟨hT1, hT2, hT3, -⟩ := hTb a ha.1
    obtain ⟨hr5, hc5, hrc1, hNr, -⟩ := hOk a ha.1
    refine aw_iload dX5_turn_37 (by rfl) ?_
    refine aw_aload_n dX5_turn_39 (by rfl) (Or.inr ⟨_, rfl⟩) ?_
    refine aw_get fX5_96 dX5_turn_40 (by assumption) (by rfl) ?_
    refine aw_icmp_geZ (tgt := 74) dX5_turn_43 (by decide) (by omega) (by omega) (fun hc_43 => ?_) (fun hc_43 => ?_)
    · exact absurd hc_43 (by omega)
    · have hidx := idx_lt (rn := 5) hr5 (show i < 5 by omega) (show j < S.r a by omega)
      refine aw_aload_n dX5_turn_46 (by rfl) (Or.inr ⟨_, rfl⟩) ?_
      refine aw_get fX5_56 dX5_turn_47 (by assumption) (by rfl) ?_
      refine aw_iload dX5_turn_50 (by rfl) ?_
      refine aw_aload_n dX5_turn_52 (by rfl) (Or.inr ⟨_, rfl⟩) ?_
      refine aw_get fX5_86 dX5_turn_53 (by assumption) (by rfl) ?_
      refine aw_iload dX5_turn_56 (by rfl) ?_
      refine aw_iconstZ dX5_turn_58 ?_
      refine aw_imulZ dX5_turn_59 ?_
      refine aw_iload dX5_turn_60 (by rfl) ?_
      refine aw_iaddZ dX5_turn_62 ?_
      refine aw_ialdZ (5 * j + i) dX5_turn_63 (by assumption) (by omega) (by omega) (by omega) ?_
      refine aw_iastZ (i * S.r a + j) dX5_turn_64 (by assumption) (by omega) (by omega) (by omega) ?_
      refine WE.stp0 (WSE.sto hw0 (sab_t (by omega)) (by unfold EB; omega)) ?_
      have hw1 := hw0.sto (e := aIz g 25 (upF F (i * S.r a + j) (S.N a (5 * j + i)))) (sab_t (X := X) (show b + 645 ≤ b + 645 ∧ b + 645 < b + 683 by omega))
      have h1 : CX g b X (AHu V (b + 645) (aIz g 25 (upF F (i * S.r a + j) (S.N a (5 * j + i))))) Z S A := h.made rfl rfl ⟨fun q _ hn => AHu_ne (by omega), fun _ _ => rfl⟩ ⟨_, AHu_self _ _ _⟩
      refine aw_iincZ dX5_turn_65 (by rfl) (by decide) ?_
      refine aw_iincZ dX5_turn_68 (by rfl) (by decide) ?_
      refine aw_goto (tgt := 37) dX5_turn_71 (by decide) ?_
      rw [show ((j : Int) + 1) = ((j + 1 : Nat) : Int) by omega, show ((n : Int) + 1) = ((n + 1 : Nat) : Int) by omega]
      refine aw_pk [6, 5, 4, 3, 0, 2] (by rfl) ?_
      exact IH (j + 1) (n + 1) (by omega) (by omega) hw1 h1 (AHu_self _ _ _) (by have := hF; rw [hn] at this; rw [hn]; exact this.step (by omega)) (fun k hk => by unfold upF; split; (have := hNr (5 * j + i) (by omega); omega); exact hFr k (by omega))
theorem tn_out (d : Nat) {g : GX} {b : Nat} {X : Nat → Prop} {Z : Nat → Int} {S : TSt} {A : ASt} {a to : Nat} (ha : a < 12 ∧ 0 < S.r a) (hto : to < 12) : ∀ (x i n : Nat), i + x = S.c a → n = i * S.r a → ∀ {V : AH} {sz : Nat} {P L : Nat → Nat} {F : Nat → Int}, WG g (wsB b) (SAB b X) V sz Z P L → CX g b X V Z S A → V (b + 645) = some (aIz g 25 F) → FLd F (S.r a) (fun i j => S.N a (5 * j + i)) n → (∀ k, k < n → R32 (F k)) → AW g mX5_turn (d + 3) 25 [(5, .int (iZ i)), (4, .int (iZ n)), (3, .ref (b + 647 + 3 * a)), (0, .ref b), (2, .int (iZ to))] [] V sz (CE g b X V sz L (RK S A to (S.c a) (S.r a) (fun i j => S.N a (5 * j + i))))
  | 0, i, n, hx, hn, V, sz, P, L, F, hw0, h, hMd, hF, hFr => by
    obtain ⟨⟨hb, hb1⟩, hTb, hOk, -⟩ := id h
    obtain ⟨hT1, hT2, hT3, -⟩ := hTb a ha.1
    obtain ⟨hr5, hc5, hrc1, hNr, -⟩ := hOk a ha.1
    have END : FLd F (S.r a) (fun i j => S.N a (5 * j + i)) (S.c a * S.r a) → (∀ k, k < S.c a * S.r a → R32 (F k)) → AW g mX5_turn (d + 3) 80 [(5, .int (iZ i)), (4, .int (iZ n)), (3, .ref (b + 647 + 3 * a)), (0, .ref b), (2, .int (iZ to))] [] V sz (CE g b X V sz L (RK S A to (S.c a) (S.r a) (fun i j => S.N a (5 * j + i)))) := fun hF hFr => by
      by_cases hv : okV (S.c a) (S.r a) (fun i j => S.N a (5 * j + i))
      · skip
        refine aw_aload_n dX5_turn_80 (by rfl) (Or.inr ⟨_, rfl⟩) ?_
        refine aw_iload_n dX5_turn_81 (by rfl) ?_
        refine aw_aload_n dX5_turn_82 (by rfl) (Or.inr ⟨_, rfl⟩) ?_
        refine aw_get fX5_79 dX5_turn_83 (by assumption) (by rfl) ?_
        refine aw_aload_n dX5_turn_86 (by rfl) (Or.inr ⟨_, rfl⟩) ?_
        refine aw_get fX5_96 dX5_turn_87 (by assumption) (by rfl) ?_
        refine aw_callv vX5_133 dX5_turn_90 hb (t_keepYes g d (to := to) (rn := S.c a) (cn := S.r a) hto (by omega) hb hb1 hMd (hTb to hto) (hOk to hto).2.2.2.2.1 ((okV.all hF).mp hv)) (by rfl) (by rfl) (by omega) (Nat.le_of_ble_eq_true rfl) ?_
        rintro _ V1 _ _ _ ⟨rfl, rfl, rfl, hE, rfl, N, H, hT, hK⟩ -
        refine WE.stp (wse_tb hw0 hto hE) ?_
        have hf := km_fin (S := S) (to := to) hOk (by omega) hK hF hv
        refine aw_iret dX5_turn_93 rfl (nar01 (Or.inr rfl)) ?_
        exact WE.ret (wse_tb hw0 hto hE).1 ⟨_, _, h.table1 hto hE hT hf.1, rfl, Or.inl ⟨hv, rfl, hf.2⟩⟩
      · skip
        refine aw_aload_n dX5_turn_80 (by rfl) (Or.inr ⟨_, rfl⟩) ?_
        refine aw_iload_n dX5_turn_81 (by rfl) ?_
        refine aw_aload_n dX5_turn_82 (by rfl) (Or.inr ⟨_, rfl⟩) ?_
        refine aw_get fX5_79 dX5_turn_83 (by assumption) (by rfl) ?_
        refine aw_aload_n dX5_turn_86 (by rfl) (Or.inr ⟨_, rfl⟩) ?_
        refine aw_get fX5_96 dX5_turn_87 (by assumption) (by rfl) ?_
        refine aw_callv vX5_133 dX5_turn_90 hb (t_keepNo g d (to := to) (rn := S.c a) (cn := S.r a) hto (by omega) hb hMd hFr (fun q => hv ((okV.all hF).mpr q))) (by rfl) (by rfl) (by omega) (Nat.le_of_ble_eq_true rfl) ?_
        rintro _ _ _ _ _ ⟨rfl, rfl, rfl, rfl, rfl⟩ -
        refine q0 ?_
        refine aw_iret dX5_turn_93 rfl (nar01 (Or.inl rfl)) ?_
        exact WE.ret hw0 ⟨S, A, h, rfl, Or.inr ⟨hv, rfl, rfl⟩⟩
    refine aw_iload dX5_turn_25 (by rfl) ?_
    refine aw_aload_n dX5_turn_27 (by rfl) (Or.inr ⟨_, rfl⟩) ?_
    refine aw_get fX5_79 dX5_turn_28 (by assumption) (by rfl) ?_
    refine aw_icmp_geZ (tgt := 80) dX5_turn_31 (by decide) (by omega) (by omega) (fun hc_31 => ?_) (fun hc_31 => ?_)
    · obtain rfl : i = S.c a := by omega
      rw [hn] at hF hFr
      exact END hF hFr
    · exact absurd hc_31 (by omega)
  | x + 1, i, n, hx, hn, V, sz, P, L, F, hw0, h, hMd, hF, hFr => by
    have IH := fun i n hi hn => @tn_out d g b X Z S A a to ha hto x i n hi hn
    have IN := @tn_in d g b X Z S A a to ha hto i (by omega) (i * S.r a + S.r a) rfl (fun {V sz P L F} hw0 h hMd hF hFr => by
      obtain ⟨n, hn⟩ : ∃ n, n = i * S.r a + S.r a := ⟨_, rfl⟩
      rw [← hn] at hFr ⊢
      obtain ⟨⟨hb, hb1⟩, hTb, hOk, -⟩ := id h
      obtain ⟨hT1, hT2, hT3, -⟩ := hTb a ha.1
      obtain ⟨hr5, hc5, hrc1, hNr, -⟩ := hOk a ha.1
      refine aw_iincZ dX5_turn_74 (by rfl) (by decide) ?_
      refine aw_goto (tgt := 25) dX5_turn_77 (by decide) ?_
      rw [show ((i : Int) + 1) = ((i + 1 : Nat) : Int) by omega]
      refine aw_pk [5, 4, 3, 0, 2] (by rfl) ?_
      exact IH (i + 1) n (by omega) (by rw [Nat.add_mul]; omega) hw0 h hMd (by have := hF; rw [show i * S.r a + S.r a = n by omega] at this; exact this) (fun k hk => hFr k (by omega)))
    clear IH
    obtain ⟨⟨hb, hb1⟩, hTb, hOk, -⟩ := id h
    obtain ⟨hT1, hT2, hT3, -⟩ := hTb a ha.1
    obtain ⟨hr5, hc5, hrc1, hNr, -⟩ := hOk a ha.1
    refine aw_iload dX5_turn_25 (by rfl) ?_
    refine aw_aload_n dX5_turn_27 (by rfl) (Or.inr ⟨_, rfl⟩) ?_
    refine aw_get fX5_79 dX5_turn_28 (by assumption) (by rfl) ?_
    refine aw_icmp_geZ (tgt := 80) dX5_turn_31 (by decide) (by omega) (by omega) (fun hc_31 => ?_) (fun hc_31 => ?_)
    · exact absurd hc_31 (by omega)
    · refine aw_iconstZ dX5_turn_34 ?_
      refine aw_istore dX5_turn_35 (by decide) ?_
      refine aw_pk [6, 5, 4, 3, 0, 2] (by rfl) ?_
      exact IN (S.r a) 0 n (by omega) (by omega) hw0 h hMd hF hFr
theorem c_turn {g : GX} {b : Nat} {X : Nat → Prop} {V : AH} {sz : Nat} {Z : Nat → Int} {S : TSt} {A : ASt} (d : Nat) {t to : Int} {P L : Nat → Nat} (hw0 : WG g (wsB b) (SAB b X) V sz Z P L) (h : CX g b X V Z S A) (ht : R32 t) (hto : R32 to) : AMet g mX5_turn (d + 3) [.ref b, .int (iZ t), .int (iZ to)] V sz (CE g b X V sz L (fun q S' A' => (∃ a tn : Nat, a < 12 ∧ t = (a : Int) ∧ 0 < S.r a ∧ tn < 12 ∧ to = (tn : Int) ∧ RK S A tn (S.c a) (S.r a) (fun i j => S.N a (5 * j + i)) q S' A') ∨ (¬ (∃ a : Nat, a < 12 ∧ t = (a : Int) ∧ 0 < S.r a ∧ 0 ≤ to ∧ to < 12) ∧ some (.int (iZ 0)) = q ∧ S' = S ∧ A' = A))) := by
  obtain ⟨⟨hb, hb1⟩, hTb, hOk, -, -, -, -, -, -, -, -, hMa, -⟩ := id h
  obtain ⟨F, hMd⟩ := hMa
  obtain ⟨v, hv⟩ := FindV.ex S b t
  rcases hv with ⟨n, hn, rfl, hr, rfl⟩ | ⟨hno, rfl⟩
  · by_cases hq : 0 ≤ to ∧ to < 12
    · obtain ⟨k, rfl⟩ : ∃ k : Nat, to = (k : Int) := ⟨to.toNat, by omega⟩
      have GO := (tn_out d (A := A) (Z := Z) (X := X) (g := g) (b := b) (S := S) (a := n) (to := k) ⟨hn, hr⟩ (by omega) (S.c n) 0 0 (by omega) (by omega) hw0 h hMd (fun i j _ q => absurd q (by omega)) (fun k hk => absurd hk (by omega))).mono (Q' := CE g b X V sz L (fun q S' A' => (∃ a tn : Nat, a < 12 ∧ ((n : Nat) : Int) = (a : Int) ∧ 0 < S.r a ∧ tn < 12 ∧ ((k : Nat) : Int) = (tn : Int) ∧ RK S A tn (S.c a) (S.r a) (fun i j => S.N a (5 * j + i)) q S' A') ∨ (¬ (∃ a : Nat, a < 12 ∧ ((n : Nat) : Int) = (a : Int) ∧ 0 < S.r a ∧ 0 ≤ ((k : Nat) : Int) ∧ ((k : Nat) : Int) < 12) ∧ some (.int (iZ 0)) = q ∧ S' = S ∧ A' = A))) (fun r V' sz' dc ds z => WE.mono (fun Z' y => by obtain ⟨S', A', y1, y2⟩ := y; exact ⟨S', A', y1, Or.inl ⟨n, k, hn, rfl, hr, by omega, rfl, y2⟩⟩) (fun _ y => y) z)
      refine AMet.of rfl rfl (Nat.le_of_ble_eq_true rfl) ?_
      show AW g mX5_turn (d + 3) 0 [(0, .ref b), (1, .int (iZ n)), (2, .int (iZ k))] [] V sz _
      refine aw_aload_n dX5_turn_0 (by rfl) (Or.inr ⟨_, rfl⟩) ?_
      refine aw_iload_n dX5_turn_1 (by rfl) ?_
      refine aw_callv vX5_72 dX5_turn_2 hb (t_find (d + 1) h ht (Or.inl ⟨n, hn, rfl, hr, rfl⟩)) (by rfl) (by rfl) (by omega) (Nat.le_of_ble_eq_true rfl) ?_
      rintro _ _ _ _ _ ⟨rfl, rfl, rfl, rfl, rfl⟩ -
      refine q0 ?_
      refine aw_astore_n dX5_turn_5 (by decide) (Or.inr ⟨_, rfl⟩) ?_
      refine aw_aload_n dX5_turn_6 (by rfl) (Or.inr ⟨_, rfl⟩) ?_
      refine aw_ifnull_r dX5_turn_7 ?_
      refine aw_iload_n dX5_turn_10 (by rfl) ?_
      refine aw_calls sX5_65 dX5_turn_11 (t_isNumber g (d + 2) hto) (by rfl) (by rfl) (by omega) (Nat.le_of_ble_eq_true rfl) ?_
      rintro _ _ _ _ _ ⟨rfl, rfl, rfl, rfl, rfl⟩ -
      refine q0 ?_
      refine aw_if_neZ (tgt := 19) dX5_turn_14 (by decide) (by split <;> omega) (fun hc_14 => ?_) (fun hc_14 => ?_)
      · refine aw_iconstZ dX5_turn_19 ?_
        refine aw_istore dX5_turn_20 (by decide) ?_
        refine aw_iconstZ dX5_turn_22 ?_
        refine aw_istore dX5_turn_23 (by decide) ?_
        refine aw_pk [5, 4, 3, 0, 2] (by rfl) ?_
        exact GO
      · exact absurd hc_14 (by rw [if_pos hq]; decide)
    · skip
      refine AMet.of rfl rfl (Nat.le_of_ble_eq_true rfl) ?_
      show AW g mX5_turn (d + 3) 0 [(0, .ref b), (1, .int (iZ n)), (2, .int (iZ to))] [] V sz _
      refine aw_aload_n dX5_turn_0 (by rfl) (Or.inr ⟨_, rfl⟩) ?_
      refine aw_iload_n dX5_turn_1 (by rfl) ?_
      refine aw_callv vX5_72 dX5_turn_2 hb (t_find (d + 1) h ht (Or.inl ⟨n, hn, rfl, hr, rfl⟩)) (by rfl) (by rfl) (by omega) (Nat.le_of_ble_eq_true rfl) ?_
      rintro _ _ _ _ _ ⟨rfl, rfl, rfl, rfl, rfl⟩ -
      refine q0 ?_
      refine aw_astore_n dX5_turn_5 (by decide) (Or.inr ⟨_, rfl⟩) ?_
      refine aw_aload_n dX5_turn_6 (by rfl) (Or.inr ⟨_, rfl⟩) ?_
      refine aw_ifnull_r dX5_turn_7 ?_
      refine aw_iload_n dX5_turn_10 (by rfl) ?_
      refine aw_calls sX5_65 dX5_turn_11 (t_isNumber g (d + 2) hto) (by rfl) (by rfl) (by omega) (Nat.le_of_ble_eq_true rfl) ?_
      rintro _ _ _ _ _ ⟨rfl, rfl, rfl, rfl, rfl⟩ -
      refine q0 ?_
      refine aw_if_neZ (tgt := 19) dX5_turn_14 (by decide) (by split <;> omega) (fun hc_14 => ?_) (fun hc_14 => ?_)
      · exact absurd (by rw [if_neg hq]) hc_14
      · refine aw_iconstZ dX5_turn_17 ?_
        refine aw_iret dX5_turn_18 rfl (by rfl) ?_
        exact WE.ret hw0 ⟨S, A, h, Or.inr ⟨fun ⟨_, _, _, _, z⟩ => hq z, rfl, rfl, rfl⟩⟩
  · skip
    refine AMet.of rfl rfl (Nat.le_of_ble_eq_true rfl) ?_
    show AW g mX5_turn (d + 3) 0 [(0, .ref b), (1, .int (iZ t)), (2, .int (iZ to))] [] V sz _
    refine aw_aload_n dX5_turn_0 (by rfl) (Or.inr ⟨_, rfl⟩) ?_
    refine aw_iload_n dX5_turn_1 (by rfl) ?_
    refine aw_callv vX5_72 dX5_turn_2 hb (t_find (d + 1) h ht (Or.inr ⟨hno, rfl⟩)) (by rfl) (by rfl) (by omega) (Nat.le_of_ble_eq_true rfl) ?_
    rintro _ _ _ _ _ ⟨rfl, rfl, rfl, rfl, rfl⟩ -
    refine q0 ?_
    refine aw_astore_n dX5_turn_5 (by decide) (Or.inl rfl) ?_
    refine aw_aload_n dX5_turn_6 (by rfl) (Or.inl rfl) ?_
    refine aw_ifnull_n (tgt := 17) dX5_turn_7 (by decide) ?_
    refine aw_iconstZ dX5_turn_17 ?_
    refine aw_iret dX5_turn_18 rfl (by rfl) ?_
    exact WE.ret hw0 ⟨S, A, h, Or.inr ⟨fun ⟨a, h1, h2, h3, _⟩ => by have := hno a h1 h2; omega, rfl, rfl, rfl⟩⟩
