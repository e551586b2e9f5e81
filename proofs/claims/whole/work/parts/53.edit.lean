/-! ===== table, tear, madeCanBe, leaf, keepMade ===== -/
/-- a class method's end -/
def CE (g : GX) (b : Nat) (X : Nat → Prop) (V : AH) (sz : Nat) (L : Nat → Nat) (R : Option Value → TSt → ASt → Prop) : AQ := WE g (wsB b) (SAB b X) (EB b) V sz L (fun r V' Z' => ∃ (S' : TSt) (A' : ASt), CX g b X V' Z' S' A' ∧ R r S' A')
/-- table t changed -/
def upT (S : TSt) (t r c : Nat) (N H : Nat → Int) : TSt := (upF S.r t r, upF S.c t c, upF S.N t N, upF S.H t H)
theorem TOK.up {S : TSt} {t r c : Nat} {N H : Nat → Int} (h : TOK S) (h1 : r ≤ 5 ∧ c ≤ 5 ∧ (r = 0 ∨ 1 ≤ c) ∧ (∀ k, k < 25 → -1000 ≤ N k ∧ N k ≤ 1000) ∧ (∀ i, H i = 0 ∨ H i = 1) ∧ (∀ i j, i < 5 → j < 5 → r ≤ i ∨ c ≤ j ∨ H i = 0 → N (5 * i + j) = 0) ∧ ∀ i, i < 5 → r ≤ i → H i = 0) : TOK (upT S t r c N H) := fun q hq => by
  by_cases e : q = t
  · subst e
    show upF S.r q r q ≤ 5 ∧ upF S.c q c q ≤ 5 ∧ (upF S.r q r q = 0 ∨ 1 ≤ upF S.c q c q) ∧ (∀ k, k < 25 → -1000 ≤ upF S.N q N q k ∧ upF S.N q N q k ≤ 1000) ∧ (∀ i, upF S.H q H q i = 0 ∨ upF S.H q H q i = 1) ∧ (∀ i j, i < 5 → j < 5 → upF S.r q r q ≤ i ∨ upF S.c q c q ≤ j ∨ upF S.H q H q i = 0 → upF S.N q N q (5 * i + j) = 0) ∧ ∀ i, i < 5 → upF S.r q r q ≤ i → upF S.H q H q i = 0
    rw [upF_self, upF_self, upF_self, upF_self]
    exact h1
  · show upF S.r t r q ≤ 5 ∧ upF S.c t c q ≤ 5 ∧ (upF S.r t r q = 0 ∨ 1 ≤ upF S.c t c q) ∧ (∀ k, k < 25 → -1000 ≤ upF S.N t N q k ∧ upF S.N t N q k ≤ 1000) ∧ (∀ i, upF S.H t H q i = 0 ∨ upF S.H t H q i = 1) ∧ (∀ i j, i < 5 → j < 5 → upF S.r t r q ≤ i ∨ upF S.c t c q ≤ j ∨ upF S.H t H q i = 0 → upF S.N t N q (5 * i + j) = 0) ∧ ∀ i, i < 5 → upF S.r t r q ≤ i → upF S.H t H q i = 0
    rw [upF_ne _ _ e, upF_ne _ _ e, upF_ne _ _ e, upF_ne _ _ e]
    exact h q hq
theorem tb_ne {b t q : Nat} (h : q ≠ t) : ¬ ET (b + 647 + 3 * t) (b + 647 + 3 * t + 1) (b + 647 + 3 * t + 2) (b + 647 + 3 * q) ∧ ¬ ET (b + 647 + 3 * t) (b + 647 + 3 * t + 1) (b + 647 + 3 * t + 2) (b + 647 + 3 * q + 1) ∧ ¬ ET (b + 647 + 3 * t) (b + 647 + 3 * t + 1) (b + 647 + 3 * t + 2) (b + 647 + 3 * q + 2) := by
  refine ⟨fun e => ?_, fun e => ?_, fun e => ?_⟩ <;> rcases e with e | e | e <;> omega
/-- one table changed: the bench behind it -/
theorem CX.table1 {g : GX} {b : Nat} {X : Nat → Prop} {V V' : AH} {Z : Nat → Int} {S : TSt} {A : ASt} {t r c : Nat} {N H : Nat → Int} (h : CX g b X V Z S A) (ht : t < 12) (hV : ∀ a, ¬ ET (b + 647 + 3 * t) (b + 647 + 3 * t + 1) (b + 647 + 3 * t + 2) a → V' a = V a) (hT : TbV g V' (b + 647 + 3 * t) (b + 647 + 3 * t + 1) (b + 647 + 3 * t + 2) r c N H) (hOk : TOK (upT S t r c N H)) : CX g b X V' Z (upT S t r c N H) A := by
  refine h.tables rfl rfl ⟨fun a _ hn => hV a (fun q => by rcases q with q | q | q <;> omega), fun _ _ => rfl⟩ hOk (fun q hq => ?_)
  by_cases e : q = t
  · subst e
    show TbV g V' _ _ _ ((upF S.r q r q : Nat) : Int) ((upF S.c q c q : Nat) : Int) (upF S.N q N q) (upF S.H q H q)
    rw [upF_self, upF_self, upF_self, upF_self]
    exact hT
  · show TbV g V' _ _ _ ((upF S.r t r q : Nat) : Int) ((upF S.c t c q : Nat) : Int) (upF S.N t N q) (upF S.H t H q)
    rw [upF_ne _ _ e, upF_ne _ _ e, upF_ne _ _ e, upF_ne _ _ e]
    obtain ⟨n1, n2, n3⟩ := tb_ne (b := b) e
    exact (h.2.1 q hq).kept (hV _ n1) (hV _ n2) (hV _ n3)
theorem wse_tb {g : GX} {b : Nat} {X : Nat → Prop} {V V' : AH} {sz : Nat} {Z : Nat → Int} {P L : Nat → Nat} {t : Nat} (hw0 : WG g (wsB b) (SAB b X) V sz Z P L) (ht : t < 12) (hV : ∀ a, ¬ ET (b + 647 + 3 * t) (b + 647 + 3 * t + 1) (b + 647 + 3 * t + 2) a → V' a = V a) : WSE g (wsB b) (SAB b X) (EB b) V sz L V' sz Z P L 0 0 :=
  (hw0.vx (E := ET (b + 647 + 3 * t) (b + 647 + 3 * t + 1) (b + 647 + 3 * t + 2)) (fun a q => sab_t (by rcases q with q | q | q <;> omega)) hV).weak (fun a q => by rcases q with q | q | q <;> (unfold EB; omega))
def z25 (N : Nat → Int) : Nat → Int := fun k => if k < 25 then 0 else N k
def z5 (H : Nat → Int) : Nat → Int := fun k => if k < 5 then 0 else H k
abbrev mX5_table : MI := (yX5_table, cX5_table, 4, (some FieldType.boolean), noX)
theorem dX5_table_0 : decode cX5_table 0 = .ok (.iload_n 1, 1) := by decide +kernel
theorem dX5_table_1 : decode cX5_table 1 = .ok (.invokestatic 65, 3) := by decide +kernel
theorem dX5_table_4 : decode cX5_table 4 = .ok (.ifCond .eq 23, 3) := by decide +kernel
theorem dX5_table_7 : decode cX5_table 7 = .ok (.iload_n 2, 1) := by decide +kernel
theorem dX5_table_8 : decode cX5_table 8 = .ok (.iconst 1, 1) := by decide +kernel
theorem dX5_table_9 : decode cX5_table 9 = .ok (.if_icmp .lt 18, 3) := by decide +kernel
theorem dX5_table_12 : decode cX5_table 12 = .ok (.iload_n 2, 1) := by decide +kernel
theorem dX5_table_13 : decode cX5_table 13 = .ok (.iconst 5, 1) := by decide +kernel
theorem dX5_table_14 : decode cX5_table 14 = .ok (.if_icmp .gt 13, 3) := by decide +kernel
theorem dX5_table_17 : decode cX5_table 17 = .ok (.iload_n 3, 1) := by decide +kernel
theorem dX5_table_18 : decode cX5_table 18 = .ok (.iconst 1, 1) := by decide +kernel
theorem dX5_table_19 : decode cX5_table 19 = .ok (.if_icmp .lt 8, 3) := by decide +kernel
theorem dX5_table_22 : decode cX5_table 22 = .ok (.iload_n 3, 1) := by decide +kernel
theorem dX5_table_23 : decode cX5_table 23 = .ok (.iconst 5, 1) := by decide +kernel
theorem dX5_table_24 : decode cX5_table 24 = .ok (.if_icmp .le 5, 3) := by decide +kernel
theorem dX5_table_27 : decode cX5_table 27 = .ok (.iconst 0, 1) := by decide +kernel
theorem dX5_table_28 : decode cX5_table 28 = .ok (.ireturn, 1) := by decide +kernel
theorem dX5_table_29 : decode cX5_table 29 = .ok (.aload_n 0, 1) := by decide +kernel
theorem dX5_table_30 : decode cX5_table 30 = .ok (.getfield 11, 3) := by decide +kernel
theorem dX5_table_33 : decode cX5_table 33 = .ok (.iload_n 1, 1) := by decide +kernel
theorem dX5_table_34 : decode cX5_table 34 = .ok (.aaload, 1) := by decide +kernel
theorem dX5_table_35 : decode cX5_table 35 = .ok (.iload_n 2, 1) := by decide +kernel
theorem dX5_table_36 : decode cX5_table 36 = .ok (.iload_n 3, 1) := by decide +kernel
theorem dX5_table_37 : decode cX5_table 37 = .ok (.invokevirtual 69, 3) := by decide +kernel
theorem dX5_table_40 : decode cX5_table 40 = .ok (.iconst 1, 1) := by decide +kernel
theorem dX5_table_41 : decode cX5_table 41 = .ok (.ireturn, 1) := by decide +kernel
theorem c_table {g : GX} {b : Nat} {X : Nat → Prop} {V : AH} {sz : Nat} {Z : Nat → Int} {S : TSt} {A : ASt} (d : Nat) {t r c : Int} {P L : Nat → Nat} (hw0 : WG g (wsB b) (SAB b X) V sz Z P L) (h : CX g b X V Z S A) (ht : R32 t) (hr : R32 r) (hc : R32 c) : AMet g mX5_table (d + 2) [.ref b, .int (iZ t), .int (iZ r), .int (iZ c)] V sz (CE g b X V sz L (fun q S' A' => A' = A ∧ ((0 ≤ t ∧ t < 12 ∧ 1 ≤ r ∧ r ≤ 5 ∧ 1 ≤ c ∧ c ≤ 5) ∧ some (.int (iZ 1)) = q ∧ S' = upT S t.toNat r.toNat c.toNat (z25 (S.N t.toNat)) (z5 (S.H t.toNat)) ∨ ¬ (0 ≤ t ∧ t < 12 ∧ 1 ≤ r ∧ r ≤ 5 ∧ 1 ≤ c ∧ c ≤ 5) ∧ some (.int (iZ 0)) = q ∧ S' = S))) := by
  obtain ⟨⟨hb, hb1⟩, hTb, hOk, -⟩ := id h
  by_cases hq : 0 ≤ t ∧ t < 12 ∧ 1 ≤ r ∧ r ≤ 5 ∧ 1 ≤ c ∧ c ≤ 5
  · obtain ⟨n, rfl⟩ : ∃ n : Nat, t = (n : Int) := ⟨t.toNat, by omega⟩
    obtain ⟨rn, rfl⟩ : ∃ n : Nat, r = (n : Int) := ⟨r.toNat, by omega⟩
    obtain ⟨cn, rfl⟩ : ∃ n : Nat, c = (n : Int) := ⟨c.toNat, by omega⟩
    obtain ⟨hT1, -⟩ := hTb n (by omega)
    have hH := (hOk n (by omega)).2.2.2.2.1
    refine AMet.of rfl rfl (Nat.le_of_ble_eq_true rfl) ?_
    show AW g mX5_table (d + 2) 0 [(0, .ref b), (1, .int (iZ n)), (2, .int (iZ rn)), (3, .int (iZ cn))] [] V sz _
    refine aw_iload_n dX5_table_0 (by rfl) ?_
    refine aw_calls sX5_65 dX5_table_1 (t_isNumber g (d + 1) ht) (by rfl) (by rfl) (by omega) (Nat.le_of_ble_eq_true rfl) ?_
    rintro _ _ _ _ _ ⟨rfl, rfl, rfl, rfl, rfl⟩ -
    refine q0 ?_
    refine aw_if_eqZ (tgt := 27) dX5_table_4 (by decide) (by split <;> omega) (fun hc_4 => ?_) (fun hc_4 => ?_)
    · exact absurd hc_4 (by rw [if_pos (by omega)]; decide)
    · refine aw_iload_n dX5_table_7 (by rfl) ?_
      refine aw_iconstZ dX5_table_8 ?_
      refine aw_icmp_ltZ (tgt := 27) dX5_table_9 (by decide) (by omega) (by omega) (fun hc_9 => ?_) (fun hc_9 => ?_)
      · exact absurd hc_9 (by omega)
      · refine aw_iload_n dX5_table_12 (by rfl) ?_
        refine aw_iconstZ dX5_table_13 ?_
        refine aw_icmp_gtZ (tgt := 27) dX5_table_14 (by decide) (by omega) (by omega) (fun hc_14 => ?_) (fun hc_14 => ?_)
        · exact absurd hc_14 (by omega)
        · refine aw_iload_n dX5_table_17 (by rfl) ?_
          refine aw_iconstZ dX5_table_18 ?_
          refine aw_icmp_ltZ (tgt := 27) dX5_table_19 (by decide) (by omega) (by omega) (fun hc_19 => ?_) (fun hc_19 => ?_)
          · exact absurd hc_19 (by omega)
          · refine aw_iload_n dX5_table_22 (by rfl) ?_
            refine aw_iconstZ dX5_table_23 ?_
            refine aw_icmp_leZ (tgt := 29) dX5_table_24 (by decide) (by omega) (by omega) (fun hc_24 => ?_) (fun hc_24 => ?_)
            · refine aw_aload_n dX5_table_29 (by rfl) (Or.inr ⟨_, rfl⟩) ?_
              refine aw_get fX5_11 dX5_table_30 (by assumption) (by rfl) ?_
              refine aw_iload_n dX5_table_33 (by rfl) ?_
              refine aw_aaldZ (t0 := 3) (n) (by rfl) dX5_table_34 (by assumption) (by omega) (by omega) (by omega) ?_
              refine aw_iload_n dX5_table_35 (by rfl) ?_
              refine aw_iload_n dX5_table_36 (by rfl) ?_
              refine aw_callv vX5_69 dX5_table_37 hT1 (t_tbegin g d (rr := rn) (cc := cn) (hTb n (by omega))) (by rfl) (by rfl) (by omega) (Nat.le_of_ble_eq_true rfl) ?_
              rintro _ V1 _ _ _ ⟨rfl, rfl, rfl, hE, rfl, hT⟩ -
              refine WE.stp (wse_tb hw0 (by omega) hE) ?_
              have hw1 := (wse_tb hw0 (by omega) hE).1
              refine aw_iconstZ dX5_table_40 ?_
              refine aw_iret dX5_table_41 rfl (by rfl) ?_
              refine WE.ret hw1 ⟨_, _, h.table1 (by omega) hE hT (hOk.up ⟨by omega, by omega, by omega, fun k hk => by rw [if_pos hk]; omega, fun i => by split; exact Or.inl rfl; exact hH i, fun i j hi hj _ => if_pos (by omega), fun i hi _ => if_pos hi⟩), rfl, Or.inl ⟨hq, rfl, ?_⟩⟩
              rw [Int.toNat_natCast, Int.toNat_natCast, Int.toNat_natCast]
              rfl
            · exact absurd (by omega) hc_24
  · skip
    refine AMet.of rfl rfl (Nat.le_of_ble_eq_true rfl) ?_
    show AW g mX5_table (d + 2) 0 [(0, .ref b), (1, .int (iZ t)), (2, .int (iZ r)), (3, .int (iZ c))] [] V sz _
    refine aw_iload_n dX5_table_0 (by rfl) ?_
    refine aw_calls sX5_65 dX5_table_1 (t_isNumber g (d + 1) ht) (by rfl) (by rfl) (by omega) (Nat.le_of_ble_eq_true rfl) ?_
    rintro _ _ _ _ _ ⟨rfl, rfl, rfl, rfl, rfl⟩ -
    refine q0 ?_
    refine aw_if_eqZ (tgt := 27) dX5_table_4 (by decide) (by split <;> omega) (fun hc_4 => ?_) (fun hc_4 => ?_)
    · refine aw_iconstZ dX5_table_27 ?_
      refine aw_iret dX5_table_28 rfl (by rfl) ?_
      exact WE.ret hw0 ⟨S, A, h, rfl, Or.inr ⟨hq, rfl, rfl⟩⟩
    · have hti : 0 ≤ t ∧ t < 12 := by
        by_cases h1 : 0 ≤ t ∧ t < 12
        · exact h1
        · rw [if_neg h1] at hc_4; exact absurd rfl hc_4
      refine aw_iload_n dX5_table_7 (by rfl) ?_
      refine aw_iconstZ dX5_table_8 ?_
      refine aw_icmp_ltZ (tgt := 27) dX5_table_9 (by decide) (by omega) (by omega) (fun hc_9 => ?_) (fun hc_9 => ?_)
      · refine aw_iconstZ dX5_table_27 ?_
        refine aw_iret dX5_table_28 rfl (by rfl) ?_
        exact WE.ret hw0 ⟨S, A, h, rfl, Or.inr ⟨hq, rfl, rfl⟩⟩
      · refine aw_iload_n dX5_table_12 (by rfl) ?_
        refine aw_iconstZ dX5_table_13 ?_
        refine aw_icmp_gtZ (tgt := 27) dX5_table_14 (by decide) (by omega) (by omega) (fun hc_14 => ?_) (fun hc_14 => ?_)
        · refine aw_iconstZ dX5_table_27 ?_
          refine aw_iret dX5_table_28 rfl (by rfl) ?_
          exact WE.ret hw0 ⟨S, A, h, rfl, Or.inr ⟨hq, rfl, rfl⟩⟩
        · refine aw_iload_n dX5_table_17 (by rfl) ?_
          refine aw_iconstZ dX5_table_18 ?_
          refine aw_icmp_ltZ (tgt := 27) dX5_table_19 (by decide) (by omega) (by omega) (fun hc_19 => ?_) (fun hc_19 => ?_)
          · refine aw_iconstZ dX5_table_27 ?_
            refine aw_iret dX5_table_28 rfl (by rfl) ?_
            exact WE.ret hw0 ⟨S, A, h, rfl, Or.inr ⟨hq, rfl, rfl⟩⟩
          · refine aw_iload_n dX5_table_22 (by rfl) ?_
            refine aw_iconstZ dX5_table_23 ?_
            refine aw_icmp_leZ (tgt := 29) dX5_table_24 (by decide) (by omega) (by omega) (fun hc_24 => ?_) (fun hc_24 => ?_)
            · exact absurd (by omega) hq
            · refine aw_iconstZ dX5_table_27 ?_
              refine aw_iret dX5_table_28 rfl (by rfl) ?_
              exact WE.ret hw0 ⟨S, A, h, rfl, Or.inr ⟨hq, rfl, rfl⟩⟩
abbrev mX5_tear : MI := (yX5_tear, cX5_tear, 5, (some FieldType.boolean), noX)
theorem dX5_tear_0 : decode cX5_tear 0 = .ok (.aload_n 0, 1) := by decide +kernel
theorem dX5_tear_1 : decode cX5_tear 1 = .ok (.iload_n 1, 1) := by decide +kernel
theorem dX5_tear_2 : decode cX5_tear 2 = .ok (.invokevirtual 72, 3) := by decide +kernel
theorem dX5_tear_5 : decode cX5_tear 5 = .ok (.astore_n 3, 1) := by decide +kernel
theorem dX5_tear_6 : decode cX5_tear 6 = .ok (.aload_n 3, 1) := by decide +kernel
theorem dX5_tear_7 : decode cX5_tear 7 = .ok (.ifnull 11, 3) := by decide +kernel
theorem dX5_tear_10 : decode cX5_tear 10 = .ok (.aload_n 3, 1) := by decide +kernel
theorem dX5_tear_11 : decode cX5_tear 11 = .ok (.iload_n 2, 1) := by decide +kernel
theorem dX5_tear_12 : decode cX5_tear 12 = .ok (.invokevirtual 76, 3) := by decide +kernel
theorem dX5_tear_15 : decode cX5_tear 15 = .ok (.ifCond .ne 5, 3) := by decide +kernel
theorem dX5_tear_18 : decode cX5_tear 18 = .ok (.iconst 0, 1) := by decide +kernel
theorem dX5_tear_19 : decode cX5_tear 19 = .ok (.ireturn, 1) := by decide +kernel
theorem dX5_tear_20 : decode cX5_tear 20 = .ok (.aload_n 3, 1) := by decide +kernel
theorem dX5_tear_21 : decode cX5_tear 21 = .ok (.getfield 89, 3) := by decide +kernel
theorem dX5_tear_24 : decode cX5_tear 24 = .ok (.iload_n 2, 1) := by decide +kernel
theorem dX5_tear_25 : decode cX5_tear 25 = .ok (.baload, 1) := by decide +kernel
theorem dX5_tear_26 : decode cX5_tear 26 = .ok (.istore 4, 2) := by decide +kernel
theorem dX5_tear_28 : decode cX5_tear 28 = .ok (.aload_n 3, 1) := by decide +kernel
theorem dX5_tear_29 : decode cX5_tear 29 = .ok (.iload_n 2, 1) := by decide +kernel
theorem dX5_tear_30 : decode cX5_tear 30 = .ok (.invokevirtual 93, 3) := by decide +kernel
theorem dX5_tear_33 : decode cX5_tear 33 = .ok (.iload 4, 2) := by decide +kernel
theorem dX5_tear_35 : decode cX5_tear 35 = .ok (.ireturn, 1) := by decide +kernel
theorem c_tear {g : GX} {b : Nat} {X : Nat → Prop} {V : AH} {sz : Nat} {Z : Nat → Int} {S : TSt} {A : ASt} (d : Nat) {t i : Int} {P L : Nat → Nat} (hw0 : WG g (wsB b) (SAB b X) V sz Z P L) (h : CX g b X V Z S A) (ht : R32 t) (hi : R32 i) : AMet g mX5_tear (d + 2) [.ref b, .int (iZ t), .int (iZ i)] V sz (CE g b X V sz L (fun q S' A' => A' = A ∧ ((0 ≤ t ∧ t < 12 ∧ 0 ≤ i ∧ i < S.r t.toNat) ∧ some (.int (iZ (S.H t.toNat i.toNat))) = q ∧ S' = upT S t.toNat (S.r t.toNat) (S.c t.toNat) (drN (S.N t.toNat) i.toNat 5) (upF (S.H t.toNat) i.toNat 0) ∨ ¬ (0 ≤ t ∧ t < 12 ∧ 0 ≤ i ∧ i < S.r t.toNat) ∧ some (.int (iZ 0)) = q ∧ S' = S))) := by
  obtain ⟨⟨hb, hb1⟩, hTb, hOk, -⟩ := id h
  obtain ⟨v, hv⟩ := FindV.ex S b t
  rcases hv with ⟨n, hn, rfl, hr, rfl⟩ | ⟨hno, rfl⟩
  · obtain ⟨hT1, hT2, hT3, -⟩ := hTb n hn
    obtain ⟨hr5, hc5, hrc, hN, hH, hz, hz2⟩ := hOk n hn
    by_cases hq : 0 ≤ i ∧ i < (S.r n : Int)
    · obtain ⟨k, rfl⟩ : ∃ k : Nat, i = (k : Int) := ⟨i.toNat, by omega⟩
      refine AMet.of rfl rfl (Nat.le_of_ble_eq_true rfl) ?_
      show AW g mX5_tear (d + 2) 0 [(0, .ref b), (1, .int (iZ n)), (2, .int (iZ k))] [] V sz _
      refine aw_aload_n dX5_tear_0 (by rfl) (Or.inr ⟨_, rfl⟩) ?_
      refine aw_iload_n dX5_tear_1 (by rfl) ?_
      refine aw_callv vX5_72 dX5_tear_2 hb (t_find d h ht (Or.inl ⟨n, hn, rfl, hr, rfl⟩)) (by rfl) (by rfl) (by omega) (Nat.le_of_ble_eq_true rfl) ?_
      rintro _ _ _ _ _ ⟨rfl, rfl, rfl, rfl, rfl⟩ -
      refine q0 ?_
      refine aw_astore_n dX5_tear_5 (by decide) (Or.inr ⟨_, rfl⟩) ?_
      refine aw_aload_n dX5_tear_6 (by rfl) (Or.inr ⟨_, rfl⟩) ?_
      refine aw_ifnull_r dX5_tear_7 ?_
      refine aw_aload_n dX5_tear_10 (by rfl) (Or.inr ⟨_, rfl⟩) ?_
      refine aw_iload_n dX5_tear_11 (by rfl) ?_
      refine aw_callv vX5_76 dX5_tear_12 hT1 (t_hasRow g d (hTb n hn) (by omega) hi) (by rfl) (by rfl) (by omega) (Nat.le_of_ble_eq_true rfl) ?_
      rintro _ _ _ _ _ ⟨rfl, rfl, rfl, rfl, rfl⟩ -
      refine q0 ?_
      refine aw_if_neZ (tgt := 20) dX5_tear_15 (by decide) (by split <;> omega) (fun hc_15 => ?_) (fun hc_15 => ?_)
      · refine aw_aload_n dX5_tear_20 (by rfl) (Or.inr ⟨_, rfl⟩) ?_
        refine aw_get fX5_89 dX5_tear_21 (by assumption) (by rfl) ?_
        refine aw_iload_n dX5_tear_24 (by rfl) ?_
        refine aw_zaldZ (k) dX5_tear_25 (by assumption) (by omega) (by omega) (by omega) ?_
        refine aw_istore dX5_tear_26 (by decide) ?_
        refine aw_aload_n dX5_tear_28 (by rfl) (Or.inr ⟨_, rfl⟩) ?_
        refine aw_iload_n dX5_tear_29 (by rfl) ?_
        refine aw_callv vX5_93 dX5_tear_30 hT1 (t_drop g d (i := k) (by omega) (hTb n hn)) (by rfl) (by rfl) (by omega) (Nat.le_of_ble_eq_true rfl) ?_
        rintro _ V1 _ _ _ ⟨rfl, rfl, rfl, hE, rfl, hT⟩ -
        refine WE.stp (wse_tb hw0 hn hE) ?_
        have hw1 := (wse_tb hw0 hn hE).1
        refine aw_iload dX5_tear_33 (by rfl) ?_
        refine aw_iret dX5_tear_35 rfl (nar01 (hH k)) ?_
        refine WE.ret hw1 ⟨_, _, h.table1 hn hE hT (hOk.up ⟨hr5, hc5, hrc, fun q hq2 => by unfold drN; split; omega; exact hN q hq2, fun q => by unfold upF; split; exact Or.inl rfl; exact hH q, fun q j hq2 hj h3 => ?_, fun q hq2 h3 => by unfold upF; split; rfl; exact hz2 q hq2 h3⟩), rfl, Or.inl ⟨?_, ?_, ?_⟩⟩
        · unfold drN
          by_cases e : q = k
          · rw [if_pos (by omega)]
          · rw [if_neg (by omega)]
            exact hz q j hq2 hj (h3.elim Or.inl (fun z => Or.inr (z.elim Or.inl (fun y => Or.inr (by rw [upF_ne _ _ e] at y; exact y)))))
        · rw [Int.toNat_natCast]; omega
        · rw [Int.toNat_natCast, Int.toNat_natCast]
        · rw [Int.toNat_natCast, Int.toNat_natCast]
      · exact absurd hc_15 (by rw [if_pos hq]; decide)
    · skip
      refine AMet.of rfl rfl (Nat.le_of_ble_eq_true rfl) ?_
      show AW g mX5_tear (d + 2) 0 [(0, .ref b), (1, .int (iZ n)), (2, .int (iZ i))] [] V sz _
      refine aw_aload_n dX5_tear_0 (by rfl) (Or.inr ⟨_, rfl⟩) ?_
      refine aw_iload_n dX5_tear_1 (by rfl) ?_
      refine aw_callv vX5_72 dX5_tear_2 hb (t_find d h ht (Or.inl ⟨n, hn, rfl, hr, rfl⟩)) (by rfl) (by rfl) (by omega) (Nat.le_of_ble_eq_true rfl) ?_
      rintro _ _ _ _ _ ⟨rfl, rfl, rfl, rfl, rfl⟩ -
      refine q0 ?_
      refine aw_astore_n dX5_tear_5 (by decide) (Or.inr ⟨_, rfl⟩) ?_
      refine aw_aload_n dX5_tear_6 (by rfl) (Or.inr ⟨_, rfl⟩) ?_
      refine aw_ifnull_r dX5_tear_7 ?_
      refine aw_aload_n dX5_tear_10 (by rfl) (Or.inr ⟨_, rfl⟩) ?_
      refine aw_iload_n dX5_tear_11 (by rfl) ?_
      refine aw_callv vX5_76 dX5_tear_12 hT1 (t_hasRow g d (hTb n hn) (by omega) hi) (by rfl) (by rfl) (by omega) (Nat.le_of_ble_eq_true rfl) ?_
      rintro _ _ _ _ _ ⟨rfl, rfl, rfl, rfl, rfl⟩ -
      refine q0 ?_
      refine aw_if_neZ (tgt := 20) dX5_tear_15 (by decide) (by split <;> omega) (fun hc_15 => ?_) (fun hc_15 => ?_)
      · exact absurd (by rw [if_neg hq]) hc_15
      · refine aw_iconstZ dX5_tear_18 ?_
        refine aw_iret dX5_tear_19 rfl (by rfl) ?_
        exact WE.ret hw0 ⟨S, A, h, rfl, Or.inr ⟨fun z => hq ⟨z.2.2.1, by have := z.2.2.2; rw [Int.toNat_natCast] at this; exact this⟩, rfl, rfl⟩⟩
  · skip
    refine AMet.of rfl rfl (Nat.le_of_ble_eq_true rfl) ?_
    show AW g mX5_tear (d + 2) 0 [(0, .ref b), (1, .int (iZ t)), (2, .int (iZ i))] [] V sz _
    refine aw_aload_n dX5_tear_0 (by rfl) (Or.inr ⟨_, rfl⟩) ?_
    refine aw_iload_n dX5_tear_1 (by rfl) ?_
    refine aw_callv vX5_72 dX5_tear_2 hb (t_find d h ht (Or.inr ⟨hno, rfl⟩)) (by rfl) (by rfl) (by omega) (Nat.le_of_ble_eq_true rfl) ?_
    rintro _ _ _ _ _ ⟨rfl, rfl, rfl, rfl, rfl⟩ -
    refine q0 ?_
    refine aw_astore_n dX5_tear_5 (by decide) (Or.inl rfl) ?_
    refine aw_aload_n dX5_tear_6 (by rfl) (Or.inl rfl) ?_
    refine aw_ifnull_n (tgt := 18) dX5_tear_7 (by decide) ?_
    refine aw_iconstZ dX5_tear_18 ?_
    refine aw_iret dX5_tear_19 rfl (by rfl) ?_
    exact WE.ret hw0 ⟨S, A, h, rfl, Or.inr ⟨fun z => by have := hno t.toNat (by omega) (by omega); omega, rfl, rfl⟩⟩
