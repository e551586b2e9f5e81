/-! ===== constructors: Whole, Row, Table ===== -/
theorem nfX2_9 : NLf RX2 9 4 3 [.int (iZ 0), .int (iZ 0), .null] := ⟨_, _, _, clX4, kX2_9, (gw_at 30 (by decide +kernel) rfl), (gw_at 3 (by decide +kernel) rfl), fun j hj => by
  rcases (by omega : j = 0 ∨ j = 1 ∨ j = 2) with rfl | rfl | rfl <;> rfl⟩
theorem nfX0_9 : NLf RX0 9 4 3 [.int (iZ 0), .int (iZ 0), .null] := ⟨_, _, _, clX4, kX0_9, (gw_at 30 (by decide +kernel) rfl), (gw_at 3 (by decide +kernel) rfl), fun j hj => by
  rcases (by omega : j = 0 ∨ j = 1 ∨ j = 2) with rfl | rfl | rfl <;> rfl⟩
theorem nfX1_9 : NLf RX1 9 0 7 [.null, .null, .null, .null, .null, .null, .null] := ⟨_, _, _, clX0, kX1_9, (gw_at 24 (by decide +kernel) rfl), (gw_at 2 (by decide +kernel) rfl), fun j hj => by
  rcases (by omega : j = 0 ∨ j = 1 ∨ j = 2 ∨ j = 3 ∨ j = 4 ∨ j = 5 ∨ j = 6) with rfl | rfl | rfl | rfl | rfl | rfl | rfl <;> rfl⟩
theorem nfX1_18 : NLf RX1 18 4 3 [.int (iZ 0), .int (iZ 0), .null] := ⟨_, _, _, clX4, kX1_18, (gw_at 30 (by decide +kernel) rfl), (gw_at 3 (by decide +kernel) rfl), fun j hj => by
  rcases (by omega : j = 0 ∨ j = 1 ∨ j = 2) with rfl | rfl | rfl <;> rfl⟩
theorem nfX1_39 : NLf RX1 39 2 1 [.null] := ⟨_, _, _, clX2, kX1_39, (gw_at 94 (by decide +kernel) rfl), (gw_at 6 (by decide +kernel) rfl), fun j hj => by
  obtain rfl : j = 0 := by omega
  rfl⟩
theorem nfX5_44 : NLf RX5 44 2 1 [.null] := ⟨_, _, _, clX2, kX5_44, (gw_at 94 (by decide +kernel) rfl), (gw_at 6 (by decide +kernel) rfl), fun j hj => by
  obtain rfl : j = 0 := by omega
  rfl⟩
theorem nfX5_9 : NLf RX5 9 3 4 [.int (iZ 0), .int (iZ 0), .null, .null] := ⟨_, _, _, clX3, kX5_9, (gw_at 136 (by decide +kernel) rfl), (gw_at 7 (by decide +kernel) rfl), fun j hj => by
  rcases (by omega : j = 0 ∨ j = 1 ∨ j = 2 ∨ j = 3) with rfl | rfl | rfl | rfl <;> rfl⟩
theorem nfX5_15 : NLf RX5 15 0 7 [.null, .null, .null, .null, .null, .null, .null] := ⟨_, _, _, clX0, kX5_15, (gw_at 24 (by decide +kernel) rfl), (gw_at 2 (by decide +kernel) rfl), fun j hj => by
  rcases (by omega : j = 0 ∨ j = 1 ∨ j = 2 ∨ j = 3 ∨ j = 4 ∨ j = 5 ∨ j = 6) with rfl | rfl | rfl | rfl | rfl | rfl | rfl <;> rfl⟩
theorem nfX5_22 : NLf RX5 22 1 7 [.null, .null, .null, .null, .null, .int (iZ 0), .int (iZ 0)] := ⟨_, _, _, clX1, kX5_22, (gw_at 83 (by decide +kernel) rfl), (gw_at 5 (by decide +kernel) rfl), fun j hj => by
  rcases (by omega : j = 0 ∨ j = 1 ∨ j = 2 ∨ j = 3 ∨ j = 4 ∨ j = 5 ∨ j = 6) with rfl | rfl | rfl | rfl | rfl | rfl | rfl <;> rfl⟩
theorem nfL_7 : NLf RL 7 5 11 [.null, .null, .null, .int (iZ 0), .null, .null, .null, .null, .null, .null, .null] := ⟨_, _, _, clX5, kL_7, (gw_at 14 (by decide +kernel) rfl), (gw_at 1 (by decide +kernel) rfl), fun j hj => by
  rcases (by omega : j = 0 ∨ j = 1 ∨ j = 2 ∨ j = 3 ∨ j = 4 ∨ j = 5 ∨ j = 6 ∨ j = 7 ∨ j = 8 ∨ j = 9 ∨ j = 10) with rfl | rfl | rfl | rfl | rfl | rfl | rfl | rfl | rfl | rfl | rfl <;> rfl⟩
theorem nfL_10 : NLf RL 10 6 19 [.null, .null, .null, .null, .null, .int (iZ 0), .null, .int (iZ 0), .null, .null, .null, .null, .null, .null, .null, .null, .int (iZ 0), .int (iZ 0), .null] := ⟨_, _, _, clX6, kL_10, (gw_at 601 (by decide +kernel) rfl), (gw_at 8 (by decide +kernel) rfl), fun j hj => by
  rcases (by omega : j = 0 ∨ j = 1 ∨ j = 2 ∨ j = 3 ∨ j = 4 ∨ j = 5 ∨ j = 6 ∨ j = 7 ∨ j = 8 ∨ j = 9 ∨ j = 10 ∨ j = 11 ∨ j = 12 ∨ j = 13 ∨ j = 14 ∨ j = 15 ∨ j = 16 ∨ j = 17 ∨ j = 18) with rfl | rfl | rfl | rfl | rfl | rfl | rfl | rfl | rfl | rfl | rfl | rfl | rfl | rfl | rfl | rfl | rfl | rfl | rfl <;> rfl⟩
/-- a new Whole, its limbs behind it -/
def WhN (g : GX) (V : AH) (w : Nat) : Prop := V w = some (whO 0 0 (w + 1)) ∧ V (w + 1) = some (aIz g 4 (fun _ => 0))
theorem WhN.kept {g : GX} {V V' : AH} {w : Nat} (h : WhN g V w) (h1 : V' w = V w) (h2 : V' (w + 1) = V (w + 1)) : WhN g V' w := ⟨h1.trans h.1, h2.trans h.2⟩
/-- behind a constructor: n cells made, of ms0 slots; of the old ones only the object changed -/
def NwQ (V : AH) (sz o n ms0 : Nat) (R : AH → Prop) : AQ := fun r V' sz' mc ms => none = r ∧ sz + n = sz' ∧ n = mc ∧ ms0 = ms ∧ (∀ a, a < sz → a ≠ o → V' a = V a) ∧ DL V' sz' ∧ R V'
theorem DL.nw {V : AH} {sz : Nat} {e : va_E} (h : DL V sz) : DL (AHu V sz e) (sz + 1) := fun b hb => by
  by_cases q : b = sz
  · omega
  · rw [AHu_ne q] at hb; have := h b hb; omega
theorem arr_cong {cA : ClassId} {n : Nat} {f f' : Nat → Option Nat} (h : ∀ k, k < n → f k = f' k) : vp_cell cA (n, .inr (.inr (.inr (.inr f)))) = vp_cell cA (n, .inr (.inr (.inr (.inr f')))) := by
  rw [vp_cell_q, vp_cell_q]
  unfold arrV
  have e : (fun j : Fin n => va_rf (f j.val)) = fun j : Fin n => va_rf (f' j.val) := funext (fun j => by rw [h _ j.isLt])
  rw [e]
/-- what an array says behind its end doesn't matter -/
theorem aw_arrQ {g : GX} {M : MI} {d pc : Nat} {lv : List (Nat × Value)} {st : List Value} {V : AH} {sz : Nat} {Q : AQ} {a t0 n : Nat} {f f' : Nat → Option Nat} (hV : V a = some (aQ g t0 n f)) (he : ∀ k, k < n → f k = f' k) (k : AW g M d pc lv st (AHu V a (aQ g t0 n f')) sz Q) : AW g M d pc lv st V sz Q := by
  obtain ⟨r, V', sz', dc, ds, hQ, hD, hk⟩ := k
  refine ⟨r, V', sz', dc, ds, hQ, (AHu_dm (Or.inl (ne_of_some hV))).tr hD, fun A p e R s m args below meth c H locs cells slots ls ZQ hC hl hH hA hS h1 h2 hf => ?_⟩
  refine hk A p e R s m args below meth c H locs cells slots ls ZQ hC hl (hv_upd hH ?_ rfl (fun _ _ => rfl)) (fun b hb => ?_) hS h1 h2 hf
  · have h9 : H[a]? = some (vp_cell (g.2.2 t0) (n, .inr (.inr (.inr (.inr f))))) := hH.2 a _ hV
    show H[a]? = some (vp_cell (g.2.2 t0) (n, .inr (.inr (.inr (.inr f')))))
    rw [h9, arr_cong he]
  · by_cases q : b = a
    · rw [q]; exact hA a (ne_of_some hV)
    · rw [AHu_ne q] at hb; exact hA b hb
/-- behind put(1) on a new Whole -/
def P1Q (g : GX) (V : AH) (sz w p : Nat) : AQ := fun r V' sz' mc ms => none = r ∧ sz = sz' ∧ 0 = mc ∧ 0 = ms ∧ V' w = some (whO 1 1 p) ∧ V' p = some (aIz g 4 (upF (fun _ => 0) 0 1)) ∧ ∀ a, a ≠ w → a ≠ p → V' a = V a
abbrev mX4_init : MI := (yX4_init, cX4_init, 1, none, noX)
theorem dX4_init_0 : decode cX4_init 0 = .ok (.aload_n 0, 1) := by decide +kernel
theorem dX4_init_1 : decode cX4_init 1 = .ok (.invokespecial 3, 3) := by decide +kernel
theorem dX4_init_4 : decode cX4_init 4 = .ok (.aload_n 0, 1) := by decide +kernel
theorem dX4_init_5 : decode cX4_init 5 = .ok (.iconst 0, 1) := by decide +kernel
theorem dX4_init_6 : decode cX4_init 6 = .ok (.putfield 9, 3) := by decide +kernel
theorem dX4_init_9 : decode cX4_init 9 = .ok (.aload_n 0, 1) := by decide +kernel
theorem dX4_init_10 : decode cX4_init 10 = .ok (.iconst 0, 1) := by decide +kernel
theorem dX4_init_11 : decode cX4_init 11 = .ok (.putfield 15, 3) := by decide +kernel
theorem dX4_init_14 : decode cX4_init 14 = .ok (.aload_n 0, 1) := by decide +kernel
theorem dX4_init_15 : decode cX4_init 15 = .ok (.iconst 4, 1) := by decide +kernel
theorem dX4_init_16 : decode cX4_init 16 = .ok (.newarray .int, 2) := by decide +kernel
theorem dX4_init_18 : decode cX4_init 18 = .ok (.putfield 18, 3) := by decide +kernel
theorem dX4_init_21 : decode cX4_init 21 = .ok (.return_, 1) := by decide +kernel
theorem t_newW (g : GX) (d : Nat) {V : AH} {w : Nat} (hw : V w = some (.inr (4, [.int (iZ 0), .int (iZ 0), .null]))) (hD : DL V (w + 1)) : AMet g mX4_init (d + 1) [.ref w] V (w + 1) (NwQ V (w + 1) w 1 4 (fun V' => WhN g V' w)) := by
  refine AMet.of rfl rfl (Nat.le_of_ble_eq_true rfl) ?_
  show AW g mX4_init (d + 1) 0 [(0, .ref w)] [] V (w + 1) _
  refine aw_aload_n dX4_init_0 (by rfl) (Or.inr ⟨_, rfl⟩) ?_
  refine aw_objinit oX4_3 dX4_init_1 (by omega) (by decide) ?_
  refine aw_aload_n dX4_init_4 (by rfl) (Or.inr ⟨_, rfl⟩) ?_
  refine aw_iconstZ dX4_init_5 ?_
  refine aw_put fX4_9 dX4_init_6 hw (by rfl) (by rfl) (Nat.le_of_ble_eq_true rfl) ?_
  refine aw_aload_n dX4_init_9 (by rfl) (Or.inr ⟨_, rfl⟩) ?_
  refine aw_iconstZ dX4_init_10 ?_
  refine aw_put fX4_15 dX4_init_11 (AHu_self _ _ _) (by rfl) (by rfl) (Nat.le_of_ble_eq_true rfl) ?_
  refine aw_aload_n dX4_init_14 (by rfl) (Or.inr ⟨_, rfl⟩) ?_
  refine aw_iconstZ dX4_init_15 ?_
  refine aw_newI (N := 4) dX4_init_16 (by decide) (by decide) (by omega) ?_
  refine aw_put fX4_18 dX4_init_18 ((AHu_ne (by omega)).trans (AHu_self _ _ _)) (by rfl) (by rfl) (Nat.le_of_ble_eq_true rfl) ?_
  refine aw_ret dX4_init_21 rfl ?_
  refine ⟨rfl, rfl, rfl, rfl, fun a h1 h2 => by rw [AHu_ne h2, AHu_ne (by omega), AHu_ne h2, AHu_ne h2], ?_, AHu_self _ _ _, (AHu_ne (by omega)).trans (AHu_self _ _ _)⟩
  exact (DL.nw ((hD.upd (by omega)).upd (by omega))).upd (by omega)
theorem t_put1 (g : GX) (d : Nat) {V : AH} {w p sz : Nat} (hw : V w = some (whO 0 0 p)) (hp : V p = some (aIz g 4 (fun _ => 0))) (hne : w ≠ p) : AMet g mX4_put (d + 1) [.ref w, .long (jZ 1)] V sz (P1Q g V sz w p) := by
  refine AMet.of rfl rfl (Nat.le_of_ble_eq_true rfl) ?_
  show AW g mX4_put (d + 1) 0 [(0, .ref w), (1, .long (jZ 1))] [] V sz _
  refine aw_lload_n dX4_put_0 (by rfl) ?_
  refine aw_lconstZ (z := 0) dX4_put_1 (by decide) ?_
  refine aw_lcmpZ dX4_put_2 (by decide) (by decide) ?_
  refine aw_if_geZ (tgt := 11) dX4_put_3 (by decide) (cmpZ_R _ _) (fun hc_3 => ?_) (fun hc_3 => ?_)
  · refine aw_lload_n dX4_put_11 (by rfl) ?_
    refine aw_lstore_n dX4_put_12 (by decide) ?_
    refine aw_aload_n dX4_put_13 (by rfl) (Or.inr ⟨_, rfl⟩) ?_
    refine aw_lload_n dX4_put_14 (by rfl) ?_
    refine aw_calls sX4_28 dX4_put_15 (t_signum g d (x := 1) (by decide) (by omega)) (by rfl) (by rfl) (by omega) (Nat.le_of_ble_eq_true rfl) ?_
    rintro _ _ _ _ _ ⟨rfl, rfl, rfl, rfl, rfl⟩ -
    refine q0 ?_
    refine aw_put fX4_9 dX4_put_18 hw (by rfl) (by rfl) (Nat.le_of_ble_eq_true rfl) ?_
    refine aw_aload_n dX4_put_21 (by rfl) (Or.inr ⟨_, rfl⟩) ?_
    refine aw_iconstZ dX4_put_22 ?_
    refine aw_put fX4_15 dX4_put_23 (AHu_self _ _ _) (by rfl) (by rfl) (Nat.le_of_ble_eq_true rfl) ?_
    refine aw_iconstZ dX4_put_26 ?_
    refine aw_istore dX4_put_27 (by decide) ?_
    refine aw_iload dX4_put_29 (by rfl) ?_
    refine aw_iconstZ dX4_put_31 ?_
    refine aw_icmp_geZ (tgt := 73) dX4_put_32 (by decide) (by omega) (by omega) (fun hc_32 => ?_) (fun hc_32 => ?_)
    · exact absurd hc_32 (by omega)
    · refine aw_lload_n dX4_put_35 (by rfl) ?_
      refine aw_lconstZ (z := 0) dX4_put_36 (by decide) ?_
      refine aw_lcmpZ dX4_put_37 (by decide) (by decide) ?_
      refine aw_if_eqZ (tgt := 73) dX4_put_38 (by decide) (cmpZ_R _ _) (fun hc_38 => ?_) (fun hc_38 => ?_)
      · exact absurd (cmpZ_eq.mp hc_38) (by decide)
      · refine aw_aload_n dX4_put_41 (by rfl) (Or.inr ⟨_, rfl⟩) ?_
        refine aw_get fX4_18 dX4_put_42 (AHu_self _ _ _) (by rfl) ?_
        refine aw_iload dX4_put_45 (by rfl) ?_
        refine aw_lload_n dX4_put_47 (by rfl) ?_
        refine aw_ldc2Z (z := 2147483647) qX4_34 dX4_put_48 (by decide) ?_
        refine aw_landM 31 dX4_put_51 (by decide) (by decide) ?_
        refine aw_l2iZ dX4_put_52 ?_
        refine aw_iastZ (0) dX4_put_53 ((AHu_ne hne.symm).trans ((AHu_ne hne.symm).trans hp)) (by omega) (by omega) (by omega) ?_
        refine aw_lload_n dX4_put_54 (by rfl) ?_
        refine aw_bipushZ dX4_put_55 (by decide) ?_
        refine aw_lushrZ 31 dX4_put_57 (by rfl) (by decide) (by decide) (by decide) ?_
        refine aw_lstore_n dX4_put_58 (by decide) ?_
        refine aw_aload_n dX4_put_59 (by rfl) (Or.inr ⟨_, rfl⟩) ?_
        refine aw_iload dX4_put_60 (by rfl) ?_
        refine aw_iconstZ dX4_put_62 ?_
        refine aw_iaddZ dX4_put_63 ?_
        refine aw_put fX4_15 dX4_put_64 ((AHu_ne hne).trans (AHu_self _ _ _)) (by rfl) (by rfl) (Nat.le_of_ble_eq_true rfl) ?_
        refine aw_iincZ dX4_put_67 (by rfl) (by decide) ?_
        refine aw_goto (tgt := 29) dX4_put_70 (by decide) ?_
        refine aw_iload dX4_put_29 (by rfl) ?_
        refine aw_iconstZ dX4_put_31 ?_
        refine aw_icmp_geZ (tgt := 73) dX4_put_32 (by decide) (by omega) (by omega) (fun hc_32 => ?_) (fun hc_32 => ?_)
        · exact absurd hc_32 (by omega)
        · refine aw_lload_n dX4_put_35 (by rfl) ?_
          refine aw_lconstZ (z := 0) dX4_put_36 (by decide) ?_
          refine aw_lcmpZ dX4_put_37 (by decide) (by decide) ?_
          refine aw_if_eqZ (tgt := 73) dX4_put_38 (by decide) (cmpZ_R _ _) (fun hc_38 => ?_) (fun hc_38 => ?_)
          · refine aw_ret dX4_put_73 rfl ?_
            refine ⟨rfl, rfl, rfl, rfl, AHu_self _ _ _, (AHu_ne hne.symm).trans (AHu_self _ _ _), fun a h1 h2 => ?_⟩
            rw [AHu_ne h1, AHu_ne h2, AHu_ne h1, AHu_ne h1]
          · exact absurd (cmpZ_eq.mpr (by decide)) hc_38
  · exact absurd (cmpZ_ge.mpr (by decide)) hc_3
abbrev mX2_init : MI := (yX2_init, cX2_init, 3, none, noX)
theorem dX2_init_0 : decode cX2_init 0 = .ok (.aload_n 0, 1) := by decide +kernel
theorem dX2_init_1 : decode cX2_init 1 = .ok (.invokespecial 3, 3) := by decide +kernel
theorem dX2_init_4 : decode cX2_init 4 = .ok (.aload_n 0, 1) := by decide +kernel
theorem dX2_init_5 : decode cX2_init 5 = .ok (.iload_n 1, 1) := by decide +kernel
theorem dX2_init_6 : decode cX2_init 6 = .ok (.anewarray 9, 3) := by decide +kernel
theorem dX2_init_9 : decode cX2_init 9 = .ok (.putfield 11, 3) := by decide +kernel
theorem dX2_init_12 : decode cX2_init 12 = .ok (.iconst 0, 1) := by decide +kernel
theorem dX2_init_13 : decode cX2_init 13 = .ok (.istore_n 2, 1) := by decide +kernel
theorem dX2_init_14 : decode cX2_init 14 = .ok (.iload_n 2, 1) := by decide +kernel
theorem dX2_init_15 : decode cX2_init 15 = .ok (.iload_n 1, 1) := by decide +kernel
theorem dX2_init_16 : decode cX2_init 16 = .ok (.if_icmp .ge 22, 3) := by decide +kernel
theorem dX2_init_19 : decode cX2_init 19 = .ok (.aload_n 0, 1) := by decide +kernel
theorem dX2_init_20 : decode cX2_init 20 = .ok (.getfield 11, 3) := by decide +kernel
theorem dX2_init_23 : decode cX2_init 23 = .ok (.iload_n 2, 1) := by decide +kernel
theorem dX2_init_24 : decode cX2_init 24 = .ok (.new 9, 3) := by decide +kernel
theorem dX2_init_27 : decode cX2_init 27 = .ok (.dup, 1) := by decide +kernel
theorem dX2_init_28 : decode cX2_init 28 = .ok (.invokespecial 17, 3) := by decide +kernel
theorem dX2_init_31 : decode cX2_init 31 = .ok (.aastore, 1) := by decide +kernel
theorem dX2_init_32 : decode cX2_init 32 = .ok (.iinc 2 1, 3) := by decide +kernel
theorem dX2_init_35 : decode cX2_init 35 = .ok (.goto (-21), 3) := by decide +kernel
theorem dX2_init_38 : decode cX2_init 38 = .ok (.return_, 1) := by decide +kernel
theorem rw_loop (g : GX) (d : Nat) {V0 : AH} {ro n : Nat} (hn : n ≤ 10) : ∀ (y j : Nat), j + y = n → ∀ {V : AH} {sz : Nat}, sz = ro + 2 + 2 * j → V ro = some (rowO (ro + 1)) → V (ro + 1) = some (aQ g 5 n (fun e => if e < j then some (ro + 2 + 2 * e) else none)) → (∀ e, e < j → WhN g V (ro + 2 + 2 * e)) → (∀ a, a < ro → V a = V0 a) → DL V sz → AW g mX2_init (d + 2) 14 [(2, .int (iZ (j : Int))), (0, .ref ro), (1, .int (iZ (n : Int)))] [] V sz (fun r V' sz' mc ms => none = r ∧ ro + 2 + 2 * n = sz' ∧ 2 * y = mc ∧ 7 * y = ms ∧ V' ro = some (rowO (ro + 1)) ∧ V' (ro + 1) = some (aQ g 5 n (fun e => some (ro + 2 + 2 * e))) ∧ (∀ e, e < n → WhN g V' (ro + 2 + 2 * e)) ∧ (∀ a, a < ro → V' a = V0 a) ∧ DL V' sz')
  | 0, j, hy, V, sz, hsz, hro, hca, hwh, hV, hD => by
    obtain rfl : n = j := by omega
    subst hsz
    refine aw_iload_n dX2_init_14 (by rfl) ?_
    refine aw_iload_n dX2_init_15 (by rfl) ?_
    refine aw_icmp_geZ (tgt := 38) dX2_init_16 (by decide) (by omega) (by omega) (fun hc_16 => ?_) (fun hc_16 => ?_)
    · refine aw_arrQ (f' := fun e => some (ro + 2 + 2 * e)) hca (fun e he => by rw [if_pos he]) ?_
      refine aw_ret dX2_init_38 rfl ?_
      exact ⟨rfl, rfl, rfl, rfl, (AHu_ne (by omega)).trans hro, AHu_self _ _ _, fun e he => (hwh e he).kept (AHu_ne (by omega)) (AHu_ne (by omega)), fun a ha => (AHu_ne (by omega)).trans (hV a ha), hD.upd (by omega)⟩
    · exact absurd hc_16 (by omega)
  | y + 1, j, hy, V, sz, hsz, hro, hca, hwh, hV, hD => by
    have IH := fun j hj => @rw_loop g d V0 ro n hn y j hj
    subst hsz
    refine aw_iload_n dX2_init_14 (by rfl) ?_
    refine aw_iload_n dX2_init_15 (by rfl) ?_
    refine aw_icmp_geZ (tgt := 38) dX2_init_16 (by decide) (by omega) (by omega) (fun hc_16 => ?_) (fun hc_16 => ?_)
    · exact absurd hc_16 (by omega)
    · refine aw_aload_n dX2_init_19 (by rfl) (Or.inr ⟨_, rfl⟩) ?_
      refine aw_get fX2_11 dX2_init_20 hro (by rfl) ?_
      refine aw_iload_n dX2_init_23 (by rfl) ?_
      refine aw_new nfX2_9 dX2_init_24 ?_
      refine aw_dup dX2_init_27 rfl ?_
      refine aw_calli iX2_17 dX2_init_28 (t_newW g d (V := AHu V (ro + 2 + 2 * j) (.inr (4, [.int (iZ 0), .int (iZ 0), .null]))) (w := ro + 2 + 2 * j) (AHu_self _ _ _) hD.nw) (by rfl) (by rfl) (by omega) (Nat.le_of_ble_eq_true rfl) ?_
      rintro _ V1 _ _ _ ⟨rfl, rfl, rfl, rfl, hE1, hD1, hW1⟩ -
      refine aw_aast (t0 := 5) (ci := 4) rfl rfl dX2_init_31 ((hE1 _ (by omega) (by omega)).trans ((AHu_ne (by omega)).trans hca)) hW1.1 (ixZ rfl (by omega) (by omega)) ?_
      refine aw_iincZ dX2_init_32 (by rfl) (by decide) ?_
      refine aw_goto (tgt := 14) dX2_init_35 (by decide) ?_
      rw [show ((j : Int) + 1) = ((j + 1 : Nat) : Int) by omega]
      refine aw_pk [2, 0, 1] (by rfl) ?_
      refine AW.mono (fun r V' sz' dc ds h => ?_) (IH (j + 1) (by omega) (V := AHu V1 (ro + 1) _) (sz := ro + 2 + 2 * j + 1 + 1) (by omega) ?_ ?_ (fun e he => ?_) (fun a ha => ?_) (hD1.upd (by omega)))
      · obtain ⟨h1, h2, h3, h4, h5⟩ := h
        exact ⟨h1, h2, by omega, by omega, h5⟩
      · rw [AHu_ne (by omega), hE1 _ (by omega) (by omega), AHu_ne (by omega)]; exact hro
      · rw [AHu_self]
        congr 3
        funext e
        unfold va_up
        by_cases q : e = j
        · rw [if_pos q, q, if_pos (by omega)]
        · rw [if_neg q]
          show (if e < j then some (ro + 2 + 2 * e) else none) = (if e < j + 1 then some (ro + 2 + 2 * e) else none)
          by_cases q2 : e < j
          · rw [if_pos q2, if_pos (by omega)]
          · rw [if_neg q2, if_neg (by omega)]
      · by_cases q : e = j
        · subst q
          exact hW1.kept (AHu_ne (by omega)) (AHu_ne (by omega))
        · exact (hwh e (by omega)).kept (by rw [AHu_ne (by omega), hE1 _ (by omega) (by omega), AHu_ne (by omega)]) (by rw [AHu_ne (by omega), hE1 _ (by omega) (by omega), AHu_ne (by omega)])
      · rw [AHu_ne (by omega), hE1 a (by omega) (by omega), AHu_ne (by omega)]; exact hV a ha
theorem t_newR (g : GX) (d : Nat) {V : AH} {ro n : Nat} (hn : n ≤ 10) (hro : V ro = some (.inr (2, [.null]))) (hD : DL V (ro + 1)) : AMet g mX2_init (d + 2) [.ref ro, .int (iZ (n : Int))] V (ro + 1) (NwQ V (ro + 1) ro (1 + 2 * n) (8 * n) (fun V' => RowV g V' ro (ro + 1) n (fun j => ro + 2 + 2 * j) ∧ ∀ j, j < n → WhN g V' (ro + 2 + 2 * j))) := by
  refine AMet.of rfl rfl (Nat.le_of_ble_eq_true rfl) ?_
  show AW g mX2_init (d + 2) 0 [(0, .ref ro), (1, .int (iZ (n : Int)))] [] V (ro + 1) _
  refine aw_aload_n dX2_init_0 (by rfl) (Or.inr ⟨_, rfl⟩) ?_
  refine aw_objinit oX2_3 dX2_init_1 (by omega) (by decide) ?_
  refine aw_aload_n dX2_init_4 (by rfl) (Or.inr ⟨_, rfl⟩) ?_
  refine aw_iload_n dX2_init_5 (by rfl) ?_
  refine aw_newQ (t0 := 5) (N := n) kX2_9 (fun U h => h.2.2.2) rfl dX2_init_6 (iZ_nlt (by omega) (by omega)) (iZ_clamp rfl (by omega)) (by omega) ?_
  refine aw_putF fX2_11 rfl rfl dX2_init_9 ((AHu_ne (by omega)).trans hro) (by rfl) (by rfl) (Nat.le_of_ble_eq_true rfl) ?_
  refine aw_iconstZ dX2_init_12 ?_
  refine aw_istore_n dX2_init_13 (by decide) ?_
  refine aw_pk [2, 0, 1] (by rfl) ?_
  refine AW.mono (fun r V' sz' dc ds h => ?_) (rw_loop g d (V0 := V) hn n 0 (by omega) (V := AHu (AHu V (ro + 1) _) ro _) (sz := ro + 1 + 1) (by omega) (AHu_self _ _ _) ?_ (fun e he => absurd he (by omega)) (fun a ha => by rw [AHu_ne (by omega), AHu_ne (by omega)]) (hD.nw.upd (by omega)))
  · obtain ⟨h1, h2, h3, h4, h5, h6, h7, h8, h9⟩ := h
    refine ⟨h1, by omega, by omega, by omega, fun a q1 q2 => h8 a (by omega), h9, ⟨h5, h6, by omega⟩, h7⟩
  · rw [AHu_ne (by omega), AHu_self]
    congr 3
abbrev mX3_init : MI := (yX3_init, cX3_init, 1, none, noX)
theorem dX3_init_0 : decode cX3_init 0 = .ok (.aload_n 0, 1) := by decide +kernel
theorem dX3_init_1 : decode cX3_init 1 = .ok (.invokespecial 3, 3) := by decide +kernel
theorem dX3_init_4 : decode cX3_init 4 = .ok (.aload_n 0, 1) := by decide +kernel
theorem dX3_init_5 : decode cX3_init 5 = .ok (.iconst 0, 1) := by decide +kernel
theorem dX3_init_6 : decode cX3_init 6 = .ok (.putfield 9, 3) := by decide +kernel
theorem dX3_init_9 : decode cX3_init 9 = .ok (.aload_n 0, 1) := by decide +kernel
theorem dX3_init_10 : decode cX3_init 10 = .ok (.iconst 0, 1) := by decide +kernel
theorem dX3_init_11 : decode cX3_init 11 = .ok (.putfield 15, 3) := by decide +kernel
theorem dX3_init_14 : decode cX3_init 14 = .ok (.aload_n 0, 1) := by decide +kernel
theorem dX3_init_15 : decode cX3_init 15 = .ok (.bipush 25, 2) := by decide +kernel
theorem dX3_init_17 : decode cX3_init 17 = .ok (.newarray .int, 2) := by decide +kernel
theorem dX3_init_19 : decode cX3_init 19 = .ok (.putfield 18, 3) := by decide +kernel
theorem dX3_init_22 : decode cX3_init 22 = .ok (.aload_n 0, 1) := by decide +kernel
theorem dX3_init_23 : decode cX3_init 23 = .ok (.iconst 5, 1) := by decide +kernel
theorem dX3_init_24 : decode cX3_init 24 = .ok (.newarray .boolean, 2) := by decide +kernel
theorem dX3_init_26 : decode cX3_init 26 = .ok (.putfield 22, 3) := by decide +kernel
theorem dX3_init_29 : decode cX3_init 29 = .ok (.return_, 1) := by decide +kernel
theorem t_newT (g : GX) (d : Nat) {V : AH} {tb : Nat} (htb : V tb = some (.inr (3, [.int (iZ 0), .int (iZ 0), .null, .null]))) (hD : DL V (tb + 1)) : AMet g mX3_init (d + 1) [.ref tb] V (tb + 1) (NwQ V (tb + 1) tb 2 30 (fun V' => TbV g V' tb (tb + 1) (tb + 2) 0 0 (fun _ => 0) (fun _ => 0))) := by
  refine AMet.of rfl rfl (Nat.le_of_ble_eq_true rfl) ?_
  show AW g mX3_init (d + 1) 0 [(0, .ref tb)] [] V (tb + 1) _
  refine aw_aload_n dX3_init_0 (by rfl) (Or.inr ⟨_, rfl⟩) ?_
  refine aw_objinit oX3_3 dX3_init_1 (by omega) (by decide) ?_
  refine aw_aload_n dX3_init_4 (by rfl) (Or.inr ⟨_, rfl⟩) ?_
  refine aw_iconstZ dX3_init_5 ?_
  refine aw_put fX3_9 dX3_init_6 htb (by rfl) (by rfl) (Nat.le_of_ble_eq_true rfl) ?_
  refine aw_aload_n dX3_init_9 (by rfl) (Or.inr ⟨_, rfl⟩) ?_
  refine aw_iconstZ dX3_init_10 ?_
  refine aw_put fX3_15 dX3_init_11 (AHu_self _ _ _) (by rfl) (by rfl) (Nat.le_of_ble_eq_true rfl) ?_
  refine aw_aload_n dX3_init_14 (by rfl) (Or.inr ⟨_, rfl⟩) ?_
  refine aw_bipushZ dX3_init_15 (by decide) ?_
  refine aw_newI (N := 25) dX3_init_17 (by decide) (by decide) (by omega) ?_
  refine aw_putF fX3_18 rfl rfl dX3_init_19 ((AHu_ne (by omega)).trans (AHu_self _ _ _)) (by rfl) (by rfl) (Nat.le_of_ble_eq_true rfl) ?_
  refine aw_aload_n dX3_init_22 (by rfl) (Or.inr ⟨_, rfl⟩) ?_
  refine aw_iconstZ dX3_init_23 ?_
  refine aw_newZ (N := 5) dX3_init_24 (by decide) (by decide) (by omega) ?_
  refine aw_putF fX3_22 rfl rfl dX3_init_26 ((AHu_ne (by omega)).trans (AHu_self _ _ _)) (by rfl) (by rfl) (Nat.le_of_ble_eq_true rfl) ?_
  refine aw_ret dX3_init_29 rfl ?_
  refine ⟨rfl, rfl, rfl, rfl, fun a h1 h2 => by rw [AHu_ne h2, AHu_ne (by omega), AHu_ne h2, AHu_ne (by omega), AHu_ne h2, AHu_ne h2], ?_, AHu_self _ _ _, ?_, ?_, by omega, by omega, by omega⟩
  · exact (DL.nw ((DL.nw ((hD.upd (by omega)).upd (by omega))).upd (by omega))).upd (by omega)
  · rw [AHu_ne (by omega), AHu_ne (by omega), AHu_ne (by omega), AHu_self]; rfl
  · rw [AHu_ne (by omega), AHu_self]; rfl
