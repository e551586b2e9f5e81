/-! ===== the bench and the reference as they are made ===== -/
theorem gsw5 {t0 mr a w : Nat} (ha : gsL t0 mr 5 a) (hw : w ∈ gwL t0 mr 5) : a ≠ w ∧ a ≠ w + 1 := by
  rcases mem_gw.mp hw with h | ⟨r, j, hr, hj, h⟩
  · rcases ha with q | q | q | ⟨r', hr', q⟩ <;> omega
  · rcases ha with q | q | q | ⟨r', hr', q⟩ <;> omega
theorem gsw10 {t0 mr a w : Nat} (ha : gsL t0 mr 10 a) (hw : w ∈ gwL t0 mr 10) : a ≠ w ∧ a ≠ w + 1 := by
  rcases mem_gw.mp hw with h | ⟨r, j, hr, hj, h⟩
  · rcases ha with q | q | q | ⟨r', hr', q⟩ <;> omega
  · rcases ha with q | q | q | ⟨r', hr', q⟩ <;> omega
theorem ws_rng {b w : Nat} (h : w ∈ wsB b) : (∃ i, i < 7 ∧ (w = b + 3 + 2 * i ∨ w = b + 19 + 2 * i ∨ w = b + 161 + 2 * i ∨ w = b + 425 + 2 * i ∨ w = b + 519 + 2 * i)) ∨ (w ∈ gwL (b + 17) 10 5 ∧ b + 33 ≤ w ∧ w ≤ b + 157 ∧ (w - b) % 2 = 1) ∨ (w ∈ gwL (b + 159) 11 10 ∧ b + 175 ≤ w ∧ w ≤ b + 421 ∧ (w - b) % 2 = 1) ∨ (w ∈ gwL (b + 423) 6 5 ∧ b + 439 ≤ w ∧ w ≤ b + 515 ∧ (w - b) % 2 = 1) ∨ (w ∈ gwL (b + 517) 6 5 ∧ b + 533 ≤ w ∧ w ≤ b + 609 ∧ (w - b) % 2 = 1) ∨ (∃ j, j < 10 ∧ w = b + 613 + 2 * j) ∨ ∃ j, j < 5 ∧ w = b + 635 + 2 * j := by
  rcases mem_ws.mp h with q | q | q | q | q | q | q
  · exact Or.inl q
  · exact Or.inr (Or.inl ⟨q, by rcases mem_gw.mp q with z | ⟨r, j, hr, hj, z⟩ <;> omega⟩)
  · exact Or.inr (Or.inr (Or.inl ⟨q, by rcases mem_gw.mp q with z | ⟨r, j, hr, hj, z⟩ <;> omega⟩))
  · exact Or.inr (Or.inr (Or.inr (Or.inl ⟨q, by rcases mem_gw.mp q with z | ⟨r, j, hr, hj, z⟩ <;> omega⟩)))
  · exact Or.inr (Or.inr (Or.inr (Or.inr (Or.inl ⟨q, by rcases mem_gw.mp q with z | ⟨r, j, hr, hj, z⟩ <;> omega⟩))))
  · exact Or.inr (Or.inr (Or.inr (Or.inr (Or.inr (Or.inl q)))))
  · exact Or.inr (Or.inr (Or.inr (Or.inr (Or.inr (Or.inr q)))))
theorem ws_par {b w u : Nat} (hw : w ∈ wsB b) (hu : u ∈ wsB b) : w ≠ u + 1 := by
  rcases ws_rng hw with ⟨i, hi, e⟩ | ⟨-, h⟩ | ⟨-, h⟩ | ⟨-, h⟩ | ⟨-, h⟩ | ⟨i, hi, e⟩ | ⟨i, hi, e⟩ <;>
    rcases ws_rng hu with ⟨i', hi', e'⟩ | ⟨-, h'⟩ | ⟨-, h'⟩ | ⟨-, h'⟩ | ⟨-, h'⟩ | ⟨i', hi', e'⟩ | ⟨i', hi', e'⟩ <;> omega
theorem gs_in2 {t0 mr mc a : Nat} (h : gsL t0 mr mc a) : a = t0 ∨ t0 + 20 ≤ a := by
  rcases h with h | h | h | ⟨r, hr, h⟩
  · omega
  · omega
  · omega
  · generalize (2 + 2 * mc) * r = q at h
    omega
theorem sab_ws {b a w : Nat} {X : Nat → Prop} (hX : ∀ a, X a → b + 683 ≤ a) (ha : SAB b X a) (hw : w ∈ wsB b) : a ≠ w ∧ a ≠ w + 1 := by
  have hr := ws_rng hw
  rcases ha with q | q | q | q | q | q | q | q | q | q
  · rcases hr with ⟨i', hi', e'⟩ | ⟨-, h'⟩ | ⟨-, h'⟩ | ⟨-, h'⟩ | ⟨-, h'⟩ | ⟨i', hi', e'⟩ | ⟨i', hi', e'⟩ <;> omega
  · rcases hr with ⟨i', hi', e'⟩ | ⟨-, h'⟩ | ⟨-, h'⟩ | ⟨-, h'⟩ | ⟨-, h'⟩ | ⟨i', hi', e'⟩ | ⟨i', hi', e'⟩ <;> omega
  · rcases hr with ⟨i', hi', e'⟩ | ⟨-, h'⟩ | ⟨-, h'⟩ | ⟨-, h'⟩ | ⟨-, h'⟩ | ⟨i', hi', e'⟩ | ⟨i', hi', e'⟩ <;> omega
  · have hg := gs_in q
    have hg2 := gs_in2 q
    rcases hr with ⟨i', hi', e'⟩ | ⟨h0, h'⟩ | ⟨-, h'⟩ | ⟨-, h'⟩ | ⟨-, h'⟩ | ⟨i', hi', e'⟩ | ⟨i', hi', e'⟩ <;> first | omega | exact gsw5 q h0
  · have hg := gs_in q
    have hg2 := gs_in2 q
    rcases hr with ⟨i', hi', e'⟩ | ⟨-, h'⟩ | ⟨h0, h'⟩ | ⟨-, h'⟩ | ⟨-, h'⟩ | ⟨i', hi', e'⟩ | ⟨i', hi', e'⟩ <;> first | omega | exact gsw10 q h0
  · have hg := gs_in q
    have hg2 := gs_in2 q
    rcases hr with ⟨i', hi', e'⟩ | ⟨-, h'⟩ | ⟨-, h'⟩ | ⟨h0, h'⟩ | ⟨-, h'⟩ | ⟨i', hi', e'⟩ | ⟨i', hi', e'⟩ <;> first | omega | exact gsw5 q h0
  · have hg := gs_in q
    have hg2 := gs_in2 q
    rcases hr with ⟨i', hi', e'⟩ | ⟨-, h'⟩ | ⟨-, h'⟩ | ⟨-, h'⟩ | ⟨h0, h'⟩ | ⟨i', hi', e'⟩ | ⟨i', hi', e'⟩ <;> first | omega | exact gsw5 q h0
  · rcases hr with ⟨i', hi', e'⟩ | ⟨-, h'⟩ | ⟨-, h'⟩ | ⟨-, h'⟩ | ⟨-, h'⟩ | ⟨i', hi', e'⟩ | ⟨i', hi', e'⟩ <;> omega
  · rcases hr with ⟨i', hi', e'⟩ | ⟨-, h'⟩ | ⟨-, h'⟩ | ⟨-, h'⟩ | ⟨-, h'⟩ | ⟨i', hi', e'⟩ | ⟨i', hi', e'⟩ <;> omega
  · have := hX a q
    rcases hr with ⟨i', hi', e'⟩ | ⟨-, h'⟩ | ⟨-, h'⟩ | ⟨-, h'⟩ | ⟨-, h'⟩ | ⟨i', hi', e'⟩ | ⟨i', hi', e'⟩ <;> omega
theorem sab_lt {b a sz : Nat} {X : Nat → Prop} (hX : ∀ a, X a → a < sz) (hsz : b + 683 ≤ sz) (ha : SAB b X a) : a < sz := by
  rcases ha with q | q | q | q | q | q | q | q | q | q
  · omega
  · omega
  · omega
  · have := gs_in q; omega
  · have := gs_in q; omega
  · have := gs_in q; omega
  · have := gs_in q; omega
  · omega
  · omega
  · exact hX a q
def Z0b (b : Nat) : Nat → Int := fun w => if w = b + 7 ∨ w = b + 23 ∨ w = b + 165 ∨ w = b + 429 ∨ w = b + 523 then 1 else 0
theorem WhN.v {g : GX} {V : AH} {w : Nat} (h : WhN g V w) : WhV g V w 0 (w + 1) 4 := ⟨0, fun _ => 0, ⟨h.1, h.2, by omega, by omega, by omega, by omega, fun k _ => (by decide : (0 : Int) ≤ 0 ∧ (0 : Int) < 2147483648)⟩, rfl, Or.inl rfl⟩
theorem one_v {g : GX} {V : AH} {w : Nat} (h1 : V w = some (whO 1 1 (w + 1))) (h2 : V (w + 1) = some (aIz g 4 (upF (fun _ => 0) 0 1))) : WhV g V w 1 (w + 1) 4 := ⟨1, upF (fun _ => 0) 0 1, ⟨h1, h2, by omega, by omega, by omega, by omega, fun k _ => by
  show 0 ≤ (if k = 0 then (1 : Int) else 0) ∧ (if k = 0 then (1 : Int) else 0) < 2147483648
  split <;> omega⟩, by decide, Or.inr (by decide)⟩
theorem gdn_wh {g : GX} {V : AH} {t0 mr mc w : Nat} (h : GDN g V t0 mr mc) (hw : w ∈ gwL t0 mr mc) : WhN g V w := by
  obtain ⟨-, -, h1, h2, h3⟩ := h
  rcases mem_gw.mp hw with (e | e) | ⟨r, j, hr, hj, e⟩
  · rw [e]; exact h1
  · rw [e]; exact h2
  · rw [e]; exact h3 r hr j hj
theorem bn_wg {g : GX} {b sz : Nat} {V : AH} {X : Nat → Prop} (h : BnF g b V) (hD : DL V sz) (hX : ∀ a, X a → b + 683 ≤ a ∧ a < sz) (hsz : b + 683 ≤ sz) : WG g (wsB b) (SAB b X) V sz (Z0b b) (fun w => w + 1) (fun _ => 4) := by
  obtain ⟨f1, f2, f3, f4, ⟨f5, f6⟩, f7, f8, f9, f10, f11, f12, f13, f14, f15⟩ := h
  have key : ∀ w, ¬ (w = b + 7 ∨ w = b + 23 ∨ w = b + 165 ∨ w = b + 429 ∨ w = b + 523) → WhN g V w → WhV g V w (Z0b b w) (w + 1) 4 := fun w hw hn => by
    unfold Z0b
    rw [if_neg hw]
    exact hn.v
  have key1 : ∀ w, (w = b + 7 ∨ w = b + 23 ∨ w = b + 165 ∨ w = b + 429 ∨ w = b + 523) → V w = some (whO 1 1 (w + 1)) → V (w + 1) = some (aIz g 4 (upF (fun _ => 0) 0 1)) → WhV g V w (Z0b b w) (w + 1) 4 := fun w hw h1 h2 => by
    unfold Z0b
    rw [if_pos hw]
    exact one_v h1 h2
  refine ⟨hD, fun w hw => ?_, fun w _ u _ hne e => hne (by have e : w + 1 = u + 1 := e; omega), fun w hw u hu => ws_par hw hu, fun a ha => ⟨sab_lt (fun a h => (hX a h).2) hsz ha, fun hm => (sab_ws (fun a h => (hX a h).1) ha hm).1 rfl, fun w hw => (sab_ws (fun a h => (hX a h).1) ha hw).2⟩⟩
  rcases ws_rng hw with ⟨i, hi, e⟩ | ⟨h0, h'⟩ | ⟨h0, h'⟩ | ⟨h0, h'⟩ | ⟨h0, h'⟩ | ⟨i, hi, e⟩ | ⟨i, hi, e⟩
  · by_cases q : i = 2
    · subst q
      rcases e with e | e | e | e | e
      · rw [e]; exact key1 (b + 7) (by omega) f5 f6
      · rw [e]; exact key1 (b + 23) (by omega) f8.2.1.2.2.1 f8.2.1.2.2.2
      · rw [e]; exact key1 (b + 165) (by omega) f9.2.1.2.2.1 f9.2.1.2.2.2
      · rw [e]; exact key1 (b + 429) (by omega) f10.2.1.2.2.1 f10.2.1.2.2.2
      · rw [e]; exact key1 (b + 523) (by omega) f11.2.1.2.2.1 f11.2.1.2.2.2
    · rcases e with e | e | e | e | e
      · rw [e]; exact key _ (by omega) (f7 i hi q)
      · have h9 := f8.2.1.2.1 i hi q
        rw [show b + 17 + 1 + 1 + 2 * i = b + 19 + 2 * i by omega] at h9
        rw [e]; exact key _ (by omega) h9
      · have h9 := f9.2.1.2.1 i hi q
        rw [show b + 159 + 1 + 1 + 2 * i = b + 161 + 2 * i by omega] at h9
        rw [e]; exact key _ (by omega) h9
      · have h9 := f10.2.1.2.1 i hi q
        rw [show b + 423 + 1 + 1 + 2 * i = b + 425 + 2 * i by omega] at h9
        rw [e]; exact key _ (by omega) h9
      · have h9 := f11.2.1.2.1 i hi q
        rw [show b + 517 + 1 + 1 + 2 * i = b + 519 + 2 * i by omega] at h9
        rw [e]; exact key _ (by omega) h9
  · exact key _ (by omega) (gdn_wh f8 h0)
  · exact key _ (by omega) (gdn_wh f9 h0)
  · exact key _ (by omega) (gdn_wh f10 h0)
  · exact key _ (by omega) (gdn_wh f11 h0)
  · rw [e]; exact key _ (by omega) (f12.2 i hi)
  · rw [e]; exact key _ (by omega) (f13.2 i hi)
/-- a Grid's new Desk -/
theorem dkv_new {g : GX} {b t0 : Nat} {X : Nat → Prop} {V : AH} {Z : Nat → Int} (hk : DkN g V (t0 + 1)) (hm : ∀ i, i < 7 → t0 + 2 + 2 * i ∈ wsB b) (hs : SAB b X (t0 + 1)) (z1 : Z (t0 + 2) = 0) (z2 : Z (t0 + 4) = 0) (z3 : Z (t0 + 6) = 1) : DKV (wsB b) (SAB b X) V Z (DG t0) :=
  ⟨hs, hk.1, ⟨hm 0 (by omega), hm 1 (by omega), hm 2 (by omega), (show t0 + 2 ≠ t0 + 4 by omega)⟩, z1, z2, z3⟩
theorem z0b0 {b w : Nat} (h : ¬ (w = b + 7 ∨ w = b + 23 ∨ w = b + 165 ∨ w = b + 429 ∨ w = b + 523)) : Z0b b w = 0 := by unfold Z0b; rw [if_neg h]
theorem z0b1 {b w : Nat} (h : (w = b + 7 ∨ w = b + 23 ∨ w = b + 165 ∨ w = b + 429 ∨ w = b + 523)) : Z0b b w = 1 := by unfold Z0b; rw [if_pos h]
def S0 : TSt := (fun _ => 0, fun _ => 0, fun _ _ => 0, fun _ _ => 0)
def A0s : ASt := (0, 0, 0, fun _ _ => 0)
theorem tok0 : TOK S0 := fun t _ => ⟨Nat.zero_le _, Nat.zero_le _, Or.inl rfl, fun _ _ => ⟨by show (-1000 : Int) ≤ 0; omega, by show (0 : Int) ≤ 1000; omega⟩, fun _ => Or.inl rfl, fun _ _ _ _ _ => rfl, fun _ _ _ => rfl⟩
theorem aok0 : AOK A0s := ⟨Or.inl rfl, Nat.zero_le _, Nat.zero_le _, fun _ => ⟨rfl, rfl⟩⟩
theorem bn_cx {g : GX} {b : Nat} {V : AH} {X : Nat → Prop} (h : BnF g b V) : CX g b X V (Z0b b) S0 A0s := by
  obtain ⟨f1, f2, f3, f4, ⟨f5, f6⟩, f7, f8, f9, f10, f11, f12, f13, f14, f15⟩ := h
  have hm : ∀ i, i < 7 → b + 3 + 2 * i ∈ wsB b := fun i hi => mem_ws.mpr (Or.inl ⟨i, hi, Or.inl rfl⟩)
  refine ⟨⟨f1, f2⟩, fun t ht => f3 t ht, tok0, ⟨⟨Or.inr (Or.inr (Or.inl rfl)), f4, ⟨hm 0 (by omega), hm 1 (by omega), hm 2 (by omega), ?_⟩, ?_, ?_, ?_⟩, dkv_new f9.2.1 (fun i hi => mem_ws.mpr (Or.inl ⟨i, hi, by omega⟩)) (sab_r (by omega)) (z0b0 (by omega)) (z0b0 (by omega)) (z0b1 (by omega)), dkv_new f10.2.1 (fun i hi => mem_ws.mpr (Or.inl ⟨i, hi, by omega⟩)) (sab_r (by omega)) (z0b0 (by omega)) (z0b0 (by omega)) (z0b1 (by omega)), dkv_new f11.2.1 (fun i hi => mem_ws.mpr (Or.inl ⟨i, hi, by omega⟩)) (sab_r (by omega)) (z0b0 (by omega)) (z0b0 (by omega)) (z0b1 (by omega))⟩, ⟨_, _, f8.1, fun i j hi => absurd hi (by show ¬ i < 0; omega)⟩, aok0, ⟨_, _, _, _, f9.1⟩, ⟨_, _, _, _, f10.1⟩, ⟨_, _, _, _, f11.1⟩, f12.1, f13.1, ⟨_, f14⟩, ⟨_, f15⟩⟩
  · show b + 3 ≠ b + 5
    omega
  · exact z0b0 (w := b + 3) (by omega)
  · exact z0b0 (w := b + 5) (by omega)
  · exact z0b1 (w := b + 7) (by omega)
abbrev mX6_init : MI := (yX6_init, cX6_init, 1, none, noX)
theorem dX6_init_0 : decode cX6_init 0 = .ok (.aload_n 0, 1) := by decide +kernel
theorem dX6_init_1 : decode cX6_init 1 = .ok (.invokespecial 1, 3) := by decide +kernel
theorem dX6_init_4 : decode cX6_init 4 = .ok (.aload_n 0, 1) := by decide +kernel
theorem dX6_init_5 : decode cX6_init 5 = .ok (.ldc 7, 2) := by decide +kernel
theorem dX6_init_7 : decode cX6_init 7 = .ok (.newarray .int, 2) := by decide +kernel
theorem dX6_init_9 : decode cX6_init 9 = .ok (.putfield 8, 3) := by decide +kernel
theorem dX6_init_12 : decode cX6_init 12 = .ok (.aload_n 0, 1) := by decide +kernel
theorem dX6_init_13 : decode cX6_init 13 = .ok (.sipush 460, 3) := by decide +kernel
theorem dX6_init_16 : decode cX6_init 16 = .ok (.newarray .int, 2) := by decide +kernel
theorem dX6_init_18 : decode cX6_init 18 = .ok (.putfield 14, 3) := by decide +kernel
theorem dX6_init_21 : decode cX6_init 21 = .ok (.aload_n 0, 1) := by decide +kernel
theorem dX6_init_22 : decode cX6_init 22 = .ok (.sipush 460, 3) := by decide +kernel
theorem dX6_init_25 : decode cX6_init 25 = .ok (.newarray .int, 2) := by decide +kernel
theorem dX6_init_27 : decode cX6_init 27 = .ok (.putfield 17, 3) := by decide +kernel
theorem dX6_init_30 : decode cX6_init 30 = .ok (.aload_n 0, 1) := by decide +kernel
theorem dX6_init_31 : decode cX6_init 31 = .ok (.sipush 220, 3) := by decide +kernel
theorem dX6_init_34 : decode cX6_init 34 = .ok (.newarray .long, 2) := by decide +kernel
theorem dX6_init_36 : decode cX6_init 36 = .ok (.putfield 20, 3) := by decide +kernel
theorem dX6_init_39 : decode cX6_init 39 = .ok (.aload_n 0, 1) := by decide +kernel
theorem dX6_init_40 : decode cX6_init 40 = .ok (.sipush 220, 3) := by decide +kernel
theorem dX6_init_43 : decode cX6_init 43 = .ok (.newarray .long, 2) := by decide +kernel
theorem dX6_init_45 : decode cX6_init 45 = .ok (.putfield 24, 3) := by decide +kernel
theorem dX6_init_48 : decode cX6_init 48 = .ok (.aload_n 0, 1) := by decide +kernel
theorem dX6_init_49 : decode cX6_init 49 = .ok (.bipush 11, 2) := by decide +kernel
theorem dX6_init_51 : decode cX6_init 51 = .ok (.newarray .int, 2) := by decide +kernel
theorem dX6_init_53 : decode cX6_init 53 = .ok (.putfield 27, 3) := by decide +kernel
theorem dX6_init_56 : decode cX6_init 56 = .ok (.aload_n 0, 1) := by decide +kernel
theorem dX6_init_57 : decode cX6_init 57 = .ok (.bipush 11, 2) := by decide +kernel
theorem dX6_init_59 : decode cX6_init 59 = .ok (.newarray .int, 2) := by decide +kernel
theorem dX6_init_61 : decode cX6_init 61 = .ok (.putfield 30, 3) := by decide +kernel
theorem dX6_init_64 : decode cX6_init 64 = .ok (.aload_n 0, 1) := by decide +kernel
theorem dX6_init_65 : decode cX6_init 65 = .ok (.bipush 12, 2) := by decide +kernel
theorem dX6_init_67 : decode cX6_init 67 = .ok (.newarray .boolean, 2) := by decide +kernel
theorem dX6_init_69 : decode cX6_init 69 = .ok (.putfield 33, 3) := by decide +kernel
theorem dX6_init_72 : decode cX6_init 72 = .ok (.aload_n 0, 1) := by decide +kernel
theorem dX6_init_73 : decode cX6_init 73 = .ok (.bipush 12, 2) := by decide +kernel
theorem dX6_init_75 : decode cX6_init 75 = .ok (.newarray .int, 2) := by decide +kernel
theorem dX6_init_77 : decode cX6_init 77 = .ok (.putfield 37, 3) := by decide +kernel
theorem dX6_init_80 : decode cX6_init 80 = .ok (.aload_n 0, 1) := by decide +kernel
theorem dX6_init_81 : decode cX6_init 81 = .ok (.bipush 12, 2) := by decide +kernel
theorem dX6_init_83 : decode cX6_init 83 = .ok (.newarray .int, 2) := by decide +kernel
theorem dX6_init_85 : decode cX6_init 85 = .ok (.putfield 40, 3) := by decide +kernel
theorem dX6_init_88 : decode cX6_init 88 = .ok (.aload_n 0, 1) := by decide +kernel
theorem dX6_init_89 : decode cX6_init 89 = .ok (.sipush 300, 3) := by decide +kernel
theorem dX6_init_92 : decode cX6_init 92 = .ok (.newarray .int, 2) := by decide +kernel
theorem dX6_init_94 : decode cX6_init 94 = .ok (.putfield 43, 3) := by decide +kernel
theorem dX6_init_97 : decode cX6_init 97 = .ok (.aload_n 0, 1) := by decide +kernel
theorem dX6_init_98 : decode cX6_init 98 = .ok (.bipush 60, 2) := by decide +kernel
theorem dX6_init_100 : decode cX6_init 100 = .ok (.newarray .boolean, 2) := by decide +kernel
theorem dX6_init_102 : decode cX6_init 102 = .ok (.putfield 46, 3) := by decide +kernel
theorem dX6_init_105 : decode cX6_init 105 = .ok (.aload_n 0, 1) := by decide +kernel
theorem dX6_init_106 : decode cX6_init 106 = .ok (.iconst 5, 1) := by decide +kernel
theorem dX6_init_107 : decode cX6_init 107 = .ok (.newarray .int, 2) := by decide +kernel
theorem dX6_init_109 : decode cX6_init 109 = .ok (.putfield 49, 3) := by decide +kernel
theorem dX6_init_112 : decode cX6_init 112 = .ok (.aload_n 0, 1) := by decide +kernel
theorem dX6_init_113 : decode cX6_init 113 = .ok (.iconst 5, 1) := by decide +kernel
theorem dX6_init_114 : decode cX6_init 114 = .ok (.newarray .int, 2) := by decide +kernel
theorem dX6_init_116 : decode cX6_init 116 = .ok (.putfield 52, 3) := by decide +kernel
theorem dX6_init_119 : decode cX6_init 119 = .ok (.aload_n 0, 1) := by decide +kernel
theorem dX6_init_120 : decode cX6_init 120 = .ok (.iconst (-1), 1) := by decide +kernel
theorem dX6_init_121 : decode cX6_init 121 = .ok (.putfield 55, 3) := by decide +kernel
theorem dX6_init_124 : decode cX6_init 124 = .ok (.aload_n 0, 1) := by decide +kernel
theorem dX6_init_125 : decode cX6_init 125 = .ok (.iconst (-1), 1) := by decide +kernel
theorem dX6_init_126 : decode cX6_init 126 = .ok (.putfield 59, 3) := by decide +kernel
theorem dX6_init_129 : decode cX6_init 129 = .ok (.aload_n 0, 1) := by decide +kernel
theorem dX6_init_130 : decode cX6_init 130 = .ok (.bipush 25, 2) := by decide +kernel
theorem dX6_init_132 : decode cX6_init 132 = .ok (.newarray .int, 2) := by decide +kernel
theorem dX6_init_134 : decode cX6_init 134 = .ok (.putfield 62, 3) := by decide +kernel
theorem dX6_init_137 : decode cX6_init 137 = .ok (.return_, 1) := by decide +kernel
theorem mo_step {V V0 : AH} {mo s : Nat} {e e' : va_E} (h1 : ∀ a, a < mo → V a = V0 a) (hs : mo < s) (hD : DL V s) : AHu (AHu V s e) mo e' mo = some e' ∧ (∀ a, a < mo → AHu (AHu V s e) mo e' a = V0 a) ∧ DL (AHu (AHu V s e) mo e') (s + 1) ∧ AHu (AHu V s e) mo e' s = some e ∧ ∀ a, mo < a → a < s → AHu (AHu V s e) mo e' a = V a := by
  refine ⟨AHu_self _ _ _, fun a ha => by rw [AHu_ne (by omega), AHu_ne (by omega)]; exact h1 a ha, hD.nw.upd (by omega), by rw [AHu_ne (by omega), AHu_self], fun a h2 h3 => by rw [AHu_ne (by omega), AHu_ne (by omega)]⟩
/-- the reference as it is made -/
def MoF (g : GX) (mo : Nat) (V : AH) : Prop := V mo = some (moO mo 0 0 (-1) (-1)) ∧ V (mo + 1) = some (aI g 46000 (fun _ => 0)) ∧ V (mo + 2) = some (aI g 460 (fun _ => 0)) ∧ V (mo + 3) = some (aI g 460 (fun _ => 0)) ∧ V (mo + 4) = some (aJ g 220 (fun _ => 0)) ∧ V (mo + 5) = some (aJ g 220 (fun _ => 0)) ∧ V (mo + 6) = some (aI g 11 (fun _ => 0)) ∧ V (mo + 7) = some (aI g 11 (fun _ => 0)) ∧ V (mo + 8) = some (aZ g 12 (fun _ => 0)) ∧ V (mo + 9) = some (aI g 12 (fun _ => 0)) ∧ V (mo + 10) = some (aI g 12 (fun _ => 0)) ∧ V (mo + 11) = some (aI g 300 (fun _ => 0)) ∧ V (mo + 12) = some (aZ g 60 (fun _ => 0)) ∧ V (mo + 13) = some (aI g 5 (fun _ => 0)) ∧ V (mo + 14) = some (aI g 5 (fun _ => 0)) ∧ V (mo + 15) = some (aI g 25 (fun _ => 0))
set_option maxRecDepth 20000 in
set_option maxHeartbeats 1000000 in
theorem t_newM (g : GX) (d : Nat) {V : AH} {mo : Nat} (hmo : V mo = some (.inr (6, [.null, .null, .null, .null, .null, .int (iZ 0), .null, .int (iZ 0), .null, .null, .null, .null, .null, .null, .null, .null, .int (iZ 0), .int (iZ 0), .null]))) (hD : DL V (mo + 1)) : AMet g mX6_init (d + 1) [.ref mo] V (mo + 1) (NwQ V (mo + 1) mo 15 47813 (MoF g mo)) := by
  refine AMet.of rfl rfl (Nat.le_of_ble_eq_true rfl) ?_
  show AW g mX6_init (d + 1) 0 [(0, .ref mo)] [] V (mo + 1) _
  refine aw_aload_n dX6_init_0 (by rfl) (Or.inr ⟨_, rfl⟩) ?_
  refine aw_objinit oX6_1 dX6_init_1 (by omega) (by decide) ?_
  refine aw_aload_n dX6_init_4 (by rfl) (Or.inr ⟨_, rfl⟩) ?_
  refine aw_ldcZ (z := 46000) qX6_7 dX6_init_5 (by decide) ?_
  refine aw_newI (N := 46000) dX6_init_7 (iZ_nlt (by omega) (by omega)) (iZ_clamp rfl (by omega)) (by omega) ?_
  refine aw_putF fX6_8 rfl rfl dX6_init_9 ((AHu_ne (by omega)).trans hmo) (by rfl) (by rfl) (Nat.le_of_ble_eq_true rfl) ?_
  refine aw_V (V' := AHu (AHu V (mo + 1) (aI g 46000 (fun _ => 0))) mo (.inr (6, [.ref (mo + 1), .null, .null, .null, .null, .int (iZ 0), .null, .int (iZ 0), .null, .null, .null, .null, .null, .null, .null, .null, .int (iZ 0), .int (iZ 0), .null]))) rfl ?_
  obtain ⟨o1, l1, D1, A1, K1⟩ := mo_step (V0 := V) (e := (aI g 46000 (fun _ => 0))) (e' := .inr (6, [.ref (mo + 1), .null, .null, .null, .null, .int (iZ 0), .null, .int (iZ 0), .null, .null, .null, .null, .null, .null, .null, .null, .int (iZ 0), .int (iZ 0), .null])) (fun _ _ => rfl) (show mo < mo + 1 by omega) hD
  refine aw_sz (sz1 := mo + 2) (by omega) ?_
  generalize AHu (AHu V (mo + 1) (aI g 46000 (fun _ => 0))) mo (.inr (6, [.ref (mo + 1), .null, .null, .null, .null, .int (iZ 0), .null, .int (iZ 0), .null, .null, .null, .null, .null, .null, .null, .null, .int (iZ 0), .int (iZ 0), .null])) = W1 at *
  refine aw_aload_n dX6_init_12 (by rfl) (Or.inr ⟨_, rfl⟩) ?_
  refine aw_sipushZ dX6_init_13 (by decide) ?_
  refine aw_newI (N := 460) dX6_init_16 (iZ_nlt (by omega) (by omega)) (iZ_clamp rfl (by omega)) (by omega) ?_
  refine aw_putF fX6_14 rfl rfl dX6_init_18 ((AHu_ne (by omega)).trans o1) (by rfl) (by rfl) (Nat.le_of_ble_eq_true rfl) ?_
  refine aw_V (V' := AHu (AHu W1 (mo + 2) (aI g 460 (fun _ => 0))) mo (.inr (6, [.ref (mo + 1), .ref (mo + 2), .null, .null, .null, .int (iZ 0), .null, .int (iZ 0), .null, .null, .null, .null, .null, .null, .null, .null, .int (iZ 0), .int (iZ 0), .null]))) rfl ?_
  obtain ⟨o2, l2, D2, A2, K2⟩ := mo_step (V0 := V) (e := (aI g 460 (fun _ => 0))) (e' := .inr (6, [.ref (mo + 1), .ref (mo + 2), .null, .null, .null, .int (iZ 0), .null, .int (iZ 0), .null, .null, .null, .null, .null, .null, .null, .null, .int (iZ 0), .int (iZ 0), .null])) l1 (show mo < mo + 2 by omega) D1
  replace A1 := (K2 (mo + 1) (by omega) (by omega)).trans A1
  refine aw_sz (sz1 := mo + 3) (by omega) ?_
  generalize AHu (AHu W1 (mo + 2) (aI g 460 (fun _ => 0))) mo (.inr (6, [.ref (mo + 1), .ref (mo + 2), .null, .null, .null, .int (iZ 0), .null, .int (iZ 0), .null, .null, .null, .null, .null, .null, .null, .null, .int (iZ 0), .int (iZ 0), .null])) = W2 at *
  refine aw_aload_n dX6_init_21 (by rfl) (Or.inr ⟨_, rfl⟩) ?_
  refine aw_sipushZ dX6_init_22 (by decide) ?_
  refine aw_newI (N := 460) dX6_init_25 (iZ_nlt (by omega) (by omega)) (iZ_clamp rfl (by omega)) (by omega) ?_
  refine aw_putF fX6_17 rfl rfl dX6_init_27 ((AHu_ne (by omega)).trans o2) (by rfl) (by rfl) (Nat.le_of_ble_eq_true rfl) ?_
  refine aw_V (V' := AHu (AHu W2 (mo + 3) (aI g 460 (fun _ => 0))) mo (.inr (6, [.ref (mo + 1), .ref (mo + 2), .ref (mo + 3), .null, .null, .int (iZ 0), .null, .int (iZ 0), .null, .null, .null, .null, .null, .null, .null, .null, .int (iZ 0), .int (iZ 0), .null]))) rfl ?_
  obtain ⟨o3, l3, D3, A3, K3⟩ := mo_step (V0 := V) (e := (aI g 460 (fun _ => 0))) (e' := .inr (6, [.ref (mo + 1), .ref (mo + 2), .ref (mo + 3), .null, .null, .int (iZ 0), .null, .int (iZ 0), .null, .null, .null, .null, .null, .null, .null, .null, .int (iZ 0), .int (iZ 0), .null])) l2 (show mo < mo + 3 by omega) D2
  replace A1 := (K3 (mo + 1) (by omega) (by omega)).trans A1
  replace A2 := (K3 (mo + 2) (by omega) (by omega)).trans A2
  refine aw_sz (sz1 := mo + 4) (by omega) ?_
  generalize AHu (AHu W2 (mo + 3) (aI g 460 (fun _ => 0))) mo (.inr (6, [.ref (mo + 1), .ref (mo + 2), .ref (mo + 3), .null, .null, .int (iZ 0), .null, .int (iZ 0), .null, .null, .null, .null, .null, .null, .null, .null, .int (iZ 0), .int (iZ 0), .null])) = W3 at *
  refine aw_aload_n dX6_init_30 (by rfl) (Or.inr ⟨_, rfl⟩) ?_
  refine aw_sipushZ dX6_init_31 (by decide) ?_
  refine aw_newJ (N := 220) dX6_init_34 (iZ_nlt (by omega) (by omega)) (iZ_clamp rfl (by omega)) (by omega) ?_
  refine aw_putF fX6_20 rfl rfl dX6_init_36 ((AHu_ne (by omega)).trans o3) (by rfl) (by rfl) (Nat.le_of_ble_eq_true rfl) ?_
  refine aw_V (V' := AHu (AHu W3 (mo + 4) (aJ g 220 (fun _ => 0))) mo (.inr (6, [.ref (mo + 1), .ref (mo + 2), .ref (mo + 3), .ref (mo + 4), .null, .int (iZ 0), .null, .int (iZ 0), .null, .null, .null, .null, .null, .null, .null, .null, .int (iZ 0), .int (iZ 0), .null]))) rfl ?_
  obtain ⟨o4, l4, D4, A4, K4⟩ := mo_step (V0 := V) (e := (aJ g 220 (fun _ => 0))) (e' := .inr (6, [.ref (mo + 1), .ref (mo + 2), .ref (mo + 3), .ref (mo + 4), .null, .int (iZ 0), .null, .int (iZ 0), .null, .null, .null, .null, .null, .null, .null, .null, .int (iZ 0), .int (iZ 0), .null])) l3 (show mo < mo + 4 by omega) D3
  replace A1 := (K4 (mo + 1) (by omega) (by omega)).trans A1
  replace A2 := (K4 (mo + 2) (by omega) (by omega)).trans A2
  replace A3 := (K4 (mo + 3) (by omega) (by omega)).trans A3
  refine aw_sz (sz1 := mo + 5) (by omega) ?_
  generalize AHu (AHu W3 (mo + 4) (aJ g 220 (fun _ => 0))) mo (.inr (6, [.ref (mo + 1), .ref (mo + 2), .ref (mo + 3), .ref (mo + 4), .null, .int (iZ 0), .null, .int (iZ 0), .null, .null, .null, .null, .null, .null, .null, .null, .int (iZ 0), .int (iZ 0), .null])) = W4 at *
  refine aw_aload_n dX6_init_39 (by rfl) (Or.inr ⟨_, rfl⟩) ?_
  refine aw_sipushZ dX6_init_40 (by decide) ?_
  refine aw_newJ (N := 220) dX6_init_43 (iZ_nlt (by omega) (by omega)) (iZ_clamp rfl (by omega)) (by omega) ?_
  refine aw_putF fX6_24 rfl rfl dX6_init_45 ((AHu_ne (by omega)).trans o4) (by rfl) (by rfl) (Nat.le_of_ble_eq_true rfl) ?_
  refine aw_V (V' := AHu (AHu W4 (mo + 5) (aJ g 220 (fun _ => 0))) mo (.inr (6, [.ref (mo + 1), .ref (mo + 2), .ref (mo + 3), .ref (mo + 4), .ref (mo + 5), .int (iZ 0), .null, .int (iZ 0), .null, .null, .null, .null, .null, .null, .null, .null, .int (iZ 0), .int (iZ 0), .null]))) rfl ?_
  obtain ⟨o5, l5, D5, A5, K5⟩ := mo_step (V0 := V) (e := (aJ g 220 (fun _ => 0))) (e' := .inr (6, [.ref (mo + 1), .ref (mo + 2), .ref (mo + 3), .ref (mo + 4), .ref (mo + 5), .int (iZ 0), .null, .int (iZ 0), .null, .null, .null, .null, .null, .null, .null, .null, .int (iZ 0), .int (iZ 0), .null])) l4 (show mo < mo + 5 by omega) D4
  replace A1 := (K5 (mo + 1) (by omega) (by omega)).trans A1
  replace A2 := (K5 (mo + 2) (by omega) (by omega)).trans A2
  replace A3 := (K5 (mo + 3) (by omega) (by omega)).trans A3
  replace A4 := (K5 (mo + 4) (by omega) (by omega)).trans A4
  refine aw_sz (sz1 := mo + 6) (by omega) ?_
  generalize AHu (AHu W4 (mo + 5) (aJ g 220 (fun _ => 0))) mo (.inr (6, [.ref (mo + 1), .ref (mo + 2), .ref (mo + 3), .ref (mo + 4), .ref (mo + 5), .int (iZ 0), .null, .int (iZ 0), .null, .null, .null, .null, .null, .null, .null, .null, .int (iZ 0), .int (iZ 0), .null])) = W5 at *
  refine aw_aload_n dX6_init_48 (by rfl) (Or.inr ⟨_, rfl⟩) ?_
  refine aw_bipushZ dX6_init_49 (by decide) ?_
  refine aw_newI (N := 11) dX6_init_51 (iZ_nlt (by omega) (by omega)) (iZ_clamp rfl (by omega)) (by omega) ?_
  refine aw_putF fX6_27 rfl rfl dX6_init_53 ((AHu_ne (by omega)).trans o5) (by rfl) (by rfl) (Nat.le_of_ble_eq_true rfl) ?_
  refine aw_V (V' := AHu (AHu W5 (mo + 6) (aI g 11 (fun _ => 0))) mo (.inr (6, [.ref (mo + 1), .ref (mo + 2), .ref (mo + 3), .ref (mo + 4), .ref (mo + 5), .int (iZ 0), .ref (mo + 6), .int (iZ 0), .null, .null, .null, .null, .null, .null, .null, .null, .int (iZ 0), .int (iZ 0), .null]))) rfl ?_
  obtain ⟨o6, l6, D6, A6, K6⟩ := mo_step (V0 := V) (e := (aI g 11 (fun _ => 0))) (e' := .inr (6, [.ref (mo + 1), .ref (mo + 2), .ref (mo + 3), .ref (mo + 4), .ref (mo + 5), .int (iZ 0), .ref (mo + 6), .int (iZ 0), .null, .null, .null, .null, .null, .null, .null, .null, .int (iZ 0), .int (iZ 0), .null])) l5 (show mo < mo + 6 by omega) D5
  replace A1 := (K6 (mo + 1) (by omega) (by omega)).trans A1
  replace A2 := (K6 (mo + 2) (by omega) (by omega)).trans A2
  replace A3 := (K6 (mo + 3) (by omega) (by omega)).trans A3
  replace A4 := (K6 (mo + 4) (by omega) (by omega)).trans A4
  replace A5 := (K6 (mo + 5) (by omega) (by omega)).trans A5
  refine aw_sz (sz1 := mo + 7) (by omega) ?_
  generalize AHu (AHu W5 (mo + 6) (aI g 11 (fun _ => 0))) mo (.inr (6, [.ref (mo + 1), .ref (mo + 2), .ref (mo + 3), .ref (mo + 4), .ref (mo + 5), .int (iZ 0), .ref (mo + 6), .int (iZ 0), .null, .null, .null, .null, .null, .null, .null, .null, .int (iZ 0), .int (iZ 0), .null])) = W6 at *
  refine aw_aload_n dX6_init_56 (by rfl) (Or.inr ⟨_, rfl⟩) ?_
  refine aw_bipushZ dX6_init_57 (by decide) ?_
  refine aw_newI (N := 11) dX6_init_59 (iZ_nlt (by omega) (by omega)) (iZ_clamp rfl (by omega)) (by omega) ?_
  refine aw_putF fX6_30 rfl rfl dX6_init_61 ((AHu_ne (by omega)).trans o6) (by rfl) (by rfl) (Nat.le_of_ble_eq_true rfl) ?_
  refine aw_V (V' := AHu (AHu W6 (mo + 7) (aI g 11 (fun _ => 0))) mo (.inr (6, [.ref (mo + 1), .ref (mo + 2), .ref (mo + 3), .ref (mo + 4), .ref (mo + 5), .int (iZ 0), .ref (mo + 6), .int (iZ 0), .ref (mo + 7), .null, .null, .null, .null, .null, .null, .null, .int (iZ 0), .int (iZ 0), .null]))) rfl ?_
  obtain ⟨o7, l7, D7, A7, K7⟩ := mo_step (V0 := V) (e := (aI g 11 (fun _ => 0))) (e' := .inr (6, [.ref (mo + 1), .ref (mo + 2), .ref (mo + 3), .ref (mo + 4), .ref (mo + 5), .int (iZ 0), .ref (mo + 6), .int (iZ 0), .ref (mo + 7), .null, .null, .null, .null, .null, .null, .null, .int (iZ 0), .int (iZ 0), .null])) l6 (show mo < mo + 7 by omega) D6
  replace A1 := (K7 (mo + 1) (by omega) (by omega)).trans A1
  replace A2 := (K7 (mo + 2) (by omega) (by omega)).trans A2
  replace A3 := (K7 (mo + 3) (by omega) (by omega)).trans A3
  replace A4 := (K7 (mo + 4) (by omega) (by omega)).trans A4
  replace A5 := (K7 (mo + 5) (by omega) (by omega)).trans A5
  replace A6 := (K7 (mo + 6) (by omega) (by omega)).trans A6
  refine aw_sz (sz1 := mo + 8) (by omega) ?_
  generalize AHu (AHu W6 (mo + 7) (aI g 11 (fun _ => 0))) mo (.inr (6, [.ref (mo + 1), .ref (mo + 2), .ref (mo + 3), .ref (mo + 4), .ref (mo + 5), .int (iZ 0), .ref (mo + 6), .int (iZ 0), .ref (mo + 7), .null, .null, .null, .null, .null, .null, .null, .int (iZ 0), .int (iZ 0), .null])) = W7 at *
  refine aw_aload_n dX6_init_64 (by rfl) (Or.inr ⟨_, rfl⟩) ?_
  refine aw_bipushZ dX6_init_65 (by decide) ?_
  refine aw_newZ (N := 12) dX6_init_67 (iZ_nlt (by omega) (by omega)) (iZ_clamp rfl (by omega)) (by omega) ?_
  refine aw_putF fX6_33 rfl rfl dX6_init_69 ((AHu_ne (by omega)).trans o7) (by rfl) (by rfl) (Nat.le_of_ble_eq_true rfl) ?_
  refine aw_V (V' := AHu (AHu W7 (mo + 8) (aZ g 12 (fun _ => 0))) mo (.inr (6, [.ref (mo + 1), .ref (mo + 2), .ref (mo + 3), .ref (mo + 4), .ref (mo + 5), .int (iZ 0), .ref (mo + 6), .int (iZ 0), .ref (mo + 7), .ref (mo + 8), .null, .null, .null, .null, .null, .null, .int (iZ 0), .int (iZ 0), .null]))) rfl ?_
  obtain ⟨o8, l8, D8, A8, K8⟩ := mo_step (V0 := V) (e := (aZ g 12 (fun _ => 0))) (e' := .inr (6, [.ref (mo + 1), .ref (mo + 2), .ref (mo + 3), .ref (mo + 4), .ref (mo + 5), .int (iZ 0), .ref (mo + 6), .int (iZ 0), .ref (mo + 7), .ref (mo + 8), .null, .null, .null, .null, .null, .null, .int (iZ 0), .int (iZ 0), .null])) l7 (show mo < mo + 8 by omega) D7
  replace A1 := (K8 (mo + 1) (by omega) (by omega)).trans A1
  replace A2 := (K8 (mo + 2) (by omega) (by omega)).trans A2
  replace A3 := (K8 (mo + 3) (by omega) (by omega)).trans A3
  replace A4 := (K8 (mo + 4) (by omega) (by omega)).trans A4
  replace A5 := (K8 (mo + 5) (by omega) (by omega)).trans A5
  replace A6 := (K8 (mo + 6) (by omega) (by omega)).trans A6
  replace A7 := (K8 (mo + 7) (by omega) (by omega)).trans A7
  refine aw_sz (sz1 := mo + 9) (by omega) ?_
  generalize AHu (AHu W7 (mo + 8) (aZ g 12 (fun _ => 0))) mo (.inr (6, [.ref (mo + 1), .ref (mo + 2), .ref (mo + 3), .ref (mo + 4), .ref (mo + 5), .int (iZ 0), .ref (mo + 6), .int (iZ 0), .ref (mo + 7), .ref (mo + 8), .null, .null, .null, .null, .null, .null, .int (iZ 0), .int (iZ 0), .null])) = W8 at *
  refine aw_aload_n dX6_init_72 (by rfl) (Or.inr ⟨_, rfl⟩) ?_
  refine aw_bipushZ dX6_init_73 (by decide) ?_
  refine aw_newI (N := 12) dX6_init_75 (iZ_nlt (by omega) (by omega)) (iZ_clamp rfl (by omega)) (by omega) ?_
  refine aw_putF fX6_37 rfl rfl dX6_init_77 ((AHu_ne (by omega)).trans o8) (by rfl) (by rfl) (Nat.le_of_ble_eq_true rfl) ?_
  refine aw_V (V' := AHu (AHu W8 (mo + 9) (aI g 12 (fun _ => 0))) mo (.inr (6, [.ref (mo + 1), .ref (mo + 2), .ref (mo + 3), .ref (mo + 4), .ref (mo + 5), .int (iZ 0), .ref (mo + 6), .int (iZ 0), .ref (mo + 7), .ref (mo + 8), .ref (mo + 9), .null, .null, .null, .null, .null, .int (iZ 0), .int (iZ 0), .null]))) rfl ?_
  obtain ⟨o9, l9, D9, A9, K9⟩ := mo_step (V0 := V) (e := (aI g 12 (fun _ => 0))) (e' := .inr (6, [.ref (mo + 1), .ref (mo + 2), .ref (mo + 3), .ref (mo + 4), .ref (mo + 5), .int (iZ 0), .ref (mo + 6), .int (iZ 0), .ref (mo + 7), .ref (mo + 8), .ref (mo + 9), .null, .null, .null, .null, .null, .int (iZ 0), .int (iZ 0), .null])) l8 (show mo < mo + 9 by omega) D8
  replace A1 := (K9 (mo + 1) (by omega) (by omega)).trans A1
  replace A2 := (K9 (mo + 2) (by omega) (by omega)).trans A2
  replace A3 := (K9 (mo + 3) (by omega) (by omega)).trans A3
  replace A4 := (K9 (mo + 4) (by omega) (by omega)).trans A4
  replace A5 := (K9 (mo + 5) (by omega) (by omega)).trans A5
  replace A6 := (K9 (mo + 6) (by omega) (by omega)).trans A6
  replace A7 := (K9 (mo + 7) (by omega) (by omega)).trans A7
  replace A8 := (K9 (mo + 8) (by omega) (by omega)).trans A8
  refine aw_sz (sz1 := mo + 10) (by omega) ?_
  generalize AHu (AHu W8 (mo + 9) (aI g 12 (fun _ => 0))) mo (.inr (6, [.ref (mo + 1), .ref (mo + 2), .ref (mo + 3), .ref (mo + 4), .ref (mo + 5), .int (iZ 0), .ref (mo + 6), .int (iZ 0), .ref (mo + 7), .ref (mo + 8), .ref (mo + 9), .null, .null, .null, .null, .null, .int (iZ 0), .int (iZ 0), .null])) = W9 at *
  refine aw_aload_n dX6_init_80 (by rfl) (Or.inr ⟨_, rfl⟩) ?_
  refine aw_bipushZ dX6_init_81 (by decide) ?_
  refine aw_newI (N := 12) dX6_init_83 (iZ_nlt (by omega) (by omega)) (iZ_clamp rfl (by omega)) (by omega) ?_
  refine aw_putF fX6_40 rfl rfl dX6_init_85 ((AHu_ne (by omega)).trans o9) (by rfl) (by rfl) (Nat.le_of_ble_eq_true rfl) ?_
  refine aw_V (V' := AHu (AHu W9 (mo + 10) (aI g 12 (fun _ => 0))) mo (.inr (6, [.ref (mo + 1), .ref (mo + 2), .ref (mo + 3), .ref (mo + 4), .ref (mo + 5), .int (iZ 0), .ref (mo + 6), .int (iZ 0), .ref (mo + 7), .ref (mo + 8), .ref (mo + 9), .ref (mo + 10), .null, .null, .null, .null, .int (iZ 0), .int (iZ 0), .null]))) rfl ?_
  obtain ⟨o10, l10, D10, A10, K10⟩ := mo_step (V0 := V) (e := (aI g 12 (fun _ => 0))) (e' := .inr (6, [.ref (mo + 1), .ref (mo + 2), .ref (mo + 3), .ref (mo + 4), .ref (mo + 5), .int (iZ 0), .ref (mo + 6), .int (iZ 0), .ref (mo + 7), .ref (mo + 8), .ref (mo + 9), .ref (mo + 10), .null, .null, .null, .null, .int (iZ 0), .int (iZ 0), .null])) l9 (show mo < mo + 10 by omega) D9
  replace A1 := (K10 (mo + 1) (by omega) (by omega)).trans A1
  replace A2 := (K10 (mo + 2) (by omega) (by omega)).trans A2
  replace A3 := (K10 (mo + 3) (by omega) (by omega)).trans A3
  replace A4 := (K10 (mo + 4) (by omega) (by omega)).trans A4
  replace A5 := (K10 (mo + 5) (by omega) (by omega)).trans A5
  replace A6 := (K10 (mo + 6) (by omega) (by omega)).trans A6
  replace A7 := (K10 (mo + 7) (by omega) (by omega)).trans A7
  replace A8 := (K10 (mo + 8) (by omega) (by omega)).trans A8
  replace A9 := (K10 (mo + 9) (by omega) (by omega)).trans A9
  refine aw_sz (sz1 := mo + 11) (by omega) ?_
  generalize AHu (AHu W9 (mo + 10) (aI g 12 (fun _ => 0))) mo (.inr (6, [.ref (mo + 1), .ref (mo + 2), .ref (mo + 3), .ref (mo + 4), .ref (mo + 5), .int (iZ 0), .ref (mo + 6), .int (iZ 0), .ref (mo + 7), .ref (mo + 8), .ref (mo + 9), .ref (mo + 10), .null, .null, .null, .null, .int (iZ 0), .int (iZ 0), .null])) = W10 at *
  refine aw_aload_n dX6_init_88 (by rfl) (Or.inr ⟨_, rfl⟩) ?_
  refine aw_sipushZ dX6_init_89 (by decide) ?_
  refine aw_newI (N := 300) dX6_init_92 (iZ_nlt (by omega) (by omega)) (iZ_clamp rfl (by omega)) (by omega) ?_
  refine aw_putF fX6_43 rfl rfl dX6_init_94 ((AHu_ne (by omega)).trans o10) (by rfl) (by rfl) (Nat.le_of_ble_eq_true rfl) ?_
  refine aw_V (V' := AHu (AHu W10 (mo + 11) (aI g 300 (fun _ => 0))) mo (.inr (6, [.ref (mo + 1), .ref (mo + 2), .ref (mo + 3), .ref (mo + 4), .ref (mo + 5), .int (iZ 0), .ref (mo + 6), .int (iZ 0), .ref (mo + 7), .ref (mo + 8), .ref (mo + 9), .ref (mo + 10), .ref (mo + 11), .null, .null, .null, .int (iZ 0), .int (iZ 0), .null]))) rfl ?_
  obtain ⟨o11, l11, D11, A11, K11⟩ := mo_step (V0 := V) (e := (aI g 300 (fun _ => 0))) (e' := .inr (6, [.ref (mo + 1), .ref (mo + 2), .ref (mo + 3), .ref (mo + 4), .ref (mo + 5), .int (iZ 0), .ref (mo + 6), .int (iZ 0), .ref (mo + 7), .ref (mo + 8), .ref (mo + 9), .ref (mo + 10), .ref (mo + 11), .null, .null, .null, .int (iZ 0), .int (iZ 0), .null])) l10 (show mo < mo + 11 by omega) D10
  replace A1 := (K11 (mo + 1) (by omega) (by omega)).trans A1
  replace A2 := (K11 (mo + 2) (by omega) (by omega)).trans A2
  replace A3 := (K11 (mo + 3) (by omega) (by omega)).trans A3
  replace A4 := (K11 (mo + 4) (by omega) (by omega)).trans A4
  replace A5 := (K11 (mo + 5) (by omega) (by omega)).trans A5
  replace A6 := (K11 (mo + 6) (by omega) (by omega)).trans A6
  replace A7 := (K11 (mo + 7) (by omega) (by omega)).trans A7
  replace A8 := (K11 (mo + 8) (by omega) (by omega)).trans A8
  replace A9 := (K11 (mo + 9) (by omega) (by omega)).trans A9
  replace A10 := (K11 (mo + 10) (by omega) (by omega)).trans A10
  refine aw_sz (sz1 := mo + 12) (by omega) ?_
  generalize AHu (AHu W10 (mo + 11) (aI g 300 (fun _ => 0))) mo (.inr (6, [.ref (mo + 1), .ref (mo + 2), .ref (mo + 3), .ref (mo + 4), .ref (mo + 5), .int (iZ 0), .ref (mo + 6), .int (iZ 0), .ref (mo + 7), .ref (mo + 8), .ref (mo + 9), .ref (mo + 10), .ref (mo + 11), .null, .null, .null, .int (iZ 0), .int (iZ 0), .null])) = W11 at *
  refine aw_aload_n dX6_init_97 (by rfl) (Or.inr ⟨_, rfl⟩) ?_
  refine aw_bipushZ dX6_init_98 (by decide) ?_
  refine aw_newZ (N := 60) dX6_init_100 (iZ_nlt (by omega) (by omega)) (iZ_clamp rfl (by omega)) (by omega) ?_
  refine aw_putF fX6_46 rfl rfl dX6_init_102 ((AHu_ne (by omega)).trans o11) (by rfl) (by rfl) (Nat.le_of_ble_eq_true rfl) ?_
  refine aw_V (V' := AHu (AHu W11 (mo + 12) (aZ g 60 (fun _ => 0))) mo (.inr (6, [.ref (mo + 1), .ref (mo + 2), .ref (mo + 3), .ref (mo + 4), .ref (mo + 5), .int (iZ 0), .ref (mo + 6), .int (iZ 0), .ref (mo + 7), .ref (mo + 8), .ref (mo + 9), .ref (mo + 10), .ref (mo + 11), .ref (mo + 12), .null, .null, .int (iZ 0), .int (iZ 0), .null]))) rfl ?_
  obtain ⟨o12, l12, D12, A12, K12⟩ := mo_step (V0 := V) (e := (aZ g 60 (fun _ => 0))) (e' := .inr (6, [.ref (mo + 1), .ref (mo + 2), .ref (mo + 3), .ref (mo + 4), .ref (mo + 5), .int (iZ 0), .ref (mo + 6), .int (iZ 0), .ref (mo + 7), .ref (mo + 8), .ref (mo + 9), .ref (mo + 10), .ref (mo + 11), .ref (mo + 12), .null, .null, .int (iZ 0), .int (iZ 0), .null])) l11 (show mo < mo + 12 by omega) D11
  replace A1 := (K12 (mo + 1) (by omega) (by omega)).trans A1
  replace A2 := (K12 (mo + 2) (by omega) (by omega)).trans A2
  replace A3 := (K12 (mo + 3) (by omega) (by omega)).trans A3
  replace A4 := (K12 (mo + 4) (by omega) (by omega)).trans A4
  replace A5 := (K12 (mo + 5) (by omega) (by omega)).trans A5
  replace A6 := (K12 (mo + 6) (by omega) (by omega)).trans A6
  replace A7 := (K12 (mo + 7) (by omega) (by omega)).trans A7
  replace A8 := (K12 (mo + 8) (by omega) (by omega)).trans A8
  replace A9 := (K12 (mo + 9) (by omega) (by omega)).trans A9
  replace A10 := (K12 (mo + 10) (by omega) (by omega)).trans A10
  replace A11 := (K12 (mo + 11) (by omega) (by omega)).trans A11
  refine aw_sz (sz1 := mo + 13) (by omega) ?_
  generalize AHu (AHu W11 (mo + 12) (aZ g 60 (fun _ => 0))) mo (.inr (6, [.ref (mo + 1), .ref (mo + 2), .ref (mo + 3), .ref (mo + 4), .ref (mo + 5), .int (iZ 0), .ref (mo + 6), .int (iZ 0), .ref (mo + 7), .ref (mo + 8), .ref (mo + 9), .ref (mo + 10), .ref (mo + 11), .ref (mo + 12), .null, .null, .int (iZ 0), .int (iZ 0), .null])) = W12 at *
  refine aw_aload_n dX6_init_105 (by rfl) (Or.inr ⟨_, rfl⟩) ?_
  refine aw_iconstZ dX6_init_106 ?_
  refine aw_newI (N := 5) dX6_init_107 (iZ_nlt (by omega) (by omega)) (iZ_clamp rfl (by omega)) (by omega) ?_
  refine aw_putF fX6_49 rfl rfl dX6_init_109 ((AHu_ne (by omega)).trans o12) (by rfl) (by rfl) (Nat.le_of_ble_eq_true rfl) ?_
  refine aw_V (V' := AHu (AHu W12 (mo + 13) (aI g 5 (fun _ => 0))) mo (.inr (6, [.ref (mo + 1), .ref (mo + 2), .ref (mo + 3), .ref (mo + 4), .ref (mo + 5), .int (iZ 0), .ref (mo + 6), .int (iZ 0), .ref (mo + 7), .ref (mo + 8), .ref (mo + 9), .ref (mo + 10), .ref (mo + 11), .ref (mo + 12), .ref (mo + 13), .null, .int (iZ 0), .int (iZ 0), .null]))) rfl ?_
  obtain ⟨o13, l13, D13, A13, K13⟩ := mo_step (V0 := V) (e := (aI g 5 (fun _ => 0))) (e' := .inr (6, [.ref (mo + 1), .ref (mo + 2), .ref (mo + 3), .ref (mo + 4), .ref (mo + 5), .int (iZ 0), .ref (mo + 6), .int (iZ 0), .ref (mo + 7), .ref (mo + 8), .ref (mo + 9), .ref (mo + 10), .ref (mo + 11), .ref (mo + 12), .ref (mo + 13), .null, .int (iZ 0), .int (iZ 0), .null])) l12 (show mo < mo + 13 by omega) D12
  replace A1 := (K13 (mo + 1) (by omega) (by omega)).trans A1
  replace A2 := (K13 (mo + 2) (by omega) (by omega)).trans A2
  replace A3 := (K13 (mo + 3) (by omega) (by omega)).trans A3
  replace A4 := (K13 (mo + 4) (by omega) (by omega)).trans A4
  replace A5 := (K13 (mo + 5) (by omega) (by omega)).trans A5
  replace A6 := (K13 (mo + 6) (by omega) (by omega)).trans A6
  replace A7 := (K13 (mo + 7) (by omega) (by omega)).trans A7
  replace A8 := (K13 (mo + 8) (by omega) (by omega)).trans A8
  replace A9 := (K13 (mo + 9) (by omega) (by omega)).trans A9
  replace A10 := (K13 (mo + 10) (by omega) (by omega)).trans A10
  replace A11 := (K13 (mo + 11) (by omega) (by omega)).trans A11
  replace A12 := (K13 (mo + 12) (by omega) (by omega)).trans A12
  refine aw_sz (sz1 := mo + 14) (by omega) ?_
  generalize AHu (AHu W12 (mo + 13) (aI g 5 (fun _ => 0))) mo (.inr (6, [.ref (mo + 1), .ref (mo + 2), .ref (mo + 3), .ref (mo + 4), .ref (mo + 5), .int (iZ 0), .ref (mo + 6), .int (iZ 0), .ref (mo + 7), .ref (mo + 8), .ref (mo + 9), .ref (mo + 10), .ref (mo + 11), .ref (mo + 12), .ref (mo + 13), .null, .int (iZ 0), .int (iZ 0), .null])) = W13 at *
  refine aw_aload_n dX6_init_112 (by rfl) (Or.inr ⟨_, rfl⟩) ?_
  refine aw_iconstZ dX6_init_113 ?_
  refine aw_newI (N := 5) dX6_init_114 (iZ_nlt (by omega) (by omega)) (iZ_clamp rfl (by omega)) (by omega) ?_
  refine aw_putF fX6_52 rfl rfl dX6_init_116 ((AHu_ne (by omega)).trans o13) (by rfl) (by rfl) (Nat.le_of_ble_eq_true rfl) ?_
  refine aw_V (V' := AHu (AHu W13 (mo + 14) (aI g 5 (fun _ => 0))) mo (.inr (6, [.ref (mo + 1), .ref (mo + 2), .ref (mo + 3), .ref (mo + 4), .ref (mo + 5), .int (iZ 0), .ref (mo + 6), .int (iZ 0), .ref (mo + 7), .ref (mo + 8), .ref (mo + 9), .ref (mo + 10), .ref (mo + 11), .ref (mo + 12), .ref (mo + 13), .ref (mo + 14), .int (iZ 0), .int (iZ 0), .null]))) rfl ?_
  obtain ⟨o14, l14, D14, A14, K14⟩ := mo_step (V0 := V) (e := (aI g 5 (fun _ => 0))) (e' := .inr (6, [.ref (mo + 1), .ref (mo + 2), .ref (mo + 3), .ref (mo + 4), .ref (mo + 5), .int (iZ 0), .ref (mo + 6), .int (iZ 0), .ref (mo + 7), .ref (mo + 8), .ref (mo + 9), .ref (mo + 10), .ref (mo + 11), .ref (mo + 12), .ref (mo + 13), .ref (mo + 14), .int (iZ 0), .int (iZ 0), .null])) l13 (show mo < mo + 14 by omega) D13
  replace A1 := (K14 (mo + 1) (by omega) (by omega)).trans A1
  replace A2 := (K14 (mo + 2) (by omega) (by omega)).trans A2
  replace A3 := (K14 (mo + 3) (by omega) (by omega)).trans A3
  replace A4 := (K14 (mo + 4) (by omega) (by omega)).trans A4
  replace A5 := (K14 (mo + 5) (by omega) (by omega)).trans A5
  replace A6 := (K14 (mo + 6) (by omega) (by omega)).trans A6
  replace A7 := (K14 (mo + 7) (by omega) (by omega)).trans A7
  replace A8 := (K14 (mo + 8) (by omega) (by omega)).trans A8
  replace A9 := (K14 (mo + 9) (by omega) (by omega)).trans A9
  replace A10 := (K14 (mo + 10) (by omega) (by omega)).trans A10
  replace A11 := (K14 (mo + 11) (by omega) (by omega)).trans A11
  replace A12 := (K14 (mo + 12) (by omega) (by omega)).trans A12
  replace A13 := (K14 (mo + 13) (by omega) (by omega)).trans A13
  refine aw_sz (sz1 := mo + 15) (by omega) ?_
  generalize AHu (AHu W13 (mo + 14) (aI g 5 (fun _ => 0))) mo (.inr (6, [.ref (mo + 1), .ref (mo + 2), .ref (mo + 3), .ref (mo + 4), .ref (mo + 5), .int (iZ 0), .ref (mo + 6), .int (iZ 0), .ref (mo + 7), .ref (mo + 8), .ref (mo + 9), .ref (mo + 10), .ref (mo + 11), .ref (mo + 12), .ref (mo + 13), .ref (mo + 14), .int (iZ 0), .int (iZ 0), .null])) = W14 at *
  refine aw_aload_n dX6_init_119 (by rfl) (Or.inr ⟨_, rfl⟩) ?_
  refine aw_iconstZ dX6_init_120 ?_
  refine aw_put fX6_55 dX6_init_121 o14 (by rfl) (by rfl) (Nat.le_of_ble_eq_true rfl) ?_
  refine aw_V (V' := AHu W14 mo (.inr (6, [.ref (mo + 1), .ref (mo + 2), .ref (mo + 3), .ref (mo + 4), .ref (mo + 5), .int (iZ 0), .ref (mo + 6), .int (iZ 0), .ref (mo + 7), .ref (mo + 8), .ref (mo + 9), .ref (mo + 10), .ref (mo + 11), .ref (mo + 12), .ref (mo + 13), .ref (mo + 14), .int (iZ (-1)), .int (iZ 0), .null]))) rfl ?_
  refine aw_aload_n dX6_init_124 (by rfl) (Or.inr ⟨_, rfl⟩) ?_
  refine aw_iconstZ dX6_init_125 ?_
  refine aw_put fX6_59 dX6_init_126 (AHu_self _ _ _) (by rfl) (by rfl) (Nat.le_of_ble_eq_true rfl) ?_
  refine aw_V (V' := AHu W14 mo (.inr (6, [.ref (mo + 1), .ref (mo + 2), .ref (mo + 3), .ref (mo + 4), .ref (mo + 5), .int (iZ 0), .ref (mo + 6), .int (iZ 0), .ref (mo + 7), .ref (mo + 8), .ref (mo + 9), .ref (mo + 10), .ref (mo + 11), .ref (mo + 12), .ref (mo + 13), .ref (mo + 14), .int (iZ (-1)), .int (iZ (-1)), .null]))) (AHu_AHu ..) ?_
  replace o14 : AHu W14 mo (.inr (6, [.ref (mo + 1), .ref (mo + 2), .ref (mo + 3), .ref (mo + 4), .ref (mo + 5), .int (iZ 0), .ref (mo + 6), .int (iZ 0), .ref (mo + 7), .ref (mo + 8), .ref (mo + 9), .ref (mo + 10), .ref (mo + 11), .ref (mo + 12), .ref (mo + 13), .ref (mo + 14), .int (iZ (-1)), .int (iZ (-1)), .null])) mo = some (.inr (6, [.ref (mo + 1), .ref (mo + 2), .ref (mo + 3), .ref (mo + 4), .ref (mo + 5), .int (iZ 0), .ref (mo + 6), .int (iZ 0), .ref (mo + 7), .ref (mo + 8), .ref (mo + 9), .ref (mo + 10), .ref (mo + 11), .ref (mo + 12), .ref (mo + 13), .ref (mo + 14), .int (iZ (-1)), .int (iZ (-1)), .null])) := AHu_self _ _ _
  replace l14 : ∀ a, a < mo → AHu W14 mo (.inr (6, [.ref (mo + 1), .ref (mo + 2), .ref (mo + 3), .ref (mo + 4), .ref (mo + 5), .int (iZ 0), .ref (mo + 6), .int (iZ 0), .ref (mo + 7), .ref (mo + 8), .ref (mo + 9), .ref (mo + 10), .ref (mo + 11), .ref (mo + 12), .ref (mo + 13), .ref (mo + 14), .int (iZ (-1)), .int (iZ (-1)), .null])) a = V a := fun a ha => (AHu_ne (by omega)).trans (l14 a ha)
  replace D14 : DL (AHu W14 mo (.inr (6, [.ref (mo + 1), .ref (mo + 2), .ref (mo + 3), .ref (mo + 4), .ref (mo + 5), .int (iZ 0), .ref (mo + 6), .int (iZ 0), .ref (mo + 7), .ref (mo + 8), .ref (mo + 9), .ref (mo + 10), .ref (mo + 11), .ref (mo + 12), .ref (mo + 13), .ref (mo + 14), .int (iZ (-1)), .int (iZ (-1)), .null]))) (mo + 15) := D14.upd (by omega)
  replace A1 : AHu W14 mo (.inr (6, [.ref (mo + 1), .ref (mo + 2), .ref (mo + 3), .ref (mo + 4), .ref (mo + 5), .int (iZ 0), .ref (mo + 6), .int (iZ 0), .ref (mo + 7), .ref (mo + 8), .ref (mo + 9), .ref (mo + 10), .ref (mo + 11), .ref (mo + 12), .ref (mo + 13), .ref (mo + 14), .int (iZ (-1)), .int (iZ (-1)), .null])) (mo + 1) = _ := (AHu_ne (by omega)).trans A1
  replace A2 : AHu W14 mo (.inr (6, [.ref (mo + 1), .ref (mo + 2), .ref (mo + 3), .ref (mo + 4), .ref (mo + 5), .int (iZ 0), .ref (mo + 6), .int (iZ 0), .ref (mo + 7), .ref (mo + 8), .ref (mo + 9), .ref (mo + 10), .ref (mo + 11), .ref (mo + 12), .ref (mo + 13), .ref (mo + 14), .int (iZ (-1)), .int (iZ (-1)), .null])) (mo + 2) = _ := (AHu_ne (by omega)).trans A2
  replace A3 : AHu W14 mo (.inr (6, [.ref (mo + 1), .ref (mo + 2), .ref (mo + 3), .ref (mo + 4), .ref (mo + 5), .int (iZ 0), .ref (mo + 6), .int (iZ 0), .ref (mo + 7), .ref (mo + 8), .ref (mo + 9), .ref (mo + 10), .ref (mo + 11), .ref (mo + 12), .ref (mo + 13), .ref (mo + 14), .int (iZ (-1)), .int (iZ (-1)), .null])) (mo + 3) = _ := (AHu_ne (by omega)).trans A3
  replace A4 : AHu W14 mo (.inr (6, [.ref (mo + 1), .ref (mo + 2), .ref (mo + 3), .ref (mo + 4), .ref (mo + 5), .int (iZ 0), .ref (mo + 6), .int (iZ 0), .ref (mo + 7), .ref (mo + 8), .ref (mo + 9), .ref (mo + 10), .ref (mo + 11), .ref (mo + 12), .ref (mo + 13), .ref (mo + 14), .int (iZ (-1)), .int (iZ (-1)), .null])) (mo + 4) = _ := (AHu_ne (by omega)).trans A4
  replace A5 : AHu W14 mo (.inr (6, [.ref (mo + 1), .ref (mo + 2), .ref (mo + 3), .ref (mo + 4), .ref (mo + 5), .int (iZ 0), .ref (mo + 6), .int (iZ 0), .ref (mo + 7), .ref (mo + 8), .ref (mo + 9), .ref (mo + 10), .ref (mo + 11), .ref (mo + 12), .ref (mo + 13), .ref (mo + 14), .int (iZ (-1)), .int (iZ (-1)), .null])) (mo + 5) = _ := (AHu_ne (by omega)).trans A5
  replace A6 : AHu W14 mo (.inr (6, [.ref (mo + 1), .ref (mo + 2), .ref (mo + 3), .ref (mo + 4), .ref (mo + 5), .int (iZ 0), .ref (mo + 6), .int (iZ 0), .ref (mo + 7), .ref (mo + 8), .ref (mo + 9), .ref (mo + 10), .ref (mo + 11), .ref (mo + 12), .ref (mo + 13), .ref (mo + 14), .int (iZ (-1)), .int (iZ (-1)), .null])) (mo + 6) = _ := (AHu_ne (by omega)).trans A6
  replace A7 : AHu W14 mo (.inr (6, [.ref (mo + 1), .ref (mo + 2), .ref (mo + 3), .ref (mo + 4), .ref (mo + 5), .int (iZ 0), .ref (mo + 6), .int (iZ 0), .ref (mo + 7), .ref (mo + 8), .ref (mo + 9), .ref (mo + 10), .ref (mo + 11), .ref (mo + 12), .ref (mo + 13), .ref (mo + 14), .int (iZ (-1)), .int (iZ (-1)), .null])) (mo + 7) = _ := (AHu_ne (by omega)).trans A7
  replace A8 : AHu W14 mo (.inr (6, [.ref (mo + 1), .ref (mo + 2), .ref (mo + 3), .ref (mo + 4), .ref (mo + 5), .int (iZ 0), .ref (mo + 6), .int (iZ 0), .ref (mo + 7), .ref (mo + 8), .ref (mo + 9), .ref (mo + 10), .ref (mo + 11), .ref (mo + 12), .ref (mo + 13), .ref (mo + 14), .int (iZ (-1)), .int (iZ (-1)), .null])) (mo + 8) = _ := (AHu_ne (by omega)).trans A8
  replace A9 : AHu W14 mo (.inr (6, [.ref (mo + 1), .ref (mo + 2), .ref (mo + 3), .ref (mo + 4), .ref (mo + 5), .int (iZ 0), .ref (mo + 6), .int (iZ 0), .ref (mo + 7), .ref (mo + 8), .ref (mo + 9), .ref (mo + 10), .ref (mo + 11), .ref (mo + 12), .ref (mo + 13), .ref (mo + 14), .int (iZ (-1)), .int (iZ (-1)), .null])) (mo + 9) = _ := (AHu_ne (by omega)).trans A9
  replace A10 : AHu W14 mo (.inr (6, [.ref (mo + 1), .ref (mo + 2), .ref (mo + 3), .ref (mo + 4), .ref (mo + 5), .int (iZ 0), .ref (mo + 6), .int (iZ 0), .ref (mo + 7), .ref (mo + 8), .ref (mo + 9), .ref (mo + 10), .ref (mo + 11), .ref (mo + 12), .ref (mo + 13), .ref (mo + 14), .int (iZ (-1)), .int (iZ (-1)), .null])) (mo + 10) = _ := (AHu_ne (by omega)).trans A10
  replace A11 : AHu W14 mo (.inr (6, [.ref (mo + 1), .ref (mo + 2), .ref (mo + 3), .ref (mo + 4), .ref (mo + 5), .int (iZ 0), .ref (mo + 6), .int (iZ 0), .ref (mo + 7), .ref (mo + 8), .ref (mo + 9), .ref (mo + 10), .ref (mo + 11), .ref (mo + 12), .ref (mo + 13), .ref (mo + 14), .int (iZ (-1)), .int (iZ (-1)), .null])) (mo + 11) = _ := (AHu_ne (by omega)).trans A11
  replace A12 : AHu W14 mo (.inr (6, [.ref (mo + 1), .ref (mo + 2), .ref (mo + 3), .ref (mo + 4), .ref (mo + 5), .int (iZ 0), .ref (mo + 6), .int (iZ 0), .ref (mo + 7), .ref (mo + 8), .ref (mo + 9), .ref (mo + 10), .ref (mo + 11), .ref (mo + 12), .ref (mo + 13), .ref (mo + 14), .int (iZ (-1)), .int (iZ (-1)), .null])) (mo + 12) = _ := (AHu_ne (by omega)).trans A12
  replace A13 : AHu W14 mo (.inr (6, [.ref (mo + 1), .ref (mo + 2), .ref (mo + 3), .ref (mo + 4), .ref (mo + 5), .int (iZ 0), .ref (mo + 6), .int (iZ 0), .ref (mo + 7), .ref (mo + 8), .ref (mo + 9), .ref (mo + 10), .ref (mo + 11), .ref (mo + 12), .ref (mo + 13), .ref (mo + 14), .int (iZ (-1)), .int (iZ (-1)), .null])) (mo + 13) = _ := (AHu_ne (by omega)).trans A13
  replace A14 : AHu W14 mo (.inr (6, [.ref (mo + 1), .ref (mo + 2), .ref (mo + 3), .ref (mo + 4), .ref (mo + 5), .int (iZ 0), .ref (mo + 6), .int (iZ 0), .ref (mo + 7), .ref (mo + 8), .ref (mo + 9), .ref (mo + 10), .ref (mo + 11), .ref (mo + 12), .ref (mo + 13), .ref (mo + 14), .int (iZ (-1)), .int (iZ (-1)), .null])) (mo + 14) = _ := (AHu_ne (by omega)).trans A14
  generalize AHu W14 mo (.inr (6, [.ref (mo + 1), .ref (mo + 2), .ref (mo + 3), .ref (mo + 4), .ref (mo + 5), .int (iZ 0), .ref (mo + 6), .int (iZ 0), .ref (mo + 7), .ref (mo + 8), .ref (mo + 9), .ref (mo + 10), .ref (mo + 11), .ref (mo + 12), .ref (mo + 13), .ref (mo + 14), .int (iZ (-1)), .int (iZ (-1)), .null])) = W14 at *
  refine aw_aload_n dX6_init_129 (by rfl) (Or.inr ⟨_, rfl⟩) ?_
  refine aw_bipushZ dX6_init_130 (by decide) ?_
  refine aw_newI (N := 25) dX6_init_132 (iZ_nlt (by omega) (by omega)) (iZ_clamp rfl (by omega)) (by omega) ?_
  refine aw_putF fX6_62 rfl rfl dX6_init_134 ((AHu_ne (by omega)).trans o14) (by rfl) (by rfl) (Nat.le_of_ble_eq_true rfl) ?_
  refine aw_V (V' := AHu (AHu W14 (mo + 15) (aI g 25 (fun _ => 0))) mo (.inr (6, [.ref (mo + 1), .ref (mo + 2), .ref (mo + 3), .ref (mo + 4), .ref (mo + 5), .int (iZ 0), .ref (mo + 6), .int (iZ 0), .ref (mo + 7), .ref (mo + 8), .ref (mo + 9), .ref (mo + 10), .ref (mo + 11), .ref (mo + 12), .ref (mo + 13), .ref (mo + 14), .int (iZ (-1)), .int (iZ (-1)), .ref (mo + 15)]))) rfl ?_
  obtain ⟨o15, l15, D15, A15, K15⟩ := mo_step (V0 := V) (e := (aI g 25 (fun _ => 0))) (e' := .inr (6, [.ref (mo + 1), .ref (mo + 2), .ref (mo + 3), .ref (mo + 4), .ref (mo + 5), .int (iZ 0), .ref (mo + 6), .int (iZ 0), .ref (mo + 7), .ref (mo + 8), .ref (mo + 9), .ref (mo + 10), .ref (mo + 11), .ref (mo + 12), .ref (mo + 13), .ref (mo + 14), .int (iZ (-1)), .int (iZ (-1)), .ref (mo + 15)])) l14 (show mo < mo + 15 by omega) D14
  replace A1 := (K15 (mo + 1) (by omega) (by omega)).trans A1
  replace A2 := (K15 (mo + 2) (by omega) (by omega)).trans A2
  replace A3 := (K15 (mo + 3) (by omega) (by omega)).trans A3
  replace A4 := (K15 (mo + 4) (by omega) (by omega)).trans A4
  replace A5 := (K15 (mo + 5) (by omega) (by omega)).trans A5
  replace A6 := (K15 (mo + 6) (by omega) (by omega)).trans A6
  replace A7 := (K15 (mo + 7) (by omega) (by omega)).trans A7
  replace A8 := (K15 (mo + 8) (by omega) (by omega)).trans A8
  replace A9 := (K15 (mo + 9) (by omega) (by omega)).trans A9
  replace A10 := (K15 (mo + 10) (by omega) (by omega)).trans A10
  replace A11 := (K15 (mo + 11) (by omega) (by omega)).trans A11
  replace A12 := (K15 (mo + 12) (by omega) (by omega)).trans A12
  replace A13 := (K15 (mo + 13) (by omega) (by omega)).trans A13
  replace A14 := (K15 (mo + 14) (by omega) (by omega)).trans A14
  refine aw_sz (sz1 := mo + 16) (by omega) ?_
  generalize AHu (AHu W14 (mo + 15) (aI g 25 (fun _ => 0))) mo (.inr (6, [.ref (mo + 1), .ref (mo + 2), .ref (mo + 3), .ref (mo + 4), .ref (mo + 5), .int (iZ 0), .ref (mo + 6), .int (iZ 0), .ref (mo + 7), .ref (mo + 8), .ref (mo + 9), .ref (mo + 10), .ref (mo + 11), .ref (mo + 12), .ref (mo + 13), .ref (mo + 14), .int (iZ (-1)), .int (iZ (-1)), .ref (mo + 15)])) = W15 at *
  refine aw_ret dX6_init_137 rfl ?_
  exact ⟨rfl, by omega, by omega, by omega, fun a h1 h2 => l15 a (by omega), D15, o15, A1, A2, A3, A4, A5, A6, A7, A8, A9, A10, A11, A12, A13, A14, A15⟩
theorem mo_rx {g : GX} {mo : Nat} {V : AH} (h : MoF g mo V) : RX g mo V (fun _ => 0) S0 A0s := by
  obtain ⟨f0, f1, f2, f3, f4, f5, f6, f7, f8, f9, f10, f11, f12, f13, f14, f15⟩ := h
  refine ⟨⟨0, 0, f0⟩, ⟨fun _ => 0, f6⟩, ⟨fun _ => 0, f7⟩, ⟨fun _ => 0, f13⟩, ⟨fun _ => 0, f14⟩, ⟨fun _ => 0, f15⟩, ⟨fun _ => 0, fun _ => 0, fun _ => 0, fun _ => 0, fun _ => 0, f8, f9, f10, f11, f12, fun t _ => ⟨rfl, rfl, rfl, fun _ _ => rfl, fun _ _ => rfl⟩⟩, ⟨fun _ => 0, fun _ => 0, fun _ => 0, fun _ => 0, fun _ => 0, ⟨f1, f2, f3, f4, f5⟩, fun c _ => ⟨0, rfl, by omega, rfl, fun k hk => absurd hk (by omega), rfl, Or.inl rfl⟩⟩, fun i j hi => absurd hi (by show ¬ i < 0; omega), tok0, aok0⟩
