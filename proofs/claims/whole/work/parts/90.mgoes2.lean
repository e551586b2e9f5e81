/-! ===== the reference: goesIn ===== -/
def GMx (b w h : Nat) (zs : Nat → Int) : Mat := fun i t => if i < h then zs (b + w * i + t) else zs (150 + t)
def BMx (b w : Nat) (zs : Nat → Int) : Mat := fun i t => zs (b + w * i + t)
def InG (b w h : Nat) : Nat → Prop := fun q => (b ≤ q ∧ q < b + w * (h + 1)) ∨ (150 ≤ q ∧ q < 165) ∨ (415 ≤ q ∧ q ≤ 418)
def ER (mo ra : Nat) : Nat → Prop := fun a => EN mo a ∨ a = ra
def CpZ (zs z' : Nat → Int) (s d c : Nat) : Prop := ∀ q, z' q = if d ≤ q ∧ q < d + c then zs (s + (q - d)) else zs q
theorem CpZ.nil {zs : Nat → Int} {s d : Nat} : CpZ zs zs s d 0 := fun q => by rw [if_neg (by omega)]
theorem CpZ.up {zs z' : Nat → Int} {s d c : Nat} (h : CpZ zs z' s d c) (hs : s + c < d ∨ d + c ≤ s + c) : CpZ zs (upF z' (d + c) (z' (s + c))) s d (c + 1) := fun q => by
  by_cases e : q = d + c
  · subst e
    rw [upF_self, h (s + c), if_neg (by omega), if_pos (by omega), show d + c - d = c by omega]
  · rw [upF_ne _ _ e, h q]
    by_cases e2 : d ≤ q ∧ q < d + c
    · rw [if_pos e2, if_pos (by omega)]
    · rw [if_neg e2, if_neg (by omega)]
def GoR (g : GX) (mo ra : Nat) (zs : Nat → Int) (b w h Lc : Nat) (l : Nat → Nat) (β : Nat → Int) (X : Int) (RW : Nat → Int) : Option Value → AH → Prop := fun r V' => ∃ z', MN g mo V' z' ∧ Frm zs z' (InG b w h) ∧ ((some (.int (iZ 0)) = r ∧ V' ra = some (aIz g 11 RW) ∧ GNo (GMx b w h zs) (GMx b w h z') h w Lc l β X) ∨ ∃ s j : Nat, some (.int (iZ 1)) = r ∧ V' ra = some (aIz g 11 (insF RW s h (j : Int))) ∧ GYe (GMx b w h zs) (BMx b w z') h w Lc l β X s j)
abbrev mX6_goesIn : MI := (yX6_goesIn, cX6_goesIn, 11, (some FieldType.boolean), noX)
theorem dX6_goesIn_0 : decode cX6_goesIn 0 = .ok (.iconst 0, 1) := by decide +kernel
theorem dX6_goesIn_1 : decode cX6_goesIn 1 = .ok (.istore 7, 2) := by decide +kernel
theorem dX6_goesIn_3 : decode cX6_goesIn 3 = .ok (.iload 7, 2) := by decide +kernel
theorem dX6_goesIn_5 : decode cX6_goesIn 5 = .ok (.iload 4, 2) := by decide +kernel
theorem dX6_goesIn_7 : decode cX6_goesIn 7 = .ok (.if_icmp .ge 221, 3) := by decide +kernel
theorem dX6_goesIn_10 : decode cX6_goesIn 10 = .ok (.aload_n 0, 1) := by decide +kernel
theorem dX6_goesIn_11 : decode cX6_goesIn 11 = .ok (.getfield 17, 3) := by decide +kernel
theorem dX6_goesIn_14 : decode cX6_goesIn 14 = .ok (.sipush 150, 3) := by decide +kernel
theorem dX6_goesIn_17 : decode cX6_goesIn 17 = .ok (.iload 7, 2) := by decide +kernel
theorem dX6_goesIn_19 : decode cX6_goesIn 19 = .ok (.iadd, 1) := by decide +kernel
theorem dX6_goesIn_20 : decode cX6_goesIn 20 = .ok (.iaload, 1) := by decide +kernel
theorem dX6_goesIn_21 : decode cX6_goesIn 21 = .ok (.ifCond .ne 6, 3) := by decide +kernel
theorem dX6_goesIn_24 : decode cX6_goesIn 24 = .ok (.goto 198, 3) := by decide +kernel
theorem dX6_goesIn_27 : decode cX6_goesIn 27 = .ok (.iconst 0, 1) := by decide +kernel
theorem dX6_goesIn_28 : decode cX6_goesIn 28 = .ok (.istore 8, 2) := by decide +kernel
theorem dX6_goesIn_30 : decode cX6_goesIn 30 = .ok (.iload 8, 2) := by decide +kernel
theorem dX6_goesIn_32 : decode cX6_goesIn 32 = .ok (.iload 6, 2) := by decide +kernel
theorem dX6_goesIn_34 : decode cX6_goesIn 34 = .ok (.if_icmp .ge 19, 3) := by decide +kernel
theorem dX6_goesIn_37 : decode cX6_goesIn 37 = .ok (.aload 5, 2) := by decide +kernel
theorem dX6_goesIn_39 : decode cX6_goesIn 39 = .ok (.iload 8, 2) := by decide +kernel
theorem dX6_goesIn_41 : decode cX6_goesIn 41 = .ok (.iaload, 1) := by decide +kernel
theorem dX6_goesIn_42 : decode cX6_goesIn 42 = .ok (.iload 7, 2) := by decide +kernel
theorem dX6_goesIn_44 : decode cX6_goesIn 44 = .ok (.if_icmp .ge 9, 3) := by decide +kernel
theorem dX6_goesIn_47 : decode cX6_goesIn 47 = .ok (.iinc 8 1, 3) := by decide +kernel
theorem dX6_goesIn_50 : decode cX6_goesIn 50 = .ok (.goto (-20), 3) := by decide +kernel
theorem dX6_goesIn_53 : decode cX6_goesIn 53 = .ok (.iload 8, 2) := by decide +kernel
theorem dX6_goesIn_55 : decode cX6_goesIn 55 = .ok (.iload 6, 2) := by decide +kernel
theorem dX6_goesIn_57 : decode cX6_goesIn 57 = .ok (.if_icmp .ge 32, 3) := by decide +kernel
theorem dX6_goesIn_60 : decode cX6_goesIn 60 = .ok (.aload 5, 2) := by decide +kernel
theorem dX6_goesIn_62 : decode cX6_goesIn 62 = .ok (.iload 8, 2) := by decide +kernel
theorem dX6_goesIn_64 : decode cX6_goesIn 64 = .ok (.iaload, 1) := by decide +kernel
theorem dX6_goesIn_65 : decode cX6_goesIn 65 = .ok (.iload 7, 2) := by decide +kernel
theorem dX6_goesIn_67 : decode cX6_goesIn 67 = .ok (.if_icmp .ne 22, 3) := by decide +kernel
theorem dX6_goesIn_70 : decode cX6_goesIn 70 = .ok (.aload_n 0, 1) := by decide +kernel
theorem dX6_goesIn_71 : decode cX6_goesIn 71 = .ok (.iload_n 1, 1) := by decide +kernel
theorem dX6_goesIn_72 : decode cX6_goesIn 72 = .ok (.iload_n 2, 1) := by decide +kernel
theorem dX6_goesIn_73 : decode cX6_goesIn 73 = .ok (.iload 8, 2) := by decide +kernel
theorem dX6_goesIn_75 : decode cX6_goesIn 75 = .ok (.imul, 1) := by decide +kernel
theorem dX6_goesIn_76 : decode cX6_goesIn 76 = .ok (.iadd, 1) := by decide +kernel
theorem dX6_goesIn_77 : decode cX6_goesIn 77 = .ok (.sipush 150, 3) := by decide +kernel
theorem dX6_goesIn_80 : decode cX6_goesIn 80 = .ok (.iload_n 3, 1) := by decide +kernel
theorem dX6_goesIn_81 : decode cX6_goesIn 81 = .ok (.iload 7, 2) := by decide +kernel
theorem dX6_goesIn_83 : decode cX6_goesIn 83 = .ok (.invokevirtual 110, 3) := by decide +kernel
theorem dX6_goesIn_86 : decode cX6_goesIn 86 = .ok (.goto 136, 3) := by decide +kernel
theorem dX6_goesIn_89 : decode cX6_goesIn 89 = .ok (.aload_n 0, 1) := by decide +kernel
theorem dX6_goesIn_90 : decode cX6_goesIn 90 = .ok (.getfield 17, 3) := by decide +kernel
theorem dX6_goesIn_93 : decode cX6_goesIn 93 = .ok (.sipush 150, 3) := by decide +kernel
theorem dX6_goesIn_96 : decode cX6_goesIn 96 = .ok (.iload 7, 2) := by decide +kernel
theorem dX6_goesIn_98 : decode cX6_goesIn 98 = .ok (.iadd, 1) := by decide +kernel
theorem dX6_goesIn_99 : decode cX6_goesIn 99 = .ok (.iaload, 1) := by decide +kernel
theorem dX6_goesIn_100 : decode cX6_goesIn 100 = .ok (.ifCond .ge 11, 3) := by decide +kernel
theorem dX6_goesIn_103 : decode cX6_goesIn 103 = .ok (.aload_n 0, 1) := by decide +kernel
theorem dX6_goesIn_104 : decode cX6_goesIn 104 = .ok (.sipush 150, 3) := by decide +kernel
theorem dX6_goesIn_107 : decode cX6_goesIn 107 = .ok (.iload_n 3, 1) := by decide +kernel
theorem dX6_goesIn_108 : decode cX6_goesIn 108 = .ok (.invokevirtual 107, 3) := by decide +kernel
theorem dX6_goesIn_111 : decode cX6_goesIn 111 = .ok (.iload 6, 2) := by decide +kernel
theorem dX6_goesIn_113 : decode cX6_goesIn 113 = .ok (.istore 9, 2) := by decide +kernel
theorem dX6_goesIn_115 : decode cX6_goesIn 115 = .ok (.iload 9, 2) := by decide +kernel
theorem dX6_goesIn_117 : decode cX6_goesIn 117 = .ok (.iload 8, 2) := by decide +kernel
theorem dX6_goesIn_119 : decode cX6_goesIn 119 = .ok (.if_icmp .le 60, 3) := by decide +kernel
theorem dX6_goesIn_122 : decode cX6_goesIn 122 = .ok (.aload 5, 2) := by decide +kernel
theorem dX6_goesIn_124 : decode cX6_goesIn 124 = .ok (.iload 9, 2) := by decide +kernel
theorem dX6_goesIn_126 : decode cX6_goesIn 126 = .ok (.aload 5, 2) := by decide +kernel
theorem dX6_goesIn_128 : decode cX6_goesIn 128 = .ok (.iload 9, 2) := by decide +kernel
theorem dX6_goesIn_130 : decode cX6_goesIn 130 = .ok (.iconst 1, 1) := by decide +kernel
theorem dX6_goesIn_131 : decode cX6_goesIn 131 = .ok (.isub, 1) := by decide +kernel
theorem dX6_goesIn_132 : decode cX6_goesIn 132 = .ok (.iaload, 1) := by decide +kernel
theorem dX6_goesIn_133 : decode cX6_goesIn 133 = .ok (.iastore, 1) := by decide +kernel
theorem dX6_goesIn_134 : decode cX6_goesIn 134 = .ok (.iconst 0, 1) := by decide +kernel
theorem dX6_goesIn_135 : decode cX6_goesIn 135 = .ok (.istore 10, 2) := by decide +kernel
theorem dX6_goesIn_137 : decode cX6_goesIn 137 = .ok (.iload 10, 2) := by decide +kernel
theorem dX6_goesIn_139 : decode cX6_goesIn 139 = .ok (.iload_n 3, 1) := by decide +kernel
theorem dX6_goesIn_140 : decode cX6_goesIn 140 = .ok (.if_icmp .ge 33, 3) := by decide +kernel
theorem dX6_goesIn_143 : decode cX6_goesIn 143 = .ok (.aload_n 0, 1) := by decide +kernel
theorem dX6_goesIn_144 : decode cX6_goesIn 144 = .ok (.iload_n 1, 1) := by decide +kernel
theorem dX6_goesIn_145 : decode cX6_goesIn 145 = .ok (.iload_n 2, 1) := by decide +kernel
theorem dX6_goesIn_146 : decode cX6_goesIn 146 = .ok (.iload 9, 2) := by decide +kernel
theorem dX6_goesIn_148 : decode cX6_goesIn 148 = .ok (.iconst 1, 1) := by decide +kernel
theorem dX6_goesIn_149 : decode cX6_goesIn 149 = .ok (.isub, 1) := by decide +kernel
theorem dX6_goesIn_150 : decode cX6_goesIn 150 = .ok (.imul, 1) := by decide +kernel
theorem dX6_goesIn_151 : decode cX6_goesIn 151 = .ok (.iadd, 1) := by decide +kernel
theorem dX6_goesIn_152 : decode cX6_goesIn 152 = .ok (.iload 10, 2) := by decide +kernel
theorem dX6_goesIn_154 : decode cX6_goesIn 154 = .ok (.iadd, 1) := by decide +kernel
theorem dX6_goesIn_155 : decode cX6_goesIn 155 = .ok (.iload_n 1, 1) := by decide +kernel
theorem dX6_goesIn_156 : decode cX6_goesIn 156 = .ok (.iload_n 2, 1) := by decide +kernel
theorem dX6_goesIn_157 : decode cX6_goesIn 157 = .ok (.iload 9, 2) := by decide +kernel
theorem dX6_goesIn_159 : decode cX6_goesIn 159 = .ok (.imul, 1) := by decide +kernel
theorem dX6_goesIn_160 : decode cX6_goesIn 160 = .ok (.iadd, 1) := by decide +kernel
theorem dX6_goesIn_161 : decode cX6_goesIn 161 = .ok (.iload 10, 2) := by decide +kernel
theorem dX6_goesIn_163 : decode cX6_goesIn 163 = .ok (.iadd, 1) := by decide +kernel
theorem dX6_goesIn_164 : decode cX6_goesIn 164 = .ok (.invokevirtual 67, 3) := by decide +kernel
theorem dX6_goesIn_167 : decode cX6_goesIn 167 = .ok (.iinc 10 1, 3) := by decide +kernel
theorem dX6_goesIn_170 : decode cX6_goesIn 170 = .ok (.goto (-33), 3) := by decide +kernel
theorem dX6_goesIn_173 : decode cX6_goesIn 173 = .ok (.iinc 9 (-1), 3) := by decide +kernel
theorem dX6_goesIn_176 : decode cX6_goesIn 176 = .ok (.goto (-61), 3) := by decide +kernel
theorem dX6_goesIn_179 : decode cX6_goesIn 179 = .ok (.aload 5, 2) := by decide +kernel
theorem dX6_goesIn_181 : decode cX6_goesIn 181 = .ok (.iload 8, 2) := by decide +kernel
theorem dX6_goesIn_183 : decode cX6_goesIn 183 = .ok (.iload 7, 2) := by decide +kernel
theorem dX6_goesIn_185 : decode cX6_goesIn 185 = .ok (.iastore, 1) := by decide +kernel
theorem dX6_goesIn_186 : decode cX6_goesIn 186 = .ok (.iconst 0, 1) := by decide +kernel
theorem dX6_goesIn_187 : decode cX6_goesIn 187 = .ok (.istore 9, 2) := by decide +kernel
theorem dX6_goesIn_189 : decode cX6_goesIn 189 = .ok (.iload 9, 2) := by decide +kernel
theorem dX6_goesIn_191 : decode cX6_goesIn 191 = .ok (.iload_n 3, 1) := by decide +kernel
theorem dX6_goesIn_192 : decode cX6_goesIn 192 = .ok (.if_icmp .ge 28, 3) := by decide +kernel
theorem dX6_goesIn_195 : decode cX6_goesIn 195 = .ok (.aload_n 0, 1) := by decide +kernel
theorem dX6_goesIn_196 : decode cX6_goesIn 196 = .ok (.sipush 150, 3) := by decide +kernel
theorem dX6_goesIn_199 : decode cX6_goesIn 199 = .ok (.iload 9, 2) := by decide +kernel
theorem dX6_goesIn_201 : decode cX6_goesIn 201 = .ok (.iadd, 1) := by decide +kernel
theorem dX6_goesIn_202 : decode cX6_goesIn 202 = .ok (.iload_n 1, 1) := by decide +kernel
theorem dX6_goesIn_203 : decode cX6_goesIn 203 = .ok (.iload_n 2, 1) := by decide +kernel
theorem dX6_goesIn_204 : decode cX6_goesIn 204 = .ok (.iload 8, 2) := by decide +kernel
theorem dX6_goesIn_206 : decode cX6_goesIn 206 = .ok (.imul, 1) := by decide +kernel
theorem dX6_goesIn_207 : decode cX6_goesIn 207 = .ok (.iadd, 1) := by decide +kernel
theorem dX6_goesIn_208 : decode cX6_goesIn 208 = .ok (.iload 9, 2) := by decide +kernel
theorem dX6_goesIn_210 : decode cX6_goesIn 210 = .ok (.iadd, 1) := by decide +kernel
theorem dX6_goesIn_211 : decode cX6_goesIn 211 = .ok (.invokevirtual 67, 3) := by decide +kernel
theorem dX6_goesIn_214 : decode cX6_goesIn 214 = .ok (.iinc 9 1, 3) := by decide +kernel
theorem dX6_goesIn_217 : decode cX6_goesIn 217 = .ok (.goto (-28), 3) := by decide +kernel
theorem dX6_goesIn_220 : decode cX6_goesIn 220 = .ok (.iconst 1, 1) := by decide +kernel
theorem dX6_goesIn_221 : decode cX6_goesIn 221 = .ok (.ireturn, 1) := by decide +kernel
theorem dX6_goesIn_222 : decode cX6_goesIn 222 = .ok (.iinc 7 1, 3) := by decide +kernel
theorem dX6_goesIn_225 : decode cX6_goesIn 225 = .ok (.goto (-222), 3) := by decide +kernel
theorem dX6_goesIn_228 : decode cX6_goesIn 228 = .ok (.iconst 0, 1) := by decide +kernel
theorem dX6_goesIn_229 : decode cX6_goesIn 229 = .ok (.ireturn, 1) := by decide +kernel
theorem MN.kept {g : GX} {mo : Nat} {V V' : AH} {zs : Nat → Int} (h : MN g mo V zs) (hV : ∀ a, EN mo a → V' a = V a) : MN g mo V' zs := by
  obtain ⟨D, LN, SG, O1, O2, ⟨a1, a2, a3, a4, a5⟩, h0⟩ := h
  exact ⟨D, LN, SG, O1, O2, ⟨(hV _ (by unfold EN; omega)).trans a1, (hV _ (by unfold EN; omega)).trans a2, (hV _ (by unfold EN; omega)).trans a3, (hV _ (by unfold EN; omega)).trans a4, (hV _ (by unfold EN; omega)).trans a5⟩, h0⟩
theorem gk_S (d : Nat) {g : GX} {V : AH} {mo sz h j s : Nat} {RW : Nat → Int} {l : Nat → Nat} {Q : AQ} (hh : h ≤ 9) (hj : j < 5) (hsh : s ≤ h) (hra : V (mo + 6) = some (aIz g 11 RW)) (hl : ∀ i, i < h → RW i = (l i : Int)) (hlb : ∀ i, i < h → l i < 5) (hlt : ∀ i, i < s → l i < j) (hge : s < h → j ≤ l s)
    (hKK : AW g mX6_goesIn d 53 [(8, .int (iZ s)), (7, .int (iZ j)), (0, .ref mo), (1, .int (iZ 0)), (2, .int (iZ 15)), (3, .int (iZ 15)), (4, .int (iZ 5)), (5, .ref (mo + 6)), (6, .int (iZ h))] [] V sz Q) : ∀ (y k : Nat), k + y = s → AW g mX6_goesIn d 30 [(8, .int (iZ k)), (7, .int (iZ j)), (0, .ref mo), (1, .int (iZ 0)), (2, .int (iZ 15)), (3, .int (iZ 15)), (4, .int (iZ 5)), (5, .ref (mo + 6)), (6, .int (iZ h))] [] V sz Q
  | 0, k, hy => by
    refine aw_iload dX6_goesIn_30 (by rfl) ?_
    refine aw_iload dX6_goesIn_32 (by rfl) ?_
    refine aw_icmp_geZ (tgt := 53) dX6_goesIn_34 (by decide) (by omega) (by omega) (fun hc_34 => ?_) (fun hc_34 => ?_)
    · refine aw_pk [8, 7, 0, 1, 2, 3, 4, 5, 6] (by rfl) ?_
      obtain rfl : k = s := by omega
      exact hKK
    · refine aw_aload dX6_goesIn_37 (by rfl) (Or.inr ⟨_, rfl⟩) ?_
      refine aw_iload dX6_goesIn_39 (by rfl) ?_
      refine aw_ialdZ (k) dX6_goesIn_41 hra (by omega) (by omega) (by omega) ?_
      refine aw_iload dX6_goesIn_42 (by rfl) ?_
      refine aw_icmp_geZ (tgt := 53) dX6_goesIn_44 (by decide) (by rw [hl k (by omega)]; have := hlb k (by omega); omega) (by omega) (fun hc_44 => ?_) (fun hc_44 => ?_)
      · refine aw_pk [8, 7, 0, 1, 2, 3, 4, 5, 6] (by rfl) ?_
        obtain rfl : k = s := by omega
        exact hKK
      · exact absurd (by rw [hl k (by omega)]; have h9 := hge (by omega); rw [show s = k by omega] at h9; omega) hc_44
  | y + 1, k, hy => by
    have IH := @gk_S d g V mo sz h j s RW l Q hh hj hsh hra hl hlb hlt hge hKK y
    refine aw_iload dX6_goesIn_30 (by rfl) ?_
    refine aw_iload dX6_goesIn_32 (by rfl) ?_
    refine aw_icmp_geZ (tgt := 53) dX6_goesIn_34 (by decide) (by omega) (by omega) (fun hc_34 => ?_) (fun hc_34 => ?_)
    · exact absurd hc_34 (by omega)
    · refine aw_aload dX6_goesIn_37 (by rfl) (Or.inr ⟨_, rfl⟩) ?_
      refine aw_iload dX6_goesIn_39 (by rfl) ?_
      refine aw_ialdZ (k) dX6_goesIn_41 hra (by omega) (by omega) (by omega) ?_
      refine aw_iload dX6_goesIn_42 (by rfl) ?_
      refine aw_icmp_geZ (tgt := 53) dX6_goesIn_44 (by decide) (by rw [hl k (by omega)]; have := hlb k (by omega); omega) (by omega) (fun hc_44 => ?_) (fun hc_44 => ?_)
      · exact absurd hc_44 (by rw [hl k (by omega)]; have := hlt k (by omega); omega)
      · refine aw_iincZ dX6_goesIn_47 (by rfl) (by decide) ?_
        refine aw_goto (tgt := 30) dX6_goesIn_50 (by decide) ?_
        rw [show ((k : Int) + 1) = ((k + 1 : Nat) : Int) by omega]
        refine aw_pk [8, 7, 0, 1, 2, 3, 4, 5, 6] (by rfl) ?_
        exact IH (k + 1) (by omega)
theorem gi_S (d : Nat) {g : GX} {V0 : AH} {mo sz h j s i : Nat} {rk kn ar ac : Int} {zs : Nat → Int} {Q : AQ} (hh : h ≤ 9) (hi : i < h)
    (hKK : ∀ {V : AH} {z' : Nat → Int}, V mo = some (moO mo rk kn ar ac) → MN g mo V z' → (∀ a, ¬ EN mo a → V a = V0 a) → CpZ zs z' (0 + 15 * i) (0 + 15 * (i + 1)) 15 → AW g mX6_goesIn (d + 4) 173 [(9, .int (iZ ((i + 1 : Nat) : Int))), (8, .int (iZ s)), (7, .int (iZ j)), (0, .ref mo), (1, .int (iZ 0)), (2, .int (iZ 15)), (3, .int (iZ 15)), (4, .int (iZ 5)), (5, .ref (mo + 6)), (6, .int (iZ h))] [] V sz Q) : ∀ (y c : Nat), c + y = 15 → ∀ {V : AH} {z' : Nat → Int}, V mo = some (moO mo rk kn ar ac) → MN g mo V z' → (∀ a, ¬ EN mo a → V a = V0 a) → CpZ zs z' (0 + 15 * i) (0 + 15 * (i + 1)) c → AW g mX6_goesIn (d + 4) 137 [(10, .int (iZ c)), (9, .int (iZ ((i + 1 : Nat) : Int))), (8, .int (iZ s)), (7, .int (iZ j)), (0, .ref mo), (1, .int (iZ 0)), (2, .int (iZ 15)), (3, .int (iZ 15)), (4, .int (iZ 5)), (5, .ref (mo + 6)), (6, .int (iZ h))] [] V sz Q
  | 0, c, hy, V, z', hmo, hM, hV, hC => by
    refine aw_iload dX6_goesIn_137 (by rfl) ?_
    refine aw_iload_n dX6_goesIn_139 (by rfl) ?_
    refine aw_icmp_geZ (tgt := 173) dX6_goesIn_140 (by decide) (by omega) (by omega) (fun hc_140 => ?_) (fun hc_140 => ?_)
    · obtain rfl : c = 15 := by omega
      refine aw_pk [9, 8, 7, 0, 1, 2, 3, 4, 5, 6] (by rfl) ?_
      exact hKK hmo hM hV hC
    · exact absurd hc_140 (by omega)
  | y + 1, c, hy, V, z', hmo, hM, hV, hC => by
    have IH := fun c hc => @gi_S d g V0 mo sz h j s i rk kn ar ac zs Q hh hi hKK y c hc
    refine aw_iload dX6_goesIn_137 (by rfl) ?_
    refine aw_iload_n dX6_goesIn_139 (by rfl) ?_
    refine aw_icmp_geZ (tgt := 173) dX6_goesIn_140 (by decide) (by omega) (by omega) (fun hc_140 => ?_) (fun hc_140 => ?_)
    · exact absurd hc_140 (by omega)
    · refine aw_aload_n dX6_goesIn_143 (by rfl) (Or.inr ⟨_, rfl⟩) ?_
      refine aw_iload_n dX6_goesIn_144 (by rfl) ?_
      refine aw_iload_n dX6_goesIn_145 (by rfl) ?_
      refine aw_iload dX6_goesIn_146 (by rfl) ?_
      refine aw_iconstZ dX6_goesIn_148 ?_
      refine aw_isubZ dX6_goesIn_149 ?_
      refine aw_imulZ dX6_goesIn_150 ?_
      refine aw_iaddZ dX6_goesIn_151 ?_
      refine aw_iload dX6_goesIn_152 (by rfl) ?_
      refine aw_iaddZ dX6_goesIn_154 ?_
      refine aw_topi (y := ((0 + 15 * i + c : Nat) : Int)) (by omega) ?_
      refine aw_iload_n dX6_goesIn_155 (by rfl) ?_
      refine aw_iload_n dX6_goesIn_156 (by rfl) ?_
      refine aw_iload dX6_goesIn_157 (by rfl) ?_
      refine aw_imulZ dX6_goesIn_159 ?_
      refine aw_iaddZ dX6_goesIn_160 ?_
      refine aw_iload dX6_goesIn_161 (by rfl) ?_
      refine aw_iaddZ dX6_goesIn_163 ?_
      refine aw_topi (y := ((0 + 15 * (i + 1) + c : Nat) : Int)) (by omega) ?_
      refine aw_callv vX6_67 dX6_goesIn_164 hmo (m_copies g (d + 3) (a := 0 + 15 * i + c) (c := 0 + 15 * (i + 1) + c) ⟨rk, kn, ar, ac, hmo⟩ hM (by omega) (by omega)) (by rfl) (by rfl) (by omega) (Nat.le_of_ble_eq_true rfl) ?_
      rintro _ V1 _ _ _ ⟨rfl, rfl, rfl, hE1, rfl, hM1⟩ -
      refine q0 ?_
      refine aw_iincZ dX6_goesIn_167 (by rfl) (by decide) ?_
      refine aw_goto (tgt := 137) dX6_goesIn_170 (by decide) ?_
      rw [show ((c : Int) + 1) = ((c + 1 : Nat) : Int) by omega]
      refine aw_pk [10, 9, 8, 7, 0, 1, 2, 3, 4, 5, 6] (by rfl) ?_
      exact IH (c + 1) (by omega) ((hE1 mo (by unfold EN; omega)).trans hmo) hM1 (fun a ha => (hE1 a ha).trans (hV a ha)) (hC.up (by omega))
theorem gj_S (d : Nat) {g : GX} {V0 : AH} {mo sz h j s : Nat} {rk kn ar ac : Int} {zs : Nat → Int} {Q : AQ} (hh : h ≤ 9) (hs : s ≤ h)
    (hKK : ∀ {V : AH} {z' : Nat → Int}, V mo = some (moO mo rk kn ar ac) → MN g mo V z' → (∀ a, ¬ EN mo a → V a = V0 a) → CpZ zs z' 150 (0 + 15 * s) 15 → AW g mX6_goesIn (d + 4) 220 [(8, .int (iZ s)), (7, .int (iZ j)), (0, .ref mo), (1, .int (iZ 0)), (2, .int (iZ 15)), (3, .int (iZ 15)), (4, .int (iZ 5)), (5, .ref (mo + 6)), (6, .int (iZ h))] [] V sz Q) : ∀ (y c : Nat), c + y = 15 → ∀ {V : AH} {z' : Nat → Int}, V mo = some (moO mo rk kn ar ac) → MN g mo V z' → (∀ a, ¬ EN mo a → V a = V0 a) → CpZ zs z' 150 (0 + 15 * s) c → AW g mX6_goesIn (d + 4) 189 [(9, .int (iZ c)), (8, .int (iZ s)), (7, .int (iZ j)), (0, .ref mo), (1, .int (iZ 0)), (2, .int (iZ 15)), (3, .int (iZ 15)), (4, .int (iZ 5)), (5, .ref (mo + 6)), (6, .int (iZ h))] [] V sz Q
  | 0, c, hy, V, z', hmo, hM, hV, hC => by
    refine aw_iload dX6_goesIn_189 (by rfl) ?_
    refine aw_iload_n dX6_goesIn_191 (by rfl) ?_
    refine aw_icmp_geZ (tgt := 220) dX6_goesIn_192 (by decide) (by omega) (by omega) (fun hc_192 => ?_) (fun hc_192 => ?_)
    · obtain rfl : c = 15 := by omega
      refine aw_pk [8, 7, 0, 1, 2, 3, 4, 5, 6] (by rfl) ?_
      exact hKK hmo hM hV hC
    · exact absurd hc_192 (by omega)
  | y + 1, c, hy, V, z', hmo, hM, hV, hC => by
    have IH := fun c hc => @gj_S d g V0 mo sz h j s rk kn ar ac zs Q hh hs hKK y c hc
    refine aw_iload dX6_goesIn_189 (by rfl) ?_
    refine aw_iload_n dX6_goesIn_191 (by rfl) ?_
    refine aw_icmp_geZ (tgt := 220) dX6_goesIn_192 (by decide) (by omega) (by omega) (fun hc_192 => ?_) (fun hc_192 => ?_)
    · exact absurd hc_192 (by omega)
    · refine aw_aload_n dX6_goesIn_195 (by rfl) (Or.inr ⟨_, rfl⟩) ?_
      refine aw_sipushZ dX6_goesIn_196 (by decide) ?_
      refine aw_iload dX6_goesIn_199 (by rfl) ?_
      refine aw_iaddZ dX6_goesIn_201 ?_
      refine aw_topi (y := ((150 + c : Nat) : Int)) (by omega) ?_
      refine aw_iload_n dX6_goesIn_202 (by rfl) ?_
      refine aw_iload_n dX6_goesIn_203 (by rfl) ?_
      refine aw_iload dX6_goesIn_204 (by rfl) ?_
      refine aw_imulZ dX6_goesIn_206 ?_
      refine aw_iaddZ dX6_goesIn_207 ?_
      refine aw_iload dX6_goesIn_208 (by rfl) ?_
      refine aw_iaddZ dX6_goesIn_210 ?_
      refine aw_topi (y := ((0 + 15 * s + c : Nat) : Int)) (by omega) ?_
      refine aw_callv vX6_67 dX6_goesIn_211 hmo (m_copies g (d + 3) (a := 150 + c) (c := 0 + 15 * s + c) ⟨rk, kn, ar, ac, hmo⟩ hM (by omega) (by omega)) (by rfl) (by rfl) (by omega) (Nat.le_of_ble_eq_true rfl) ?_
      rintro _ V1 _ _ _ ⟨rfl, rfl, rfl, hE1, rfl, hM1⟩ -
      refine q0 ?_
      refine aw_iincZ dX6_goesIn_214 (by rfl) (by decide) ?_
      refine aw_goto (tgt := 189) dX6_goesIn_217 (by decide) ?_
      rw [show ((c : Int) + 1) = ((c + 1 : Nat) : Int) by omega]
      refine aw_pk [9, 8, 7, 0, 1, 2, 3, 4, 5, 6] (by rfl) ?_
      exact IH (c + 1) (by omega) ((hE1 mo (by unfold EN; omega)).trans hmo) hM1 (fun a ha => (hE1 a ha).trans (hV a ha)) (hC.up (by omega))
theorem gs_S (d : Nat) {g : GX} {V0 : AH} {mo sz h j s : Nat} {rk kn ar ac : Int} {zs RW : Nat → Int} {Q : AQ} (hh : h ≤ 9) (hs : s ≤ h) (hRb : ∀ i, i < h → R32 (RW i))
    (hKK : ∀ {V : AH} {z' : Nat → Int}, V mo = some (moO mo rk kn ar ac) → MN g mo V z' → (∀ a, ¬ ER mo ((mo + 6)) a → V a = V0 a) → V ((mo + 6)) = some (aIz g 11 (shF RW s h)) → (∀ q, z' q = if 0 + 15 * (s + 1) ≤ q ∧ q < 0 + 15 * (h + 1) then zs (q - 15) else zs q) → AW g mX6_goesIn (d + 4) 179 [(8, .int (iZ s)), (7, .int (iZ j)), (0, .ref mo), (1, .int (iZ 0)), (2, .int (iZ 15)), (3, .int (iZ 15)), (4, .int (iZ 5)), (5, .ref (mo + 6)), (6, .int (iZ h))] [] V sz Q) : ∀ (y i : Nat), s + y = i → i ≤ h → ∀ {V : AH} {z' : Nat → Int}, V mo = some (moO mo rk kn ar ac) → MN g mo V z' → (∀ a, ¬ ER mo ((mo + 6)) a → V a = V0 a) → V ((mo + 6)) = some (aIz g 11 (shF RW i h)) → (∀ q, z' q = if 0 + 15 * (i + 1) ≤ q ∧ q < 0 + 15 * (h + 1) then zs (q - 15) else zs q) → AW g mX6_goesIn (d + 4) 115 [(9, .int (iZ i)), (8, .int (iZ s)), (7, .int (iZ j)), (0, .ref mo), (1, .int (iZ 0)), (2, .int (iZ 15)), (3, .int (iZ 15)), (4, .int (iZ 5)), (5, .ref (mo + 6)), (6, .int (iZ h))] [] V sz Q
  | 0, i, hy, hih, V, z', hmo, hM, hV, hra, hS => by
    refine aw_iload dX6_goesIn_115 (by rfl) ?_
    refine aw_iload dX6_goesIn_117 (by rfl) ?_
    refine aw_icmp_leZ (tgt := 179) dX6_goesIn_119 (by decide) (by omega) (by omega) (fun hc_119 => ?_) (fun hc_119 => ?_)
    · obtain rfl : i = s := by omega
      refine aw_pk [8, 7, 0, 1, 2, 3, 4, 5, 6] (by rfl) ?_
      exact hKK hmo hM hV hra hS
    · exact absurd hc_119 (by omega)
  | y + 1, i', hy, hih, V, z', hmo, hM, hV, hra, hS => by
    obtain ⟨i, rfl⟩ : ∃ i, i' = i + 1 := ⟨i' - 1, by omega⟩
    have IH := fun i hi => @gs_S d g V0 mo sz h j s rk kn ar ac zs RW Q hh hs hRb hKK y i hi (by omega)
    
    refine aw_iload dX6_goesIn_115 (by rfl) ?_
    refine aw_iload dX6_goesIn_117 (by rfl) ?_
    refine aw_icmp_leZ (tgt := 179) dX6_goesIn_119 (by decide) (by omega) (by omega) (fun hc_119 => ?_) (fun hc_119 => ?_)
    · exact absurd hc_119 (by omega)
    · 
      refine aw_aload dX6_goesIn_122 (by rfl) (Or.inr ⟨_, rfl⟩) ?_
      refine aw_iload dX6_goesIn_124 (by rfl) ?_
      refine aw_aload dX6_goesIn_126 (by rfl) (Or.inr ⟨_, rfl⟩) ?_
      refine aw_iload dX6_goesIn_128 (by rfl) ?_
      refine aw_iconstZ dX6_goesIn_130 ?_
      refine aw_isubZ dX6_goesIn_131 ?_
      refine aw_ialdZ (i) dX6_goesIn_132 hra (by omega) (by omega) (by omega) ?_
      refine aw_iastZ (i + 1) dX6_goesIn_133 hra (by omega) (by omega) (by omega) ?_
      rw [shF_step RW (show i < h by omega)]
      clear hKK
      refine aw_iconstZ dX6_goesIn_134 ?_
      refine aw_istore dX6_goesIn_135 (by decide) ?_
      refine aw_pk [10, 9, 8, 7, 0, 1, 2, 3, 4, 5, 6] (by rfl) ?_
      refine gi_S d (V0 := AHu V ((mo + 6)) (aIz g 11 (shF RW i h))) (zs := z') hh (by omega) (fun {V2 z2} hmo2 hM2 hV2 hC2 => ?_) 15 0 (by omega) ((AHu_ne (by omega)).trans hmo) (hM.kept (fun a ha => AHu_ne (by unfold EN at ha; omega))) (fun _ _ => rfl) CpZ.nil
      refine aw_iincZ dX6_goesIn_173 (by rfl) (by decide) ?_
      refine aw_goto (tgt := 115) dX6_goesIn_176 (by decide) ?_
      rw [show (((i + 1 : Nat) : Int) + -1) = (i : Int) by omega]
      refine aw_pk [9, 8, 7, 0, 1, 2, 3, 4, 5, 6] (by rfl) ?_
      refine IH i (by omega) hmo2 hM2 (fun a ha => ?_) ?_ (fun q => ?_)
      · rw [hV2 a (fun z => ha (Or.inl z)), AHu_ne (fun z => ha (Or.inr z))]; exact hV a ha
      · rw [hV2 _ (by unfold EN; omega)]; exact AHu_self _ _ _
      · rw [hC2 q]
        by_cases e1 : 0 + 15 * (i + 1) ≤ q ∧ q < 0 + 15 * (i + 1) + 15
        · rw [if_pos e1, if_pos (by omega), hS _, if_neg (by omega), show 0 + 15 * i + (q - (0 + 15 * (i + 1))) = q - 15 by omega]
        · rw [if_neg e1, hS q]
          by_cases e2 : 0 + 15 * (i + 1 + 1) ≤ q ∧ q < 0 + 15 * (h + 1)
          · rw [if_pos e2, if_pos (by omega)]
          · rw [if_neg e2, if_neg (by omega)]
theorem gk_K (d : Nat) {g : GX} {V : AH} {mo sz h j s : Nat} {RW : Nat → Int} {l : Nat → Nat} {Q : AQ} (hh : h ≤ 9) (hj : j < 10) (hsh : s ≤ h) (hra : V (mo + 7) = some (aIz g 11 RW)) (hl : ∀ i, i < h → RW i = (l i : Int)) (hlb : ∀ i, i < h → l i < 10) (hlt : ∀ i, i < s → l i < j) (hge : s < h → j ≤ l s)
    (hKK : AW g mX6_goesIn d 53 [(8, .int (iZ s)), (7, .int (iZ j)), (0, .ref mo), (1, .int (iZ 165)), (2, .int (iZ 10)), (3, .int (iZ 10)), (4, .int (iZ 10)), (5, .ref (mo + 7)), (6, .int (iZ h))] [] V sz Q) : ∀ (y k : Nat), k + y = s → AW g mX6_goesIn d 30 [(8, .int (iZ k)), (7, .int (iZ j)), (0, .ref mo), (1, .int (iZ 165)), (2, .int (iZ 10)), (3, .int (iZ 10)), (4, .int (iZ 10)), (5, .ref (mo + 7)), (6, .int (iZ h))] [] V sz Q
  | 0, k, hy => by
    refine aw_iload dX6_goesIn_30 (by rfl) ?_
    refine aw_iload dX6_goesIn_32 (by rfl) ?_
    refine aw_icmp_geZ (tgt := 53) dX6_goesIn_34 (by decide) (by omega) (by omega) (fun hc_34 => ?_) (fun hc_34 => ?_)
    · refine aw_pk [8, 7, 0, 1, 2, 3, 4, 5, 6] (by rfl) ?_
      obtain rfl : k = s := by omega
      exact hKK
    · refine aw_aload dX6_goesIn_37 (by rfl) (Or.inr ⟨_, rfl⟩) ?_
      refine aw_iload dX6_goesIn_39 (by rfl) ?_
      refine aw_ialdZ (k) dX6_goesIn_41 hra (by omega) (by omega) (by omega) ?_
      refine aw_iload dX6_goesIn_42 (by rfl) ?_
      refine aw_icmp_geZ (tgt := 53) dX6_goesIn_44 (by decide) (by rw [hl k (by omega)]; have := hlb k (by omega); omega) (by omega) (fun hc_44 => ?_) (fun hc_44 => ?_)
      · refine aw_pk [8, 7, 0, 1, 2, 3, 4, 5, 6] (by rfl) ?_
        obtain rfl : k = s := by omega
        exact hKK
      · exact absurd (by rw [hl k (by omega)]; have h9 := hge (by omega); rw [show s = k by omega] at h9; omega) hc_44
  | y + 1, k, hy => by
    have IH := @gk_K d g V mo sz h j s RW l Q hh hj hsh hra hl hlb hlt hge hKK y
    refine aw_iload dX6_goesIn_30 (by rfl) ?_
    refine aw_iload dX6_goesIn_32 (by rfl) ?_
    refine aw_icmp_geZ (tgt := 53) dX6_goesIn_34 (by decide) (by omega) (by omega) (fun hc_34 => ?_) (fun hc_34 => ?_)
    · exact absurd hc_34 (by omega)
    · refine aw_aload dX6_goesIn_37 (by rfl) (Or.inr ⟨_, rfl⟩) ?_
      refine aw_iload dX6_goesIn_39 (by rfl) ?_
      refine aw_ialdZ (k) dX6_goesIn_41 hra (by omega) (by omega) (by omega) ?_
      refine aw_iload dX6_goesIn_42 (by rfl) ?_
      refine aw_icmp_geZ (tgt := 53) dX6_goesIn_44 (by decide) (by rw [hl k (by omega)]; have := hlb k (by omega); omega) (by omega) (fun hc_44 => ?_) (fun hc_44 => ?_)
      · exact absurd hc_44 (by rw [hl k (by omega)]; have := hlt k (by omega); omega)
      · refine aw_iincZ dX6_goesIn_47 (by rfl) (by decide) ?_
        refine aw_goto (tgt := 30) dX6_goesIn_50 (by decide) ?_
        rw [show ((k : Int) + 1) = ((k + 1 : Nat) : Int) by omega]
        refine aw_pk [8, 7, 0, 1, 2, 3, 4, 5, 6] (by rfl) ?_
        exact IH (k + 1) (by omega)
theorem gi_K (d : Nat) {g : GX} {V0 : AH} {mo sz h j s i : Nat} {rk kn ar ac : Int} {zs : Nat → Int} {Q : AQ} (hh : h ≤ 9) (hi : i < h)
    (hKK : ∀ {V : AH} {z' : Nat → Int}, V mo = some (moO mo rk kn ar ac) → MN g mo V z' → (∀ a, ¬ EN mo a → V a = V0 a) → CpZ zs z' (165 + 10 * i) (165 + 10 * (i + 1)) 10 → AW g mX6_goesIn (d + 4) 173 [(9, .int (iZ ((i + 1 : Nat) : Int))), (8, .int (iZ s)), (7, .int (iZ j)), (0, .ref mo), (1, .int (iZ 165)), (2, .int (iZ 10)), (3, .int (iZ 10)), (4, .int (iZ 10)), (5, .ref (mo + 7)), (6, .int (iZ h))] [] V sz Q) : ∀ (y c : Nat), c + y = 10 → ∀ {V : AH} {z' : Nat → Int}, V mo = some (moO mo rk kn ar ac) → MN g mo V z' → (∀ a, ¬ EN mo a → V a = V0 a) → CpZ zs z' (165 + 10 * i) (165 + 10 * (i + 1)) c → AW g mX6_goesIn (d + 4) 137 [(10, .int (iZ c)), (9, .int (iZ ((i + 1 : Nat) : Int))), (8, .int (iZ s)), (7, .int (iZ j)), (0, .ref mo), (1, .int (iZ 165)), (2, .int (iZ 10)), (3, .int (iZ 10)), (4, .int (iZ 10)), (5, .ref (mo + 7)), (6, .int (iZ h))] [] V sz Q
  | 0, c, hy, V, z', hmo, hM, hV, hC => by
    refine aw_iload dX6_goesIn_137 (by rfl) ?_
    refine aw_iload_n dX6_goesIn_139 (by rfl) ?_
    refine aw_icmp_geZ (tgt := 173) dX6_goesIn_140 (by decide) (by omega) (by omega) (fun hc_140 => ?_) (fun hc_140 => ?_)
    · obtain rfl : c = 10 := by omega
      refine aw_pk [9, 8, 7, 0, 1, 2, 3, 4, 5, 6] (by rfl) ?_
      exact hKK hmo hM hV hC
    · exact absurd hc_140 (by omega)
  | y + 1, c, hy, V, z', hmo, hM, hV, hC => by
    have IH := fun c hc => @gi_K d g V0 mo sz h j s i rk kn ar ac zs Q hh hi hKK y c hc
    refine aw_iload dX6_goesIn_137 (by rfl) ?_
    refine aw_iload_n dX6_goesIn_139 (by rfl) ?_
    refine aw_icmp_geZ (tgt := 173) dX6_goesIn_140 (by decide) (by omega) (by omega) (fun hc_140 => ?_) (fun hc_140 => ?_)
    · exact absurd hc_140 (by omega)
    · refine aw_aload_n dX6_goesIn_143 (by rfl) (Or.inr ⟨_, rfl⟩) ?_
      refine aw_iload_n dX6_goesIn_144 (by rfl) ?_
      refine aw_iload_n dX6_goesIn_145 (by rfl) ?_
      refine aw_iload dX6_goesIn_146 (by rfl) ?_
      refine aw_iconstZ dX6_goesIn_148 ?_
      refine aw_isubZ dX6_goesIn_149 ?_
      refine aw_imulZ dX6_goesIn_150 ?_
      refine aw_iaddZ dX6_goesIn_151 ?_
      refine aw_iload dX6_goesIn_152 (by rfl) ?_
      refine aw_iaddZ dX6_goesIn_154 ?_
      refine aw_topi (y := ((165 + 10 * i + c : Nat) : Int)) (by omega) ?_
      refine aw_iload_n dX6_goesIn_155 (by rfl) ?_
      refine aw_iload_n dX6_goesIn_156 (by rfl) ?_
      refine aw_iload dX6_goesIn_157 (by rfl) ?_
      refine aw_imulZ dX6_goesIn_159 ?_
      refine aw_iaddZ dX6_goesIn_160 ?_
      refine aw_iload dX6_goesIn_161 (by rfl) ?_
      refine aw_iaddZ dX6_goesIn_163 ?_
      refine aw_topi (y := ((165 + 10 * (i + 1) + c : Nat) : Int)) (by omega) ?_
      refine aw_callv vX6_67 dX6_goesIn_164 hmo (m_copies g (d + 3) (a := 165 + 10 * i + c) (c := 165 + 10 * (i + 1) + c) ⟨rk, kn, ar, ac, hmo⟩ hM (by omega) (by omega)) (by rfl) (by rfl) (by omega) (Nat.le_of_ble_eq_true rfl) ?_
      rintro _ V1 _ _ _ ⟨rfl, rfl, rfl, hE1, rfl, hM1⟩ -
      refine q0 ?_
      refine aw_iincZ dX6_goesIn_167 (by rfl) (by decide) ?_
      refine aw_goto (tgt := 137) dX6_goesIn_170 (by decide) ?_
      rw [show ((c : Int) + 1) = ((c + 1 : Nat) : Int) by omega]
      refine aw_pk [10, 9, 8, 7, 0, 1, 2, 3, 4, 5, 6] (by rfl) ?_
      exact IH (c + 1) (by omega) ((hE1 mo (by unfold EN; omega)).trans hmo) hM1 (fun a ha => (hE1 a ha).trans (hV a ha)) (hC.up (by omega))
theorem gj_K (d : Nat) {g : GX} {V0 : AH} {mo sz h j s : Nat} {rk kn ar ac : Int} {zs : Nat → Int} {Q : AQ} (hh : h ≤ 9) (hs : s ≤ h)
    (hKK : ∀ {V : AH} {z' : Nat → Int}, V mo = some (moO mo rk kn ar ac) → MN g mo V z' → (∀ a, ¬ EN mo a → V a = V0 a) → CpZ zs z' 150 (165 + 10 * s) 10 → AW g mX6_goesIn (d + 4) 220 [(8, .int (iZ s)), (7, .int (iZ j)), (0, .ref mo), (1, .int (iZ 165)), (2, .int (iZ 10)), (3, .int (iZ 10)), (4, .int (iZ 10)), (5, .ref (mo + 7)), (6, .int (iZ h))] [] V sz Q) : ∀ (y c : Nat), c + y = 10 → ∀ {V : AH} {z' : Nat → Int}, V mo = some (moO mo rk kn ar ac) → MN g mo V z' → (∀ a, ¬ EN mo a → V a = V0 a) → CpZ zs z' 150 (165 + 10 * s) c → AW g mX6_goesIn (d + 4) 189 [(9, .int (iZ c)), (8, .int (iZ s)), (7, .int (iZ j)), (0, .ref mo), (1, .int (iZ 165)), (2, .int (iZ 10)), (3, .int (iZ 10)), (4, .int (iZ 10)), (5, .ref (mo + 7)), (6, .int (iZ h))] [] V sz Q
  | 0, c, hy, V, z', hmo, hM, hV, hC => by
    refine aw_iload dX6_goesIn_189 (by rfl) ?_
    refine aw_iload_n dX6_goesIn_191 (by rfl) ?_
    refine aw_icmp_geZ (tgt := 220) dX6_goesIn_192 (by decide) (by omega) (by omega) (fun hc_192 => ?_) (fun hc_192 => ?_)
    · obtain rfl : c = 10 := by omega
      refine aw_pk [8, 7, 0, 1, 2, 3, 4, 5, 6] (by rfl) ?_
      exact hKK hmo hM hV hC
    · exact absurd hc_192 (by omega)
  | y + 1, c, hy, V, z', hmo, hM, hV, hC => by
    have IH := fun c hc => @gj_K d g V0 mo sz h j s rk kn ar ac zs Q hh hs hKK y c hc
    refine aw_iload dX6_goesIn_189 (by rfl) ?_
    refine aw_iload_n dX6_goesIn_191 (by rfl) ?_
    refine aw_icmp_geZ (tgt := 220) dX6_goesIn_192 (by decide) (by omega) (by omega) (fun hc_192 => ?_) (fun hc_192 => ?_)
    · exact absurd hc_192 (by omega)
    · refine aw_aload_n dX6_goesIn_195 (by rfl) (Or.inr ⟨_, rfl⟩) ?_
      refine aw_sipushZ dX6_goesIn_196 (by decide) ?_
      refine aw_iload dX6_goesIn_199 (by rfl) ?_
      refine aw_iaddZ dX6_goesIn_201 ?_
      refine aw_topi (y := ((150 + c : Nat) : Int)) (by omega) ?_
      refine aw_iload_n dX6_goesIn_202 (by rfl) ?_
      refine aw_iload_n dX6_goesIn_203 (by rfl) ?_
      refine aw_iload dX6_goesIn_204 (by rfl) ?_
      refine aw_imulZ dX6_goesIn_206 ?_
      refine aw_iaddZ dX6_goesIn_207 ?_
      refine aw_iload dX6_goesIn_208 (by rfl) ?_
      refine aw_iaddZ dX6_goesIn_210 ?_
      refine aw_topi (y := ((165 + 10 * s + c : Nat) : Int)) (by omega) ?_
      refine aw_callv vX6_67 dX6_goesIn_211 hmo (m_copies g (d + 3) (a := 150 + c) (c := 165 + 10 * s + c) ⟨rk, kn, ar, ac, hmo⟩ hM (by omega) (by omega)) (by rfl) (by rfl) (by omega) (Nat.le_of_ble_eq_true rfl) ?_
      rintro _ V1 _ _ _ ⟨rfl, rfl, rfl, hE1, rfl, hM1⟩ -
      refine q0 ?_
      refine aw_iincZ dX6_goesIn_214 (by rfl) (by decide) ?_
      refine aw_goto (tgt := 189) dX6_goesIn_217 (by decide) ?_
      rw [show ((c : Int) + 1) = ((c + 1 : Nat) : Int) by omega]
      refine aw_pk [9, 8, 7, 0, 1, 2, 3, 4, 5, 6] (by rfl) ?_
      exact IH (c + 1) (by omega) ((hE1 mo (by unfold EN; omega)).trans hmo) hM1 (fun a ha => (hE1 a ha).trans (hV a ha)) (hC.up (by omega))
theorem gs_K (d : Nat) {g : GX} {V0 : AH} {mo sz h j s : Nat} {rk kn ar ac : Int} {zs RW : Nat → Int} {Q : AQ} (hh : h ≤ 9) (hs : s ≤ h) (hRb : ∀ i, i < h → R32 (RW i))
    (hKK : ∀ {V : AH} {z' : Nat → Int}, V mo = some (moO mo rk kn ar ac) → MN g mo V z' → (∀ a, ¬ ER mo ((mo + 7)) a → V a = V0 a) → V ((mo + 7)) = some (aIz g 11 (shF RW s h)) → (∀ q, z' q = if 165 + 10 * (s + 1) ≤ q ∧ q < 165 + 10 * (h + 1) then zs (q - 10) else zs q) → AW g mX6_goesIn (d + 4) 179 [(8, .int (iZ s)), (7, .int (iZ j)), (0, .ref mo), (1, .int (iZ 165)), (2, .int (iZ 10)), (3, .int (iZ 10)), (4, .int (iZ 10)), (5, .ref (mo + 7)), (6, .int (iZ h))] [] V sz Q) : ∀ (y i : Nat), s + y = i → i ≤ h → ∀ {V : AH} {z' : Nat → Int}, V mo = some (moO mo rk kn ar ac) → MN g mo V z' → (∀ a, ¬ ER mo ((mo + 7)) a → V a = V0 a) → V ((mo + 7)) = some (aIz g 11 (shF RW i h)) → (∀ q, z' q = if 165 + 10 * (i + 1) ≤ q ∧ q < 165 + 10 * (h + 1) then zs (q - 10) else zs q) → AW g mX6_goesIn (d + 4) 115 [(9, .int (iZ i)), (8, .int (iZ s)), (7, .int (iZ j)), (0, .ref mo), (1, .int (iZ 165)), (2, .int (iZ 10)), (3, .int (iZ 10)), (4, .int (iZ 10)), (5, .ref (mo + 7)), (6, .int (iZ h))] [] V sz Q
  | 0, i, hy, hih, V, z', hmo, hM, hV, hra, hS => by
    refine aw_iload dX6_goesIn_115 (by rfl) ?_
    refine aw_iload dX6_goesIn_117 (by rfl) ?_
    refine aw_icmp_leZ (tgt := 179) dX6_goesIn_119 (by decide) (by omega) (by omega) (fun hc_119 => ?_) (fun hc_119 => ?_)
    · obtain rfl : i = s := by omega
      refine aw_pk [8, 7, 0, 1, 2, 3, 4, 5, 6] (by rfl) ?_
      exact hKK hmo hM hV hra hS
    · exact absurd hc_119 (by omega)
  | y + 1, i', hy, hih, V, z', hmo, hM, hV, hra, hS => by
    obtain ⟨i, rfl⟩ : ∃ i, i' = i + 1 := ⟨i' - 1, by omega⟩
    have IH := fun i hi => @gs_K d g V0 mo sz h j s rk kn ar ac zs RW Q hh hs hRb hKK y i hi (by omega)
    
    refine aw_iload dX6_goesIn_115 (by rfl) ?_
    refine aw_iload dX6_goesIn_117 (by rfl) ?_
    refine aw_icmp_leZ (tgt := 179) dX6_goesIn_119 (by decide) (by omega) (by omega) (fun hc_119 => ?_) (fun hc_119 => ?_)
    · exact absurd hc_119 (by omega)
    · 
      refine aw_aload dX6_goesIn_122 (by rfl) (Or.inr ⟨_, rfl⟩) ?_
      refine aw_iload dX6_goesIn_124 (by rfl) ?_
      refine aw_aload dX6_goesIn_126 (by rfl) (Or.inr ⟨_, rfl⟩) ?_
      refine aw_iload dX6_goesIn_128 (by rfl) ?_
      refine aw_iconstZ dX6_goesIn_130 ?_
      refine aw_isubZ dX6_goesIn_131 ?_
      refine aw_ialdZ (i) dX6_goesIn_132 hra (by omega) (by omega) (by omega) ?_
      refine aw_iastZ (i + 1) dX6_goesIn_133 hra (by omega) (by omega) (by omega) ?_
      rw [shF_step RW (show i < h by omega)]
      clear hKK
      refine aw_iconstZ dX6_goesIn_134 ?_
      refine aw_istore dX6_goesIn_135 (by decide) ?_
      refine aw_pk [10, 9, 8, 7, 0, 1, 2, 3, 4, 5, 6] (by rfl) ?_
      refine gi_K d (V0 := AHu V ((mo + 7)) (aIz g 11 (shF RW i h))) (zs := z') hh (by omega) (fun {V2 z2} hmo2 hM2 hV2 hC2 => ?_) 10 0 (by omega) ((AHu_ne (by omega)).trans hmo) (hM.kept (fun a ha => AHu_ne (by unfold EN at ha; omega))) (fun _ _ => rfl) CpZ.nil
      refine aw_iincZ dX6_goesIn_173 (by rfl) (by decide) ?_
      refine aw_goto (tgt := 115) dX6_goesIn_176 (by decide) ?_
      rw [show (((i + 1 : Nat) : Int) + -1) = (i : Int) by omega]
      refine aw_pk [9, 8, 7, 0, 1, 2, 3, 4, 5, 6] (by rfl) ?_
      refine IH i (by omega) hmo2 hM2 (fun a ha => ?_) ?_ (fun q => ?_)
      · rw [hV2 a (fun z => ha (Or.inl z)), AHu_ne (fun z => ha (Or.inr z))]; exact hV a ha
      · rw [hV2 _ (by unfold EN; omega)]; exact AHu_self _ _ _
      · rw [hC2 q]
        by_cases e1 : 165 + 10 * (i + 1) ≤ q ∧ q < 165 + 10 * (i + 1) + 10
        · rw [if_pos e1, if_pos (by omega), hS _, if_neg (by omega), show 165 + 10 * i + (q - (165 + 10 * (i + 1))) = q - 10 by omega]
        · rw [if_neg e1, hS q]
          by_cases e2 : 165 + 10 * (i + 1 + 1) ≤ q ∧ q < 165 + 10 * (h + 1)
          · rw [if_pos e2, if_pos (by omega)]
          · rw [if_neg e2, if_neg (by omega)]
