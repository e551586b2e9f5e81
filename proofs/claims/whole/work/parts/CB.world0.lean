/-! ===== the world that the law's start has ===== -/
theorem ar_of {ty : FieldType} {args : Array Value} {s : State} (h : (Cond.arrayClass ty).before args s = true) : ∃ cA : ClassId, ArrOfT s cA ty ∧ s.vm.findClass ("[" ++ ty.toString) = some cA := by
  obtain ⟨cA, kA, comp, h1, h2, h3⟩ := Cond.arrayClass_spec h
  exact ⟨cA, fun n z => ⟨fun k h => (by cases h), kA, h2, comp, h3⟩, h1⟩
theorem ao_of {C : String} {args : Array Value} {s : State} (h : (Cond.arrayOver (.object C)).before args s = true) : ∃ cA : ClassId, ArrOfT s cA (.object C) ∧ va_RA s cA (.object C) := by
  obtain ⟨comp, cA, kA, h1, h2, h3, h4, h5⟩ := Cond.arrayOver_spec h
  exact ⟨cA, fun n z => ⟨fun k h => (by cases h), kA, h3, comp, h4⟩, kA, comp, h3, h4, h1, h5⟩
theorem lw_world (l : Launch) {s : State} {args : Array Value} (hts : ∀ w ∈ lw_tbl, w.before args s = true) : ∃ g : GX, g.1 = l ∧ KK g s := by
  have hg : ∀ w ∈ GW, w.before args s = true := fun w hw => hts w (List.mem_filter.mp hw).1
  obtain ⟨c0, i0, k0⟩ := u_known (n := 7) hg clX0.2.1 (hts (.instantiable RX0 7) (by decide +kernel))
  obtain ⟨c1, i1, k1⟩ := u_known (n := 7) hg clX1.2.1 (hts (.instantiable RX1 7) (by decide +kernel))
  obtain ⟨c2, i2, k2⟩ := u_known (n := 1) hg clX2.2.1 (hts (.instantiable RX2 1) (by decide +kernel))
  obtain ⟨c3, i3, k3⟩ := u_known (n := 4) hg clX3.2.1 (hts (.instantiable RX3 4) (by decide +kernel))
  obtain ⟨c4, i4, k4⟩ := u_known (n := 3) hg clX4.2.1 (hts (.instantiable RX4 3) (by decide +kernel))
  obtain ⟨c5, i5, k5⟩ := u_known (n := 11) hg clX5.2.1 (hts (.instantiable RX5 11) (by decide +kernel))
  obtain ⟨c6, i6, k6⟩ := u_known (n := 19) hg clX6.2.1 (hts (.instantiable RX6 19) (by decide +kernel))
  obtain ⟨a0, e0, r0⟩ := ar_of (hg _ gw_int)
  obtain ⟨a1, e1, r1⟩ := ar_of (hg _ gw_long)
  obtain ⟨a2, e2, r2⟩ := ar_of (hg _ gw_bool)
  have o3 := hts (.arrayOver (.object "LatticeBench$Table")) (by decide +kernel)
  obtain ⟨a3, e3, r3⟩ := ao_of o3
  have o4 := hts (.arrayOver (.object "LatticeBench$Row")) (by decide +kernel)
  obtain ⟨a4, e4, r4⟩ := ao_of o4
  have o5 := hts (.arrayOver (.object "LatticeBench$Whole")) (by decide +kernel)
  obtain ⟨a5, e5, r5⟩ := ao_of o5
  refine ⟨(l, (fun k => if k = 0 then c0 else if k = 1 then c1 else if k = 2 then c2 else if k = 3 then c3 else if k = 4 then c4 else if k = 5 then c5 else c6, fun k => if k = 0 then i0 else if k = 1 then i1 else if k = 2 then i2 else if k = 3 then i3 else if k = 4 then i4 else if k = 5 then i5 else i6), fun k => if k = 0 then a0 else if k = 1 then a1 else if k = 2 then a2 else if k = 3 then a3 else if k = 4 then a4 else a5), rfl, ⟨fun c q hq => ?_, fun k q hq => ?_⟩, fun w hw => va_Nw.of (nest_onT (List.mem_filter.mp hw).2) (hts w (List.mem_filter.mp hw).1), va_AO.of o3, va_AO.of o4, va_AO.of o5⟩
  · match c, hq with
    | 0, hq =>
      obtain rfl := Option.some.inj (show some (RX0, TX0, 7) = some q from hq)
      exact k0
    | 1, hq =>
      obtain rfl := Option.some.inj (show some (RX1, TX1, 7) = some q from hq)
      exact k1
    | 2, hq =>
      obtain rfl := Option.some.inj (show some (RX2, TX2, 1) = some q from hq)
      exact k2
    | 3, hq =>
      obtain rfl := Option.some.inj (show some (RX3, TX3, 4) = some q from hq)
      exact k3
    | 4, hq =>
      obtain rfl := Option.some.inj (show some (RX4, TX4, 3) = some q from hq)
      exact k4
    | 5, hq =>
      obtain rfl := Option.some.inj (show some (RX5, TX5, 11) = some q from hq)
      exact k5
    | 6, hq =>
      obtain rfl := Option.some.inj (show some (RX6, TX6, 19) = some q from hq)
      exact k6
    | c + 7, hq => exact absurd (show (none : Option vw_C) = some q from hq) (fun z => nomatch z)
  · match k, hq with
    | 0, hq =>
      obtain rfl := Option.some.inj (show some (a0, FieldType.int) = some q from hq)
      exact ⟨e0, r0⟩
    | 1, hq =>
      obtain rfl := Option.some.inj (show some (a1, FieldType.long) = some q from hq)
      exact ⟨e1, r1⟩
    | 2, hq =>
      obtain rfl := Option.some.inj (show some (a2, FieldType.boolean) = some q from hq)
      exact ⟨e2, r2⟩
    | 3, hq =>
      obtain rfl := Option.some.inj (show some (a3, FieldType.object "LatticeBench$Table") = some q from hq)
      exact ⟨e3, r3⟩
    | 4, hq =>
      obtain rfl := Option.some.inj (show some (a4, FieldType.object "LatticeBench$Row") = some q from hq)
      exact ⟨e4, r4⟩
    | 5, hq =>
      obtain rfl := Option.some.inj (show some (a5, FieldType.object "LatticeBench$Whole") = some q from hq)
      exact ⟨e5, r5⟩
    | k + 6, hq => exact absurd (show (none : Option (ClassId × FieldType)) = some q from hq) (fun z => nomatch z)
