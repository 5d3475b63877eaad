/-! what the start gives -/
theorem st_ar_int {s : State} {A : Array Value} (h : (Cond.arrayClass .int).before A s = true) : ∃ cA : ClassId, ArrOfT s cA .int ∧ va_RA s cA .int := by
  obtain ⟨c, k, comp, h1, h2, h3⟩ := Cond.arrayClass_spec h
  exact ⟨c, fun n z => ⟨fun k h => (by cases h), k, h2, comp, h3⟩, h1⟩
theorem st_ar_long {s : State} {A : Array Value} (h : (Cond.arrayClass .long).before A s = true) : ∃ cA : ClassId, ArrOfT s cA .long ∧ va_RA s cA .long := by
  obtain ⟨c, k, comp, h1, h2, h3⟩ := Cond.arrayClass_spec h
  exact ⟨c, fun n z => ⟨fun k h => (by cases h), k, h2, comp, h3⟩, h1⟩
theorem st_ar_boolean {s : State} {A : Array Value} (h : (Cond.arrayClass .boolean).before A s = true) : ∃ cA : ClassId, ArrOfT s cA .boolean ∧ va_RA s cA .boolean := by
  obtain ⟨c, k, comp, h1, h2, h3⟩ := Cond.arrayClass_spec h
  exact ⟨c, fun n z => ⟨fun k h => (by cases h), k, h2, comp, h3⟩, h1⟩
theorem st_ao {s : State} {C : String} (h : va_AO C s) : ∃ cA : ClassId, ArrOfT s cA (.object C) ∧ va_RA s cA (.object C) := by
  obtain ⟨comp, c, k, h1, h2, h3, h4, h5⟩ := Cond.arrayOver_spec h
  exact ⟨c, fun n z => ⟨fun k h => (by cases h), k, h3, comp, h4⟩, k, comp, h3, h4, h1, h5⟩
set_option maxHeartbeats 4000000 in
set_option maxRecDepth 100000 in
theorem st_K {s : State} {A : Array Value} (hts : ∀ w ∈ lw_tbl, w.before A s = true) : ∃ (D : va_G) (tc : Nat → ClassId), Kx D tc s := by
  obtain ⟨c0, i0, k0⟩ := u_known (C := RX0) (T := TX0) (N := 4) (n := 4) hts wsX00_in (hts (.instantiable RX0 4) (by decide +kernel))
  obtain ⟨c1, i1, k1⟩ := u_known (C := RX1) (T := TX1) (N := 4) (n := 4) hts wsX10_in (hts (.instantiable RX1 4) (by decide +kernel))
  obtain ⟨c2, i2, k2⟩ := u_known (C := RX2) (T := TX2) (N := 4) (n := 4) hts wsX20_in (hts (.instantiable RX2 4) (by decide +kernel))
  obtain ⟨c3, i3, k3⟩ := u_known (C := RX3) (T := TX3) (N := 4) (n := 4) hts wsX30_in (hts (.instantiable RX3 4) (by decide +kernel))
  obtain ⟨c4, i4, k4⟩ := u_known (C := RX4) (T := TX4) (N := 9) (n := 9) hts wsX40_in (hts (.instantiable RX4 9) (by decide +kernel))
  obtain ⟨c5, i5, k5⟩ := u_known (C := RX5) (T := TX5) (N := 2) (n := 2) hts wsX50_in (hts (.instantiable RX5 2) (by decide +kernel))
  obtain ⟨c6, i6, k6⟩ := u_known (C := RX6) (T := TX6) (N := 4) (n := 4) hts wsX60_in (hts (.instantiable RX6 4) (by decide +kernel))
  obtain ⟨c7, i7, k7⟩ := u_known (C := RX7) (T := TX7) (N := 8) (n := 8) hts wsX70_in (hts (.instantiable RX7 8) (by decide +kernel))
  obtain ⟨c8, i8, k8⟩ := u_known (C := RX8) (T := TX8) (N := 12) (n := 12) hts wsX80_in (hts (.instantiable RX8 12) (by decide +kernel))
  obtain ⟨c9, i9, k9⟩ := u_known (C := RX9) (T := TX9) (N := 51) (n := 51) hts wsX90_in (hts (.instantiable RX9 51) (by decide +kernel))
  have a0 : va_AO RX0 s := va_AO.of (hts (.arrayOver (.object RX0)) (by decide +kernel))
  have a3 : va_AO RX3 s := va_AO.of (hts (.arrayOver (.object RX3)) (by decide +kernel))
  have a4 : va_AO RX4 s := va_AO.of (hts (.arrayOver (.object RX4)) (by decide +kernel))
  have a5 : va_AO RX5 s := va_AO.of (hts (.arrayOver (.object RX5)) (by decide +kernel))
  have a6 : va_AO RX6 s := va_AO.of (hts (.arrayOver (.object RX6)) (by decide +kernel))
  have a7 : va_AO RX7 s := va_AO.of (hts (.arrayOver (.object RX7)) (by decide +kernel))
  obtain ⟨t0, r0⟩ := st_ar_int (hts (.arrayClass .int) (by decide +kernel))
  obtain ⟨t1, r1⟩ := st_ar_long (hts (.arrayClass .long) (by decide +kernel))
  obtain ⟨t2, r2⟩ := st_ar_boolean (hts (.arrayClass .boolean) (by decide +kernel))
  obtain ⟨t3, r3⟩ := st_ao a0
  obtain ⟨t4, r4⟩ := st_ao a3
  obtain ⟨t5, r5⟩ := st_ao a4
  obtain ⟨t6, r6⟩ := st_ao a5
  obtain ⟨t7, r7⟩ := st_ao a6
  obtain ⟨t8, r8⟩ := st_ao a7
  refine ⟨(fun k => match k with | 0 => c0 | 1 => c1 | 2 => c2 | 3 => c3 | 4 => c4 | 5 => c5 | 6 => c6 | 7 => c7 | 8 => c8 | _ => c9, fun k => match k with | 0 => i0 | 1 => i1 | 2 => i2 | 3 => i3 | 4 => i4 | 5 => i5 | 6 => i6 | 7 => i7 | 8 => i8 | _ => i9), fun k => match k with | 0 => t0 | 1 => t1 | 2 => t2 | 3 => t3 | 4 => t4 | 5 => t5 | 6 => t6 | 7 => t7 | _ => t8, ⟨⟨?_, ?_⟩, ?_⟩⟩
  · intro k q hq
    match k, hq with
    | 0, hq => cases hq; exact k0
    | 1, hq => cases hq; exact k1
    | 2, hq => cases hq; exact k2
    | 3, hq => cases hq; exact k3
    | 4, hq => cases hq; exact k4
    | 5, hq => cases hq; exact k5
    | 6, hq => cases hq; exact k6
    | 7, hq => cases hq; exact k7
    | 8, hq => cases hq; exact k8
    | 9, hq => cases hq; exact k9
    | k + 10, hq => simp [vwCl] at hq
  · intro k q hq
    match k, hq with
    | 0, hq => cases hq; exact r0
    | 1, hq => cases hq; exact r1
    | 2, hq => cases hq; exact r2
    | 3, hq => cases hq; exact r3
    | 4, hq => cases hq; exact r4
    | 5, hq => cases hq; exact r5
    | 6, hq => cases hq; exact r6
    | 7, hq => cases hq; exact r7
    | 8, hq => cases hq; exact r8
    | k + 9, hq => simp [tysL] at hq
  · exact ⟨va_Nw.of rfl (hts (.methodLinkNest RX7 39 yX8_isBelow RX8) (by decide +kernel)), va_Nw.of rfl (hts (.methodLinkNest RX7 47 yX8_isRowLane RX8) (by decide +kernel)), va_Nw.of rfl (hts (.methodLinkNest RX4 50 yX8_isRowLane RX8) (by decide +kernel)), ⟨va_Nw.of rfl (hts (.methodLinkNest RX8 31 yX4_init RX8) (by decide +kernel)), va_Nw.of rfl (hts (.methodLinkNest RX8 57 yX1_init RX8) (by decide +kernel)), va_Nw.of rfl (hts (.methodLinkNest RX8 62 yX6_init RX8) (by decide +kernel)), va_Nw.of rfl (hts (.methodLinkNest RX2 21 yX3_init RX8) (by decide +kernel))⟩, a0, a3, a4, a5, a6, a7⟩
set_option maxHeartbeats 4000000 in
set_option maxRecDepth 100000 in
theorem st_T {s : State} {A : Array Value} (hts : ∀ w ∈ lw_tbl, w.before A s = true) (hgv : (Jvm.Cond.and given_1 narrow_1).before A s = true) : TK s.heap.size s s.heap := by
  have hg := flat_of_before _ hgv
  obtain ⟨a183, -, -, -, h183, -⟩ := Cond.exactly_spec (hg (.exactly (.string "StateRecords" 183) "java/lang/String") (by decide +kernel))
  obtain ⟨a190, -, -, -, h190, -⟩ := Cond.exactly_spec (hg (.exactly (.string "StateRecords" 190) "java/lang/String") (by decide +kernel))
  obtain ⟨a198, -, -, -, h198, -⟩ := Cond.exactly_spec (hg (.exactly (.string "StateRecords" 198) "java/lang/String") (by decide +kernel))
  obtain ⟨a201, -, -, -, h201, -⟩ := Cond.exactly_spec (hg (.exactly (.string "StateRecords" 201) "java/lang/String") (by decide +kernel))
  obtain ⟨a203, -, -, -, h203, -⟩ := Cond.exactly_spec (hg (.exactly (.string "StateRecords" 203) "java/lang/String") (by decide +kernel))
  refine ⟨⟨⟨a183, vk_R.of (hts (.stringRef RX8 183 "no such thing") (by decide +kernel)) h183⟩, ⟨a190, vk_R.of (hts (.stringRef RX8 190 "no such field") (by decide +kernel)) h190⟩, ⟨a198, vk_R.of (hts (.stringRef RX8 198 "no lane of rows") (by decide +kernel)) h198⟩, ⟨a201, vk_R.of (hts (.stringRef RX8 201 "no row") (by decide +kernel)) h201⟩, ⟨a203, vk_R.of (hts (.stringRef RX8 203 "no such item") (by decide +kernel)) h203⟩⟩, ⟨va_Nw.of rfl (hts (.declares dI1) (by decide +kernel)), va_Nw.of rfl (hts (.declares dI2) (by decide +kernel)), va_Nw.of rfl (hts (.declares dI3) (by decide +kernel))⟩, ⟨va_Nw.of rfl (hts (.castable eA eA) (by decide +kernel)), va_Nw.of rfl (hts (.castable eI eI) (by decide +kernel)), va_Nw.of rfl (hts (.castable eS eS) (by decide +kernel))⟩, ⟨va_Nc.of (hg (.not (.castable eI eA)) (by decide +kernel)), va_Nc.of (hg (.not (.castable eS eA)) (by decide +kernel)), va_Nc.of (hg (.not (.castable eI eS)) (by decide +kernel))⟩, ?_, ?_⟩
  · exact vx_Zqof (hts (.laysStatic "java/lang/Throwable" "UNASSIGNED_STACK" "[Ljava/lang/StackTraceElement;") (by decide +kernel)) (hts (.initialized "java/lang/Throwable") (by decide +kernel)) (hg (.isRef (.static "java/lang/Throwable" "UNASSIGNED_STACK" "[Ljava/lang/StackTraceElement;")) (by decide +kernel)) (fun a h => Nat.not_le.mpr h)
  · exact vx_Zqof (hts (.laysStatic "java/lang/Throwable" "SUPPRESSED_SENTINEL" "Ljava/util/List;") (by decide +kernel)) (hts (.initialized "java/lang/Throwable") (by decide +kernel)) (hg (.isRef (.static "java/lang/Throwable" "SUPPRESSED_SENTINEL" "Ljava/util/List;")) (by decide +kernel)) (fun a h => Nat.not_le.mpr h)
