/-! rows of the walk over the world -/
def fctx (s : State) (m : MethodId) (args : Array Value) (own : String) (Ts : List Cond) (D : va_G) (tc : Nat → ClassId) (C : String) (T : u_T) (N ci : Nat) : Prop :=
  (∀ w ∈ Ts, w.before args s = true) ∧ (∀ w ∈ u_ws C T N, w ∈ Ts) ∧ s.vm.findClass own = some m.cls ∧ va_K D vwCl (tysL tc) s ∧ vwCl[ci]? = some (C, T, N)
def tctx (T : u_T) (N : Nat) (ty : Nat → FieldType) : Prop := (∀ k, k < N → parseFieldDescriptor (T k).2.2.1 = some (ty k)) ∧ (∀ a, a < N → ∀ b, b < N → a ≠ b → (T a).2.1 ≠ (T b).2.1)
section XR
variable {p : Program} {l : Launch} {e : Env} {R : Room} {s : State} {m : MethodId} {args : Array Value} {below : List Frame} {meth : Method} {c : Code} {H H0 : Heap} {locs : List Loc} {cells slots : Nat} {Q : State → Prop}
variable {cc : ByteArray} {pc : Nat} {ls : Array Slot} {rest : List Value} {D : va_G} {tc : Nat → ClassId} {base : Nat} {ad : Nat → Int → Nat} {cnt : Nat → Int} {X : Nat → Int → Int → Int} {Y : Nat → Int → Int → Option Int} {ln : Int → Int}
variable {own C : String} {T : u_T} {N ci index : Nat} {Ts : List Cond} {k j : Nat} {i jz : Int}
theorem x_geti (hx : p.tables.exec = Jvm.exec) (hb : c.code = cc) (F : fctx s m args own Ts D tc C T N ci) (hw : wd D tc base (ad, cnt, X, Y, ln) H) (h0 : 0 ≤ i) (h1 : i < cnt k) {t : Nat} (hs : SL k j ci 0 t N) (hj : (j : Int) = jz)
    (hlink : (Cond.fieldLink own index (T j).1 (T j).2.1 (T j).2.2.1).before args s = true) (hdg : decode cc pc = .ok (.getfield index, 3))
    (kk : W p l e R s m args below meth c H locs cells slots Q (F0 m (pc + 3) ls (.int (jI (X k i jz)) :: rest))) : W p l e R s m args below meth c H locs cells slots Q (F0 m pc ls (.ref (ad k i) :: rest)) := by
  obtain ⟨hts, hin, hown, hK, hc⟩ := F
  obtain ⟨ws, q0, hP, hD, hq, -, -⟩ := wd_pos hw h0 h1
  rw [ob_E hs] at hq
  subst hj
  refine va_get hx hb hts hin hown hK hP q0 hq hc j hs.2.2.2 hlink (fun _ h => h) (v := .int (jI (X k i j))) ?_ hdg kk
  have h3 := hs.2.2.1
  simp [hs.2.2.2, slV, h3]
theorem x_getl (hx : p.tables.exec = Jvm.exec) (hb : c.code = cc) (F : fctx s m args own Ts D tc C T N ci) (hw : wd D tc base (ad, cnt, X, Y, ln) H) (h0 : 0 ≤ i) (h1 : i < cnt k) {t : Nat} (hs : SL k j ci 1 t N) (hj : (j : Int) = jz)
    (hlink : (Cond.fieldLink own index (T j).1 (T j).2.1 (T j).2.2.1).before args s = true) (hdg : decode cc pc = .ok (.getfield index, 3))
    (kk : W p l e R s m args below meth c H locs cells slots Q (F0 m (pc + 3) ls (.long (jL (X k i jz)) :: rest))) : W p l e R s m args below meth c H locs cells slots Q (F0 m pc ls (.ref (ad k i) :: rest)) := by
  obtain ⟨hts, hin, hown, hK, hc⟩ := F
  obtain ⟨ws, q0, hP, hD, hq, -, -⟩ := wd_pos hw h0 h1
  rw [ob_E hs] at hq
  subst hj
  refine va_get hx hb hts hin hown hK hP q0 hq hc j hs.2.2.2 hlink (fun _ h => h) (v := .long (jL (X k i j))) ?_ hdg kk
  have h3 := hs.2.2.1
  simp [hs.2.2.2, slV, h3]
theorem x_geto (hx : p.tables.exec = Jvm.exec) (hb : c.code = cc) (F : fctx s m args own Ts D tc C T N ci) (hw : wd D tc base (ad, cnt, X, Y, ln) H) (h0 : 0 ≤ i) (h1 : i < cnt k) {t : Nat} (hs : SL k j ci 3 t N)
    (hlink : (Cond.fieldLink own index (T j).1 (T j).2.1 (T j).2.2.1).before args s = true) (hdg : decode cc pc = .ok (.getfield index, 3))
    (kk : W p l e R s m args below meth c H locs cells slots Q (F0 m (pc + 3) ls (.ref (ad t i) :: rest))) : W p l e R s m args below meth c H locs cells slots Q (F0 m pc ls (.ref (ad k i) :: rest)) := by
  obtain ⟨hts, hin, hown, hK, hc⟩ := F
  obtain ⟨ws, q0, hP, hD, hq, -, -⟩ := wd_pos hw h0 h1
  rw [ob_E hs] at hq
  refine va_get hx hb hts hin hown hK hP q0 hq hc j hs.2.2.2 hlink (fun _ h => h) (v := .ref (ad t i)) ?_ hdg kk
  have h3 := hs.2.2.1
  simp [hs.2.2.2, slV, h3]
theorem x_getr (hx : p.tables.exec = Jvm.exec) (hb : c.code = cc) (F : fctx s m args own Ts D tc C T N ci) (hw : wd D tc base (ad, cnt, X, Y, ln) H) (h0 : 0 ≤ i) (h1 : i < cnt k) {t : Nat} (hs : SL k j ci 4 t N) (hj : (j : Int) = jz)
    (hlink : (Cond.fieldLink own index (T j).1 (T j).2.1 (T j).2.2.1).before args s = true) (hdg : decode cc pc = .ok (.getfield index, 3))
    (kn : Y k i jz = none → W p l e R s m args below meth c H locs cells slots Q (F0 m (pc + 3) ls (.null :: rest)))
    (kk : ∀ r : Int, Y k i jz = some r → 0 ≤ r → r < cnt t → W p l e R s m args below meth c H locs cells slots Q (F0 m (pc + 3) ls (.ref (ad t r) :: rest))) : W p l e R s m args below meth c H locs cells slots Q (F0 m pc ls (.ref (ad k i) :: rest)) := by
  obtain ⟨hts, hin, hown, hK, hc⟩ := F
  obtain ⟨ws, q0, hP, hD, hq, -, -⟩ := wd_pos hw h0 h1
  have hrf := wd_ref hw
  rw [ob_E hs] at hq
  subst hj
  have h3 := hs.2.2.1
  refine va_get hx hb hts hin hown hK hP q0 hq hc j hs.2.2.2 hlink (fun _ h => h) (v := va_rf ((Y k i j).map (ad t))) ?_ hdg ?_
  · simp [hs.2.2.2, slV, h3]
  · cases hy : Y k i j with
    | none => exact kn hy
    | some r =>
      obtain ⟨g0, g1⟩ := hrf k i j t r h0 h1 (Or.inr ⟨by rw [hs.1]; omega, h3⟩) hy
      exact kk r hy g0 g1
theorem x_puti (hx : p.tables.exec = Jvm.exec) (hb : c.code = cc) (F : fctx s m args own Ts D tc C T N ci) {ty0 : Nat → FieldType} (G : tctx T N ty0) (hw : wd D tc base (ad, cnt, X, Y, ln) H) (hS : va_S (fun q => base ≤ q) H0 H locs) (h0 : 0 ≤ i) (h1 : i < cnt k) {t : Nat} (hs : SL k j ci 0 t N) (hj : (j : Int) = jz)
    (hlink : (Cond.fieldLink own index (T j).1 (T j).2.1 (T j).2.2.1).before args s = true) (hfin : (T j).2.2.2 = false) {ty : FieldType} {v : Int} (hd : parseFieldDescriptor (T j).2.2.1 = some ty) (hn : narrow ty (.int (jI v)) = .int (jI v)) (hfit : fits ty (.int (jI v)) = true) (hdg : decode cc pc = .ok (.putfield index, 3))
    (kk : ∀ (H1 : Heap) (locs1 : List Loc), wd D tc base (ad, cnt, u3 X k i jz v, Y, ln) H1 → va_S (fun q => base ≤ q) H0 H1 locs1 → W p l e R s m args below meth c H1 locs1 cells slots Q (F0 m (pc + 3) ls rest)) : W p l e R s m args below meth c H locs cells slots Q (F0 m pc ls (.int (jI v) :: .ref (ad k i) :: rest)) := by
  obtain ⟨hts, hin, hown, hK, hc⟩ := F
  obtain ⟨ws, q0, hP, hD, hq, -, hset⟩ := wd_pos hw h0 h1
  have hq' := hq
  rw [ob_E hs] at hq'
  subst hj
  have h3 := hs.2.2.1
  have h4 := hs.2.2.2
  refine va_put hx hb hts hin ty0 G.1 G.2 hown hK hP hD hS q0 hq' hc j h4 hlink (fun _ h => h) hfin hd hn hfit (by simpa using h4) hdg (fun H1 locs1 hP1 hD1 hS1 => ?_)
  have he : ceE tc ad (u3 X k i j v) Y ln k i = .inr (ci, ((List.range N).map (fun j => slV ad X Y k i j (slo k j))).set j (.int (jI v))) := by
    rw [ob_E hs]
    congr 2
    refine (mp_set h4 ?_ ?_).symm
    · simp [slV, h3, u3]
    · intro q hq
      have hq2 : ¬ ((q : Int) = (j : Int)) := by omega
      simp [slV, u3, hq2]
  rw [← he] at hP1 hD1
  exact kk H1 locs1 (hset (u3 X k i j v) Y H1 (fun k' i' hne => ⟨u3_ne X k k' i i' j v hne, rfl⟩) (wd_ref hw) hP1 hD1) hS1
theorem x_putl (hx : p.tables.exec = Jvm.exec) (hb : c.code = cc) (F : fctx s m args own Ts D tc C T N ci) {ty0 : Nat → FieldType} (G : tctx T N ty0) (hw : wd D tc base (ad, cnt, X, Y, ln) H) (hS : va_S (fun q => base ≤ q) H0 H locs) (h0 : 0 ≤ i) (h1 : i < cnt k) {t : Nat} (hs : SL k j ci 1 t N) (hj : (j : Int) = jz)
    (hlink : (Cond.fieldLink own index (T j).1 (T j).2.1 (T j).2.2.1).before args s = true) (hfin : (T j).2.2.2 = false) {v : Int} (hd : parseFieldDescriptor (T j).2.2.1 = some .long) (hdg : decode cc pc = .ok (.putfield index, 3))
    (kk : ∀ (H1 : Heap) (locs1 : List Loc), wd D tc base (ad, cnt, u3 X k i jz v, Y, ln) H1 → va_S (fun q => base ≤ q) H0 H1 locs1 → W p l e R s m args below meth c H1 locs1 cells slots Q (F0 m (pc + 3) ls rest)) : W p l e R s m args below meth c H locs cells slots Q (F0 m pc ls (.long (jL v) :: .ref (ad k i) :: rest)) := by
  obtain ⟨hts, hin, hown, hK, hc⟩ := F
  obtain ⟨ws, q0, hP, hD, hq, -, hset⟩ := wd_pos hw h0 h1
  have hq' := hq
  rw [ob_E hs] at hq'
  subst hj
  have h3 := hs.2.2.1
  have h4 := hs.2.2.2
  refine va_put hx hb hts hin ty0 G.1 G.2 hown hK hP hD hS q0 hq' hc j h4 hlink (fun _ h => h) hfin hd rfl rfl (by simpa using h4) hdg (fun H1 locs1 hP1 hD1 hS1 => ?_)
  have he : ceE tc ad (u3 X k i j v) Y ln k i = .inr (ci, ((List.range N).map (fun j => slV ad X Y k i j (slo k j))).set j (.long (jL v))) := by
    rw [ob_E hs]
    congr 2
    refine (mp_set h4 ?_ ?_).symm
    · simp [slV, h3, u3]
    · intro q hq
      have hq2 : ¬ ((q : Int) = (j : Int)) := by omega
      simp [slV, u3, hq2]
  rw [← he] at hP1 hD1
  exact kk H1 locs1 (hset (u3 X k i j v) Y H1 (fun k' i' hne => ⟨u3_ne X k k' i i' j v hne, rfl⟩) (wd_ref hw) hP1 hD1) hS1
theorem x_putr (hx : p.tables.exec = Jvm.exec) (hb : c.code = cc) (F : fctx s m args own Ts D tc C T N ci) {ty0 : Nat → FieldType} (G : tctx T N ty0) (hw : wd D tc base (ad, cnt, X, Y, ln) H) (hS : va_S (fun q => base ≤ q) H0 H locs) (h0 : 0 ≤ i) (h1 : i < cnt k) {t : Nat} (hs : SL k j ci 4 t N) (hj : (j : Int) = jz)
    (hlink : (Cond.fieldLink own index (T j).1 (T j).2.1 (T j).2.2.1).before args s = true) (hfin : (T j).2.2.2 = false) {r : Int} (g0 : 0 ≤ r) (g1 : r < cnt t) {cn : String} (hd : parseFieldDescriptor (T j).2.2.1 = some (.object cn)) (hdg : decode cc pc = .ok (.putfield index, 3))
    (kk : ∀ (H1 : Heap) (locs1 : List Loc), wd D tc base (ad, cnt, X, u3 Y k i jz (some r), ln) H1 → va_S (fun q => base ≤ q) H0 H1 locs1 → W p l e R s m args below meth c H1 locs1 cells slots Q (F0 m (pc + 3) ls rest)) : W p l e R s m args below meth c H locs cells slots Q (F0 m pc ls (.ref (ad t r) :: .ref (ad k i) :: rest)) := by
  obtain ⟨hts, hin, hown, hK, hc⟩ := F
  obtain ⟨ws, q0, hP, hD, hq, -, hset⟩ := wd_pos hw h0 h1
  have hq' := hq
  rw [ob_E hs] at hq'
  subst hj
  have h3 := hs.2.2.1
  have h4 := hs.2.2.2
  refine va_put hx hb hts hin ty0 G.1 G.2 hown hK hP hD hS q0 hq' hc j h4 hlink (fun _ h => h) hfin hd rfl rfl (by simpa using h4) hdg (fun H1 locs1 hP1 hD1 hS1 => ?_)
  have he : ceE tc ad X (u3 Y k i j (some r)) ln k i = .inr (ci, ((List.range N).map (fun j => slV ad X Y k i j (slo k j))).set j (.ref (ad t r))) := by
    rw [ob_E hs]
    congr 2
    refine (mp_set h4 ?_ ?_).symm
    · simp [slV, h3, u3, va_rf]
    · intro q hq
      have hq2 : ¬ ((q : Int) = (j : Int)) := by omega
      simp [slV, u3, hq2]
  rw [← he] at hP1 hD1
  refine kk H1 locs1 (hset X (u3 Y k i j (some r)) H1 (fun k' i' hne => ⟨rfl, u3_ne Y k k' i i' j _ hne⟩) (refOK_s (t := t) (wd_ref hw) ?_ g0 g1) hP1 hD1) hS1
  intro j' t' ej hr
  have ej2 : j' = j := by omega
  subst ej2
  rcases hr with ⟨z1, -⟩ | ⟨-, z2⟩
  · rw [hs.1] at z1; omega
  · rw [h3] at z2; cases z2; rfl
theorem x_putn (hx : p.tables.exec = Jvm.exec) (hb : c.code = cc) (F : fctx s m args own Ts D tc C T N ci) {ty0 : Nat → FieldType} (G : tctx T N ty0) (hw : wd D tc base (ad, cnt, X, Y, ln) H) (hS : va_S (fun q => base ≤ q) H0 H locs) (h0 : 0 ≤ i) (h1 : i < cnt k) {t : Nat} (hs : SL k j ci 4 t N) (hj : (j : Int) = jz)
    (hlink : (Cond.fieldLink own index (T j).1 (T j).2.1 (T j).2.2.1).before args s = true) (hfin : (T j).2.2.2 = false) {cn : String} (hd : parseFieldDescriptor (T j).2.2.1 = some (.object cn)) (hdg : decode cc pc = .ok (.putfield index, 3))
    (kk : ∀ (H1 : Heap) (locs1 : List Loc), wd D tc base (ad, cnt, X, u3 Y k i jz none, ln) H1 → va_S (fun q => base ≤ q) H0 H1 locs1 → W p l e R s m args below meth c H1 locs1 cells slots Q (F0 m (pc + 3) ls rest)) : W p l e R s m args below meth c H locs cells slots Q (F0 m pc ls (.null :: .ref (ad k i) :: rest)) := by
  obtain ⟨hts, hin, hown, hK, hc⟩ := F
  obtain ⟨ws, q0, hP, hD, hq, -, hset⟩ := wd_pos hw h0 h1
  have hq' := hq
  rw [ob_E hs] at hq'
  subst hj
  have h3 := hs.2.2.1
  have h4 := hs.2.2.2
  refine va_put hx hb hts hin ty0 G.1 G.2 hown hK hP hD hS q0 hq' hc j h4 hlink (fun _ h => h) hfin hd rfl rfl (by simpa using h4) hdg (fun H1 locs1 hP1 hD1 hS1 => ?_)
  have he : ceE tc ad X (u3 Y k i j none) ln k i = .inr (ci, ((List.range N).map (fun j => slV ad X Y k i j (slo k j))).set j .null) := by
    rw [ob_E hs]
    congr 2
    refine (mp_set h4 ?_ ?_).symm
    · simp [slV, h3, u3, va_rf]
    · intro q hq
      have hq2 : ¬ ((q : Int) = (j : Int)) := by omega
      simp [slV, u3, hq2]
  rw [← he] at hP1 hD1
  exact kk H1 locs1 (hset X (u3 Y k i j none) H1 (fun k' i' hne => ⟨rfl, u3_ne Y k k' i i' j _ hne⟩) (refOK_n (wd_ref hw)) hP1 hD1) hS1
theorem len_E {ln : Int → Int} {k code t tgt : Nat} {len i : Int} (h : AR k code t tgt len) (hk : k ≠ 27) : lenE ln k i = len := by
  unfold lenE
  rw [if_neg hk, h.2.2]
section XA
variable {z len v : Int} {tgt : Nat}
theorem x_iald (hx : p.tables.exec = Jvm.exec) (hb : c.code = cc) (hK : va_K D vwCl (tysL tc) s) (hw : wd D tc base (ad, cnt, X, Y, ln) H) (h0 : 0 ≤ i) (h1 : i < cnt k) (hs : AR k 0 0 tgt len) (hl : lenE ln k i = len) (z0 : 0 ≤ z) (z1 : z < len) (z2 : z ≤ 2147483647) (hdg : decode cc pc = .ok (.iaload, 1))
    (kk : W p l e R s m args below meth c H locs cells slots Q (F0 m (pc + 1) ls (.int (jI (X k i z)) :: rest))) : W p l e R s m args below meth c H locs cells slots Q (F0 m pc ls (.int (jI z) :: .ref (ad k i) :: rest)) := by
  obtain ⟨ws, q0, hP, hD, hq, -, -⟩ := wd_pos hw h0 h1
  rw [ar_iE hs, hl] at hq
  refine va_iald hx hb hK hP q0 0 hq rfl (jI_in z0 (by omega) z2) hdg ?_
  rw [jI_cl z0 z2]
  exact kk
theorem x_zald (hx : p.tables.exec = Jvm.exec) (hb : c.code = cc) (hK : va_K D vwCl (tysL tc) s) (hw : wd D tc base (ad, cnt, X, Y, ln) H) (h0 : 0 ≤ i) (h1 : i < cnt k) (hs : AR k 0 2 tgt len) (hl : lenE ln k i = len) (z0 : 0 ≤ z) (z1 : z < len) (z2 : z ≤ 2147483647) (hdg : decode cc pc = .ok (.baload, 1))
    (kk : W p l e R s m args below meth c H locs cells slots Q (F0 m (pc + 1) ls (.int (jI (X k i z)) :: rest))) : W p l e R s m args below meth c H locs cells slots Q (F0 m pc ls (.int (jI z) :: .ref (ad k i) :: rest)) := by
  obtain ⟨ws, q0, hP, hD, hq, -, -⟩ := wd_pos hw h0 h1
  rw [ar_iE hs, hl] at hq
  refine va_zald hx hb hK hP q0 2 hq rfl (jI_in z0 (by omega) z2) hdg ?_
  rw [jI_cl z0 z2]
  exact kk
theorem x_lald (hx : p.tables.exec = Jvm.exec) (hb : c.code = cc) (hK : va_K D vwCl (tysL tc) s) (hw : wd D tc base (ad, cnt, X, Y, ln) H) (h0 : 0 ≤ i) (h1 : i < cnt k) {l0 : Int} (hs : AR k 1 1 tgt l0) (hl : lenE ln k i = len) (z0 : 0 ≤ z) (z1 : z < len) (z2 : z ≤ 2147483647) (hdg : decode cc pc = .ok (.laload, 1))
    (kk : W p l e R s m args below meth c H locs cells slots Q (F0 m (pc + 1) ls (.long (jL (X k i z)) :: rest))) : W p l e R s m args below meth c H locs cells slots Q (F0 m pc ls (.int (jI z) :: .ref (ad k i) :: rest)) := by
  obtain ⟨ws, q0, hP, hD, hq, -, -⟩ := wd_pos hw h0 h1
  rw [ar_lE hs, hl] at hq
  refine va_lald hx hb hK hP q0 1 hq rfl (jI_in z0 (by omega) z2) hdg ?_
  rw [jI_cl z0 z2]
  exact kk
theorem x_aald (hx : p.tables.exec = Jvm.exec) (hb : c.code = cc) (hK : va_K D vwCl (tysL tc) s) (hw : wd D tc base (ad, cnt, X, Y, ln) H) (h0 : 0 ≤ i) (h1 : i < cnt k) {t0 : Nat} {cn : String} (hs : AR k 4 t0 tgt len) (ht : (tysL tc)[t0]? = some (tc t0, .object cn)) (hl : lenE ln k i = len) (z0 : 0 ≤ z) (z1 : z < len) (z2 : z ≤ 2147483647) (hdg : decode cc pc = .ok (.aaload, 1))
    (kn : Y k i z = none → W p l e R s m args below meth c H locs cells slots Q (F0 m (pc + 1) ls (.null :: rest)))
    (kk : ∀ r : Int, Y k i z = some r → 0 ≤ r → r < cnt tgt → W p l e R s m args below meth c H locs cells slots Q (F0 m (pc + 1) ls (.ref (ad tgt r) :: rest))) : W p l e R s m args below meth c H locs cells slots Q (F0 m pc ls (.int (jI z) :: .ref (ad k i) :: rest)) := by
  obtain ⟨ws, q0, hP, hD, hq, -, -⟩ := wd_pos hw h0 h1
  have hrf := wd_ref hw
  rw [ar_rE hs, hl] at hq
  refine va_aldq hx hb hK hP q0 t0 hq ht (jI_in z0 (by omega) z2) hdg ?_
  rw [jI_cl z0 z2]
  cases hy : Y k i z with
  | none => exact kn hy
  | some r =>
    have e1 : ((z.toNat : Nat) : Int) = z := by omega
    obtain ⟨g0, g1⟩ := hrf k i z.toNat tgt r h0 h1 (Or.inl ⟨hs.1, by rw [hs.2.1], by rw [hs.2.1]⟩) (by rw [e1]; exact hy)
    exact kk r hy g0 g1
theorem x_iast (hx : p.tables.exec = Jvm.exec) (hb : c.code = cc) (hK : va_K D vwCl (tysL tc) s) (hw : wd D tc base (ad, cnt, X, Y, ln) H) (hS : va_S (fun q => base ≤ q) H0 H locs) (h0 : 0 ≤ i) (h1 : i < cnt k) (hs : AR k 0 0 tgt len) (hl : lenE ln k i = len) (z0 : 0 ≤ z) (z1 : z < len) (z2 : z ≤ 2147483647) (hdg : decode cc pc = .ok (.iastore, 1))
    (kk : ∀ (H1 : Heap) (locs1 : List Loc), wd D tc base (ad, cnt, u3 X k i z v, Y, ln) H1 → va_S (fun q => base ≤ q) H0 H1 locs1 → W p l e R s m args below meth c H1 locs1 cells slots Q (F0 m (pc + 1) ls rest)) : W p l e R s m args below meth c H locs cells slots Q (F0 m pc ls (.int (jI v) :: .int (jI z) :: .ref (ad k i) :: rest)) := by
  obtain ⟨ws, q0, hP, hD, hq, -, hset⟩ := wd_pos hw h0 h1
  rw [ar_iE hs, hl] at hq
  refine va_iast hx hb hK hP hD hS q0 0 hq rfl (jI_in z0 (by omega) z2) hdg (fun H1 locs1 hP1 hD1 hS1 => ?_)
  have he : ceE tc ad (u3 X k i z v) Y ln k i = .inl (tc 0, len.toNat, .inl (upd (fun q => jI (X k i q)) (jI z).toNatClampNeg (jI v))) := by
    rw [ar_iE hs, hl]
    congr 4
    funext q
    have e1 := jI_cl z0 z2
    by_cases hq2 : q = (jI z).toNatClampNeg
    · subst hq2
      simp [upd, u3, e1]
    · have hq3 : ¬ ((q : Int) = z) := by omega
      simp [upd, u3, hq2, hq3]
  rw [← he] at hP1 hD1
  exact kk H1 locs1 (hset (u3 X k i z v) Y H1 (fun k' i' hne => ⟨u3_ne X k k' i i' z v hne, rfl⟩) (wd_ref hw) hP1 hD1) hS1
theorem x_zast (hx : p.tables.exec = Jvm.exec) (hb : c.code = cc) (hK : va_K D vwCl (tysL tc) s) (hw : wd D tc base (ad, cnt, X, Y, ln) H) (hS : va_S (fun q => base ≤ q) H0 H locs) (h0 : 0 ≤ i) (h1 : i < cnt k) (hs : AR k 0 2 tgt len) (hl : lenE ln k i = len) (z0 : 0 ≤ z) (z1 : z < len) (z2 : z ≤ 2147483647) (v0 : 0 ≤ v) (v1 : v ≤ 1) (hdg : decode cc pc = .ok (.bastore, 1))
    (kk : ∀ (H1 : Heap) (locs1 : List Loc), wd D tc base (ad, cnt, u3 X k i z v, Y, ln) H1 → va_S (fun q => base ≤ q) H0 H1 locs1 → W p l e R s m args below meth c H1 locs1 cells slots Q (F0 m (pc + 1) ls rest)) : W p l e R s m args below meth c H locs cells slots Q (F0 m pc ls (.int (jI v) :: .int (jI z) :: .ref (ad k i) :: rest)) := by
  obtain ⟨ws, q0, hP, hD, hq, -, hset⟩ := wd_pos hw h0 h1
  rw [ar_iE hs, hl] at hq
  refine va_zast hx hb hK hP hD hS q0 2 hq rfl (jI_in z0 (by omega) z2) hdg (fun H1 locs1 hP1 hD1 hS1 => ?_)
  have hv : vp_nar .boolean (jI v) = jI v := by
    rcases (show v = 0 ∨ v = 1 by omega) with rfl | rfl <;> decide +kernel
  rw [hv] at hP1 hD1
  have he : ceE tc ad (u3 X k i z v) Y ln k i = .inl (tc 2, len.toNat, .inl (upd (fun q => jI (X k i q)) (jI z).toNatClampNeg (jI v))) := by
    rw [ar_iE hs, hl]
    congr 4
    funext q
    have e1 := jI_cl z0 z2
    by_cases hq2 : q = (jI z).toNatClampNeg
    · subst hq2
      simp [upd, u3, e1]
    · have hq3 : ¬ ((q : Int) = z) := by omega
      simp [upd, u3, hq2, hq3]
  rw [← he] at hP1 hD1
  exact kk H1 locs1 (hset (u3 X k i z v) Y H1 (fun k' i' hne => ⟨u3_ne X k k' i i' z v hne, rfl⟩) (wd_ref hw) hP1 hD1) hS1
theorem x_last (hx : p.tables.exec = Jvm.exec) (hb : c.code = cc) (hK : va_K D vwCl (tysL tc) s) (hw : wd D tc base (ad, cnt, X, Y, ln) H) (hS : va_S (fun q => base ≤ q) H0 H locs) (h0 : 0 ≤ i) (h1 : i < cnt k) {l0 : Int} (hs : AR k 1 1 tgt l0) (hl : lenE ln k i = len) (z0 : 0 ≤ z) (z1 : z < len) (z2 : z ≤ 2147483647) (hdg : decode cc pc = .ok (.lastore, 1))
    (kk : ∀ (H1 : Heap) (locs1 : List Loc), wd D tc base (ad, cnt, u3 X k i z v, Y, ln) H1 → va_S (fun q => base ≤ q) H0 H1 locs1 → W p l e R s m args below meth c H1 locs1 cells slots Q (F0 m (pc + 1) ls rest)) : W p l e R s m args below meth c H locs cells slots Q (F0 m pc ls (.long (jL v) :: .int (jI z) :: .ref (ad k i) :: rest)) := by
  obtain ⟨ws, q0, hP, hD, hq, -, hset⟩ := wd_pos hw h0 h1
  rw [ar_lE hs, hl] at hq
  refine va_last hx hb hK hP hD hS q0 1 hq rfl (jI_in z0 (by omega) z2) hdg (fun H1 locs1 hP1 hD1 hS1 => ?_)
  have he : ceE tc ad (u3 X k i z v) Y ln k i = .inl (tc 1, len.toNat, .inr (.inl (vp_updL (fun q => jL (X k i q)) (jI z).toNatClampNeg (jL v)))) := by
    rw [ar_lE hs, hl]
    congr 5
    funext q
    have e1 := jI_cl z0 z2
    by_cases hq2 : q = (jI z).toNatClampNeg
    · subst hq2
      simp [vp_updL, u3, e1]
    · have hq3 : ¬ ((q : Int) = z) := by omega
      simp [vp_updL, u3, hq2, hq3]
  rw [← he] at hP1 hD1
  exact kk H1 locs1 (hset (u3 X k i z v) Y H1 (fun k' i' hne => ⟨u3_ne X k k' i i' z v hne, rfl⟩) (wd_ref hw) hP1 hD1) hS1
theorem x_aast (hx : p.tables.exec = Jvm.exec) (hb : c.code = cc) (hK : va_K D vwCl (tysL tc) s) (hw : wd D tc base (ad, cnt, X, Y, ln) H) (hS : va_S (fun q => base ≤ q) H0 H locs) (h0 : 0 ≤ i) (h1 : i < cnt k) {t0 cj j1 c1 t1 : Nat} {r : Int} {cl1 : vw_C} (hs : AR k 4 t0 tgt len) (ht : (tysL tc)[t0]? = some (tc t0, .object cl1.1)) (hc : vwCl[cj]? = some cl1) {N1 : Nat} (ho : SL tgt j1 cj c1 t1 N1) (hl : lenE ln k i = len) (z0 : 0 ≤ z) (z1 : z < len) (z2 : z ≤ 2147483647) (g0 : 0 ≤ r) (g1 : r < cnt tgt) (hdg : decode cc pc = .ok (.aastore, 1))
    (kk : ∀ (H1 : Heap) (locs1 : List Loc), wd D tc base (ad, cnt, X, u3 Y k i z (some r), ln) H1 → va_S (fun q => base ≤ q) H0 H1 locs1 → W p l e R s m args below meth c H1 locs1 cells slots Q (F0 m (pc + 1) ls rest)) : W p l e R s m args below meth c H locs cells slots Q (F0 m pc ls (.ref (ad tgt r) :: .int (jI z) :: .ref (ad k i) :: rest)) := by
  obtain ⟨ws, q0, hP, hD, hq, hall, hset⟩ := wd_pos hw h0 h1
  obtain ⟨q1, hq1⟩ := hall tgt r g0 g1
  rw [ob_E ho] at hq1
  rw [ar_rE hs, hl] at hq
  refine va_astq hx hb hK hP hD hS q0 t0 q1 cj hq ht hq1 hc (jI_in z0 (by omega) z2) hdg (fun H1 locs1 hP1 hD1 hS1 => ?_)
  have he : ceE tc ad X (u3 Y k i z (some r)) ln k i = .inl (tc t0, len.toNat, .inr (.inr (.inr (.inr (va_up (fun q : Nat => (Y k i q).map (ad tgt)) (jI z).toNatClampNeg (some (ad tgt r))))))) := by
    rw [ar_rE hs, hl]
    congr 7
    funext q
    have e1 := jI_cl z0 z2
    by_cases hq2 : q = (jI z).toNatClampNeg
    · subst hq2
      simp [va_up, u3, e1]
    · have hq3 : ¬ ((q : Int) = z) := by omega
      simp [va_up, u3, hq2, hq3]
  rw [← he] at hP1 hD1
  refine kk H1 locs1 (hset X (u3 Y k i z (some r)) H1 (fun k' i' hne => ⟨rfl, u3_ne Y k k' i i' z _ hne⟩) (refOK_s (t := tgt) (wd_ref hw) ?_ g0 g1) hP1 hD1) hS1
  intro j' t' ej hr
  rcases hr with ⟨-, -, z2⟩ | ⟨z1, -⟩
  · rw [hs.2.1] at z2; exact z2.symm
  · exact absurd hs.1 z1
theorem x_aastn (hx : p.tables.exec = Jvm.exec) (hb : c.code = cc) (hK : va_K D vwCl (tysL tc) s) (hw : wd D tc base (ad, cnt, X, Y, ln) H) (hS : va_S (fun q => base ≤ q) H0 H locs) (h0 : 0 ≤ i) (h1 : i < cnt k) {t0 : Nat} {cn : String} (hs : AR k 4 t0 tgt len) (ht : (tysL tc)[t0]? = some (tc t0, .object cn)) (hl : lenE ln k i = len) (z0 : 0 ≤ z) (z1 : z < len) (z2 : z ≤ 2147483647) (hdg : decode cc pc = .ok (.aastore, 1))
    (kk : ∀ (H1 : Heap) (locs1 : List Loc), wd D tc base (ad, cnt, X, u3 Y k i z none, ln) H1 → va_S (fun q => base ≤ q) H0 H1 locs1 → W p l e R s m args below meth c H1 locs1 cells slots Q (F0 m (pc + 1) ls rest)) : W p l e R s m args below meth c H locs cells slots Q (F0 m pc ls (.null :: .int (jI z) :: .ref (ad k i) :: rest)) := by
  obtain ⟨ws, q0, hP, hD, hq, hall, hset⟩ := wd_pos hw h0 h1
  rw [ar_rE hs, hl] at hq
  refine va_astqN hx hb hK hP hD hS q0 t0 hq ht (jI_in z0 (by omega) z2) hdg (fun H1 locs1 hP1 hD1 hS1 => ?_)
  have he : ceE tc ad X (u3 Y k i z none) ln k i = .inl (tc t0, len.toNat, .inr (.inr (.inr (.inr (va_up (fun q : Nat => (Y k i q).map (ad tgt)) (jI z).toNatClampNeg none))))) := by
    rw [ar_rE hs, hl]
    congr 7
    funext q
    have e1 := jI_cl z0 z2
    by_cases hq2 : q = (jI z).toNatClampNeg
    · subst hq2
      simp [va_up, u3, e1]
    · have hq3 : ¬ ((q : Int) = z) := by omega
      simp [va_up, u3, hq2, hq3]
  rw [← he] at hP1 hD1
  exact kk H1 locs1 (hset X (u3 Y k i z none) H1 (fun k' i' hne => ⟨rfl, u3_ne Y k k' i i' z _ hne⟩) (refOK_n (wd_ref hw)) hP1 hD1) hS1
theorem x_alenl (hx : p.tables.exec = Jvm.exec) (hb : c.code = cc) (hK : va_K D vwCl (tysL tc) s) (hw : wd D tc base (ad, cnt, X, Y, ln) H) (h0 : 0 ≤ i) (h1 : i < cnt k) {l0 : Int} (hs : AR k 1 1 tgt l0) (hl : lenE ln k i = len) (z0 : 0 ≤ len) (hdg : decode cc pc = .ok (.arraylength, 1))
    (kk : W p l e R s m args below meth c H locs cells slots Q (F0 m (pc + 1) ls (.int (jI len) :: rest))) : W p l e R s m args below meth c H locs cells slots Q (F0 m pc ls (.ref (ad k i) :: rest)) := by
  obtain ⟨ws, q0, hP, hD, hq, -, -⟩ := wd_pos hw h0 h1
  rw [ar_lE hs, hl] at hq
  refine va_alen hx hb hK hP q0 1 hq (ty := .long) rfl (v := jI len) ?_ hdg kk
  show Int32.ofNat len.toNat = Int32.ofInt len
  rw [← Int32.ofInt_eq_ofNat]
  congr 1
  omega
end XA
end XR
/-! rows of the walk over numbers -/
/-- a fact that is kept out of the reckoning -/
def Hid (P : Prop) : Prop := P
section XO
variable {p : Program} {l : Launch} {e : Env} {R : Room} {s : State} {m : MethodId} {args : Array Value} {below : List Frame} {meth : Method} {c : Code} {H : Heap} {locs : List Loc} {cells slots : Nat} {Q : State → Prop}
variable {cc : ByteArray} {pc : Nat} {ls : Array Slot} {rest : List Value} {a b : Int} {off : Int} {tgt : Nat}
theorem x_iadd (hx : p.tables.exec = Jvm.exec) (hb : c.code = cc) (hdg : decode cc pc = .ok (.iadd, 1)) (k : W p l e R s m args below meth c H locs cells slots Q (F0 m (pc + 1) ls (.int (jI (a + b)) :: rest))) : W p l e R s m args below meth c H locs cells slots Q (F0 m pc ls (.int (jI b) :: .int (jI a) :: rest)) := lv_iadd hx hb hdg (by rw [jI_add]; exact k)
theorem x_isub (hx : p.tables.exec = Jvm.exec) (hb : c.code = cc) (hdg : decode cc pc = .ok (.isub, 1)) (k : W p l e R s m args below meth c H locs cells slots Q (F0 m (pc + 1) ls (.int (jI (a - b)) :: rest))) : W p l e R s m args below meth c H locs cells slots Q (F0 m pc ls (.int (jI b) :: .int (jI a) :: rest)) := lv_isub hx hb hdg (by rw [jI_sub]; exact k)
theorem x_imul (hx : p.tables.exec = Jvm.exec) (hb : c.code = cc) (hdg : decode cc pc = .ok (.imul, 1)) (k : W p l e R s m args below meth c H locs cells slots Q (F0 m (pc + 1) ls (.int (jI (a * b)) :: rest))) : W p l e R s m args below meth c H locs cells slots Q (F0 m pc ls (.int (jI b) :: .int (jI a) :: rest)) := lv_imul hx hb hdg (by rw [jI_mul]; exact k)
theorem x_ladd (hx : p.tables.exec = Jvm.exec) (hb : c.code = cc) (hdg : decode cc pc = .ok (.ladd, 1)) (k : W p l e R s m args below meth c H locs cells slots Q (F0 m (pc + 1) ls (.long (jL (a + b)) :: rest))) : W p l e R s m args below meth c H locs cells slots Q (F0 m pc ls (.long (jL b) :: .long (jL a) :: rest)) := lv_ladd hx hb hdg (by rw [jL_add]; exact k)
theorem x_i2l (hx : p.tables.exec = Jvm.exec) (hb : c.code = cc) (ha : -2147483648 ≤ a ∧ a ≤ 2147483647) (hdg : decode cc pc = .ok (.i2l, 1)) (k : W p l e R s m args below meth c H locs cells slots Q (F0 m (pc + 1) ls (.long (jL a) :: rest))) : W p l e R s m args below meth c H locs cells slots Q (F0 m pc ls (.int (jI a) :: rest)) := lv_i2l hx hb hdg (jI_i2l ha) k
theorem x_l2i (hx : p.tables.exec = Jvm.exec) (hb : c.code = cc) (hdg : decode cc pc = .ok (.l2i, 1)) (k : W p l e R s m args below meth c H locs cells slots Q (F0 m (pc + 1) ls (.int (jI a) :: rest))) : W p l e R s m args below meth c H locs cells slots Q (F0 m pc ls (.long (jL a) :: rest)) := lv_l2i hx hb hdg (jL_l2i a) k
/-- a number of which nothing is asked but that it is one -/
theorem x_anyi {x : Int32} (k : ∀ z : Int, (-2147483648 ≤ z ∧ z ≤ 2147483647) → W p l e R s m args below meth c H locs cells slots Q (F0 m pc ls (.int (jI z) :: rest))) : W p l e R s m args below meth c H locs cells slots Q (F0 m pc ls (.int x :: rest)) := by
  obtain ⟨z, hz, rfl⟩ := jI_of x
  exact k z hz
theorem x_anyl {x : Int64} (k : ∀ z : Int, (-9223372036854775808 ≤ z ∧ z ≤ 9223372036854775807) → W p l e R s m args below meth c H locs cells slots Q (F0 m pc ls (.long (jL z) :: rest))) : W p l e R s m args below meth c H locs cells slots Q (F0 m pc ls (.long x :: rest)) := by
  obtain ⟨z, hz, rfl⟩ := jL_of x
  exact k z hz
theorem x_as {z z' : Int} (h : z = z') (k : W p l e R s m args below meth c H locs cells slots Q (F0 m pc ls (.int (jI z') :: rest))) : W p l e R s m args below meth c H locs cells slots Q (F0 m pc ls (.int (jI z) :: rest)) := h ▸ k
theorem x_icmp_eq (hx : p.tables.exec = Jvm.exec) (hb : c.code = cc) (ha : -2147483648 ≤ a ∧ a ≤ 2147483647) (hb2 : -2147483648 ≤ b ∧ b ≤ 2147483647) (hdg : decode cc pc = .ok (.if_icmp .eq off, 3)) (ht : (pc : Int) + off = (tgt : Int)) (kt : a = b → W p l e R s m args below meth c H locs cells slots Q (F0 m tgt ls rest)) (kf : ¬ a = b → W p l e R s m args below meth c H locs cells slots Q (F0 m (pc + 3) ls rest)) : W p l e R s m args below meth c H locs cells slots Q (F0 m pc ls (.int (jI b) :: .int (jI a) :: rest)) := lv_icmp_eq hx hb hdg ht (fun h => kt ((jI_eq ha hb2).mp h)) (fun h => kf (fun q => h ((jI_eq ha hb2).mpr q)))
theorem x_icmp_ne (hx : p.tables.exec = Jvm.exec) (hb : c.code = cc) (ha : -2147483648 ≤ a ∧ a ≤ 2147483647) (hb2 : -2147483648 ≤ b ∧ b ≤ 2147483647) (hdg : decode cc pc = .ok (.if_icmp .ne off, 3)) (ht : (pc : Int) + off = (tgt : Int)) (kt : ¬ a = b → W p l e R s m args below meth c H locs cells slots Q (F0 m tgt ls rest)) (kf : a = b → W p l e R s m args below meth c H locs cells slots Q (F0 m (pc + 3) ls rest)) : W p l e R s m args below meth c H locs cells slots Q (F0 m pc ls (.int (jI b) :: .int (jI a) :: rest)) := lv_icmp_ne hx hb hdg ht (fun h => kt (fun q => h ((jI_eq ha hb2).mpr q))) (fun h => kf ((jI_eq ha hb2).mp h))
theorem x_icmp_lt (hx : p.tables.exec = Jvm.exec) (hb : c.code = cc) (ha : -2147483648 ≤ a ∧ a ≤ 2147483647) (hb2 : -2147483648 ≤ b ∧ b ≤ 2147483647) (hdg : decode cc pc = .ok (.if_icmp .lt off, 3)) (ht : (pc : Int) + off = (tgt : Int)) (kt : a < b → W p l e R s m args below meth c H locs cells slots Q (F0 m tgt ls rest)) (kf : ¬ a < b → W p l e R s m args below meth c H locs cells slots Q (F0 m (pc + 3) ls rest)) : W p l e R s m args below meth c H locs cells slots Q (F0 m pc ls (.int (jI b) :: .int (jI a) :: rest)) := lv_icmp_lt hx hb hdg ht (fun h => kt ((jI_lt ha hb2).mp h)) (fun h => kf (fun q => h ((jI_lt ha hb2).mpr q)))
theorem x_icmp_ge (hx : p.tables.exec = Jvm.exec) (hb : c.code = cc) (ha : -2147483648 ≤ a ∧ a ≤ 2147483647) (hb2 : -2147483648 ≤ b ∧ b ≤ 2147483647) (hdg : decode cc pc = .ok (.if_icmp .ge off, 3)) (ht : (pc : Int) + off = (tgt : Int)) (kt : b ≤ a → W p l e R s m args below meth c H locs cells slots Q (F0 m tgt ls rest)) (kf : ¬ b ≤ a → W p l e R s m args below meth c H locs cells slots Q (F0 m (pc + 3) ls rest)) : W p l e R s m args below meth c H locs cells slots Q (F0 m pc ls (.int (jI b) :: .int (jI a) :: rest)) := lv_icmp_ge hx hb hdg ht (fun h => kt ((jI_le hb2 ha).mp h)) (fun h => kf (fun q => h ((jI_le hb2 ha).mpr q)))
theorem x_icmp_gt (hx : p.tables.exec = Jvm.exec) (hb : c.code = cc) (ha : -2147483648 ≤ a ∧ a ≤ 2147483647) (hb2 : -2147483648 ≤ b ∧ b ≤ 2147483647) (hdg : decode cc pc = .ok (.if_icmp .gt off, 3)) (ht : (pc : Int) + off = (tgt : Int)) (kt : b < a → W p l e R s m args below meth c H locs cells slots Q (F0 m tgt ls rest)) (kf : ¬ b < a → W p l e R s m args below meth c H locs cells slots Q (F0 m (pc + 3) ls rest)) : W p l e R s m args below meth c H locs cells slots Q (F0 m pc ls (.int (jI b) :: .int (jI a) :: rest)) := lv_icmp_gt hx hb hdg ht (fun h => kt ((jI_lt hb2 ha).mp h)) (fun h => kf (fun q => h ((jI_lt hb2 ha).mpr q)))
theorem x_icmp_le (hx : p.tables.exec = Jvm.exec) (hb : c.code = cc) (ha : -2147483648 ≤ a ∧ a ≤ 2147483647) (hb2 : -2147483648 ≤ b ∧ b ≤ 2147483647) (hdg : decode cc pc = .ok (.if_icmp .le off, 3)) (ht : (pc : Int) + off = (tgt : Int)) (kt : a ≤ b → W p l e R s m args below meth c H locs cells slots Q (F0 m tgt ls rest)) (kf : ¬ a ≤ b → W p l e R s m args below meth c H locs cells slots Q (F0 m (pc + 3) ls rest)) : W p l e R s m args below meth c H locs cells slots Q (F0 m pc ls (.int (jI b) :: .int (jI a) :: rest)) := lv_icmp_le hx hb hdg ht (fun h => kt ((jI_le ha hb2).mp h)) (fun h => kf (fun q => h ((jI_le ha hb2).mpr q)))
theorem x_if_eq (hx : p.tables.exec = Jvm.exec) (hb : c.code = cc) (ha : -2147483648 ≤ a ∧ a ≤ 2147483647) (hdg : decode cc pc = .ok (.ifCond .eq off, 3)) (ht : (pc : Int) + off = (tgt : Int)) (kt : a = 0 → W p l e R s m args below meth c H locs cells slots Q (F0 m tgt ls rest)) (kf : ¬ a = 0 → W p l e R s m args below meth c H locs cells slots Q (F0 m (pc + 3) ls rest)) : W p l e R s m args below meth c H locs cells slots Q (F0 m pc ls (.int (jI a) :: rest)) := lv_if_eq hx hb hdg ht (fun h => kt ((jI_eq ha (by omega)).mp (h.trans jI_0))) (fun h => kf (fun q => h (by rw [q]; exact jI_0.symm)))
theorem x_if_ne (hx : p.tables.exec = Jvm.exec) (hb : c.code = cc) (ha : -2147483648 ≤ a ∧ a ≤ 2147483647) (hdg : decode cc pc = .ok (.ifCond .ne off, 3)) (ht : (pc : Int) + off = (tgt : Int)) (kt : ¬ a = 0 → W p l e R s m args below meth c H locs cells slots Q (F0 m tgt ls rest)) (kf : a = 0 → W p l e R s m args below meth c H locs cells slots Q (F0 m (pc + 3) ls rest)) : W p l e R s m args below meth c H locs cells slots Q (F0 m pc ls (.int (jI a) :: rest)) := lv_if_ne hx hb hdg ht (fun h => kt (fun q => h (by rw [q]; exact jI_0.symm))) (fun h => kf ((jI_eq ha (by omega)).mp (h.trans jI_0)))
theorem x_if_lt (hx : p.tables.exec = Jvm.exec) (hb : c.code = cc) (ha : -2147483648 ≤ a ∧ a ≤ 2147483647) (hdg : decode cc pc = .ok (.ifCond .lt off, 3)) (ht : (pc : Int) + off = (tgt : Int)) (kt : a < 0 → W p l e R s m args below meth c H locs cells slots Q (F0 m tgt ls rest)) (kf : ¬ a < 0 → W p l e R s m args below meth c H locs cells slots Q (F0 m (pc + 3) ls rest)) : W p l e R s m args below meth c H locs cells slots Q (F0 m pc ls (.int (jI a) :: rest)) := lv_if_lt hx hb hdg ht (fun h => kt ((jI_lt ha (by omega)).mp (jI_0 ▸ h))) (fun h => kf (fun q => h (jI_0 ▸ (jI_lt ha (by omega)).mpr q)))
theorem x_if_ge (hx : p.tables.exec = Jvm.exec) (hb : c.code = cc) (ha : -2147483648 ≤ a ∧ a ≤ 2147483647) (hdg : decode cc pc = .ok (.ifCond .ge off, 3)) (ht : (pc : Int) + off = (tgt : Int)) (kt : 0 ≤ a → W p l e R s m args below meth c H locs cells slots Q (F0 m tgt ls rest)) (kf : ¬ 0 ≤ a → W p l e R s m args below meth c H locs cells slots Q (F0 m (pc + 3) ls rest)) : W p l e R s m args below meth c H locs cells slots Q (F0 m pc ls (.int (jI a) :: rest)) := lv_if_ge hx hb hdg ht (fun h => kt ((jI_le (by omega) ha).mp (jI_0 ▸ h))) (fun h => kf (fun q => h (jI_0 ▸ (jI_le (by omega) ha).mpr q)))
theorem x_if_gt (hx : p.tables.exec = Jvm.exec) (hb : c.code = cc) (ha : -2147483648 ≤ a ∧ a ≤ 2147483647) (hdg : decode cc pc = .ok (.ifCond .gt off, 3)) (ht : (pc : Int) + off = (tgt : Int)) (kt : 0 < a → W p l e R s m args below meth c H locs cells slots Q (F0 m tgt ls rest)) (kf : ¬ 0 < a → W p l e R s m args below meth c H locs cells slots Q (F0 m (pc + 3) ls rest)) : W p l e R s m args below meth c H locs cells slots Q (F0 m pc ls (.int (jI a) :: rest)) := lv_if_gt hx hb hdg ht (fun h => kt ((jI_lt (by omega) ha).mp (jI_0 ▸ h))) (fun h => kf (fun q => h (jI_0 ▸ (jI_lt (by omega) ha).mpr q)))
theorem x_if_le (hx : p.tables.exec = Jvm.exec) (hb : c.code = cc) (ha : -2147483648 ≤ a ∧ a ≤ 2147483647) (hdg : decode cc pc = .ok (.ifCond .le off, 3)) (ht : (pc : Int) + off = (tgt : Int)) (kt : a ≤ 0 → W p l e R s m args below meth c H locs cells slots Q (F0 m tgt ls rest)) (kf : ¬ a ≤ 0 → W p l e R s m args below meth c H locs cells slots Q (F0 m (pc + 3) ls rest)) : W p l e R s m args below meth c H locs cells slots Q (F0 m pc ls (.int (jI a) :: rest)) := lv_if_le hx hb hdg ht (fun h => kt ((jI_le ha (by omega)).mp (jI_0 ▸ h))) (fun h => kf (fun q => h (jI_0 ▸ (jI_le ha (by omega)).mpr q)))
theorem x_lcmp (hx : p.tables.exec = Jvm.exec) (hb : c.code = cc) (ha : -9223372036854775808 ≤ a ∧ a ≤ 9223372036854775807) (hb2 : -9223372036854775808 ≤ b ∧ b ≤ 9223372036854775807) (hdg : decode cc pc = .ok (.lcmp, 1)) (k : W p l e R s m args below meth c H locs cells slots Q (F0 m (pc + 1) ls (.int (jI (cmpZ a b)) :: rest))) : W p l e R s m args below meth c H locs cells slots Q (F0 m pc ls (.long (jL b) :: .long (jL a) :: rest)) := W.lcmp hx hb hdg (by rw [lg_cmpZ ha hb2]; exact k)
theorem x_if_eqT (hx : p.tables.exec = Jvm.exec) (hb : c.code = cc) (ha : -2147483648 ≤ a ∧ a ≤ 2147483647) (h : a = 0) (hdg : decode cc pc = .ok (.ifCond .eq off, 3)) (ht : (pc : Int) + off = (tgt : Int)) (kt : W p l e R s m args below meth c H locs cells slots Q (F0 m tgt ls rest)) : W p l e R s m args below meth c H locs cells slots Q (F0 m pc ls (.int (jI a) :: rest)) := x_if_eq hx hb ha hdg ht (fun _ => kt) (fun q => absurd h (by omega))
theorem x_if_eqF (hx : p.tables.exec = Jvm.exec) (hb : c.code = cc) (ha : -2147483648 ≤ a ∧ a ≤ 2147483647) (h : ¬ a = 0) (hdg : decode cc pc = .ok (.ifCond .eq off, 3)) (ht : (pc : Int) + off = (tgt : Int)) (kf : W p l e R s m args below meth c H locs cells slots Q (F0 m (pc + 3) ls rest)) : W p l e R s m args below meth c H locs cells slots Q (F0 m pc ls (.int (jI a) :: rest)) := x_if_eq hx hb ha hdg ht (fun q => absurd h (by omega)) (fun _ => kf)
theorem x_if_neT (hx : p.tables.exec = Jvm.exec) (hb : c.code = cc) (ha : -2147483648 ≤ a ∧ a ≤ 2147483647) (h : ¬ a = 0) (hdg : decode cc pc = .ok (.ifCond .ne off, 3)) (ht : (pc : Int) + off = (tgt : Int)) (kt : W p l e R s m args below meth c H locs cells slots Q (F0 m tgt ls rest)) : W p l e R s m args below meth c H locs cells slots Q (F0 m pc ls (.int (jI a) :: rest)) := x_if_ne hx hb ha hdg ht (fun _ => kt) (fun q => absurd h (by omega))
theorem x_if_neF (hx : p.tables.exec = Jvm.exec) (hb : c.code = cc) (ha : -2147483648 ≤ a ∧ a ≤ 2147483647) (h : a = 0) (hdg : decode cc pc = .ok (.ifCond .ne off, 3)) (ht : (pc : Int) + off = (tgt : Int)) (kf : W p l e R s m args below meth c H locs cells slots Q (F0 m (pc + 3) ls rest)) : W p l e R s m args below meth c H locs cells slots Q (F0 m pc ls (.int (jI a) :: rest)) := x_if_ne hx hb ha hdg ht (fun q => absurd h (by omega)) (fun _ => kf)
end XO
