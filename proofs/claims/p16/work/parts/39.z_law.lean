/-! the law: what holds at its loop -/
def LI0 (q0 q1 q2 : Nat) (ad : Nat → Int → Nat) (cnt : Nat → Int) (X : Nat → Int → Int → Int) (Y : Nat → Int → Int → Option Int) (ln : Int → Int) : Prop := ad 0 0 = q0 ∧ ad 40 0 = q1 ∧ ad 100 0 = q2 ∧ Fx cnt ∧ Own cnt ∧ (0 ≤ cnt 25 ∧ 0 ≤ cnt 26) ∧ LnOK ln ∧ Rng X ∧ CInv cnt X Y ln ∧ cRv X ∧ MInv X
def LI (q0 q1 q2 : Nat) (ad : Nat → Int → Nat) (cnt : Nat → Int) (X : Nat → Int → Int → Int) (Y : Nat → Int → Int → Option Int) (ln : Int → Int) : Prop := LI0 q0 q1 q2 ad cnt X Y ln ∧ RC cnt X Y ln
section LIx
variable {M N : List Nat} {q0 q1 q2 : Nat} {ad ad1 : Nat → Int → Nat} {cnt cnt1 : Nat → Int} {X X1 : Nat → Int → Int → Int} {Y Y1 : Nat → Int → Int → Option Int} {ln ln1 : Int → Int}
abbrev okC (M : List Nat) : Prop := (∀ c ∈ mDep, c ∉ M) ∧ ∀ c ∈ [1100, 1200], c ∉ M
abbrev okM (M : List Nat) : Prop := (∀ c ∈ [2, 4, 1901, 1907, 701, 800, 2802], c ∉ M) ∧ ∀ c ∈ [1100, 1200], c ∉ M
theorem LI0.clsR (h : LI0 q0 q1 q2 ad cnt X Y ln) (hR1 : Rng X1) (hF : Frm M X X1) (hC : CInv cnt X1 Y1 ln) (hV : cRv X1) (hd : ∀ c ∈ mDep, c ∉ M) : LI0 q0 q1 q2 ad cnt X1 Y1 ln := by
  obtain ⟨a, b, c, d, e, f, g, -, -, -, k⟩ := h
  exact ⟨a, b, c, d, e, f, g, hR1, hC, hV, minv_frm k hF hd⟩
theorem LI0.cls (h : LI0 q0 q1 q2 ad cnt X Y ln) (hR1 : Rng X1) (hF : Frm M X X1) (hC : CInv cnt X1 Y1 ln) (hd : okC M) : LI0 q0 q1 q2 ad cnt X1 Y1 ln := h.clsR hR1 hF hC (h.2.2.2.2.2.2.2.2.2.1.frm hF hd.2) hd.1
theorem LI0.grow (h : LI0 q0 q1 q2 ad cnt X Y ln) (hE : Ext ad cnt ln ad1 cnt1 ln1) (hFx : Fx cnt1) (hOw : Own cnt1) (hLn : LnOK ln1) (hR1 : Rng X1) (hF : Frm M X X1) (hC : CInv cnt1 X1 Y1 ln1) (hd : okC M) : LI0 q0 q1 q2 ad1 cnt1 X1 Y1 ln1 := by
  obtain ⟨a, b, c, d, e, f, g, -, -, i, k⟩ := h
  have c0 : cnt 0 = 1 := d.at 0 1 (by decide)
  have c1 : cnt 40 = 1 := d.at 40 1 (by decide)
  have c2 : cnt 100 = 1 := d.at 100 1 (by decide)
  have m1 := hE.2.1 25
  have m2 := hE.2.1 26
  exact ⟨(hE.1 0 0 (by omega) (by omega)).trans a, (hE.1 40 0 (by omega) (by omega)).trans b, (hE.1 100 0 (by omega) (by omega)).trans c, hFx, hOw, ⟨by omega, by omega⟩, hLn, hR1, hC, i.frm hF hd.2, minv_frm k hF hd.1⟩
theorem LI0.mdl (h : LI0 q0 q1 q2 ad cnt X Y ln) (hR1 : Rng X1) (hF : Frm M X X1) (hM : MInv X1) (hd : okM M) : LI0 q0 q1 q2 ad cnt X1 Y ln := by
  obtain ⟨a, b, c, d, e, f, g, -, hC, i, -⟩ := h
  exact ⟨a, b, c, d, e, f, g, hR1, cinv_frm (M := M) (N := []) hC hF Frm.rf hd.1 (by decide), i.frm hF hd.2, hM⟩
end LIx
/-- the law's locals -/
def LV (b q0 q1 q2 : Nat) (i : Int) : List (Nat × Value) := [(0, .ref b), (1, .ref q0), (2, .ref q1), (3, .ref q2), (4, .int (jI i))]
def LK (p : Program) (l : Launch) (s : State) (m : MethodId) (c : Code) (b L : Nat) (xs : Nat → Int32) (D : va_G) (tc : Nat → ClassId) : Prop := p.tables.exec = Jvm.exec ∧ c.code = cL_law ∧ c.maxLocals = 8 ∧ s.vm.findClass RL = some m.cls ∧ (∀ w ∈ lw_tbl, w.before #[Value.ref b] s = true) ∧ va_X b L xs s s.heap ∧ b < s.heap.size ∧ Kx D tc s ∧ TK s.heap.size s s.heap ∧ l.stackTraces = false ∧ L ≤ 3584
/-- the machine comes to Q from pc, whatever the world is that the law's invariant holds of -/
def LAt (p : Program) (l : Launch) (e : Env) (s : State) (m : MethodId) (below : List Frame) (meth : Method) (c : Code) (b : Nat) (D : va_G) (tc : Nat → ClassId) (q0 q1 q2 : Nat) (i : Int) (Q : State → Prop) (pc cB sB : Nat) : Prop :=
  ∀ (ad : Nat → Int → Nat) (cnt : Nat → Int) (X : Nat → Int → Int → Int) (Y : Nat → Int → Int → Option Int) (ln : Int → Int) (H : Heap) (locs : List Loc) (ls : Array Slot) (cl sl : Nat), LI q0 q1 q2 ad cnt X Y ln → wd D tc s.heap.size (ad, cnt, X, Y, ln) H → va_S (frA s.heap.size) s.heap H locs → lv_has ls 8 (LV b q0 q1 q2 i) → cl ≤ cB → sl ≤ sB → W p l e room_1 s m #[Value.ref b] below meth c H locs cl sl Q (F0 m pc ls [])
section LR
variable {p : Program} {l : Launch} {e : Env} {s : State} {m : MethodId} {below : List Frame} {meth : Method} {c : Code} {b L : Nat} {xs : Nat → Int32} {D : va_G} {tc : Nat → ClassId} {H : Heap} {locs : List Loc} {cells slots : Nat} {Q : State → Prop} {pc pc2 : Nat} {ls : Array Slot} {rest : List Value} {q0 q1 q2 : Nat} {i k a : Int} {R : Room}
theorem l_topl {args : Array Value} {x : Int64} (kk : ∀ v : Int, (-9223372036854775808 ≤ v ∧ v ≤ 9223372036854775807) → x = jL v → W p l e R s m args below meth c H locs cells slots Q (F0 m pc ls (.long (jL v) :: rest))) : W p l e R s m args below meth c H locs cells slots Q (F0 m pc ls (.long x :: rest)) := by
  obtain ⟨z, hz, rfl⟩ := jL_of x
  exact kk z hz rfl
theorem l_topt {args : Array Value} {x : Int64} {v : Int} (ev : x = jL v) (kk : W p l e R s m args below meth c H locs cells slots Q (F0 m pc ls (.long (jL v) :: rest))) : W p l e R s m args below meth c H locs cells slots Q (F0 m pc ls (.long x :: rest)) := by
  rw [ev]; exact kk
theorem sc_at (xs : Nat → Int32) (i k : Int) : ∃ a : Int, xs (jI (i + k)).toNatClampNeg = jI a ∧ (-2147483648 ≤ a ∧ a ≤ 2147483647) := by
  obtain ⟨z, hz, ez⟩ := jI_of (xs (jI (i + k)).toNatClampNeg)
  exact ⟨z, ez, hz⟩
/-- an int of the script -/
theorem l_arg (C : LK p l s m c b L xs D tc) (hS : va_S (frA s.heap.size) s.heap H locs) (hl : lv_has ls 8 (LV b q0 q1 q2 i)) (hi : 0 ≤ i ∧ i + 7 ≤ L) (hk : 0 ≤ k ∧ k ≤ 6) (ea : xs (jI (i + k)).toNatClampNeg = jI a) (d1 : decode cL_law pc = .ok (.aload_n 0, 1)) (d2 : decode cL_law (pc + 1) = .ok (.iload 4, 2))
    (hc : W p l e R s m #[Value.ref b] below meth c H locs cells slots Q (F0 m pc2 ls (.int (jI k) :: .int (jI i) :: .ref b :: rest)) → W p l e R s m #[Value.ref b] below meth c H locs cells slots Q (F0 m (pc + 3) ls (.int (jI i) :: .ref b :: rest)))
    (d4 : decode cL_law pc2 = .ok (.iadd, 1)) (d5 : decode cL_law (pc2 + 1) = .ok (.iaload, 1)) (kk : W p l e R s m #[Value.ref b] below meth c H locs cells slots Q (F0 m (pc2 + 2) ls (.int (jI a) :: rest))) : W p l e R s m #[Value.ref b] below meth c H locs cells slots Q (F0 m pc ls rest) := by
  obtain ⟨hx, hb, hml, hown, hts, hX, hbl, hK, hT, hlT, hL⟩ := C
  refine lv_aload_n hx hb d1 rfl (lv_at hl 0 rfl) ?_
  refine lv_iload hx hb d2 (lv_at hl 4 rfl) ?_
  refine hc ?_
  refine x_iadd hx hb d4 ?_
  refine va_sld hx hb hX hbl (Nat.not_le.mpr hbl) hS (jI_in (by omega) (by omega) (by omega)) d5 ?_
  rw [ea]
  exact kk
theorem l_bool (C : LK p l s m c b L xs D tc) (ha : -2147483648 ≤ a ∧ a ≤ 2147483647) (d1 : decode cL_law pc = .ok (.ifCond .eq 7, 3)) (d2 : decode cL_law (pc + 3) = .ok (.iconst 1, 1)) (d3 : decode cL_law (pc + 4) = .ok (.goto 4, 3)) (d4 : decode cL_law (pc + 7) = .ok (.iconst 0, 1))
    (kk : ∀ z : Int, (0 ≤ z ∧ z ≤ 1) → ((a = 0 ∧ z = 0) ∨ (a ≠ 0 ∧ z = 1)) → W p l e R s m #[Value.ref b] below meth c H locs cells slots Q (F0 m (pc + 8) ls (.int (jI z) :: rest))) : W p l e R s m #[Value.ref b] below meth c H locs cells slots Q (F0 m pc ls (.int (jI a) :: rest)) := by
  have hx := C.1
  have hb := C.2.1
  refine x_if_eq (tgt := pc + 7) hx hb ha d1 (by omega) (fun h => ?_) (fun h => ?_)
  · exact lv_iconst (v := jI 0) hx hb d4 rfl (kk 0 (by omega) (Or.inl ⟨h, rfl⟩))
  · refine lv_iconst (v := jI 1) hx hb d2 rfl ?_
    refine lv_goto (tgt := pc + 8) hx hb d3 (by omega) ?_
    exact kk 1 (by omega) (Or.inr ⟨h, rfl⟩)
theorem LK.c32 (C : LK p l s m c b L xs D tc) : (Cond.constantLong RL 32 4294967295).before #[Value.ref b] s = true := C.2.2.2.2.1 _ (List.mem_of_getElem? (i := 1138) (by decide +kernel))
end LR

