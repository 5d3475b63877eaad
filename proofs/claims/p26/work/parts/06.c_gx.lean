/-! rows over a list of which the end is told -/
section GX
variable {p : Program} {l : Launch} {e : Env} {R : Room} {s : State} {m : MethodId} {args : Array Value} {below : List Frame} {meth : Method} {c : Code} {H H0 : Heap} {locs : List Loc} {cells slots : Nat} {Q : State → Prop}
variable {cc : ByteArray} {pc : Nat} {ls : Array Slot} {rest : List Value} {D : va_G} {tc : Nat → ClassId} {base : Nat} {u : St} {E G : va_W}
variable {own C : String} {T : u_T} {N ci index : Nat} {Ts : List Cond} {k t : Nat} {z : Int}
theorem g_new (hx : p.tables.exec = Jvm.exec) (hb : c.code = cc) (F : fctx s m args own Ts D tc C T N ci) {ty0 : Nat → FieldType} (Gt : tctx T N ty0) (hcl : (Cond.classLink own index C).before args s = true) (hinst : (Cond.instantiable C N).before args s = true) (hini : (Cond.initialized C).before args s = true)
    (hw : wx D tc base u (E ++ G) H) (hS : va_S (frA base) H0 H locs) (hbs : base ≤ H0.size) {fs : List Value} (hfs : ∀ j, j < N → defaultValue (ty0 j) = vp_V fs j) (hcells : cells + 1 ≤ R.cells) (hslots : slots + N ≤ R.slots) (hdg : decode cc pc = .ok (.new index, 3))
    (kk : ∀ (q : Nat) (H1 : Heap), wx D tc base u (E ++ (G ++ [(q, .inr (ci, fs))])) H1 → va_S (frA base) H0 H1 locs → W p l e R s m args below meth c H1 locs (cells + 1) (slots + N) Q (F0 m (pc + 3) ls (.ref q :: rest))) : W p l e R s m args below meth c H locs cells slots Q (F0 m pc ls rest) :=
  nx_new hx hb F Gt hcl hinst hini hw hS hbs hfs hcells hslots hdg (fun q H1 h => kk q H1 (by rw [← List.append_assoc]; exact h))
theorem g_newa (hx : p.tables.exec = Jvm.exec) (hb : c.code = cc) {atype : ArrayType} (harr : (Cond.arrayClass (newarray.typeOf atype)).before args s = true) {ty : FieldType} (hty : newarray.typeOf atype = ty) (hK : va_K D vwCl (tysL tc) s) (ht : (tysL tc)[t]? = some (tc t, ty))
    (hw : wx D tc base u (E ++ G) H) (hS : va_S (frA base) H0 H locs) (hbs : base ≤ H0.size) {a0 : vp_A} (ha : ∀ cA : ClassId, vp_cell cA a0 = arrV cA z.toNat (fun _ => defaultValue ty)) (h0 : 0 ≤ z) (h1 : z ≤ 10000) (hbytes : z.toNat * componentBytes ty ≤ 536870912) (hcells : cells + 1 ≤ R.cells) (hslots : slots + z.toNat ≤ R.slots) (hdg : decode cc pc = .ok (.newarray atype, 2))
    (kk : ∀ (q : Nat) (H1 : Heap), wx D tc base u (E ++ (G ++ [(q, .inl (tc t, a0))])) H1 → va_S (frA base) H0 H1 locs → W p l e R s m args below meth c H1 locs (cells + 1) (slots + z.toNat) Q (F0 m (pc + 2) ls (.ref q :: rest))) : W p l e R s m args below meth c H locs cells slots Q (F0 m pc ls (.int (jI z) :: rest)) :=
  nx_newa hx hb harr hty hK ht hw hS hbs ha h0 h1 hbytes hcells hslots hdg (fun q H1 h => kk q H1 (by rw [← List.append_assoc]; exact h))
theorem g_newq (hx : p.tables.exec = Jvm.exec) (hb : c.code = cc) (hown : s.vm.findClass own = some m.cls) (hclink : (Cond.classLink own index C).before args s = true) (hover : va_AO C s) (hK : va_K D vwCl (tysL tc) s) (ht : (tysL tc)[t]? = some (tc t, .object C))
    (hw : wx D tc base u (E ++ G) H) (hS : va_S (frA base) H0 H locs) (hbs : base ≤ H0.size) (h0 : 0 ≤ z) (h1 : z ≤ 10000) (hcells : cells + 1 ≤ R.cells) (hslots : slots + z.toNat ≤ R.slots) (hdg : decode cc pc = .ok (.anewarray index, 3))
    (kk : ∀ (q : Nat) (H1 : Heap), wx D tc base u (E ++ (G ++ [(q, .inl (tc t, z.toNat, .inr (.inr (.inr (.inr (fun _ => none))))))])) H1 → va_S (frA base) H0 H1 locs → W p l e R s m args below meth c H1 locs (cells + 1) (slots + z.toNat) Q (F0 m (pc + 3) ls (.ref q :: rest))) : W p l e R s m args below meth c H locs cells slots Q (F0 m pc ls (.int (jI z) :: rest)) :=
  nx_newq hx hb hown hclink hover hK ht hw hS hbs h0 h1 hcells hslots hdg (fun q H1 h => kk q H1 (by rw [← List.append_assoc]; exact h))
theorem g_putF (hx : p.tables.exec = Jvm.exec) (hb : c.code = cc) (F : fctx s m args own Ts D tc C T N ci) {ty0 : Nat → FieldType} (Gt : tctx T N ty0) (hw : wx D tc base u (E ++ G) H) (hS : va_S (frA base) H0 H locs) (e0 : Nat) {a : Nat} {fs : List Value} (he : G[e0]? = some (a, .inr (ci, fs))) (k : Nat) (hk : k < N)
    (hlink : (Cond.fieldLink own index (T k).1 (T k).2.1 (T k).2.2.1).before args s = true) (hfin : (T k).2.2.2 = true) (hin2 : meth.name = "<init>") (hdecl : (T k).1 = own) {ty : FieldType} {v : Value} (hd : parseFieldDescriptor (T k).2.2.1 = some ty) (hn : narrow ty v = v) (hfit : fits ty v = true) (hl : k < fs.length) (hdg : decode cc pc = .ok (.putfield index, 3))
    (kk : ∀ (H1 : Heap) (locs1 : List Loc), wx D tc base u (E ++ G.set e0 (a, .inr (ci, fs.set k v))) H1 → va_S (frA base) H0 H1 locs1 → W p l e R s m args below meth c H1 locs1 cells slots Q (F0 m (pc + 3) ls rest)) : W p l e R s m args below meth c H locs cells slots Q (F0 m pc ls (v :: .ref a :: rest)) := by
  have h2 := nx_set (W0 := E) (y := .inr (ci, fs.set k v)) he
  refine nx_putF hx hb F Gt hw hS _ h2.1 k hk hlink hfin hin2 hdecl hd hn hfit hl hdg (fun H1 locs1 h hS1 => ?_)
  rw [h2.2] at h
  exact kk H1 locs1 h hS1
theorem g_put (hx : p.tables.exec = Jvm.exec) (hb : c.code = cc) (F : fctx s m args own Ts D tc C T N ci) {ty0 : Nat → FieldType} (Gt : tctx T N ty0) (hw : wx D tc base u (E ++ G) H) (hS : va_S (frA base) H0 H locs) (e0 : Nat) {a : Nat} {fs : List Value} (he : G[e0]? = some (a, .inr (ci, fs))) (k : Nat) (hk : k < N)
    (hlink : (Cond.fieldLink own index (T k).1 (T k).2.1 (T k).2.2.1).before args s = true) (hfin : (T k).2.2.2 = false) {ty : FieldType} {v : Value} (hd : parseFieldDescriptor (T k).2.2.1 = some ty) (hn : narrow ty v = v) (hfit : fits ty v = true) (hl : k < fs.length) (hdg : decode cc pc = .ok (.putfield index, 3))
    (kk : ∀ (H1 : Heap) (locs1 : List Loc), wx D tc base u (E ++ G.set e0 (a, .inr (ci, fs.set k v))) H1 → va_S (frA base) H0 H1 locs1 → W p l e R s m args below meth c H1 locs1 cells slots Q (F0 m (pc + 3) ls rest)) : W p l e R s m args below meth c H locs cells slots Q (F0 m pc ls (v :: .ref a :: rest)) := by
  have h2 := nx_set (W0 := E) (y := .inr (ci, fs.set k v)) he
  refine nx_put hx hb F Gt hw hS _ h2.1 k hk hlink hfin hd hn hfit hl hdg (fun H1 locs1 h hS1 => ?_)
  rw [h2.2] at h
  exact kk H1 locs1 h hS1
end GX
