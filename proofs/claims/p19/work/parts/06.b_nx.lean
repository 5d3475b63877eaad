section
/-! rows: what is made -/
theorem va_RA_inj {U : State} {a b : ClassId} {ty : FieldType} (h1 : va_RA U a ty) (h2 : va_RA U b ty) : a = b := by
  cases ty with
  | object C =>
    obtain ⟨_, _, -, -, -, e1⟩ := h1
    obtain ⟨_, _, -, -, -, e2⟩ := h2
    exact Option.some.inj (e1.symm.trans e2)
  | _ => exact Option.some.inj (h1.symm.trans h2)
theorem jI_nn {z : Int} (h0 : 0 ≤ z) (h1 : z ≤ 2147483647) : ¬ jI z < 0 := by
  rw [jI_0, jI_lt (by omega) (by omega)]
  omega
theorem jI_tn {z : Int} (h0 : 0 ≤ z) (h1 : z ≤ 2147483647) : (jI z).toNatClampNeg = z.toNat := by
  have := jI_cl h0 h1
  omega
section NX
variable {p : Program} {l : Launch} {e : Env} {R : Room} {s : State} {m : MethodId} {args : Array Value} {below : List Frame} {meth : Method} {c : Code} {H H0 : Heap} {locs : List Loc} {cells slots : Nat} {Q : State → Prop}
variable {cc : ByteArray} {pc : Nat} {ls : Array Slot} {rest : List Value} {D : va_G} {tc : Nat → ClassId} {base : Nat} {u : St} {E : va_W}
variable {own C : String} {T : u_T} {N ci index : Nat} {Ts : List Cond} {k t : Nat} {z : Int}
theorem nx_new (hx : p.tables.exec = Jvm.exec) (hb : c.code = cc) (F : fctx s m args own Ts D tc C T N ci) {ty0 : Nat → FieldType} (G : tctx T N ty0) (hcl : (Cond.classLink own index C).before args s = true) (hinst : (Cond.instantiable C N).before args s = true) (hini : (Cond.initialized C).before args s = true)
    (hw : wx D tc base u E H) (hS : va_S (frA base) H0 H locs) (hbs : base ≤ H0.size) {fs : List Value} (hfs : ∀ j, j < N → defaultValue (ty0 j) = vp_V fs j) (hcells : cells + 1 ≤ R.cells) (hslots : slots + N ≤ R.slots) (hdg : decode cc pc = .ok (.new index, 3))
    (kk : ∀ (q : Nat) (H1 : Heap), wx D tc base u (E ++ [(q, .inr (ci, fs))]) H1 → va_S (frA base) H0 H1 locs → W p l e R s m args below meth c H1 locs (cells + 1) (slots + N) Q (F0 m (pc + 3) ls (.ref q :: rest))) : W p l e R s m args below meth c H locs cells slots Q (F0 m pc ls rest) := by
  obtain ⟨hts, hin, hown, hK, hc⟩ := F
  obtain ⟨⟨RL, h1, hP, hD⟩, hrf, hz⟩ := hw
  refine va_new hx hb hts hin ty0 G.1 hown hcl hinst hini hK hP hD hS (fun q h => Nat.le_trans hbs h) hc hfs hcells hslots hdg (fun q H1 hP1 hD1 hS1 => kk q H1 ⟨⟨RL, h1, ?_, ?_⟩, hrf, Nat.le_trans hbs hS1.1⟩ hS1)
  · rw [← List.append_assoc]; exact hP1
  · rw [← List.append_assoc]; exact hD1
theorem nx_newa (hx : p.tables.exec = Jvm.exec) (hb : c.code = cc) {atype : ArrayType} (harr : (Cond.arrayClass (newarray.typeOf atype)).before args s = true) {ty : FieldType} (hty : newarray.typeOf atype = ty) (hK : va_K D vwCl (tysL tc) s) (ht : (tysL tc)[t]? = some (tc t, ty))
    (hw : wx D tc base u E H) (hS : va_S (frA base) H0 H locs) (hbs : base ≤ H0.size) {a0 : vp_A} (ha : ∀ cA : ClassId, vp_cell cA a0 = arrV cA z.toNat (fun _ => defaultValue ty)) (h0 : 0 ≤ z) (h1 : z ≤ 10000) (hbytes : z.toNat * componentBytes ty ≤ 536870912) (hcells : cells + 1 ≤ R.cells) (hslots : slots + z.toNat ≤ R.slots) (hdg : decode cc pc = .ok (.newarray atype, 2))
    (kk : ∀ (q : Nat) (H1 : Heap), wx D tc base u (E ++ [(q, .inl (tc t, a0))]) H1 → va_S (frA base) H0 H1 locs → W p l e R s m args below meth c H1 locs (cells + 1) (slots + z.toNat) Q (F0 m (pc + 2) ls (.ref q :: rest))) : W p l e R s m args below meth c H locs cells slots Q (F0 m pc ls (.int (jI z) :: rest)) := by
  obtain ⟨⟨RL, h2, hP, hD⟩, hrf, hz⟩ := hw
  refine va_newa hx hb harr hty hK hP hD hS (fun q h => Nat.le_trans hbs h) ha (jI_nn h0 (by omega)) (jI_tn h0 (by omega)) hbytes hcells hslots hdg (fun q cA H1 hK1 hP1 hD1 hS1 => ?_)
  have hc : cA = tc t := va_RA_inj (hK1.2 (tysL tc).length (cA, ty) (by simp)).2 (hK.2 t _ ht).2
  subst hc
  refine kk q H1 ⟨⟨RL, h2, ?_, ?_⟩, hrf, Nat.le_trans hbs hS1.1⟩ hS1
  · rw [← List.append_assoc]; exact hP1
  · rw [← List.append_assoc]; exact hD1
theorem nx_newq (hx : p.tables.exec = Jvm.exec) (hb : c.code = cc) (hown : s.vm.findClass own = some m.cls) (hclink : (Cond.classLink own index C).before args s = true) (hover : va_AO C s) (hK : va_K D vwCl (tysL tc) s) (ht : (tysL tc)[t]? = some (tc t, .object C))
    (hw : wx D tc base u E H) (hS : va_S (frA base) H0 H locs) (hbs : base ≤ H0.size) (h0 : 0 ≤ z) (h1 : z ≤ 10000) (hcells : cells + 1 ≤ R.cells) (hslots : slots + z.toNat ≤ R.slots) (hdg : decode cc pc = .ok (.anewarray index, 3))
    (kk : ∀ (q : Nat) (H1 : Heap), wx D tc base u (E ++ [(q, .inl (tc t, z.toNat, .inr (.inr (.inr (.inr (fun _ => none))))))]) H1 → va_S (frA base) H0 H1 locs → W p l e R s m args below meth c H1 locs (cells + 1) (slots + z.toNat) Q (F0 m (pc + 3) ls (.ref q :: rest))) : W p l e R s m args below meth c H locs cells slots Q (F0 m pc ls (.int (jI z) :: rest)) := by
  obtain ⟨⟨RL, h2, hP, hD⟩, hrf, hz⟩ := hw
  refine va_newq hx hb hown hclink hover hK hP hD hS (fun q h => Nat.le_trans hbs h) (jI_nn h0 (by omega)) (jI_tn h0 (by omega)) (by omega) hcells hslots hdg (fun q cA H1 hK1 hP1 hD1 hS1 => ?_)
  have hc : cA = tc t := va_RA_inj (hK1.2 (tysL tc).length (cA, .object C) (by simp)).2 (hK.2 t _ ht).2
  subst hc
  refine kk q H1 ⟨⟨RL, h2, ?_, ?_⟩, hrf, Nat.le_trans hbs hS1.1⟩ hS1
  · rw [← List.append_assoc]; exact hP1
  · rw [← List.append_assoc]; exact hD1
theorem nx_set {a : Nat} {x y : va_E} {e0 : Nat} {W0 : va_W} (he : E[e0]? = some (a, x)) : (W0 ++ E)[W0.length + e0]? = some (a, x) ∧ (W0 ++ E).set (W0.length + e0) (a, y) = W0 ++ E.set e0 (a, y) := by
  constructor
  · rw [List.getElem?_append_right (by omega)]
    simpa using he
  · rw [List.set_append_right _ _ (by omega)]
    congr 2
    omega
/-- a final field, in the constructor -/
theorem nx_putF (hx : p.tables.exec = Jvm.exec) (hb : c.code = cc) (F : fctx s m args own Ts D tc C T N ci) {ty0 : Nat → FieldType} (G : tctx T N ty0) (hw : wx D tc base u E H) (hS : va_S (frA base) H0 H locs) (e0 : Nat) {a : Nat} {fs : List Value} (he : E[e0]? = some (a, .inr (ci, fs))) (k : Nat) (hk : k < N)
    (hlink : (Cond.fieldLink own index (T k).1 (T k).2.1 (T k).2.2.1).before args s = true) (hfin : (T k).2.2.2 = true) (hin2 : meth.name = "<init>") (hdecl : (T k).1 = own) {ty : FieldType} {v : Value} (hd : parseFieldDescriptor (T k).2.2.1 = some ty) (hn : narrow ty v = v) (hfit : fits ty v = true) (hl : k < fs.length) (hdg : decode cc pc = .ok (.putfield index, 3))
    (kk : ∀ (H1 : Heap) (locs1 : List Loc), wx D tc base u (E.set e0 (a, .inr (ci, fs.set k v))) H1 → va_S (frA base) H0 H1 locs1 → W p l e R s m args below meth c H1 locs1 cells slots Q (F0 m (pc + 3) ls rest)) : W p l e R s m args below meth c H locs cells slots Q (F0 m pc ls (v :: .ref a :: rest)) := by
  obtain ⟨hts, hin, hown, hK, hc⟩ := F
  obtain ⟨⟨RL, h1, hP, hD⟩, hrf, hz⟩ := hw
  have h2 := nx_set (W0 := wlE tc u.1 u.2.2.1 u.2.2.2.1 u.2.2.2.2 RL) (y := .inr (ci, fs.set k v)) he
  refine va_putF hx hb hts hin ty0 G.1 G.2 hown hK hP hD hS _ h2.1 hc k hk hlink (fun _ h => h) hfin hin2 hdecl hd hn hfit hl hdg (fun H1 locs1 hP1 hD1 hS1 => ?_)
  rw [h2.2] at hP1 hD1
  exact kk H1 locs1 ⟨⟨RL, h1, hP1, hD1⟩, hrf, by have := hS1.1; have h6 : base ≤ a := hD.2 _ _ h2.1; have h7 := (hP1 _ _ (nx_set (W0 := wlE tc u.1 u.2.2.1 u.2.2.2.1 u.2.2.2.2 RL) (E := E.set e0 (a, .inr (ci, fs.set k v))) (e0 := e0) (a := a) (x := .inr (ci, fs.set k v)) (y := .inr (ci, fs)) (by rw [List.getElem?_set_self (List.getElem?_eq_some_iff.mp he).1])).1).lt; dsimp only at h7; omega⟩ hS1
theorem nx_put (hx : p.tables.exec = Jvm.exec) (hb : c.code = cc) (F : fctx s m args own Ts D tc C T N ci) {ty0 : Nat → FieldType} (G : tctx T N ty0) (hw : wx D tc base u E H) (hS : va_S (frA base) H0 H locs) (e0 : Nat) {a : Nat} {fs : List Value} (he : E[e0]? = some (a, .inr (ci, fs))) (k : Nat) (hk : k < N)
    (hlink : (Cond.fieldLink own index (T k).1 (T k).2.1 (T k).2.2.1).before args s = true) (hfin : (T k).2.2.2 = false) {ty : FieldType} {v : Value} (hd : parseFieldDescriptor (T k).2.2.1 = some ty) (hn : narrow ty v = v) (hfit : fits ty v = true) (hl : k < fs.length) (hdg : decode cc pc = .ok (.putfield index, 3))
    (kk : ∀ (H1 : Heap) (locs1 : List Loc), wx D tc base u (E.set e0 (a, .inr (ci, fs.set k v))) H1 → va_S (frA base) H0 H1 locs1 → W p l e R s m args below meth c H1 locs1 cells slots Q (F0 m (pc + 3) ls rest)) : W p l e R s m args below meth c H locs cells slots Q (F0 m pc ls (v :: .ref a :: rest)) := by
  obtain ⟨hts, hin, hown, hK, hc⟩ := F
  obtain ⟨⟨RL, h1, hP, hD⟩, hrf, hz⟩ := hw
  have h2 := nx_set (W0 := wlE tc u.1 u.2.2.1 u.2.2.2.1 u.2.2.2.2 RL) (y := .inr (ci, fs.set k v)) he
  refine va_put hx hb hts hin ty0 G.1 G.2 hown hK hP hD hS _ h2.1 hc k hk hlink (fun _ h => h) hfin hd hn hfit hl hdg (fun H1 locs1 hP1 hD1 hS1 => ?_)
  rw [h2.2] at hP1 hD1
  exact kk H1 locs1 ⟨⟨RL, h1, hP1, hD1⟩, hrf, by have h6 : base ≤ a := hD.2 _ _ h2.1; have h7 := (hP1 _ _ (nx_set (W0 := wlE tc u.1 u.2.2.1 u.2.2.2.1 u.2.2.2.2 RL) (E := E.set e0 (a, .inr (ci, fs.set k v))) (e0 := e0) (a := a) (x := .inr (ci, fs.set k v)) (y := .inr (ci, fs)) (by rw [List.getElem?_set_self (List.getElem?_eq_some_iff.mp he).1])).1).lt; dsimp only at h7; omega⟩ hS1
end NX
/-! contracts of constructors -/
def PcX (D : va_G) (tc : Nat → ClassId) (base : Nat) (u : St) (E : va_W) (av : List Value) : Array Value → State → Prop := va_Pc av (fun U => wx D tc base u E U.heap ∧ Kx D tc U)
theorem PcX.blind {D : va_G} {tc : Nat → ClassId} {base : Nat} {u : St} {E : va_W} {av : List Value} : FrameBlind (PcX D tc base u E av) := fun a U g mk q => ⟨q.1, q.2.1, q.2.2.call⟩
def QX (D : va_G) (tc : Nat → ClassId) (base : Nat) (post : St → va_W → Prop) : Array Value → State → Outcome → State → Prop := va_Qv (fun (q : St × va_W) => post q.1 q.2) (fun q t => wx D tc base q.1 q.2 t.heap) (frA base)
def KC (l : Launch) (D : va_G) (tc : Nat → ClassId) (base : Nat) (y : MethodName) (ws : List Cond) (rm : Room) (av : List Value) (u : St) (E : va_W) (mc ms : Nat) (post : St → va_W → Prop) : Prop := Met l y ws rm (PcX D tc base u E av) (QX D tc base post) mc ms (frA base)
theorem KC_of {l : Launch} {D : va_G} {tc : Nat → ClassId} {base : Nat} {y : MethodName} {ws ws' : List Cond} {rm : Room} {av : List Value} {u : St} {E : va_W} {mc ms : Nat} {Qc : Array Value → State → Outcome → State → Prop} {cc : ByteArray} {maxL : Nat} {ret : Option FieldType}
    (hy : plainName y.cls = true) (hw : ws = Cond.code y cc maxL ret :: ws') (hsl : (lg_sl av).length ≤ maxL)
    (body : ∀ (p : Program) (e : Env) (s : State) (m : MethodId) (below : List Frame) (meth : Method) (c : Code) (ls : Array Slot), p.tables.exec = Jvm.exec → c.code = cc → meth.sig.returnType = ret → c.maxLocals = maxL → s.vm.findClass y.cls = some m.cls → (∀ w ∈ ws, w.before av.toArray s = true) → meth.locks = false → meth.name = y.name → lv_has ls maxL (lv_args 0 av) → Kx D tc s → wx D tc base u E s.heap → va_S (frA base) s.heap s.heap [] →
      W p l e rm s m av.toArray below meth c s.heap [] 0 0 (MQ below Qc av.toArray s mc ms (frA base)) (F0 m 0 ls [])) : Met l y ws rm (PcX D tc base u E av) Qc mc ms (frA base) := by
  refine Met.ofW (cc := cc) (maxL := maxL) (ret := ret) hy hw ?_
  intro p e s m args below meth c s₁ B hml hv
  obtain ⟨rfl, hW, hK⟩ := hv
  have hl := lv_entry av (n := maxL) hsl
  rw [lg_entry_eq]
  exact body p e s m below meth c _ B.exec B.bytes B.returns hml (findClass_of_methodNamed B.named) (atoms_spec (ws := ws) B.pre) B.notSynchronized (name_of_methodNamed B.named B.method).1 hl hK hW va_S.rf
section NC
variable {p : Program} {l : Launch} {e : Env} {R : Room} {s : State} {m : MethodId} {args : Array Value} {below : List Frame} {meth : Method} {c : Code} {H H0 : Heap} {locs : List Loc} {cells slots : Nat} {Q : State → Prop}
variable {cc bytes : ByteArray} {pc nL maxL mc ms n index : Nat} {ls : Array Slot} {rest st0 As : List Value} {D : va_G} {tc : Nat → ClassId} {base b : Nat} {u u' : St} {E E' : va_W}
variable {own C host : String} {Ts ws : List Cond} {rm : Room} {y : MethodName}
theorem ret_x {post : St → va_W → Prop} (hx : p.tables.exec = Jvm.exec) (hb : c.code = cc) (hr : meth.sig.returnType = none) (hlocks : meth.locks = false) (hw : wx D tc base u' E' H) (hS : va_S (frA base) s.heap H locs) (h1 : cells ≤ mc) (h2 : slots ≤ ms) (hdg : decode cc pc = .ok (.return_, 1)) (hp : post u' E') :
    W p l e R s m args below meth c H locs cells slots (MQ below (QX D tc base post) args s mc ms (frA base)) (F0 m pc ls []) := by
  refine W.widen (k := mc) (n := ms) h1 h2 ?_
  exact W.vret hx hb hr (fun t ht hW => ⟨⟨(u', E'), rfl, hp, by show wx D tc base u' E' t.heap; rw [ht]; exact hw⟩, hS.F ht⟩) hS.2.2 hdg
theorem gos_x {post : St → va_W → Prop} {av : Array Value} (hr : va_Run p l e R s m args below meth c H locs cells slots mc ms (F0 m pc ls st0) rest (QX D tc base post av) (frA base)) (hS : va_S (frA base) H0 H locs)
    (kk : ∀ (u' : St) (E' : va_W) (H1 : Heap) (locs1 : List Loc), post u' E' → wx D tc base u' E' H1 → va_S (frA base) H0 H1 locs1 → W p l e R s m args below meth c H1 locs1 (cells + mc) (slots + ms) Q (F0 m (pc + 3) ls rest)) : W p l e R s m args below meth c H locs cells slots Q (F0 m pc ls st0) := by
  refine va_callv hr hS (fun q _ h => h) (fun q h => h) (fun u1 t H1 locs1 ht hvm hp hB _ _ hS1 => ?_)
  rw [ht] at hB
  exact kk u1.1 u1.2 H1 locs1 hp hB hS1
theorem run_I {Qc : Array Value → State → Outcome → State → Prop} (hx : p.tables.exec = Jvm.exec) (hb : c.code = cc) (hml : c.maxLocals = nL) (hown : s.vm.findClass own = some m.cls) (hts : ∀ w ∈ Ts, w.before args s = true) (hM : Met l y ws rm (PcX D tc base u E (.ref b :: As)) Qc mc ms (frA base)) (cw : CallB R s args own index y bytes maxL none ws rm mc ms n ∧ y.name = "<init>" ∧ (Cond.instanceMethod y).before args s = true)
    (hK : Kx D tc s) (hw : wx D tc base u E H) (hn : As.length = n) (hl : ls.size = nL) (hstack : st0 = As.reverse ++ .ref b :: rest) (hrm : (rest.map fun v => v.category).sum ≤ 8) (hdg : decode cc pc = .ok (.invokespecial index, 3)) (hf : cells + mc ≤ R.cells ∧ slots + ms ≤ R.slots) :
    va_Run p l e R s m args below meth c H locs cells slots mc ms (F0 m pc ls st0) rest (Qc (Value.ref b :: As).toArray) (frA base) :=
  va_runI ⟨hx, hb, hml, hown, hts⟩ hM cw ⟨PcX.blind, fun U hU hW => ⟨rfl, by rw [hU]; exact hw, hK.warm hW⟩⟩ rfl hn hl hstack (lv_room hrm) hdg hf
theorem run_IN {Qc : Array Value → State → Outcome → State → Prop} (hx : p.tables.exec = Jvm.exec) (hb : c.code = cc) (hml : c.maxLocals = nL) (hown : s.vm.findClass own = some m.cls) (hts : ∀ w ∈ Ts, w.before args s = true) (hM : Met l y ws rm (PcX D tc base u E (.ref b :: As)) Qc mc ms (frA base)) (cw : va_CN R s args own index y host bytes maxL none ws rm mc ms n ∧ y.name = "<init>" ∧ (Cond.instanceMethod y).before args s = true)
    (hK : Kx D tc s) (hw : wx D tc base u E H) (hn : As.length = n) (hl : ls.size = nL) (hstack : st0 = As.reverse ++ .ref b :: rest) (hrm : (rest.map fun v => v.category).sum ≤ 8) (hdg : decode cc pc = .ok (.invokespecial index, 3)) (hf : cells + mc ≤ R.cells ∧ slots + ms ≤ R.slots) :
    va_Run p l e R s m args below meth c H locs cells slots mc ms (F0 m pc ls st0) rest (Qc (Value.ref b :: As).toArray) (frA base) :=
  va_runIN ⟨hx, hb, hml, hown, hts⟩ hM cw ⟨PcX.blind, fun U hU hW => ⟨rfl, by rw [hU]; exact hw, hK.warm hW⟩⟩ rfl hn hl hstack (lv_room hrm) hdg hf
end NC
end
section
/-! rows over a list of which the end is told -/
section GX
variable {p : Program} {l : Launch} {e : Env} {R : Room} {s : State} {m : MethodId} {args : Array Value} {below : List Frame} {meth : Method} {c : Code} {H H0 : Heap} {locs : List Loc} {cells slots : Nat} {Q : State → Prop}
variable {cc : ByteArray} {pc : Nat} {ls : Array Slot} {rest : List Value} {D : va_G} {tc : Nat → ClassId} {base : Nat} {u : St} {E G : va_W}
variable {own C : String} {T : u_T} {N ci index : Nat} {Ts : List Cond} {k t : Nat} {z : Int}
theorem g_new (hx : p.tables.exec = Jvm.exec) (hb : c.code = cc) (F : fctx s m args own Ts D tc C T N ci) {ty0 : Nat → FieldType} (Gt : tctx T N ty0) (hcl : (Cond.classLink own index C).before args s = true) (hinst : (Cond.instantiable C N).before args s = true) (hini : (Cond.initialized C).before args s = true)
    (hw : wx D tc base u (E ++ G) H) (hS : va_S (frA base) H0 H locs) (hbs : base ≤ H0.size) {fs : List Value} (hfs : ∀ j, j < N → defaultValue (ty0 j) = vp_V fs j) (hcells : cells + 1 ≤ R.cells) (hslots : slots + N ≤ R.slots) (hdg : decode cc pc = .ok (.new index, 3))
    (kk : ∀ (q : Nat) (H1 : Heap), wx D tc base u (E ++ (G ++ [(q, .inr (ci, fs))])) H1 → va_S (frA base) H0 H1 locs → W p l e R s m args below meth c H1 locs (cells + 1) (slots + N) Q (F0 m (pc + 3) ls (.ref q :: rest))) : W p l e R s m args below meth c H locs cells slots Q (F0 m pc ls rest) :=
  nx_new hx hb F Gt hcl hinst hini hw hS hbs hfs hcells hslots hdg (fun q H1 h => kk q H1 (by rw [← List.append_assoc]; exact h))
theorem g_newa (hx : p.tables.exec = Jvm.exec) (hb : c.code = cc) {atype : ArrayType} (harr : (Cond.arrayClass (newarray.typeOf atype)).before args s = true) {ty : FieldType} (hty : newarray.typeOf atype = ty) (hK : va_K D vwCl (tysL tc) s) (ht : (tysL tc)[t]? = some (tc t, ty))
    (hw : wx D tc base u (E ++ G) H) (hS : va_S (frA base) H0 H locs) (hbs : base ≤ H0.size) {a0 : vp_A} (ha : ∀ cA : ClassId, vp_cell cA a0 = arrV cA z.toNat (fun _ => defaultValue ty)) (h0 : 0 ≤ z) (h1 : z ≤ 10000) (hbytes : z.toNat * componentBytes ty ≤ 536870912) (hcells : cells + 1 ≤ R.cells) (hslots : slots + z.toNat ≤ R.slots) (hdg : decode cc pc = .ok (.newarray atype, 2))
    (kk : ∀ (q : Nat) (H1 : Heap), wx D tc base u (E ++ (G ++ [(q, .inl (tc t, a0))])) H1 → va_S (frA base) H0 H1 locs → W p l e R s m args below meth c H1 locs (cells + 1) (slots + z.toNat) Q (F0 m (pc + 2) ls (.ref q :: rest))) : W p l e R s m args below meth c H locs cells slots Q (F0 m pc ls (.int (jI z) :: rest)) :=
  nx_newa hx hb harr hty hK ht hw hS hbs ha h0 h1 hbytes hcells hslots hdg (fun q H1 h => kk q H1 (by rw [← List.append_assoc]; exact h))
theorem g_newq (hx : p.tables.exec = Jvm.exec) (hb : c.code = cc) (hown : s.vm.findClass own = some m.cls) (hclink : (Cond.classLink own index C).before args s = true) (hover : va_AO C s) (hK : va_K D vwCl (tysL tc) s) (ht : (tysL tc)[t]? = some (tc t, .object C))
    (hw : wx D tc base u (E ++ G) H) (hS : va_S (frA base) H0 H locs) (hbs : base ≤ H0.size) (h0 : 0 ≤ z) (h1 : z ≤ 10000) (hcells : cells + 1 ≤ R.cells) (hslots : slots + z.toNat ≤ R.slots) (hdg : decode cc pc = .ok (.anewarray index, 3))
    (kk : ∀ (q : Nat) (H1 : Heap), wx D tc base u (E ++ (G ++ [(q, .inl (tc t, z.toNat, .inr (.inr (.inr (.inr (fun _ => none))))))])) H1 → va_S (frA base) H0 H1 locs → W p l e R s m args below meth c H1 locs (cells + 1) (slots + z.toNat) Q (F0 m (pc + 3) ls (.ref q :: rest))) : W p l e R s m args below meth c H locs cells slots Q (F0 m pc ls (.int (jI z) :: rest)) :=
  nx_newq hx hb hown hclink hover hK ht hw hS hbs h0 h1 hcells hslots hdg (fun q H1 h => kk q H1 (by rw [← List.append_assoc]; exact h))
theorem g_putF (hx : p.tables.exec = Jvm.exec) (hb : c.code = cc) (F : fctx s m args own Ts D tc C T N ci) {ty0 : Nat → FieldType} (Gt : tctx T N ty0) (hw : wx D tc base u (E ++ G) H) (hS : va_S (frA base) H0 H locs) (e0 : Nat) {a : Nat} {fs : List Value} (he : G[e0]? = some (a, .inr (ci, fs))) (k : Nat) (hk : k < N)
    (hlink : (Cond.fieldLink own index (T k).1 (T k).2.1 (T k).2.2.1).before args s = true) (hfin : (T k).2.2.2 = true) (hin2 : meth.name = "<init>") (hdecl : (T k).1 = own) {ty : FieldType} {v : Value} (hd : parseFieldDescriptor (T k).2.2.1 = some ty) (hn : narrow ty v = v) (hfit : fits ty v = true) (hl : k < fs.length) (hdg : decode cc pc = .ok (.putfield index, 3))
    (kk : ∀ (H1 : Heap) (locs1 : List Loc), wx D tc base u (E ++ G.set e0 (a, .inr (ci, fs.set k v))) H1 → va_S (frA base) H0 H1 locs1 → W p l e R s m args below meth c H1 locs1 cells slots Q (F0 m (pc + 3) ls rest)) : W p l e R s m args below meth c H locs cells slots Q (F0 m pc ls (v :: .ref a :: rest)) := by
  have h2 := nx_set (W0 := E) (y := .inr (ci, fs.set k v)) he
  refine nx_putF hx hb F Gt hw hS _ h2.1 k hk hlink hfin hin2 hdecl hd hn hfit hl hdg (fun H1 locs1 h hS1 => ?_)
  rw [h2.2] at h
  exact kk H1 locs1 h hS1
theorem g_put (hx : p.tables.exec = Jvm.exec) (hb : c.code = cc) (F : fctx s m args own Ts D tc C T N ci) {ty0 : Nat → FieldType} (Gt : tctx T N ty0) (hw : wx D tc base u (E ++ G) H) (hS : va_S (frA base) H0 H locs) (e0 : Nat) {a : Nat} {fs : List Value} (he : G[e0]? = some (a, .inr (ci, fs))) (k : Nat) (hk : k < N)
    (hlink : (Cond.fieldLink own index (T k).1 (T k).2.1 (T k).2.2.1).before args s = true) (hfin : (T k).2.2.2 = false) {ty : FieldType} {v : Value} (hd : parseFieldDescriptor (T k).2.2.1 = some ty) (hn : narrow ty v = v) (hfit : fits ty v = true) (hl : k < fs.length) (hdg : decode cc pc = .ok (.putfield index, 3))
    (kk : ∀ (H1 : Heap) (locs1 : List Loc), wx D tc base u (E ++ G.set e0 (a, .inr (ci, fs.set k v))) H1 → va_S (frA base) H0 H1 locs1 → W p l e R s m args below meth c H1 locs1 cells slots Q (F0 m (pc + 3) ls rest)) : W p l e R s m args below meth c H locs cells slots Q (F0 m pc ls (v :: .ref a :: rest)) := by
  have h2 := nx_set (W0 := E) (y := .inr (ci, fs.set k v)) he
  refine nx_put hx hb F Gt hw hS _ h2.1 k hk hlink hfin hd hn hfit hl hdg (fun H1 locs1 h hS1 => ?_)
  rw [h2.2] at h
  exact kk H1 locs1 h hS1
end GX
/-! the first place of a name among the first n; a row whose end moved down by one -/
def nmAt (f : Int → Int) (name : Int) : Nat → Int
  | 0 => -1
  | n + 1 => if nmAt f name n = -1 then (if f (n : Int) = name then (n : Int) else -1) else nmAt f name n
theorem nmAt_spec (f : Int → Int) (name : Int) (n : Nat) : (nmAt f name n = -1 ∧ ∀ j, 0 ≤ j → j < (n : Int) → f j ≠ name) ∨ (0 ≤ nmAt f name n ∧ nmAt f name n < (n : Int) ∧ f (nmAt f name n) = name ∧ ∀ j, 0 ≤ j → j < nmAt f name n → f j ≠ name) := by
  induction n with
  | zero => exact Or.inl ⟨rfl, fun j h0 h1 => by omega⟩
  | succ n ih =>
    rcases ih with ⟨h1, h2⟩ | ⟨h1, h2, h3, h4⟩
    · by_cases hf : f (n : Int) = name
      · have e : nmAt f name (n + 1) = (n : Int) := by simp only [nmAt]; rw [if_pos h1, if_pos hf]
        rw [e]
        exact Or.inr ⟨by omega, by omega, hf, h2⟩
      · have e : nmAt f name (n + 1) = -1 := by simp only [nmAt]; rw [if_pos h1, if_neg hf]
        refine Or.inl ⟨e, fun j g0 g1 => ?_⟩
        by_cases hj : j = (n : Int)
        · rw [hj]; exact hf
        · exact h2 j g0 (by omega)
    · have e : nmAt f name (n + 1) = nmAt f name n := by simp only [nmAt]; rw [if_neg (by omega)]
      rw [e]
      exact Or.inr ⟨h1, by omega, h3, h4⟩
theorem nmAt_no {f : Int → Int} {name z : Int} (h : ∀ j, 0 ≤ j → j < z → f j ≠ name) (hz : 0 ≤ z) : nmAt f name z.toNat = -1 := by
  rcases nmAt_spec f name z.toNat with h1 | ⟨h1, h2, h3, -⟩
  · exact h1.1
  · exact absurd h3 (h _ h1 (by omega))
theorem nmAt_yes {f : Int → Int} {name z k : Int} (h : ∀ j, 0 ≤ j → j < k → f j ≠ name) (hk : 0 ≤ k ∧ k < z) (hf : f k = name) : nmAt f name z.toNat = k := by
  rcases nmAt_spec f name z.toNat with ⟨-, h2⟩ | ⟨h1, h2, h3, h4⟩
  · exact absurd hf (h2 k hk.1 (by omega))
  · by_cases hlt : nmAt f name z.toNat < k
    · exact absurd h3 (h _ h1 hlt)
    · by_cases hgt : k < nmAt f name z.toNat
      · exact absurd hf (h4 k hk.1 hgt)
      · omega
theorem nmAt_congr {f g : Int → Int} {name : Int} {n : Nat} (h : ∀ j, 0 ≤ j → j < (n : Int) → f j = g j) : nmAt f name n = nmAt g name n := by
  induction n with
  | zero => rfl
  | succ n ih =>
    have e := ih (fun j a b => h j a (by omega))
    simp only [nmAt]
    rw [e, h (n : Int) (by omega) (by omega)]
/-- kind κ, row q: from k to i all came one down -/
def Sh (κ : Nat) (X Xa : Nat → Int → Int → Int) (q k i : Int) : Prop := ∀ y j, Xa κ y j = if y = q ∧ k ≤ j ∧ j < i then X κ y (j + 1) else X κ y j
theorem Sh.in_ {κ : Nat} {X Xa : Nat → Int → Int → Int} {q k : Int} (h : Xa κ = X κ) : Sh κ X Xa q k k := fun y j => by rw [if_neg (fun g => by omega), h]
theorem Sh.of {κ : Nat} {X Xa Xb : Nat → Int → Int → Int} {q k i : Int} (h : Sh κ X Xa q k i) (e : Xb κ = Xa κ) : Sh κ X Xb q k i := fun y j => by rw [e]; exact h y j
theorem Sh.step {κ : Nat} {X Xa Xb Xc : Nat → Int → Int → Int} {q k i v : Int} (h : Sh κ X Xa q k i) (hk : k ≤ i) (e0 : Xc κ = Xa κ) (e : Xb κ = u3 Xc κ q i v κ) (hv : v = Xa κ q (i + 1)) : Sh κ X Xb q k (i + 1) := fun y j => by
  rw [e]
  by_cases hc : y = q ∧ j = i
  · obtain ⟨rfl, rfl⟩ := hc
    rw [u3_s, hv, h, if_neg (fun g => by omega), if_pos ⟨rfl, hk, by omega⟩]
  · have e2 : u3 Xc κ q i v κ y j = Xa κ y j := by
      simp only [u3]
      rw [if_neg (fun g => hc g.2), e0]
    rw [e2, h]
    by_cases hd : y = q ∧ k ≤ j ∧ j < i
    · rw [if_pos hd, if_pos ⟨hd.1, hd.2.1, by omega⟩]
    · rw [if_neg hd, if_neg (fun g => hd ⟨g.1, g.2.1, by
        have : j ≠ i := fun q9 => hc ⟨g.1, q9⟩
        omega⟩)]
theorem Sh.at_ {κ : Nat} {X Xa : Nat → Int → Int → Int} {q k i j : Int} (h : Sh κ X Xa q k i) (h1 : i ≤ j) (y : Int) : Xa κ y j = X κ y j := by rw [h, if_neg (fun g => by omega)]
theorem gx_app {G L : va_W} {x : Nat × va_E} (h : G[0]? = some x) : (G ++ L)[0]? = some x := by
  have hl := (List.getElem?_eq_some_iff.mp h).1
  rw [List.getElem?_append_left hl]
  exact h
theorem gx_set {G : va_W} {x y : Nat × va_E} (h : G[0]? = some x) : (G.set 0 y)[0]? = some y := List.getElem?_set_self (List.getElem?_eq_some_iff.mp h).1
end
section
section
/-! what the journal of each side does at a change: a note more while a mark stands, else nothing -/
def tyo (o : Option Int) : Int := o.getD (-1)
theorem tyo_some {o : Option Int} {t : Int} (h : o = some t) : tyo o = t := by rw [h]; rfl
def eNoteC (X X1 : Nat → Int → Int → Int) (Y Y1 : Nat → Int → Int → Option Int) (th : Option Int) (ix v : Int) (rw : Option Int) : Prop :=
  (X 29 0 3 = 0 ∧ X1 29 0 1 = X 29 0 1 ∧ X1 28 = X 28 ∧ Y1 28 = Y 28) ∨
  (0 < X 29 0 3 ∧ X1 29 0 1 = X 29 0 1 + 1 ∧ (Y1 28 (X 29 0 1) 0 = th ∧ X1 28 (X 29 0 1) 1 = ix ∧ X1 28 (X 29 0 1) 2 = v ∧ Y1 28 (X 29 0 1) 3 = rw) ∧ ∀ n, n ≠ X 29 0 1 → (∀ j, X1 28 n j = X 28 n j) ∧ ∀ j, Y1 28 n j = Y 28 n j)
def eNoteM (X X1 : Nat → Int → Int → Int) (th fd rw it ws : Int) : Prop :=
  (X 40 0 20 = 0 ∧ X1 40 0 22 = X 40 0 22 ∧ ∀ y, X1 64 0 y = X 64 0 y ∧ X1 65 0 y = X 65 0 y ∧ X1 66 0 y = X 66 0 y ∧ X1 67 0 y = X 67 0 y ∧ X1 68 0 y = X 68 0 y) ∨
  (0 < X 40 0 20 ∧ X1 40 0 22 = X 40 0 22 + 1 ∧ (X1 64 0 (X 40 0 22) = th ∧ X1 65 0 (X 40 0 22) = fd ∧ X1 66 0 (X 40 0 22) = rw ∧ X1 67 0 (X 40 0 22) = it ∧ X1 68 0 (X 40 0 22) = ws) ∧ ∀ y, y ≠ X 40 0 22 → X1 64 0 y = X 64 0 y ∧ X1 65 0 y = X 65 0 y ∧ X1 66 0 y = X 66 0 y ∧ X1 67 0 y = X 67 0 y ∧ X1 68 0 y = X 68 0 y)
section EF
variable {X X0 X1 X2 : Nat → Int → Int → Int} {Y Y0 Y1 Y2 : Nat → Int → Int → Option Int} {th rw : Option Int} {ix v : Int} {M N : List Nat} {thm fd rwm it ws : Int}
theorem eNoteC.to (h : eNoteC X X1 Y Y1 th ix v rw) (hF : Frm M X1 X2) (hH : Frm N Y1 Y2) (hd : ∀ c ∈ [2801, 2802, 2803, 2804, 2902], c ∉ M) (he : ∀ c ∈ [2801, 2802, 2803, 2804], c ∉ N) (hx : ∀ n j, X2 28 n j = X1 28 n j) (hy : ∀ n j, Y2 28 n j = Y1 28 n j) : eNoteC X X2 Y Y2 th ix v rw := by
  have a : X2 29 0 1 = X1 29 0 1 := hF 29 0 1 (hd 2902 (by decide))
  have b : X2 28 = X1 28 := funext fun n => funext fun j => hx n j
  have c : Y2 28 = Y1 28 := funext fun n => funext fun j => hy n j
  unfold eNoteC at *
  rw [a, b, c]
  exact h
theorem eNoteC.from (h : eNoteC X0 X1 Y0 Y1 th ix v rw) (hF : Frm M X X0) (hH : Frm N Y Y0) (hd : ∀ c ∈ [2902, 2904], c ∉ M) (hx : ∀ n j, X0 28 n j = X 28 n j) (hy : ∀ n j, Y0 28 n j = Y 28 n j) : eNoteC X X1 Y Y1 th ix v rw := by
  have a : X0 29 0 1 = X 29 0 1 := hF 29 0 1 (hd 2902 (by decide))
  have a2 : X0 29 0 3 = X 29 0 3 := hF 29 0 3 (hd 2904 (by decide))
  have b : X0 28 = X 28 := funext fun n => funext fun j => hx n j
  have c : Y0 28 = Y 28 := funext fun n => funext fun j => hy n j
  unfold eNoteC at *
  rw [a, a2, b, c] at h
  exact h
theorem eNoteM.to (h : eNoteM X X1 thm fd rwm it ws) (hF : Frm M X1 X2) (hd : ∀ c ∈ [4023, 6400, 6500, 6600, 6700, 6800], c ∉ M) : eNoteM X X2 thm fd rwm it ws := by
  have a : X2 40 0 22 = X1 40 0 22 := hF 40 0 22 (hd 4023 (by decide))
  have b4 : ∀ y, X2 64 0 y = X1 64 0 y := fun y => hF 64 0 y (hd 6400 (by decide))
  have b5 : ∀ y, X2 65 0 y = X1 65 0 y := fun y => hF 65 0 y (hd 6500 (by decide))
  have b6 : ∀ y, X2 66 0 y = X1 66 0 y := fun y => hF 66 0 y (hd 6600 (by decide))
  have b7 : ∀ y, X2 67 0 y = X1 67 0 y := fun y => hF 67 0 y (hd 6700 (by decide))
  have b8 : ∀ y, X2 68 0 y = X1 68 0 y := fun y => hF 68 0 y (hd 6800 (by decide))
  unfold eNoteM at *
  simp only [a, b4, b5, b6, b7, b8]
  exact h
theorem eNoteM.from (h : eNoteM X0 X1 thm fd rwm it ws) (hF : Frm M X X0) (hd : ∀ c ∈ [4021, 4023, 6400, 6500, 6600, 6700, 6800], c ∉ M) : eNoteM X X1 thm fd rwm it ws := by
  have a : X0 40 0 22 = X 40 0 22 := hF 40 0 22 (hd 4023 (by decide))
  have a0 : X0 40 0 20 = X 40 0 20 := hF 40 0 20 (hd 4021 (by decide))
  have b4 : ∀ y, X0 64 0 y = X 64 0 y := fun y => hF 64 0 y (hd 6400 (by decide))
  have b5 : ∀ y, X0 65 0 y = X 65 0 y := fun y => hF 65 0 y (hd 6500 (by decide))
  have b6 : ∀ y, X0 66 0 y = X 66 0 y := fun y => hF 66 0 y (hd 6600 (by decide))
  have b7 : ∀ y, X0 67 0 y = X 67 0 y := fun y => hF 67 0 y (hd 6700 (by decide))
  have b8 : ∀ y, X0 68 0 y = X 68 0 y := fun y => hF 68 0 y (hd 6800 (by decide))
  unfold eNoteM at *
  simp only [a, a0, b4, b5, b6, b7, b8] at h
  exact h
end EF
end
section
/-! recording, as a pure run over positions: s 0 0 how many records, s 1 their things, s 2 0 how many rows, s 3, s 4 the first place of each row, s 5 the values by position -/
def u2 (s : Nat → Int → Int) (κ : Nat) (i v : Int) : Nat → Int → Int := fun κ' i' => if κ' = κ ∧ i' = i then v else s κ' i'
theorem u2_s (s : Nat → Int → Int) (κ : Nat) (i v : Int) : u2 s κ i v κ i = v := by simp [u2]
theorem u2_k (s : Nat → Int → Int) {κ κ' : Nat} (i v i' : Int) (h : κ' ≠ κ) : u2 s κ i v κ' i' = s κ' i' := by simp [u2, h]
theorem u2_i (s : Nat → Int → Int) (κ : Nat) {i i' : Int} (v : Int) (h : i' ≠ i) : u2 s κ i v κ i' = s κ i' := by simp [u2, h]
theorem nmAt_alike {f g : Int → Int} {a b : Int} {n : Nat} (h : ∀ j, 0 ≤ j → j < (n : Int) → (f j = a ↔ g j = b)) : nmAt f a n = nmAt g b n := by
  induction n with
  | zero => rfl
  | succ n ih =>
    have e := ih (fun j h0 h1 => h j h0 (by omega))
    simp only [nmAt]
    rw [e]
    by_cases h2 : f (n : Int) = a
    · rw [if_pos h2, if_pos ((h (n : Int) (by omega) (by omega)).mp h2)]
    · rw [if_neg h2, if_neg (fun q => h2 ((h (n : Int) (by omega) (by omega)).mpr q))]
def recP (la vl rid : Int → Int → Int) (y k p : Int) (s : Nat → Int → Int) : Nat → Int → Int :=
  if la y k < 2 then u2 s 5 p (vl y k)
  else if la y k = 2 then
    (if vl y k < 0 then u2 s 5 p (-1)
    else if nmAt (s 1) (vl y k) (s 0 0).toNat = -1 then u2 (u2 (u2 s 1 (s 0 0) (vl y k)) 5 p (s 0 0)) 0 0 (s 0 0 + 1)
    else u2 s 5 p (nmAt (s 1) (vl y k) (s 0 0).toNat))
  else
    (if rid y k < 0 then u2 s 5 p (-1)
    else if nmAt (fun q => rid (s 3 q) (s 4 q)) (rid y k) (s 2 0).toNat = -1 then u2 (u2 (u2 (u2 s 3 (s 2 0) y) 4 (s 2 0) k) 5 p (s 2 0)) 2 0 (s 2 0 + 1)
    else u2 s 5 p (nmAt (fun q => rid (s 3 q) (s 4 q)) (rid y k) (s 2 0).toNat))
def recK (la vl rid : Int → Int → Int) (s : Nat → Int → Int) (r : Int) : Nat → Nat → Int → Int
  | 0 => s
  | k + 1 => recP la vl rid (s 1 r) (k : Int) (5 * r + (k : Int)) (recK la vl rid s r k)
def recR (fc : Int → Int) (la vl rid : Int → Int → Int) (x : Int) : Nat → Nat → Int → Int
  | 0 => u2 (u2 (u2 (fun _ _ => 0) 1 0 x) 0 0 1) 2 0 0
  | r + 1 => if (r : Int) < recR fc la vl rid x r 0 0 then recK la vl rid (recR fc la vl rid x r) (r : Int) (fc (recR fc la vl rid x r 1 (r : Int))).toNat else recR fc la vl rid x r
/-- what holds all along: the things of the records are things, the rows' first places are places of rows -/
def rInv (H : Int) (fc : Int → Int) (la rid : Int → Int → Int) (s : Nat → Int → Int) : Prop :=
  0 ≤ s 0 0 ∧ (∀ i, 0 ≤ i → i < s 0 0 → 0 ≤ s 1 i ∧ s 1 i < H) ∧ 0 ≤ s 2 0 ∧ ∀ i, 0 ≤ i → i < s 2 0 → (0 ≤ s 3 i ∧ s 3 i < H) ∧ (0 ≤ s 4 i ∧ s 4 i < fc (s 3 i)) ∧ 3 ≤ la (s 3 i) (s 4 i) ∧ 0 ≤ rid (s 3 i) (s 4 i)
section FO
variable {H : Int} {fc fc' : Int → Int} {la la' vl vl' rid rid' : Int → Int → Int} {s : Nat → Int → Int} {y k p x r : Int}
/-- readers that are alike -/
def Alk (H : Int) (fc fc' : Int → Int) (la la' vl vl' rid rid' : Int → Int → Int) : Prop :=
  (∀ y, 0 ≤ y → y < H → fc y = fc' y ∧ ∀ k, 0 ≤ k → k < fc y → la y k = la' y k ∧ (la y k < 3 → vl y k = vl' y k) ∧ (la y k = 2 → vl y k < H) ∧ (3 ≤ la y k → (rid y k < 0 ↔ rid' y k < 0))) ∧
  ∀ y k y' k', 0 ≤ y → y < H → 0 ≤ y' → y' < H → 0 ≤ k → k < fc y → 0 ≤ k' → k' < fc y' → 3 ≤ la y k → 3 ≤ la y' k' → 0 ≤ rid y k → 0 ≤ rid y' k' → (rid y k = rid y' k' ↔ rid' y k = rid' y' k')
theorem recP_inv (h : rInv H fc la rid s) (hy : 0 ≤ y ∧ y < H) (hk : 0 ≤ k ∧ k < fc y) (hv : la y k = 2 → vl y k < H) : rInv H fc la rid (recP la vl rid y k p s) := by
  obtain ⟨h1, h2, h3, h4⟩ := h
  unfold recP
  by_cases c1 : la y k < 2
  · rw [if_pos c1]
    refine ⟨by rw [u2_k _ _ _ _ (by decide)]; exact h1, fun i i0 i1 => ?_, by rw [u2_k _ _ _ _ (by decide)]; exact h3, fun i i0 i1 => ?_⟩
    · rw [u2_k _ _ _ _ (by decide)] at i1 ⊢
      exact h2 i i0 i1
    · rw [u2_k _ _ _ _ (by decide)] at i1
      rw [u2_k _ _ _ _ (by decide), u2_k _ _ _ _ (by decide)]
      exact h4 i i0 i1
  · rw [if_neg c1]
    by_cases c2 : la y k = 2
    · rw [if_pos c2]
      have hv2 := hv c2
      split
      · refine ⟨by rw [u2_k _ _ _ _ (by decide)]; exact h1, fun i i0 i1 => ?_, by rw [u2_k _ _ _ _ (by decide)]; exact h3, fun i i0 i1 => ?_⟩
        · rw [u2_k _ _ _ _ (by decide)] at i1 ⊢
          exact h2 i i0 i1
        · rw [u2_k _ _ _ _ (by decide)] at i1
          rw [u2_k _ _ _ _ (by decide), u2_k _ _ _ _ (by decide)]
          exact h4 i i0 i1
      · split
        · refine ⟨by rw [u2_s]; omega, fun i i0 i1 => ?_, by rw [u2_k _ _ _ _ (by decide), u2_k _ _ _ _ (by decide), u2_k _ _ _ _ (by decide)]; exact h3, fun i i0 i1 => ?_⟩
          · rw [u2_s] at i1
            rw [u2_k _ _ _ _ (by decide), u2_k _ _ _ _ (by decide)]
            by_cases e : i = s 0 0
            · rw [e, u2_s]; omega
            · rw [u2_i _ _ _ e]; exact h2 i i0 (by omega)
          · rw [u2_k _ _ _ _ (by decide), u2_k _ _ _ _ (by decide), u2_k _ _ _ _ (by decide)] at i1
            rw [u2_k _ _ _ _ (by decide), u2_k _ _ _ _ (by decide), u2_k _ _ _ _ (by decide), u2_k _ _ _ _ (by decide), u2_k _ _ _ _ (by decide), u2_k _ _ _ _ (by decide)]
            exact h4 i i0 i1
        · refine ⟨by rw [u2_k _ _ _ _ (by decide)]; exact h1, fun i i0 i1 => ?_, by rw [u2_k _ _ _ _ (by decide)]; exact h3, fun i i0 i1 => ?_⟩
          · rw [u2_k _ _ _ _ (by decide)] at i1 ⊢
            exact h2 i i0 i1
          · rw [u2_k _ _ _ _ (by decide)] at i1
            rw [u2_k _ _ _ _ (by decide), u2_k _ _ _ _ (by decide)]
            exact h4 i i0 i1
    · rw [if_neg c2]
      split
      · refine ⟨by rw [u2_k _ _ _ _ (by decide)]; exact h1, fun i i0 i1 => ?_, by rw [u2_k _ _ _ _ (by decide)]; exact h3, fun i i0 i1 => ?_⟩
        · rw [u2_k _ _ _ _ (by decide)] at i1 ⊢
          exact h2 i i0 i1
        · rw [u2_k _ _ _ _ (by decide)] at i1
          rw [u2_k _ _ _ _ (by decide), u2_k _ _ _ _ (by decide)]
          exact h4 i i0 i1
      · split
        · refine ⟨by rw [u2_k _ _ _ _ (by decide), u2_k _ _ _ _ (by decide), u2_k _ _ _ _ (by decide), u2_k _ _ _ _ (by decide)]; exact h1, fun i i0 i1 => ?_, by rw [u2_s]; omega, fun i i0 i1 => ?_⟩
          · rw [u2_k _ _ _ _ (by decide), u2_k _ _ _ _ (by decide), u2_k _ _ _ _ (by decide), u2_k _ _ _ _ (by decide)] at i1
            rw [u2_k _ _ _ _ (by decide), u2_k _ _ _ _ (by decide), u2_k _ _ _ _ (by decide), u2_k _ _ _ _ (by decide)]
            exact h2 i i0 i1
          · rw [u2_s] at i1
            have e3 : u2 (u2 (u2 (u2 s 3 (s 2 0) y) 4 (s 2 0) k) 5 p (s 2 0)) 2 0 (s 2 0 + 1) 3 i = u2 s 3 (s 2 0) y 3 i := by rw [u2_k _ _ _ _ (by decide), u2_k _ _ _ _ (by decide), u2_k _ _ _ _ (by decide)]
            have e4 : u2 (u2 (u2 (u2 s 3 (s 2 0) y) 4 (s 2 0) k) 5 p (s 2 0)) 2 0 (s 2 0 + 1) 4 i = u2 (u2 s 3 (s 2 0) y) 4 (s 2 0) k 4 i := by rw [u2_k _ _ _ _ (by decide), u2_k _ _ _ _ (by decide)]
            rw [e3, e4]
            by_cases e : i = s 2 0
            · rw [e, u2_s, u2_s]
              exact ⟨hy, hk, by omega, by omega⟩
            · rw [u2_i _ _ _ e, u2_i _ _ _ e, u2_k _ _ _ _ (by decide)]
              exact h4 i i0 (by omega)
        · refine ⟨by rw [u2_k _ _ _ _ (by decide)]; exact h1, fun i i0 i1 => ?_, by rw [u2_k _ _ _ _ (by decide)]; exact h3, fun i i0 i1 => ?_⟩
          · rw [u2_k _ _ _ _ (by decide)] at i1 ⊢
            exact h2 i i0 i1
          · rw [u2_k _ _ _ _ (by decide)] at i1
            rw [u2_k _ _ _ _ (by decide), u2_k _ _ _ _ (by decide)]
            exact h4 i i0 i1
theorem recP_alk (hA : Alk H fc fc' la la' vl vl' rid rid') (h : rInv H fc la rid s) (hy : 0 ≤ y ∧ y < H) (hk : 0 ≤ k ∧ k < fc y) : recP la vl rid y k p s = recP la' vl' rid' y k p s := by
  obtain ⟨h1, h2, h3, h4⟩ := h
  obtain ⟨a1, a2⟩ := hA.1 y hy.1 hy.2
  obtain ⟨b1, b2, b3, b4⟩ := a2 k hk.1 hk.2
  unfold recP
  rw [← b1]
  by_cases c1 : la y k < 2
  · rw [if_pos c1, if_pos c1, b2 (by omega)]
  · rw [if_neg c1, if_neg c1]
    by_cases c2 : la y k = 2
    · rw [if_pos c2, if_pos c2, b2 (by omega)]
    · rw [if_neg c2, if_neg c2]
      by_cases c3 : rid y k < 0
      · rw [if_pos c3, if_pos ((b4 (by omega)).mp c3)]
      · rw [if_neg c3, if_neg (fun q => c3 ((b4 (by omega)).mpr q))]
        have e : nmAt (fun q => rid (s 3 q) (s 4 q)) (rid y k) (s 2 0).toNat = nmAt (fun q => rid' (s 3 q) (s 4 q)) (rid' y k) (s 2 0).toNat := nmAt_alike (fun j j0 j1 => by
          obtain ⟨g1, g2, g3, g4⟩ := h4 j j0 (by omega)
          exact hA.2 _ _ _ _ g1.1 g1.2 hy.1 hy.2 g2.1 g2.2 hk.1 hk.2 g3 (by omega) g4 (by omega))
        rw [e]
theorem recP_o (hr : 0 ≤ r ∧ r < s 0 0) : recP la vl rid y k p s 1 r = s 1 r := by
  unfold recP
  split
  · exact u2_k _ _ _ _ (by decide)
  · split
    · split
      · exact u2_k _ _ _ _ (by decide)
      · split
        · rw [u2_k _ _ _ _ (by decide), u2_k _ _ _ _ (by decide), u2_i _ _ _ (by omega)]
        · exact u2_k _ _ _ _ (by decide)
    · split
      · exact u2_k _ _ _ _ (by decide)
      · split
        · rw [u2_k _ _ _ _ (by decide), u2_k _ _ _ _ (by decide), u2_k _ _ _ _ (by decide), u2_k _ _ _ _ (by decide)]
        · exact u2_k _ _ _ _ (by decide)
theorem recP_m : s 0 0 ≤ recP la vl rid y k p s 0 0 := by
  unfold recP
  split
  · rw [u2_k _ _ _ _ (by decide)]; omega
  · split
    · split
      · rw [u2_k _ _ _ _ (by decide)]; omega
      · split
        · rw [u2_s]; omega
        · rw [u2_k _ _ _ _ (by decide)]; omega
    · split
      · rw [u2_k _ _ _ _ (by decide)]; omega
      · split
        · rw [u2_k _ _ _ _ (by decide), u2_k _ _ _ _ (by decide), u2_k _ _ _ _ (by decide), u2_k _ _ _ _ (by decide)]; omega
        · rw [u2_k _ _ _ _ (by decide)]; omega
theorem recK_alk (hA : Alk H fc fc' la la' vl vl' rid rid') (h : rInv H fc la rid s) (hr : 0 ≤ r ∧ r < s 0 0) (n : Nat) (hn : (n : Int) ≤ fc (s 1 r)) : recK la vl rid s r n = recK la' vl' rid' s r n ∧ rInv H fc la rid (recK la vl rid s r n) ∧ s 0 0 ≤ recK la vl rid s r n 0 0 ∧ recK la vl rid s r n 1 r = s 1 r := by
  induction n with
  | zero => exact ⟨rfl, h, Int.le_refl _, rfl⟩
  | succ n ih =>
    obtain ⟨i1, i2, i3, i4⟩ := ih (by omega)
    have hy := h.2.1 r hr.1 hr.2
    have hk : 0 ≤ (n : Int) ∧ (n : Int) < fc (s 1 r) := ⟨by omega, by omega⟩
    have hv : la (s 1 r) (n : Int) = 2 → vl (s 1 r) (n : Int) < H := ((hA.1 _ hy.1 hy.2).2 _ hk.1 hk.2).2.2.1
    simp only [recK]
    rw [← i1]
    exact ⟨recP_alk hA i2 hy hk, recP_inv i2 hy hk hv, Int.le_trans i3 recP_m, by rw [recP_o (by omega)]; exact i4⟩
theorem recR_alk (hA : Alk H fc fc' la la' vl vl' rid rid') (hf : ∀ y, 0 ≤ y → y < H → 0 ≤ fc y) (hx : 0 ≤ x ∧ x < H) (n : Nat) : recR fc la vl rid x n = recR fc' la' vl' rid' x n ∧ rInv H fc la rid (recR fc la vl rid x n) := by
  induction n with
  | zero =>
    refine ⟨rfl, ?_⟩
    simp only [recR]
    refine ⟨by rw [u2_k _ _ _ _ (by decide), u2_s]; omega, fun i i0 i1 => ?_, by rw [u2_s]; omega, fun i i0 i1 => ?_⟩
    · rw [u2_k _ _ _ _ (by decide), u2_s] at i1
      rw [u2_k _ _ _ _ (by decide), u2_k _ _ _ _ (by decide), show i = 0 by omega, u2_s]
      exact hx
    · rw [u2_s] at i1
      omega
  | succ n ih =>
    obtain ⟨i1, i2⟩ := ih
    simp only [recR]
    rw [← i1]
    by_cases c : (n : Int) < recR fc la vl rid x n 0 0
    · rw [if_pos c, if_pos c]
      have hy := i2.2.1 (n : Int) (by omega) c
      have e := (hA.1 _ hy.1 hy.2).1
      rw [← e]
      have h0 := hf _ hy.1 hy.2
      obtain ⟨j1, j2, -, -⟩ := recK_alk hA i2 (r := (n : Int)) ⟨by omega, c⟩ (fc (recR fc la vl rid x n 1 (n : Int))).toNat (by omega)
      exact ⟨j1, j2⟩
    · rw [if_neg c, if_neg c]
      exact ⟨rfl, i2⟩
end FO
end
section
/-! class and reference in full: C, Y, ln, c (how many rows there are) of the class, M of the reference -/
def lnM (M : Nat → Int → Int → Int) (x k : Int) : Int := M 46 0 (5 * M 55 0 x + k)
def fcM (M : Nat → Int → Int → Int) (x : Int) : Int := M 44 0 (M 55 0 x)
def LvF (Y : Nat → Int → Int → Option Int) (M : Nat → Int → Int → Int) (g r l : Int) : Prop := ∃ x k, 0 ≤ x ∧ x < M 40 0 13 ∧ 0 ≤ k ∧ k < fcM M x ∧ lnM M x k = l ∧ 3 ≤ l ∧ Y 17 x k = some g ∧ M 56 0 (5 * x + k) = r
def LvN (Y : Nat → Int → Int → Option Int) (M : Nat → Int → Int → Int) (g r l : Int) : Prop := ∃ n, 0 ≤ n ∧ n < M 40 0 22 ∧ M 67 0 n < 0 ∧ lnM M (M 64 0 n) (M 65 0 n) = l ∧ 3 ≤ l ∧ Y 28 n 3 = some g ∧ M 68 0 n = r
def LvI (Y : Nat → Int → Int → Option Int) (M : Nat → Int → Int → Int) (g r l : Int) : Prop := ∃ n, 0 ≤ n ∧ n < M 40 0 22 ∧ 0 ≤ M 67 0 n ∧ M 57 0 r = l ∧ 3 ≤ l ∧ Y 28 n 3 = some g ∧ M 66 0 n = r
def Lv (Y : Nat → Int → Int → Option Int) (M : Nat → Int → Int → Int) (g r l : Int) : Prop := LvF Y M g r l ∨ LvN Y M g r l ∨ LvI Y M g r l
def rH (C : Nat → Int → Int → Int) (Y : Nat → Int → Int → Option Int) (M : Nat → Int → Int → Int) : Prop := C 0 0 3 = M 40 0 13 ∧ ∀ x, 0 ≤ x → x < M 40 0 13 → Y 15 x 0 = some (M 55 0 x) ∧ ∀ k, 0 ≤ k → k < fcM M x → (lnM M x k < 3 → C 16 x k = M 56 0 (5 * x + k)) ∧ (3 ≤ lnM M x k → (Y 17 x k = none ↔ M 56 0 (5 * x + k) < 0))
def nOK (C : Nat → Int → Int → Int) (Y : Nat → Int → Int → Option Int) (M : Nat → Int → Int → Int) (n : Int) : Prop := (M 67 0 n < 0 → Y 28 n 0 = some (M 64 0 n) ∧ C 28 n 1 = M 65 0 n ∧ (lnM M (M 64 0 n) (M 65 0 n) < 3 → C 28 n 2 = M 68 0 n) ∧ (3 ≤ lnM M (M 64 0 n) (M 65 0 n) → (Y 28 n 3 = none ↔ M 68 0 n < 0) ∧ M 66 0 n = M 68 0 n)) ∧ (0 ≤ M 67 0 n → Y 28 n 0 = none ∧ Y 28 n 3 ≠ none ∧ C 28 n 1 = M 67 0 n ∧ C 28 n 2 = M 68 0 n ∧ 3 ≤ M 57 0 (M 66 0 n))
def rN (C : Nat → Int → Int → Int) (Y : Nat → Int → Int → Option Int) (M : Nat → Int → Int → Int) : Prop := (∀ m, 0 ≤ m → m < M 40 0 20 → C 31 0 m = M 62 0 m ∧ M 62 0 m ≤ M 40 0 22 ∧ ∀ m', 0 ≤ m' → m' ≤ m → M 62 0 m' ≤ M 62 0 m) ∧ ∀ n, 0 ≤ n → n < M 40 0 22 → nOK C Y M n
def rR (c : Int) (C : Nat → Int → Int → Int) (Y : Nat → Int → Int → Option Int) (ln : Int → Int) (M : Nat → Int → Int → Int) : Prop := (∀ g r l, Lv Y M g r l → 0 ≤ g ∧ g < c ∧ 0 ≤ r ∧ r ≤ 399 ∧ M 57 0 r = l ∧ ln g = M 58 0 r ∧ ∀ i, 0 ≤ i → i < ln g → C 27 g i = M 59 0 (12 * r + i)) ∧ ∀ g r l g' r' l', Lv Y M g r l → Lv Y M g' r' l' → (g = g' ↔ r = r')
def RB (c : Int) (C : Nat → Int → Int → Int) (Y : Nat → Int → Int → Option Int) (ln : Int → Int) (M : Nat → Int → Int → Int) : Prop := rH C Y M ∧ rN C Y M ∧ rR c C Y ln M
/-! what a change leaves as it is -/
def LnL (ln : Int → Int) : Prop := ∀ i, 0 ≤ ln i ∧ ln i ≤ 12
def KpC (C C1 : Nat → Int → Int → Int) (Y Y1 : Nat → Int → Int → Option Int) : Prop := C1 0 0 3 = C 0 0 3 ∧ C1 31 = C 31 ∧ ∀ x, Y1 15 x 0 = Y 15 x 0
def KpM (M M1 : Nat → Int → Int → Int) : Prop := M1 44 = M 44 ∧ M1 46 = M 46 ∧ M1 55 = M 55 ∧ M1 62 = M 62 ∧ M1 40 0 13 = M 40 0 13 ∧ M1 40 0 20 = M 40 0 20
section RL
variable {C C1 M M1 : Nat → Int → Int → Int} {Y Y1 : Nat → Int → Int → Option Int} {ln ln1 : Int → Int} {c c1 : Int}
theorem Frm.fn {α : Type} {L : List Nat} {X X1 : Nat → Int → Int → α} (h : Frm L X X1) (κ : Nat) (hd : ∀ j, fcode κ j ∉ L) : X1 κ = X κ := funext fun i => funext fun j => h κ i j (hd j)
theorem fc_a (κ : Nat) (h : (lay κ).1 = 0) (j : Int) : fcode κ j = κ * 100 := by
  unfold fcode
  rw [if_pos h]
theorem Frm.arr {α : Type} {L : List Nat} {X X1 : Nat → Int → Int → α} (h : Frm L X X1) (κ : Nat) (h0 : (lay κ).1 = 0) (hd : κ * 100 ∉ L) : X1 κ = X κ := h.fn κ (fun j => by rw [fc_a κ h0]; exact hd)
theorem KpM.of {L : List Nat} (h : Frm L M M1) (hd : ∀ q ∈ [4400, 4600, 5500, 6200, 4014, 4021], q ∉ L) : KpM M M1 :=
  ⟨h.arr 44 (by decide +kernel) (hd 4400 (by decide)), h.arr 46 (by decide +kernel) (hd 4600 (by decide)), h.arr 55 (by decide +kernel) (hd 5500 (by decide)), h.arr 62 (by decide +kernel) (hd 6200 (by decide)), h 40 0 13 (hd 4014 (by decide)), h 40 0 20 (hd 4021 (by decide))⟩
theorem KpC.of {L N : List Nat} (h : Frm L C C1) (g : Frm N Y Y1) (hd : ∀ q ∈ [4, 3100], q ∉ L) (he : 1501 ∉ N) : KpC C C1 Y Y1 :=
  ⟨h 0 0 3 (hd 4 (by decide)), h.arr 31 (by decide +kernel) (hd 3100 (by decide)), fun x => g 15 x 0 he⟩
theorem KpM.lnE (h : KpM M M1) : lnM M1 = lnM M := by
  funext x k
  simp only [lnM, h.2.1, h.2.2.1]
theorem KpM.fcE (h : KpM M M1) : fcM M1 = fcM M := by
  funext x
  simp only [fcM, h.1, h.2.2.1]
theorem rR_sub (h : rR c C Y ln M) (hc : c ≤ c1) (hs : ∀ g r l, Lv Y1 M1 g r l → Lv Y M g r l) (hk : ∀ g r l, Lv Y M g r l → M1 57 0 r = l ∧ ln1 g = M1 58 0 r ∧ ∀ i, 0 ≤ i → i < ln1 g → C1 27 g i = M1 59 0 (12 * r + i)) : rR c1 C1 Y1 ln1 M1 := by
  refine ⟨fun g r l hl => ?_, fun g r l g' r' l' h1 h2 => h.2 _ _ _ _ _ _ (hs _ _ _ h1) (hs _ _ _ h2)⟩
  have h1 := hs g r l hl
  obtain ⟨a1, a2, a3, a4, -⟩ := h.1 g r l h1
  obtain ⟨b1, b2, b3⟩ := hk g r l h1
  exact ⟨a1, by omega, a3, a4, b1, b2, b3⟩
theorem rR_new {g0 r0 l0 : Int} (h : rR c C Y ln M) (hc : c ≤ c1) (hs : ∀ g r l, Lv Y1 M1 g r l → Lv Y M g r l ∨ (g = g0 ∧ r = r0 ∧ l = l0)) (hk : ∀ g r l, Lv Y M g r l → M1 57 0 r = l ∧ ln1 g = M1 58 0 r ∧ ∀ i, 0 ≤ i → i < ln1 g → C1 27 g i = M1 59 0 (12 * r + i))
    (hg : 0 ≤ g0 ∧ c ≤ g0 ∧ g0 < c1) (hr : 0 ≤ r0 ∧ r0 ≤ 399) (hfr : ∀ g r l, Lv Y M g r l → r ≠ r0) (hn : M1 57 0 r0 = l0 ∧ ln1 g0 = M1 58 0 r0 ∧ ∀ i, 0 ≤ i → i < ln1 g0 → C1 27 g0 i = M1 59 0 (12 * r0 + i)) : rR c1 C1 Y1 ln1 M1 := by
  refine ⟨fun g r l hl => ?_, fun g r l g' r' l' h1 h2 => ?_⟩
  · rcases hs g r l hl with h1 | ⟨rfl, rfl, rfl⟩
    · obtain ⟨a1, a2, a3, a4, -⟩ := h.1 g r l h1
      obtain ⟨b1, b2, b3⟩ := hk g r l h1
      exact ⟨a1, by omega, a3, a4, b1, b2, b3⟩
    · exact ⟨hg.1, hg.2.2, hr.1, hr.2, hn.1, hn.2.1, hn.2.2⟩
  · rcases hs g r l h1 with a | ⟨rfl, rfl, rfl⟩ <;> rcases hs g' r' l' h2 with b | ⟨rfl, rfl, rfl⟩
    · exact h.2 _ _ _ _ _ _ a b
    · have a2 := (h.1 g r l a).2.1
      have a3 := hfr g r l a
      exact ⟨fun q => by omega, fun q => absurd q a3⟩
    · have a2 := (h.1 g' r' l' b).2.1
      have a3 := hfr g' r' l' b
      exact ⟨fun q => by omega, fun q => absurd q.symm a3⟩
    · exact ⟨fun _ => rfl, fun _ => rfl⟩
/-- rows as they are: what hk of the two lemmas wants, where nothing of a row changed -/
theorem rR_same (h : rR c C Y ln M) (h27 : ∀ g, 0 ≤ g → g < c → C1 27 g = C 27 g) (hln : ∀ g, 0 ≤ g → g < c → ln1 g = ln g) (hm : ∀ g r l, Lv Y M g r l → M1 57 0 r = M 57 0 r ∧ M1 58 0 r = M 58 0 r ∧ ∀ i, 0 ≤ i → i < 12 → M1 59 0 (12 * r + i) = M 59 0 (12 * r + i)) (hl12 : LnL ln) : ∀ g r l, Lv Y M g r l → M1 57 0 r = l ∧ ln1 g = M1 58 0 r ∧ ∀ i, 0 ≤ i → i < ln1 g → C1 27 g i = M1 59 0 (12 * r + i) := by
  intro g r l hv
  obtain ⟨a1, a2, a3, a4, a5, a6, a7⟩ := h.1 g r l hv
  obtain ⟨b1, b2, b3⟩ := hm g r l hv
  rw [hln g a1 a2, h27 g a1 a2]
  refine ⟨by rw [b1]; exact a5, by rw [b2]; exact a6, fun i i0 i1 => ?_⟩
  have := hl12 g
  rw [b3 i i0 (by omega)]
  exact a7 i i0 i1
/-! notes -/
theorem rN_note {x k v ws rw : Int} {ro : Option Int} (h : rN C Y M) (hn : C 29 0 1 = M 40 0 22) (hm : C 29 0 3 = M 40 0 20) (eC : eNoteC C C1 Y Y1 (some x) k v ro) (eM : eNoteM M M1 x k rw (-1) ws) (hl : lnM M1 = lnM M) (h31 : C1 31 = C 31) (h62 : M1 62 = M 62) (h20 : M1 40 0 20 = M 40 0 20) (h57 : ∀ n, 0 ≤ n → n < M 40 0 22 → 0 ≤ M 67 0 n → M1 57 0 (M 66 0 n) = M 57 0 (M 66 0 n)) (hv : lnM M x k < 3 → v = ws) (hr : 3 ≤ lnM M x k → (ro = none ↔ ws < 0) ∧ rw = ws) : rN C1 Y1 M1 ∧ C1 29 0 1 = M1 40 0 22 := by
  obtain ⟨n2, n3⟩ := h
  have hge : M 40 0 22 ≤ M1 40 0 22 := by rcases eM with ⟨-, d1, -⟩ | ⟨-, d1, -⟩ <;> omega
  refine ⟨⟨fun m a b => by
    obtain ⟨q1, q2, q3⟩ := n2 m a (by rw [← h20]; exact b)
    rw [h31, h62]
    exact ⟨q1, by omega, q3⟩, fun n a b => ?_⟩, ?_⟩
  · rcases eC with ⟨c0, c1, c2, c3⟩ | ⟨c0, c1, c2, c3⟩
    · rcases eM with ⟨d0, d1, d2⟩ | ⟨d0, d1, -⟩
      · have h9 := n3 n a (by omega)
        obtain ⟨e1, e2, e3, e4, e5⟩ := d2 n
        have h8 := h57 n a (by omega)
        unfold nOK at *
        rw [e1, e2, e3, e4, e5, hl, c2, c3]
        exact ⟨h9.1, fun q => by rw [h8 q]; exact h9.2 q⟩
      · omega
    · rcases eM with ⟨d0, -⟩ | ⟨d0, d1, d2, d3⟩
      · omega
      · by_cases hn9 : n = M 40 0 22
        · obtain ⟨e1, e2, e3, e4, e5⟩ := d2
          obtain ⟨f1, f2, f3, f4⟩ := c2
          rw [hn] at f1 f2 f3 f4
          subst hn9
          unfold nOK
          rw [e1, e2, e3, e4, e5, f1, f2, f3, f4, hl]
          exact ⟨fun _ => ⟨rfl, rfl, hv, hr⟩, fun q => by omega⟩
        · have h9 := n3 n a (by omega)
          have h8 := h57 n a (by omega)
          obtain ⟨e1, e2, e3, e4, e5⟩ := d3 n hn9
          obtain ⟨f1, f2⟩ := c3 n (by rw [hn]; exact hn9)
          unfold nOK at *
          rw [e1, e2, e3, e4, e5, hl, f1 1, f1 2, f2 0, f2 3]
          exact ⟨h9.1, fun q => by rw [h8 q]; exact h9.2 q⟩
  · rcases eC with ⟨c0, c1, -, -⟩ | ⟨c0, c1, -, -⟩ <;> rcases eM with ⟨d0, d1, -⟩ | ⟨d0, d1, -⟩ <;> omega
/-- the rows of the notes: those of before, or the row that stood at the place -/
theorem Lv_note {x k v rw : Int} (hn : C 29 0 1 = M 40 0 22) (hm : C 29 0 3 = M 40 0 20) (eC : eNoteC C C1 Y Y1 (some x) k v (Y 17 x k)) (eM : eNoteM M M1 x k rw (-1) (M 56 0 (5 * x + k))) (hl : lnM M1 = lnM M) (h57 : ∀ n, 0 ≤ n → n < M 40 0 22 → 0 ≤ M 67 0 n → M1 57 0 (M 66 0 n) = M 57 0 (M 66 0 n)) (hp : 0 ≤ x ∧ x < M 40 0 13 ∧ 0 ≤ k ∧ k < fcM M x) (g r l : Int) (hv : LvN Y1 M1 g r l ∨ LvI Y1 M1 g r l) : Lv Y M g r l := by
  rcases hv with ⟨n, a, b, q67, ql, q3, qy, q68⟩ | ⟨n, a, b, q67, ql, q3, qy, q66⟩
  · rcases eC with ⟨c0, c1, c2, c3⟩ | ⟨c0, c1, c2, c3⟩
    · rcases eM with ⟨d0, d1, d2⟩ | ⟨d0, d1, -⟩
      · obtain ⟨e1, e2, e3, e4, e5⟩ := d2 n
        rw [e1, e2, hl] at ql
        rw [e4] at q67
        rw [c3] at qy
        rw [e5] at q68
        exact Or.inr (Or.inl ⟨n, a, by omega, q67, ql, q3, qy, q68⟩)
      · omega
    · rcases eM with ⟨d0, -⟩ | ⟨d0, d1, d2, d3⟩
      · omega
      · by_cases hn9 : n = M 40 0 22
        · obtain ⟨e1, e2, e3, e4, e5⟩ := d2
          obtain ⟨f1, f2, f3, f4⟩ := c2
          rw [hn] at f4
          subst hn9
          rw [e1, e2, hl] at ql
          rw [e5] at q68
          rw [f4] at qy
          exact Or.inl ⟨x, k, hp.1, hp.2.1, hp.2.2.1, hp.2.2.2, ql, q3, qy, q68⟩
        · obtain ⟨e1, e2, e3, e4, e5⟩ := d3 n hn9
          obtain ⟨f1, f2⟩ := c3 n (by rw [hn]; exact hn9)
          rw [e1, e2, hl] at ql
          rw [e4] at q67
          rw [f2] at qy
          rw [e5] at q68
          exact Or.inr (Or.inl ⟨n, a, by omega, q67, ql, q3, qy, q68⟩)
  · rcases eC with ⟨c0, c1, c2, c3⟩ | ⟨c0, c1, c2, c3⟩
    · rcases eM with ⟨d0, d1, d2⟩ | ⟨d0, d1, -⟩
      · obtain ⟨e1, e2, e3, e4, e5⟩ := d2 n
        rw [e3] at q66
        rw [e4] at q67
        rw [c3] at qy
        have h8 := h57 n a (by omega) q67
        rw [q66] at h8
        exact Or.inr (Or.inr ⟨n, a, by omega, q67, by rw [← h8]; exact ql, q3, qy, q66⟩)
      · omega
    · rcases eM with ⟨d0, -⟩ | ⟨d0, d1, d2, d3⟩
      · omega
      · by_cases hn9 : n = M 40 0 22
        · obtain ⟨e1, e2, e3, e4, e5⟩ := d2
          subst hn9
          omega
        · obtain ⟨e1, e2, e3, e4, e5⟩ := d3 n hn9
          obtain ⟨f1, f2⟩ := c3 n (by rw [hn]; exact hn9)
          rw [e3] at q66
          rw [e4] at q67
          rw [f2] at qy
          have h8 := h57 n a (by omega) q67
          rw [q66] at h8
          exact Or.inr (Or.inr ⟨n, a, by omega, q67, by rw [← h8]; exact ql, q3, qy, q66⟩)
/-- a value changes that is no row -/
theorem RB_val {x k v rw : Int} (h : RB c C Y ln M) (hn : C 29 0 1 = M 40 0 22) (hm : C 29 0 3 = M 40 0 20) (kC : KpC C C1 Y Y1) (kM : KpM M M1) (hf : ∀ y, fcM M y ≤ 5) (hp : 0 ≤ x ∧ x < M 40 0 13 ∧ 0 ≤ k ∧ k < fcM M x) (hl3 : lnM M x k < 3)
    (eC : eNoteC C C1 Y Y1 (some x) k (C 16 x k) (Y 17 x k)) (hv : C1 16 x k = v) (ho : ∀ y j, ¬ (y = x ∧ j = k) → C1 16 y j = C 16 y j) (h17 : ∀ y j, Y1 17 y j = Y 17 y j) (h27 : C1 27 = C 27)
    (eM : eNoteM M M1 x k rw (-1) (M 56 0 (5 * x + k))) (hv2 : M1 56 0 (5 * x + k) = v) (ho2 : ∀ p, p ≠ 5 * x + k → M1 56 0 p = M 56 0 p) (h57 : M1 57 = M 57) (h58 : M1 58 = M 58) (h59 : M1 59 = M 59) (hl12 : LnL ln) : RB c C1 Y1 ln M1 ∧ C1 29 0 1 = M1 40 0 22 := by
  obtain ⟨h1, h2, h3⟩ := h
  have hl := kM.lnE
  have hc := kM.fcE
  obtain ⟨-, -, k55, k62, k13, k20⟩ := id kM
  obtain ⟨kc3, k31, k15⟩ := kC
  have hq := (h1.2 x hp.1 hp.2.1).2 k hp.2.2.1 hp.2.2.2
  have h57' : ∀ n, 0 ≤ n → n < M 40 0 22 → 0 ≤ M 67 0 n → M1 57 0 (M 66 0 n) = M 57 0 (M 66 0 n) := fun n _ _ _ => by rw [h57]
  have hN := rN_note h2 hn hm eC eM hl k31 k62 k20 h57' (fun q => hq.1 q) (fun q => by omega)
  refine ⟨⟨⟨by rw [kc3, k13]; exact h1.1, fun y y0 y1 => ?_⟩, hN.1, ?_⟩, hN.2⟩
  · rw [k13] at y1
    obtain ⟨a1, a2⟩ := h1.2 y y0 y1
    rw [k15, k55, hl, hc]
    refine ⟨a1, fun j j0 j1 => ?_⟩
    obtain ⟨b1, b2⟩ := a2 j j0 j1
    have := hf y
    have := hf x
    rw [h17]
    by_cases e : y = x ∧ j = k
    · obtain ⟨rfl, rfl⟩ := e
      exact ⟨fun _ => by rw [hv, hv2], fun q => by omega⟩
    · rw [ho y j e, ho2 _ (by omega)]
      exact ⟨b1, b2⟩
  · refine rR_sub h3 (Int.le_refl _) (fun g r l hg => ?_) (rR_same h3 (fun g _ _ => by rw [h27]) (fun _ _ _ => rfl) (fun g r l _ => ⟨by rw [h57], by rw [h58], fun i _ _ => by rw [h59]⟩) hl12)
    rcases hg with ⟨y, j, y0, y1, j0, j1, jl, l3, jy, jr⟩ | hg
    · rw [k13] at y1
      rw [hc] at j1
      rw [hl] at jl
      rw [h17] at jy
      have := hf y
      have := hf x
      have e : ¬ (y = x ∧ j = k) := fun e => by
        obtain ⟨rfl, rfl⟩ := e
        omega
      rw [ho2 _ (by omega)] at jr
      exact Or.inl ⟨y, j, y0, y1, j0, j1, jl, l3, jy, jr⟩
    · exact Lv_note hn hm eC eM hl h57' hp g r l hg
/-- a row comes to a place of rows: one that lived, a new one, or none -/
theorem RB_row {x k v c1 g0 r0 : Int} {ro : Option Int} (h : RB c C Y ln M) (hn : C 29 0 1 = M 40 0 22) (hm : C 29 0 3 = M 40 0 20) (kC : KpC C C1 Y Y1) (kM : KpM M M1) (hf : ∀ y, fcM M y ≤ 5) (hp : 0 ≤ x ∧ x < M 40 0 13 ∧ 0 ≤ k ∧ k < fcM M x) (hl3 : 3 ≤ lnM M x k)
    (eC : eNoteC C C1 Y Y1 (some x) k v (Y 17 x k)) (hv : Y1 17 x k = ro) (ho : ∀ y j, ¬ (y = x ∧ j = k) → Y1 17 y j = Y 17 y j) (h16 : ∀ y j, C1 16 y j = C 16 y j)
    (eM : eNoteM M M1 x k (M 56 0 (5 * x + k)) (-1) (M 56 0 (5 * x + k))) (hv2 : M1 56 0 (5 * x + k) = r0) (ho2 : ∀ p, p ≠ 5 * x + k → M1 56 0 p = M 56 0 p) (hnone : ro = none ↔ r0 < 0)
    (hc : 0 ≤ c ∧ c ≤ c1) (hkp : ∀ g r l, Lv Y M g r l → M1 57 0 r = l ∧ ln1 g = M1 58 0 r ∧ ∀ i, 0 ≤ i → i < ln1 g → C1 27 g i = M1 59 0 (12 * r + i)) (h57' : ∀ n, 0 ≤ n → n < M 40 0 22 → 0 ≤ M 67 0 n → M1 57 0 (M 66 0 n) = M 57 0 (M 66 0 n))
    (hcase : ro = none ∨ (ro = some g0 ∧ Lv Y M g0 r0 (lnM M x k)) ∨ (ro = some g0 ∧ (c ≤ g0 ∧ g0 < c1) ∧ (0 ≤ r0 ∧ r0 ≤ 399) ∧ (∀ g r l, Lv Y M g r l → r ≠ r0) ∧ M1 57 0 r0 = lnM M x k ∧ ln1 g0 = M1 58 0 r0 ∧ ∀ i, 0 ≤ i → i < ln1 g0 → C1 27 g0 i = M1 59 0 (12 * r0 + i))) : RB c1 C1 Y1 ln1 M1 ∧ C1 29 0 1 = M1 40 0 22 := by
  obtain ⟨h1, h2, h3⟩ := h
  have hl := kM.lnE
  have hcf := kM.fcE
  obtain ⟨-, -, k55, k62, k13, k20⟩ := id kM
  obtain ⟨kc3, k31, k15⟩ := kC
  have hq := (h1.2 x hp.1 hp.2.1).2 k hp.2.2.1 hp.2.2.2
  have hN := rN_note h2 hn hm eC eM hl k31 k62 k20 h57' (fun q => by omega) (fun q => ⟨hq.2 q, rfl⟩)
  have hsub : ∀ g r l, Lv Y1 M1 g r l → Lv Y M g r l ∨ (ro = some g ∧ r = r0 ∧ l = lnM M x k) := by
    intro g r l hg
    rcases hg with ⟨y, j, y0, y1, j0, j1, jl, l3, jy, jr⟩ | hg
    · rw [k13] at y1
      rw [hcf] at j1
      rw [hl] at jl
      have := hf y
      have := hf x
      by_cases e : y = x ∧ j = k
      · obtain ⟨rfl, rfl⟩ := e
        exact Or.inr ⟨by rw [← hv]; exact jy, by rw [← hv2]; exact jr.symm, jl.symm⟩
      · rw [ho y j e] at jy
        rw [ho2 _ (by omega)] at jr
        exact Or.inl (Or.inl ⟨y, j, y0, y1, j0, j1, jl, l3, jy, jr⟩)
    · exact Or.inl (Lv_note hn hm eC eM hl h57' hp g r l hg)
  refine ⟨⟨⟨by rw [kc3, k13]; exact h1.1, fun y y0 y1 => ?_⟩, hN.1, ?_⟩, hN.2⟩
  · rw [k13] at y1
    obtain ⟨a1, a2⟩ := h1.2 y y0 y1
    rw [k15, k55, hl, hcf]
    refine ⟨a1, fun j j0 j1 => ?_⟩
    obtain ⟨b1, b2⟩ := a2 j j0 j1
    have := hf y
    have := hf x
    rw [h16]
    by_cases e : y = x ∧ j = k
    · obtain ⟨rfl, rfl⟩ := e
      exact ⟨fun q => by omega, fun _ => by rw [hv, hv2]; exact hnone⟩
    · rw [ho y j e, ho2 _ (by omega)]
      exact ⟨b1, b2⟩
  · rcases hcase with e | ⟨e, hL⟩ | ⟨e, hg0, hr0, hfr, hn1, hn2, hn3⟩
    · refine rR_sub h3 hc.2 (fun g r l hg => ?_) hkp
      rcases hsub g r l hg with q | ⟨q, -, -⟩
      · exact q
      · rw [e] at q
        cases q
    · refine rR_sub h3 hc.2 (fun g r l hg => ?_) hkp
      rcases hsub g r l hg with q | ⟨q, q1, q2⟩
      · exact q
      · rw [e] at q
        cases q
        rw [q1, q2]
        exact hL
    · refine rR_new (g0 := g0) (r0 := r0) (l0 := lnM M x k) h3 hc.2 (fun g r l hg => ?_) hkp ⟨by omega, hg0.1, hg0.2⟩ hr0 hfr ⟨hn1, hn2, hn3⟩
      rcases hsub g r l hg with q | ⟨q, q1, q2⟩
      · exact Or.inl q
      · rw [e] at q
        cases q
        exact Or.inr ⟨rfl, q1, q2⟩
end RL
end
section
theorem u3_ij2 {α : Type} {Z : Nat → Int → Int → α} {k : Nat} {i j i1 j1 : Int} {v : α} (h : ¬ (i1 = i ∧ j1 = j)) : u3 Z k i j v k i1 j1 = Z k i1 j1 := by
  simp only [u3]
  rw [if_neg (fun q => h q.2)]
/-! an item changes, notes are taken back, things come and go, types change -/
section RO
variable {C C1 M M1 : Nat → Int → Int → Int} {Y Y1 : Nat → Int → Int → Option Int} {ln ln1 : Int → Int} {c c1 : Int}
theorem rN_item {g i v ws r th fd : Int} (h : rN C Y M) (hn : C 29 0 1 = M 40 0 22) (hm : C 29 0 3 = M 40 0 20) (eC : eNoteC C C1 Y Y1 none i v (some g)) (eM : eNoteM M M1 th fd r i ws) (hl : lnM M1 = lnM M) (h31 : C1 31 = C 31) (h62 : M1 62 = M 62) (h20 : M1 40 0 20 = M 40 0 20) (h57 : M1 57 = M 57) (hi : 0 ≤ i) (hv : v = ws) (h3 : 3 ≤ M 57 0 r) : rN C1 Y1 M1 ∧ C1 29 0 1 = M1 40 0 22 := by
  obtain ⟨n2, n3⟩ := h
  have hge : M 40 0 22 ≤ M1 40 0 22 := by rcases eM with ⟨-, d1, -⟩ | ⟨-, d1, -⟩ <;> omega
  refine ⟨⟨fun m a b => by
    obtain ⟨q1, q2, q3⟩ := n2 m a (by rw [← h20]; exact b)
    rw [h31, h62]
    exact ⟨q1, by omega, q3⟩, fun n a b => ?_⟩, ?_⟩
  · rcases eC with ⟨c0, c1, c2, c3⟩ | ⟨c0, c1, c2, c3⟩
    · rcases eM with ⟨d0, d1, d2⟩ | ⟨d0, d1, -⟩
      · have h9 := n3 n a (by omega)
        obtain ⟨e1, e2, e3, e4, e5⟩ := d2 n
        unfold nOK at *
        rw [e1, e2, e3, e4, e5, hl, c2, c3, h57]
        exact h9
      · omega
    · rcases eM with ⟨d0, -⟩ | ⟨d0, d1, d2, d3⟩
      · omega
      · by_cases hn9 : n = M 40 0 22
        · obtain ⟨e1, e2, e3, e4, e5⟩ := d2
          obtain ⟨f1, f2, f3, f4⟩ := c2
          rw [hn] at f1 f2 f3 f4
          subst hn9
          unfold nOK
          rw [e3, e4, e5, f1, f2, f3, f4, h57]
          exact ⟨fun q => by omega, fun _ => ⟨rfl, fun q => (by cases q), rfl, hv, h3⟩⟩
        · have h9 := n3 n a (by omega)
          obtain ⟨e1, e2, e3, e4, e5⟩ := d3 n hn9
          obtain ⟨f1, f2⟩ := c3 n (by rw [hn]; exact hn9)
          unfold nOK at *
          rw [e1, e2, e3, e4, e5, hl, f1 1, f1 2, f2 0, f2 3, h57]
          exact h9
  · rcases eC with ⟨c0, c1, -, -⟩ | ⟨c0, c1, -, -⟩ <;> rcases eM with ⟨d0, d1, -⟩ | ⟨d0, d1, -⟩ <;> omega
theorem Lv_item {g i v ws r th fd : Int} (hn : C 29 0 1 = M 40 0 22) (hm : C 29 0 3 = M 40 0 20) (eC : eNoteC C C1 Y Y1 none i v (some g)) (eM : eNoteM M M1 th fd r i ws) (hl : lnM M1 = lnM M) (h57 : M1 57 = M 57) (hi : 0 ≤ i) (hL : Lv Y M g r (M 57 0 r)) (g' r' l' : Int) (hv : LvN Y1 M1 g' r' l' ∨ LvI Y1 M1 g' r' l') : Lv Y M g' r' l' := by
  rcases hv with ⟨n, a, b, q67, ql, q3, qy, q68⟩ | ⟨n, a, b, q67, ql, q3, qy, q66⟩
  · rcases eC with ⟨c0, c1, c2, c3⟩ | ⟨c0, c1, c2, c3⟩
    · rcases eM with ⟨d0, d1, d2⟩ | ⟨d0, d1, -⟩
      · obtain ⟨e1, e2, e3, e4, e5⟩ := d2 n
        rw [e1, e2, hl] at ql
        rw [e4] at q67
        rw [c3] at qy
        rw [e5] at q68
        exact Or.inr (Or.inl ⟨n, a, by omega, q67, ql, q3, qy, q68⟩)
      · omega
    · rcases eM with ⟨d0, -⟩ | ⟨d0, d1, d2, d3⟩
      · omega
      · by_cases hn9 : n = M 40 0 22
        · obtain ⟨e1, e2, e3, e4, e5⟩ := d2
          subst hn9
          omega
        · obtain ⟨e1, e2, e3, e4, e5⟩ := d3 n hn9
          obtain ⟨f1, f2⟩ := c3 n (by rw [hn]; exact hn9)
          rw [e1, e2, hl] at ql
          rw [e4] at q67
          rw [f2] at qy
          rw [e5] at q68
          exact Or.inr (Or.inl ⟨n, a, by omega, q67, ql, q3, qy, q68⟩)
  · rw [h57] at ql
    rcases eC with ⟨c0, c1, c2, c3⟩ | ⟨c0, c1, c2, c3⟩
    · rcases eM with ⟨d0, d1, d2⟩ | ⟨d0, d1, -⟩
      · obtain ⟨e1, e2, e3, e4, e5⟩ := d2 n
        rw [e3] at q66
        rw [e4] at q67
        rw [c3] at qy
        exact Or.inr (Or.inr ⟨n, a, by omega, q67, ql, q3, qy, q66⟩)
      · omega
    · rcases eM with ⟨d0, -⟩ | ⟨d0, d1, d2, d3⟩
      · omega
      · by_cases hn9 : n = M 40 0 22
        · obtain ⟨e1, e2, e3, e4, e5⟩ := d2
          obtain ⟨f1, f2, f3, f4⟩ := c2
          rw [hn] at f4
          subst hn9
          rw [f4] at qy
          rw [e3] at q66
          cases qy
          subst q66
          rw [← ql]
          exact hL
        · obtain ⟨e1, e2, e3, e4, e5⟩ := d3 n hn9
          obtain ⟨f1, f2⟩ := c3 n (by rw [hn]; exact hn9)
          rw [e3] at q66
          rw [e4] at q67
          rw [f2] at qy
          exact Or.inr (Or.inr ⟨n, a, by omega, q67, ql, q3, qy, q66⟩)
/-- rows of which one item became the same on both sides -/
theorem rR_one {g r i w l0 : Int} (h : rR c C Y ln M) (hL : Lv Y M g r l0) (hi : 0 ≤ i ∧ i < 12) (hw : C1 27 g i = w) (ho : ∀ y j, ¬ (y = g ∧ j = i) → C1 27 y j = C 27 y j) (hw2 : M1 59 0 (12 * r + i) = w) (ho2 : ∀ p, p ≠ 12 * r + i → M1 59 0 p = M 59 0 p) (h57 : M1 57 = M 57) (h58 : M1 58 = M 58) (hl12 : LnL ln) : ∀ g r l, Lv Y M g r l → M1 57 0 r = l ∧ ln g = M1 58 0 r ∧ ∀ i, 0 ≤ i → i < ln g → C1 27 g i = M1 59 0 (12 * r + i) := by
  intro g' r' l' hv
  obtain ⟨a1, a2, a3, a4, a5, a6, a7⟩ := h.1 g' r' l' hv
  have hio := h.2 _ _ _ _ _ _ hv hL
  rw [h57, h58]
  refine ⟨a5, a6, fun j j0 j1 => ?_⟩
  have := hl12 g'
  by_cases e : g' = g
  · have er := hio.mp e
    subst e
    subst er
    by_cases ej : j = i
    · rw [ej, hw, hw2]
    · rw [ho _ _ (fun q => ej q.2), ho2 _ (by omega)]
      exact a7 j j0 j1
  · have er : r' ≠ r := fun q => e (hio.mpr q)
    rw [ho _ _ (fun q => e q.1), ho2 _ (by omega)]
    exact a7 j j0 j1
theorem RB_item {x k g r i w th fd : Int} (h : RB c C Y ln M) (hn : C 29 0 1 = M 40 0 22) (hm : C 29 0 3 = M 40 0 20) (kC : KpC C C1 Y Y1) (kM : KpM M M1) (hp : 0 ≤ x ∧ x < M 40 0 13 ∧ 0 ≤ k ∧ k < fcM M x) (hl3 : 3 ≤ lnM M x k) (hg : Y 17 x k = some g) (hr : M 56 0 (5 * x + k) = r) (hi : 0 ≤ i ∧ i < 12)
    (eC : eNoteC C C1 Y Y1 none i (C 27 g i) (some g)) (hw : C1 27 g i = w) (ho : ∀ y j, ¬ (y = g ∧ j = i) → C1 27 y j = C 27 y j) (h16 : C1 16 = C 16) (h17 : Y1 17 = Y 17)
    (eM : eNoteM M M1 th fd r i (M 59 0 (12 * r + i))) (hw2 : M1 59 0 (12 * r + i) = w) (ho2 : ∀ p, p ≠ 12 * r + i → M1 59 0 p = M 59 0 p) (h56 : M1 56 = M 56) (h57 : M1 57 = M 57) (h58 : M1 58 = M 58) (hil : i < ln g) (hl12 : LnL ln) : RB c C1 Y1 ln M1 ∧ C1 29 0 1 = M1 40 0 22 := by
  obtain ⟨h1, h2, h3⟩ := h
  have hl := kM.lnE
  have hcf := kM.fcE
  obtain ⟨-, -, k55, k62, k13, k20⟩ := id kM
  obtain ⟨kc3, k31, k15⟩ := kC
  have hL : Lv Y M g r (lnM M x k) := Or.inl ⟨x, k, hp.1, hp.2.1, hp.2.2.1, hp.2.2.2, rfl, hl3, hg, hr⟩
  obtain ⟨a1, a2, a3, a4, a5, a6, a7⟩ := h3.1 _ _ _ hL
  have hN := rN_item h2 hn hm eC eM hl k31 k62 k20 h57 hi.1 (a7 i hi.1 hil) (by rw [a5]; exact hl3)
  refine ⟨⟨⟨by rw [kc3, k13]; exact h1.1, fun y y0 y1 => ?_⟩, hN.1, ?_⟩, hN.2⟩
  · rw [k13] at y1
    rw [k15, k55, hl, hcf, h16, h17, h56]
    exact h1.2 y y0 y1
  · refine rR_sub h3 (Int.le_refl _) (fun g' r' l' hv => ?_) (rR_one h3 hL hi hw ho hw2 ho2 h57 h58 hl12)
    rcases hv with ⟨y, j, y0, y1, j0, j1, jl, l3, jy, jr⟩ | hv
    · rw [k13] at y1
      rw [hcf] at j1
      rw [hl] at jl
      rw [h17] at jy
      rw [h56] at jr
      exact Or.inl ⟨y, j, y0, y1, j0, j1, jl, l3, jy, jr⟩
    · exact Lv_item hn hm eC eM hl h57 hi.1 (by rw [a5]; exact hL) g' r' l' hv
/-! taking back -/
def uStC (n : Int) (C C1 : Nat → Int → Int → Int) (Y Y1 : Nat → Int → Int → Option Int) : Prop := (∃ x, Y 28 n 0 = some x ∧ C1 = u3 C 16 x (C 28 n 1) (C 28 n 2) ∧ Y1 = u3 Y 17 x (C 28 n 1) (Y 28 n 3)) ∨ (Y 28 n 0 = none ∧ ∃ g, Y 28 n 3 = some g ∧ C1 = u3 C 27 g (C 28 n 1) (C 28 n 2) ∧ Y1 = Y) ∨ (Y 28 n 0 = none ∧ Y 28 n 3 = none ∧ C1 = C ∧ Y1 = Y)
def uStM (n : Int) (M M1 : Nat → Int → Int → Int) : Prop := M 40 0 22 = n + 1 ∧ ((M 67 0 n < 0 ∧ M1 = u3 (u3 M 40 0 22 n) 56 0 (5 * M 64 0 n + M 65 0 n) (M 68 0 n)) ∨ (0 ≤ M 67 0 n ∧ M1 = u3 (u3 M 40 0 22 n) 59 0 (12 * M 66 0 n + M 67 0 n) (M 68 0 n)))
def uTrC (N : Int) : Nat → (Nat → Int → Int → Int) → (Nat → Int → Int → Option Int) → (Nat → Int → Int → Int) → (Nat → Int → Int → Option Int) → Prop
  | 0, C, Y, C1, Y1 => C1 = C ∧ Y1 = Y
  | j + 1, C, Y, C1, Y1 => ∃ C' Y', uTrC N j C Y C' Y' ∧ uStC (N - 1 - (j : Int)) C' C1 Y' Y1
def uTrM (N : Int) : Nat → (Nat → Int → Int → Int) → (Nat → Int → Int → Int) → Prop
  | 0, M, M1 => M1 = M
  | j + 1, M, M1 => ∃ M', uTrM N j M M' ∧ uStM (N - 1 - (j : Int)) M' M1
/-- what undoing leaves as it is -/
def uKp (C C1 : Nat → Int → Int → Int) (Y Y1 : Nat → Int → Int → Option Int) (M M1 : Nat → Int → Int → Int) : Prop := C1 28 = C 28 ∧ Y1 28 = Y 28 ∧ KpC C C1 Y Y1 ∧ KpM M M1 ∧ M1 64 = M 64 ∧ M1 65 = M 65 ∧ M1 66 = M 66 ∧ M1 67 = M 67 ∧ M1 68 = M 68 ∧ M1 57 = M 57 ∧ M1 58 = M 58
theorem RB_undo1 {n : Int} (h : RB c C Y ln M) (h0 : 0 ≤ n) (eC : uStC n C C1 Y Y1) (eM : uStM n M M1) (hp : M 67 0 n < 0 → 0 ≤ M 64 0 n ∧ M 64 0 n < M 40 0 13 ∧ 0 ≤ M 65 0 n ∧ M 65 0 n < fcM M (M 64 0 n)) (hi : M 67 0 n < 12) (hf : ∀ y, fcM M y ≤ 5) (hl12 : LnL ln) (hms : ∀ m, 0 ≤ m → m < M 40 0 20 → M 62 0 m ≤ n) : RB c C1 Y1 ln M1 ∧ M1 40 0 22 = n ∧ uKp C C1 Y Y1 M M1 := by
  obtain ⟨h1, h2, h3⟩ := h
  obtain ⟨e0, eM⟩ := eM
  have hnk := h2.2 n h0 (by omega)
  have kk : ∀ {α : Type} (Z : Nat → Int → Int → α) (k k' : Nat) (i j : Int) (v : α), k' ≠ k → u3 Z k i j v k' = Z k' := fun Z k k' i j v hk => u3_k _ _ _ _ hk
  rcases eM with ⟨q67, eM⟩ | ⟨q67, eM⟩
  · obtain ⟨p0, p1, p2, p3⟩ := hp q67
    obtain ⟨t1, t2, t3, t4⟩ := hnk.1 q67
    rcases eC with ⟨x, ex, eC, eY⟩ | ⟨ex, -⟩ | ⟨ex, -⟩
    · rw [t1] at ex
      cases ex
      rw [t2] at eC eY
      have m56 : ∀ j, j ≠ 5 * M 64 0 n + M 65 0 n → M1 56 0 j = M 56 0 j := fun j hj => by rw [eM, u3_j _ _ _ _ hj, u3_k _ _ _ _ (by decide)]
      have m56s : M1 56 0 (5 * M 64 0 n + M 65 0 n) = M 68 0 n := by rw [eM, u3_s]
      have mk : ∀ k' : Nat, k' ≠ 40 → k' ≠ 56 → M1 k' = M k' := fun k' a b => by rw [eM, u3_k _ _ _ _ b, u3_k _ _ _ _ a]
      have m22 : M1 40 0 22 = n := by rw [eM, u3_k _ _ _ _ (by decide), u3_s]
      have m13 : M1 40 0 13 = M 40 0 13 := by rw [eM, u3_k _ _ _ _ (by decide), u3_j _ _ _ _ (by decide)]
      have m20 : M1 40 0 20 = M 40 0 20 := by rw [eM, u3_k _ _ _ _ (by decide), u3_j _ _ _ _ (by decide)]
      have ck : ∀ k' : Nat, k' ≠ 16 → C1 k' = C k' := fun k' a => by rw [eC, u3_k _ _ _ _ a]
      have yk : ∀ k' : Nat, k' ≠ 17 → Y1 k' = Y k' := fun k' a => by rw [eY, u3_k _ _ _ _ a]
      have kM : KpM M M1 := ⟨mk 44 (by decide) (by decide), mk 46 (by decide) (by decide), mk 55 (by decide) (by decide), mk 62 (by decide) (by decide), m13, m20⟩
      have kC : KpC C C1 Y Y1 := ⟨by rw [ck 0 (by decide)], ck 31 (by decide), fun x => by rw [yk 15 (by decide)]⟩
      have hl := kM.lnE
      have hcf := kM.fcE
      refine ⟨⟨⟨by rw [kC.1, m13]; exact h1.1, fun y y0 y1 => ?_⟩, ⟨fun m a b => ?_, fun m a b => ?_⟩, ?_⟩, m22, ck 28 (by decide), yk 28 (by decide), kC, kM, mk 64 (by decide) (by decide), mk 65 (by decide) (by decide), mk 66 (by decide) (by decide), mk 67 (by decide) (by decide), mk 68 (by decide) (by decide), mk 57 (by decide) (by decide), mk 58 (by decide) (by decide)⟩
      · rw [m13] at y1
        obtain ⟨a1, a2⟩ := h1.2 y y0 y1
        rw [kC.2.2, kM.2.2.1, hl, hcf]
        refine ⟨a1, fun j j0 j1 => ?_⟩
        have := hf y
        have := hf (M 64 0 n)
        by_cases e : y = M 64 0 n ∧ j = M 65 0 n
        · obtain ⟨rfl, rfl⟩ := e
          rw [m56s, eC, u3_s, eY, u3_s]
          exact ⟨t3, fun q => (t4 q).1⟩
        · rw [m56 _ (by omega), eC, u3_ij2 e, eY, u3_ij2 e]
          exact a2 j j0 j1
      · rw [m20] at b
        rw [kC.2.1, kM.2.2.2.1, m22]
        obtain ⟨w1, w2, w3⟩ := h2.1 m a b
        exact ⟨w1, hms m a b, w3⟩
      · have h9 := h2.2 m a (by omega)
        unfold nOK at *
        rw [mk 64 (by decide) (by decide), mk 65 (by decide) (by decide), mk 66 (by decide) (by decide), mk 67 (by decide) (by decide), mk 68 (by decide) (by decide), mk 57 (by decide) (by decide), hl, ck 28 (by decide), yk 28 (by decide)]
        exact h9
      · refine rR_sub h3 (Int.le_refl _) (fun g r l hv => ?_) (rR_same h3 (fun g _ _ => by rw [ck 27 (by decide)]) (fun _ _ _ => rfl) (fun g r l _ => ⟨by rw [mk 57 (by decide) (by decide)], by rw [mk 58 (by decide) (by decide)], fun i _ _ => by rw [mk 59 (by decide) (by decide)]⟩) hl12)
        rcases hv with ⟨y, j, y0, y1, j0, j1, jl, l3, jy, jr⟩ | ⟨m, a, b, q, ql, q3, qy, q68⟩ | ⟨m, a, b, q, ql, q3, qy, q66⟩
        · rw [m13] at y1
          rw [hcf] at j1
          rw [hl] at jl
          have := hf y
          have := hf (M 64 0 n)
          by_cases e : y = M 64 0 n ∧ j = M 65 0 n
          · obtain ⟨rfl, rfl⟩ := e
            rw [m56s] at jr
            rw [eY, u3_s] at jy
            exact Or.inr (Or.inl ⟨n, h0, by omega, q67, jl, l3, jy, jr⟩)
          · rw [m56 _ (by omega)] at jr
            rw [eY, u3_ij2 e] at jy
            exact Or.inl ⟨y, j, y0, y1, j0, j1, jl, l3, jy, jr⟩
        · rw [mk 67 (by decide) (by decide)] at q
          rw [mk 64 (by decide) (by decide), mk 65 (by decide) (by decide), hl] at ql
          rw [yk 28 (by decide)] at qy
          rw [mk 68 (by decide) (by decide)] at q68
          exact Or.inr (Or.inl ⟨m, a, by omega, q, ql, q3, qy, q68⟩)
        · rw [mk 67 (by decide) (by decide)] at q
          rw [mk 57 (by decide) (by decide)] at ql
          rw [yk 28 (by decide)] at qy
          rw [mk 66 (by decide) (by decide)] at q66
          exact Or.inr (Or.inr ⟨m, a, by omega, q, ql, q3, qy, q66⟩)
    · rw [t1] at ex
      cases ex
    · rw [t1] at ex
      cases ex
  · obtain ⟨t1, t2, t3, t4, t5⟩ := hnk.2 q67
    rcases eC with ⟨x, ex, -⟩ | ⟨-, g, ex, eC, eY⟩ | ⟨-, ex, -⟩
    · rw [t1] at ex
      cases ex
    · rw [t3, t4] at eC
      have mk : ∀ k' : Nat, k' ≠ 40 → k' ≠ 59 → M1 k' = M k' := fun k' a b => by rw [eM, u3_k _ _ _ _ b, u3_k _ _ _ _ a]
      have m22 : M1 40 0 22 = n := by rw [eM, u3_k _ _ _ _ (by decide), u3_s]
      have m13 : M1 40 0 13 = M 40 0 13 := by rw [eM, u3_k _ _ _ _ (by decide), u3_j _ _ _ _ (by decide)]
      have m20 : M1 40 0 20 = M 40 0 20 := by rw [eM, u3_k _ _ _ _ (by decide), u3_j _ _ _ _ (by decide)]
      have ck : ∀ k' : Nat, k' ≠ 27 → C1 k' = C k' := fun k' a => by rw [eC, u3_k _ _ _ _ a]
      have kM : KpM M M1 := ⟨mk 44 (by decide) (by decide), mk 46 (by decide) (by decide), mk 55 (by decide) (by decide), mk 62 (by decide) (by decide), m13, m20⟩
      have kC : KpC C C1 Y Y1 := ⟨by rw [ck 0 (by decide)], ck 31 (by decide), fun x => by rw [eY]⟩
      have hl := kM.lnE
      have hcf := kM.fcE
      have hL : Lv Y M g (M 66 0 n) (M 57 0 (M 66 0 n)) := Or.inr (Or.inr ⟨n, h0, by omega, q67, rfl, t5, ex, rfl⟩)
      refine ⟨⟨⟨by rw [kC.1, m13]; exact h1.1, fun y y0 y1 => ?_⟩, ⟨fun m a b => ?_, fun m a b => ?_⟩, ?_⟩, m22, ck 28 (by decide), by rw [eY], kC, kM, mk 64 (by decide) (by decide), mk 65 (by decide) (by decide), mk 66 (by decide) (by decide), mk 67 (by decide) (by decide), mk 68 (by decide) (by decide), mk 57 (by decide) (by decide), mk 58 (by decide) (by decide)⟩
      · rw [m13] at y1
        rw [kM.2.2.1, hl, hcf, mk 56 (by decide) (by decide), ck 16 (by decide), eY]
        exact h1.2 y y0 y1
      · rw [m20] at b
        rw [kC.2.1, kM.2.2.2.1, m22]
        obtain ⟨w1, w2, w3⟩ := h2.1 m a b
        exact ⟨w1, hms m a b, w3⟩
      · have h9 := h2.2 m a (by omega)
        unfold nOK at *
        rw [mk 64 (by decide) (by decide), mk 65 (by decide) (by decide), mk 66 (by decide) (by decide), mk 67 (by decide) (by decide), mk 68 (by decide) (by decide), mk 57 (by decide) (by decide), hl, ck 28 (by decide), eY]
        exact h9
      · refine rR_sub h3 (Int.le_refl _) (fun g' r l hv => ?_) (rR_one (w := M 68 0 n) h3 hL ⟨q67, hi⟩ (by rw [eC, u3_s]) (fun y j e => by rw [eC, u3_ij2 e]) (by rw [eM, u3_s]) (fun p e => by rw [eM, u3_j _ _ _ _ e, u3_k _ _ _ _ (by decide)]) (mk 57 (by decide) (by decide)) (mk 58 (by decide) (by decide)) hl12)
        rcases hv with ⟨y, j, y0, y1, j0, j1, jl, l3, jy, jr⟩ | ⟨m, a, b, q, ql, q3, qy, q68⟩ | ⟨m, a, b, q, ql, q3, qy, q66⟩
        · rw [m13] at y1
          rw [hcf] at j1
          rw [hl] at jl
          rw [mk 56 (by decide) (by decide)] at jr
          rw [eY] at jy
          exact Or.inl ⟨y, j, y0, y1, j0, j1, jl, l3, jy, jr⟩
        · rw [mk 67 (by decide) (by decide)] at q
          rw [mk 64 (by decide) (by decide), mk 65 (by decide) (by decide), hl] at ql
          rw [eY] at qy
          rw [mk 68 (by decide) (by decide)] at q68
          exact Or.inr (Or.inl ⟨m, a, by omega, q, ql, q3, qy, q68⟩)
        · rw [mk 67 (by decide) (by decide)] at q
          rw [mk 57 (by decide) (by decide)] at ql
          rw [eY] at qy
          rw [mk 66 (by decide) (by decide)] at q66
          exact Or.inr (Or.inr ⟨m, a, by omega, q, ql, q3, qy, q66⟩)
    · exact absurd ex t2
theorem uKp.rf : uKp C C Y Y M M := ⟨rfl, rfl, ⟨rfl, rfl, fun _ => rfl⟩, ⟨rfl, rfl, rfl, rfl, rfl, rfl⟩, rfl, rfl, rfl, rfl, rfl, rfl, rfl⟩
theorem uKp.tr {C2 M2 : Nat → Int → Int → Int} {Y2 : Nat → Int → Int → Option Int} (h : uKp C C1 Y Y1 M M1) (g : uKp C1 C2 Y1 Y2 M1 M2) : uKp C C2 Y Y2 M M2 := by
  obtain ⟨a1, a2, ⟨a3, a4, a5⟩, ⟨b1, b2, b3, b4, b5, b6⟩, c1, c2, c3, c4, c5, c6, c7⟩ := h
  obtain ⟨d1, d2, ⟨d3, d4, d5⟩, ⟨f1, f2, f3, f4, f5, f6⟩, g1, g2, g3, g4, g5, g6, g7⟩ := g
  exact ⟨d1.trans a1, d2.trans a2, ⟨d3.trans a3, d4.trans a4, fun x => (d5 x).trans (a5 x)⟩, ⟨f1.trans b1, f2.trans b2, f3.trans b3, f4.trans b4, f5.trans b5, f6.trans b6⟩, g1.trans c1, g2.trans c2, g3.trans c3, g4.trans c4, g5.trans c5, g6.trans c6, g7.trans c7⟩
theorem RB_undo {N : Int} (hN : M 40 0 22 = N) (h : RB c C Y ln M) (hp : ∀ n, 0 ≤ n → n < N → M 67 0 n < 12 ∧ (M 67 0 n < 0 → 0 ≤ M 64 0 n ∧ M 64 0 n < M 40 0 13 ∧ 0 ≤ M 65 0 n ∧ M 65 0 n < fcM M (M 64 0 n))) (hf : ∀ y, fcM M y ≤ 5) (hl12 : LnL ln) : ∀ (j : Nat) (C1 M1 : Nat → Int → Int → Int) (Y1 : Nat → Int → Int → Option Int), (j : Int) ≤ N → (∀ m, 0 ≤ m → m < M 40 0 20 → M 62 0 m ≤ N - (j : Int)) → uTrC N j C Y C1 Y1 → uTrM N j M M1 → RB c C1 Y1 ln M1 ∧ M1 40 0 22 = N - (j : Int) ∧ uKp C C1 Y Y1 M M1 := by
  intro j
  induction j with
  | zero =>
    intro C1 M1 Y1 _ _ a b
    obtain ⟨rfl, rfl⟩ := a
    obtain rfl := b
    exact ⟨h, by rw [hN]; simp, uKp.rf⟩
  | succ j ih =>
    intro C1 M1 Y1 hj hst a b
    obtain ⟨C', Y', a1, a2⟩ := a
    obtain ⟨M', b1, b2⟩ := b
    obtain ⟨i1, i2, i3⟩ := ih C' M' Y' (by omega) (fun m m0 m1 => by have := hst m m0 m1; omega) a1 b1
    obtain ⟨k1, k2, kC, kM, k64, k65, k66, k67, k68, k57, k58⟩ := id i3
    have h9 := hp (N - 1 - (j : Int)) (by omega) (by omega)
    rw [← k67, ← k64, ← k65, ← kM.fcE, ← kM.2.2.2.2.1] at h9
    have h8 := RB_undo1 i1 (by omega) a2 b2 h9.2 h9.1 (by rw [kM.fcE]; exact hf) hl12 (fun m m0 m1 => by
      rw [kM.2.2.2.2.2] at m1
      rw [kM.2.2.2.1]
      have := hst m m0 m1
      omega)
    exact ⟨h8.1, by rw [h8.2.1]; omega, i3.tr h8.2.2⟩
/-- a mark more -/
theorem rN_mark (h : rN C Y M) (hn : C 29 0 1 = M 40 0 22) (hm : C 29 0 3 = M 40 0 20) (h28 : ∀ n, C1 28 n 1 = C 28 n 1 ∧ C1 28 n 2 = C 28 n 2) (hs : C1 31 0 (C 29 0 3) = C 29 0 1) (ho : ∀ j, j ≠ C 29 0 3 → C1 31 0 j = C 31 0 j) (ms : M1 62 0 (M 40 0 20) = M 40 0 22) (mo : ∀ j, j ≠ M 40 0 20 → M1 62 0 j = M 62 0 j) (m20 : M1 40 0 20 = M 40 0 20 + 1) (m22 : M1 40 0 22 = M 40 0 22) (hl : lnM M1 = lnM M) (hk : ∀ k ∈ [57, 64, 65, 66, 67, 68], M1 k = M k) : rN C1 Y M1 := by
  refine ⟨fun m a b => ?_, fun n a b => ?_⟩
  · by_cases e : m = M 40 0 20
    · rw [e, ms, m22, ← hm, hs]
      refine ⟨hn, Int.le_refl _, fun m' a' b' => ?_⟩
      rw [hm] at b'
      by_cases e' : m' = M 40 0 20
      · rw [e', ms]
        exact Int.le_refl _
      · rw [mo m' e']
        exact (h.1 m' a' (by omega)).2.1
    · rw [mo m e, ho m (by rw [hm]; exact e), m22]
      obtain ⟨q1, q2, q3⟩ := h.1 m a (by omega)
      exact ⟨q1, q2, fun m' a' b' => by rw [mo m' (by omega)]; exact q3 m' a' b'⟩
  · have h9 := h.2 n a (by omega)
    unfold nOK at *
    rw [hk 64 (by decide), hk 65 (by decide), hk 66 (by decide), hk 67 (by decide), hk 68 (by decide), hk 57 (by decide), hl, (h28 n).1, (h28 n).2]
    exact h9
end RO
end
section
/-! things come, fields come and go -/
section RT
variable {C C1 M M1 : Nat → Int → Int → Int} {Y Y1 : Nat → Int → Int → Option Int} {ln ln1 : Int → Int} {c c1 : Int}
/-- the notes and rows as they are -/
def KpN (C C1 : Nat → Int → Int → Int) (Y Y1 : Nat → Int → Int → Option Int) (M M1 : Nat → Int → Int → Int) : Prop := C1 28 = C 28 ∧ Y1 28 = Y 28 ∧ C1 31 = C 31 ∧ C1 27 = C 27 ∧ (∀ k ∈ [57, 58, 59, 62, 64, 65, 66, 67, 68], M1 k = M k) ∧ M1 40 0 20 = M 40 0 20 ∧ M1 40 0 22 = M 40 0 22
theorem KpN.of {L N K : List Nat} (h : Frm L C C1) (g : Frm N Y Y1) (k : Frm K M M1) (hd : ∀ q ∈ [2801, 2802, 2803, 2804, 3100, 2700], q ∉ L) (hx : ∀ j, fcode 28 j ∉ L) (hy : ∀ j, fcode 28 j ∉ N) (hk : ∀ q ∈ [5700, 5800, 5900, 6200, 6400, 6500, 6600, 6700, 6800, 4021, 4023], q ∉ K) : KpN C C1 Y Y1 M M1 := by
  refine ⟨h.fn 28 hx, g.fn 28 hy, h.arr 31 (by decide +kernel) (hd 3100 (by decide)), h.arr 27 (by decide +kernel) (hd 2700 (by decide)), fun q hq => ?_, k 40 0 20 (hk 4021 (by decide)), k 40 0 22 (hk 4023 (by decide))⟩
  simp only [List.mem_cons, List.not_mem_nil, or_false] at hq
  rcases hq with rfl | rfl | rfl | rfl | rfl | rfl | rfl | rfl | rfl
  · exact k.arr 57 (by decide +kernel) (hk 5700 (by decide))
  · exact k.arr 58 (by decide +kernel) (hk 5800 (by decide))
  · exact k.arr 59 (by decide +kernel) (hk 5900 (by decide))
  · exact k.arr 62 (by decide +kernel) (hk 6200 (by decide))
  · exact k.arr 64 (by decide +kernel) (hk 6400 (by decide))
  · exact k.arr 65 (by decide +kernel) (hk 6500 (by decide))
  · exact k.arr 66 (by decide +kernel) (hk 6600 (by decide))
  · exact k.arr 67 (by decide +kernel) (hk 6700 (by decide))
  · exact k.arr 68 (by decide +kernel) (hk 6800 (by decide))
theorem KpN.nok {n : Int} (h : KpN C C1 Y Y1 M M1) (hl : M 67 0 n < 0 → lnM M1 (M 64 0 n) (M 65 0 n) = lnM M (M 64 0 n) (M 65 0 n)) (h9 : nOK C Y M n) : nOK C1 Y1 M1 n := by
  obtain ⟨k1, k2, k3, k4, k5, k6, k7⟩ := h
  unfold nOK at *
  rw [k5 64 (by decide), k5 65 (by decide), k5 66 (by decide), k5 67 (by decide), k5 68 (by decide), k5 57 (by decide), k1, k2]
  refine ⟨fun q => ?_, h9.2⟩
  rw [hl q]
  exact h9.1 q
theorem KpN.lv {g r l : Int} (h : KpN C C1 Y Y1 M M1) (hl : ∀ n, 0 ≤ n → n < M 40 0 22 → M 67 0 n < 0 → lnM M1 (M 64 0 n) (M 65 0 n) = lnM M (M 64 0 n) (M 65 0 n)) (hv : LvN Y1 M1 g r l ∨ LvI Y1 M1 g r l) : Lv Y M g r l := by
  obtain ⟨k1, k2, k3, k4, k5, k6, k7⟩ := h
  rcases hv with ⟨n, a, b, q67, ql, q3, qy, q68⟩ | ⟨n, a, b, q67, ql, q3, qy, q66⟩
  · rw [k7] at b
    rw [k5 67 (by decide)] at q67
    rw [k5 64 (by decide), k5 65 (by decide), hl n a b q67] at ql
    rw [k2] at qy
    rw [k5 68 (by decide)] at q68
    exact Or.inr (Or.inl ⟨n, a, b, q67, ql, q3, qy, q68⟩)
  · rw [k7] at b
    rw [k5 67 (by decide)] at q67
    rw [k5 57 (by decide)] at ql
    rw [k2] at qy
    rw [k5 66 (by decide)] at q66
    exact Or.inr (Or.inr ⟨n, a, b, q67, ql, q3, qy, q66⟩)
/-- the notes and the rows behind a change that is none of theirs: what is left to show is the places -/
theorem RB_of (h : RB c C Y ln M) (kN : KpN C C1 Y Y1 M M1) (hc : c ≤ c1) (hln : ∀ g, 0 ≤ g → g < c → ln1 g = ln g) (hl12 : LnL ln) (hl : ∀ n, 0 ≤ n → n < M 40 0 22 → M 67 0 n < 0 → lnM M1 (M 64 0 n) (M 65 0 n) = lnM M (M 64 0 n) (M 65 0 n)) (hH : rH C1 Y1 M1) (hv : ∀ g r l, LvF Y1 M1 g r l → Lv Y M g r l) : RB c1 C1 Y1 ln1 M1 := by
  obtain ⟨h1, h2, h3⟩ := h
  obtain ⟨k1, k2, k3, k4, k5, k6, k7⟩ := id kN
  refine ⟨hH, ⟨fun m a b => ?_, fun n a b => kN.nok (hl n a (by omega)) (h2.2 n a (by omega))⟩, ?_⟩
  · rw [k3, k5 62 (by decide), k7]
    exact h2.1 m a (by omega)
  · refine rR_sub h3 hc (fun g r l q => ?_) (rR_same h3 (fun g _ _ => by rw [k4]) hln (fun g r l _ => ⟨by rw [k5 57 (by decide)], by rw [k5 58 (by decide)], fun i _ _ => by rw [k5 59 (by decide)]⟩) hl12)
    rcases q with q | q
    · exact hv g r l q
    · exact kN.lv hl q
/-- N things come, the types T, all their fields as at first -/
theorem RB_things {N : Int} {T : Int → Int} (h : RB c C Y ln M) (kN : KpN C C1 Y Y1 M M1) (hl12 : LnL ln) (hN : 0 ≤ N)
    (c3 : C1 0 0 3 = C 0 0 3 + N) (c15 : ∀ y, M 40 0 13 ≤ y → y < M 40 0 13 + N → Y1 15 y 0 = some (T y)) (c15o : ∀ y, y < M 40 0 13 → Y1 15 y 0 = Y 15 y 0)
    (cn : ∀ y k, M 40 0 13 ≤ y → y < M 40 0 13 + N → 0 ≤ k → k < M 44 0 (T y) → C1 16 y k = C 22 (T y) k ∧ Y1 17 y k = none) (co : ∀ y k, y < M 40 0 13 → C1 16 y k = C 16 y k ∧ Y1 17 y k = Y 17 y k)
    (m13 : M1 40 0 13 = M 40 0 13 + N) (m44 : M1 44 = M 44) (m46 : M1 46 = M 46) (m55 : ∀ y, M 40 0 13 ≤ y → y < M 40 0 13 + N → M1 55 0 y = T y) (m55o : ∀ y, y < M 40 0 13 → M1 55 0 y = M 55 0 y)
    (mn : ∀ y k, M 40 0 13 ≤ y → y < M 40 0 13 + N → 0 ≤ k → k < M 44 0 (T y) → M1 56 0 (5 * y + k) = M 47 0 (5 * T y + k)) (mo : ∀ j, j < 5 * M 40 0 13 → M1 56 0 j = M 56 0 j) (hf : ∀ t, M 44 0 t ≤ 5)
    (hd : ∀ y k, M 40 0 13 ≤ y → y < M 40 0 13 + N → 0 ≤ k → k < M 44 0 (T y) → C 22 (T y) k = M 47 0 (5 * T y + k) ∧ (M 46 0 (5 * T y + k) ≠ 0 → M 47 0 (5 * T y + k) = -1))
    (hnt : ∀ n, 0 ≤ n → n < M 40 0 22 → M 67 0 n < 0 → M 64 0 n < M 40 0 13) : RB c C1 Y1 ln M1 := by
  have hl : ∀ y k, y < M 40 0 13 → lnM M1 y k = lnM M y k := fun y k hy => by simp only [lnM, m46, m55o y hy]
  have hc : ∀ y, y < M 40 0 13 → fcM M1 y = fcM M y := fun y hy => by simp only [fcM, m44, m55o y hy]
  have hln : ∀ y k, M 40 0 13 ≤ y → y < M 40 0 13 + N → lnM M1 y k = M 46 0 (5 * T y + k) := fun y k h0 h1 => by simp only [lnM, m46, m55 y h0 h1]
  have hcn : ∀ y, M 40 0 13 ≤ y → y < M 40 0 13 + N → fcM M1 y = M 44 0 (T y) := fun y h0 h1 => by simp only [fcM, m44, m55 y h0 h1]
  refine RB_of h kN (Int.le_refl _) (fun _ _ _ => rfl) hl12 (fun n a b q => hl _ _ (hnt n a b q)) ⟨by rw [c3, m13, h.1.1], fun y y0 y1 => ?_⟩ (fun g r l q => ?_)
  · rw [m13] at y1
    by_cases hy : y < M 40 0 13
    · obtain ⟨a1, a2⟩ := h.1.2 y y0 hy
      rw [c15o y hy, m55o y hy, hc y hy]
      refine ⟨a1, fun k k0 k1 => ?_⟩
      have hf1 : fcM M y ≤ 5 := hf _
      rw [hl y k hy, (co y k hy).1, (co y k hy).2, mo _ (by omega)]
      exact a2 k k0 k1
    · rw [c15 y (by omega) y1, m55 y (by omega) y1, hcn y (by omega) y1]
      refine ⟨rfl, fun k k0 k1 => ?_⟩
      have e1 := cn y k (by omega) y1 k0 k1
      have e2 := hd y k (by omega) y1 k0 k1
      rw [hln y k (by omega) y1, e1.1, e1.2, mn y k (by omega) y1 k0 k1]
      exact ⟨fun _ => e2.1, fun q => ⟨fun _ => by rw [e2.2 (by omega)]; decide, fun _ => rfl⟩⟩
  · obtain ⟨y, k, y0, y1, k0, k1, kl, l3, ky, kr⟩ := q
    rw [m13] at y1
    by_cases hy : y < M 40 0 13
    · have hf1 : fcM M y ≤ 5 := hf _
      rw [hc y hy] at k1
      rw [hl y k hy] at kl
      rw [(co y k hy).2] at ky
      rw [mo _ (by omega)] at kr
      exact Or.inl ⟨y, k, y0, hy, k0, k1, kl, l3, ky, kr⟩
    · rw [hcn y (by omega) y1] at k1
      rw [(cn y k (by omega) y1 k0 k1).2] at ky
      cases ky
/-- things go: the last ones, that no other and no note speaks of -/
theorem RB_less {N : Int} (h : RB c C Y ln M) (kN : KpN C C1 Y Y1 M M1) (hl12 : LnL ln) (hN : 0 ≤ N ∧ N ≤ M 40 0 13) (c3 : C1 0 0 3 = N) (m13 : M1 40 0 13 = N) (m44 : M1 44 = M 44) (m46 : M1 46 = M 46) (m55 : M1 55 = M 55) (m56 : M1 56 = M 56) (c16 : C1 16 = C 16) (y15 : Y1 15 = Y 15) (y17 : Y1 17 = Y 17) : RB c C1 Y1 ln M1 := by
  have hl : lnM M1 = lnM M := by
    funext y k
    simp only [lnM, m46, m55]
  have hc : fcM M1 = fcM M := by
    funext y
    simp only [fcM, m44, m55]
  refine RB_of h kN (Int.le_refl _) (fun _ _ _ => rfl) hl12 (fun n a b q => by rw [hl]) ⟨by rw [c3, m13], fun y y0 y1 => ?_⟩ (fun g r l q => ?_)
  · rw [hl, hc, m55, m56, c16, y15, y17]
    exact h.1.2 y y0 (by omega)
  · obtain ⟨y, k, y0, y1, k0, k1, kl, l3, ky, kr⟩ := q
    rw [hc] at k1
    rw [hl] at kl
    rw [y17] at ky
    rw [m56] at kr
    exact Or.inl ⟨y, k, y0, by omega, k0, k1, kl, l3, ky, kr⟩
/-- the things' types, their fields and lanes as they are -/
theorem RB_keep (h : RB c C Y ln M) (kN : KpN C C1 Y Y1 M M1) (hc1 : c ≤ c1) (hlN : ∀ g, 0 ≤ g → g < c → ln1 g = ln g) (hl12 : LnL ln) (c3 : C1 0 0 3 = C 0 0 3) (m13 : M1 40 0 13 = M 40 0 13) (m55 : M1 55 = M 55) (m56 : M1 56 = M 56) (c16 : C1 16 = C 16) (y15 : ∀ x, Y1 15 x 0 = Y 15 x 0) (y17 : Y1 17 = Y 17) (hf : ∀ y, 0 ≤ y → y < M 40 0 13 → fcM M1 y = fcM M y ∧ ∀ k, 0 ≤ k → k < fcM M y → lnM M1 y k = lnM M y k)
    (hnt : ∀ n, 0 ≤ n → n < M 40 0 22 → M 67 0 n < 0 → (0 ≤ M 64 0 n ∧ M 64 0 n < M 40 0 13) ∧ 0 ≤ M 65 0 n ∧ M 65 0 n < fcM M (M 64 0 n)) : RB c1 C1 Y1 ln1 M1 := by
  refine RB_of h kN hc1 hlN hl12 (fun n a b q => ?_) ⟨by rw [c3, m13]; exact h.1.1, fun y y0 y1 => ?_⟩ (fun g r l q => ?_)
  · obtain ⟨q1, q2⟩ := hnt n a b q
    exact (hf _ q1.1 q1.2).2 _ q2.1 q2.2
  · rw [m13] at y1
    obtain ⟨f1, f2⟩ := hf y y0 y1
    obtain ⟨a1, a2⟩ := h.1.2 y y0 y1
    rw [m55, m56, c16, y15, y17, f1]
    refine ⟨a1, fun k k0 k1 => ?_⟩
    rw [f2 k k0 k1]
    exact a2 k k0 k1
  · obtain ⟨y, k, y0, y1, k0, k1, kl, l3, ky, kr⟩ := q
    rw [m13] at y1
    obtain ⟨f1, f2⟩ := hf y y0 y1
    rw [f1] at k1
    rw [f2 k k0 k1] at kl
    rw [y17] at ky
    rw [m56] at kr
    exact Or.inl ⟨y, k, y0, y1, k0, k1, kl, l3, ky, kr⟩
/-- a field comes to type t: no mark stands, so no note -/
theorem RB_field {t kk dv : Int} (h : RB c C Y ln M) (kN : KpN C C1 Y Y1 M M1) (hl12 : LnL ln) (h0 : M 40 0 22 = 0) (hkk : kk = M 44 0 t) (hk4 : 0 ≤ kk ∧ kk ≤ 4) (c3 : C1 0 0 3 = C 0 0 3) (y15 : ∀ x, Y1 15 x 0 = Y 15 x 0) (m13 : M1 40 0 13 = M 40 0 13) (m55 : M1 55 = M 55) (m44 : M1 44 0 t = kk + 1) (m44o : ∀ y, y ≠ t → M1 44 0 y = M 44 0 y) (m46o : ∀ y, y ≠ 5 * t + kk → M1 46 0 y = M 46 0 y) (hf : ∀ t, M 44 0 t ≤ 5)
    (cn : ∀ x, 0 ≤ x → x < C 0 0 3 → Y 15 x 0 = some t → C1 16 x kk = dv ∧ Y1 17 x kk = none) (co : ∀ x k, 0 ≤ x → x < C 0 0 3 → ¬ (Y 15 x 0 = some t ∧ k = kk) → C1 16 x k = C 16 x k ∧ Y1 17 x k = Y 17 x k)
    (mn : ∀ x, 0 ≤ x → x < M 40 0 13 → M 55 0 x = t → M1 56 0 (5 * x + kk) = dv) (mo : ∀ x k, 0 ≤ x → x < M 40 0 13 → 0 ≤ k → k ≤ 4 → ¬ (M 55 0 x = t ∧ k = kk) → M1 56 0 (5 * x + k) = M 56 0 (5 * x + k)) (hdv : 3 ≤ M1 46 0 (5 * t + kk) → dv = -1) : RB c C1 Y1 ln M1 := by
  have hx : ∀ x, 0 ≤ x → x < M 40 0 13 → Y 15 x 0 = some (M 55 0 x) := fun x a b => (h.1.2 x a b).1
  have hc3 := h.1.1
  have hl : ∀ y k, 0 ≤ k → k < fcM M y → lnM M1 y k = lnM M y k := fun y k k0 k1 => by
    have := hf (M 55 0 y)
    simp only [fcM] at k1
    simp only [lnM, m55]
    refine m46o _ (fun q => ?_)
    by_cases e : M 55 0 y = t
    · rw [e] at q k1
      omega
    · omega
  refine RB_of h kN (Int.le_refl _) (fun _ _ _ => rfl) hl12 (fun n a b q => by omega) ⟨by rw [c3, m13]; exact hc3, fun y y0 y1 => ?_⟩ (fun g r l q => ?_)
  · rw [m13] at y1
    obtain ⟨a1, a2⟩ := h.1.2 y y0 y1
    rw [y15, m55]
    refine ⟨a1, fun k k0 k1 => ?_⟩
    by_cases e : M 55 0 y = t ∧ k = kk
    · obtain ⟨e1, e2⟩ := e
      have e3 := cn y y0 (by omega) (by rw [a1, e1])
      have e4 := mn y y0 y1 e1
      have e5 : lnM M1 y kk = M1 46 0 (5 * t + kk) := by simp only [lnM, m55, e1]
      rw [e2, e3.1, e3.2, e4, e5]
      exact ⟨fun _ => rfl, fun q => ⟨fun _ => by rw [hdv q]; decide, fun _ => rfl⟩⟩
    · have hk : k < fcM M y := by
        simp only [fcM, m55] at k1 ⊢
        by_cases e1 : M 55 0 y = t
        · rw [e1, m44] at k1
          rw [e1]
          have : k ≠ kk := fun q => e ⟨e1, q⟩
          omega
        · rw [m44o _ e1] at k1
          exact k1
      have hf1 := hf (M 55 0 y)
      have hk4' : k ≤ 4 := by
        simp only [fcM] at hk
        omega
      have e3 := co y k y0 (by omega) (fun q => e ⟨by have q1 := q.1; rw [a1] at q1; cases q1; rfl, q.2⟩)
      rw [e3.1, e3.2, mo y k y0 y1 k0 hk4' e, hl y k k0 hk]
      exact a2 k k0 hk
  · obtain ⟨y, k, y0, y1, k0, k1, kl, l3, ky, kr⟩ := q
    rw [m13] at y1
    have a1 := hx y y0 y1
    by_cases e : M 55 0 y = t ∧ k = kk
    · obtain ⟨e1, e2⟩ := e
      rw [e2, (cn y y0 (by omega) (by rw [a1, e1])).2] at ky
      cases ky
    · have hk : k < fcM M y := by
        simp only [fcM, m55] at k1 ⊢
        by_cases e1 : M 55 0 y = t
        · rw [e1, m44] at k1
          rw [e1]
          have : k ≠ kk := fun q => e ⟨e1, q⟩
          omega
        · rw [m44o _ e1] at k1
          exact k1
      have hf1 := hf (M 55 0 y)
      have hk4' : k ≤ 4 := by
        simp only [fcM] at hk
        omega
      have e3 := co y k y0 (by omega) (fun q => e ⟨by have q1 := q.1; rw [a1] at q1; cases q1; rfl, q.2⟩)
      rw [e3.2] at ky
      rw [mo y k y0 y1 k0 hk4' e] at kr
      rw [hl y k k0 hk] at kl
      exact Or.inl ⟨y, k, y0, y1, k0, hk, kl, l3, ky, kr⟩
/-- the field kk of type t goes -/
theorem RB_drop {t kk : Int} (h : RB c C Y ln M) (kN : KpN C C1 Y Y1 M M1) (hl12 : LnL ln) (h0 : M 40 0 22 = 0) (hkk : 0 ≤ kk ∧ kk < M 44 0 t) (c3 : C1 0 0 3 = C 0 0 3) (y15 : ∀ x, Y1 15 x 0 = Y 15 x 0) (m13 : M1 40 0 13 = M 40 0 13) (m55 : M1 55 = M 55) (m44 : M1 44 0 t = M 44 0 t - 1) (m44o : ∀ y, y ≠ t → M1 44 0 y = M 44 0 y) (m46 : Sh 46 M M1 0 (5 * t + kk) (5 * t + (M 44 0 t - 1))) (hf : ∀ t, M 44 0 t ≤ 5)
    (cn : ∀ x k, 0 ≤ x → x < C 0 0 3 → Y 15 x 0 = some t → kk ≤ k → k < 4 → C1 16 x k = C 16 x (k + 1) ∧ Y1 17 x k = Y 17 x (k + 1)) (co : ∀ x k, 0 ≤ x → x < C 0 0 3 → ¬ (Y 15 x 0 = some t ∧ kk ≤ k) → C1 16 x k = C 16 x k ∧ Y1 17 x k = Y 17 x k)
    (mn : ∀ x k, 0 ≤ x → x < M 40 0 13 → M 55 0 x = t → kk ≤ k → k < M 44 0 t - 1 → M1 56 0 (5 * x + k) = M 56 0 (5 * x + k + 1)) (mo : ∀ x k, 0 ≤ x → x < M 40 0 13 → 0 ≤ k → k ≤ 4 → ¬ (M 55 0 x = t ∧ kk ≤ k) → M1 56 0 (5 * x + k) = M 56 0 (5 * x + k)) : RB c C1 Y1 ln M1 := by
  have hc3 := h.1.1
  have hft := hf t
  -- a field behind is one of before
  have key : ∀ y k, 0 ≤ y → y < M 40 0 13 → 0 ≤ k → k < fcM M1 y → ∃ k', 0 ≤ k' ∧ k' < fcM M y ∧ lnM M1 y k = lnM M y k' ∧ C1 16 y k = C 16 y k' ∧ Y1 17 y k = Y 17 y k' ∧ M1 56 0 (5 * y + k) = M 56 0 (5 * y + k') := by
    intro y k y0 y1 k0 k1
    have a1 := (h.1.2 y y0 y1).1
    have hfy := hf (M 55 0 y)
    simp only [fcM, m55] at k1
    by_cases e : M 55 0 y = t ∧ kk ≤ k
    · obtain ⟨e1, e2⟩ := e
      rw [e1, m44] at k1
      have e3 := cn y k y0 (by omega) (by rw [a1, e1]) e2 (by omega)
      refine ⟨k + 1, by omega, by simp only [fcM, e1]; omega, ?_, e3.1, e3.2, by rw [mn y k y0 y1 e1 e2 k1, show 5 * y + k + 1 = 5 * y + (k + 1) by omega]⟩
      simp only [lnM, m55, e1]
      rw [m46, if_pos ⟨rfl, by omega, by omega⟩, show 5 * t + k + 1 = 5 * t + (k + 1) by omega]
    · have hk : k < M 44 0 (M 55 0 y) := by
        by_cases e1 : M 55 0 y = t
        · rw [e1, m44] at k1
          rw [e1]
          omega
        · rw [m44o _ e1] at k1
          exact k1
      have e3 := co y k y0 (by omega) (fun q => e ⟨by have q1 := q.1; rw [a1] at q1; cases q1; rfl, q.2⟩)
      refine ⟨k, k0, hk, ?_, e3.1, e3.2, mo y k y0 y1 k0 (by omega) e⟩
      simp only [lnM, m55]
      rw [m46, if_neg (fun q => ?_)]
      by_cases e1 : M 55 0 y = t
      · rw [e1] at q
        exact e ⟨e1, by omega⟩
      · omega
  refine RB_of h kN (Int.le_refl _) (fun _ _ _ => rfl) hl12 (fun n a b q => by omega) ⟨by rw [c3, m13]; exact hc3, fun y y0 y1 => ?_⟩ (fun g r l q => ?_)
  · rw [m13] at y1
    obtain ⟨a1, a2⟩ := h.1.2 y y0 y1
    rw [y15, m55]
    refine ⟨a1, fun k k0 k1 => ?_⟩
    obtain ⟨k', p1, p2, p3, p4, p5, p6⟩ := key y k y0 y1 k0 k1
    rw [p3, p4, p5, p6]
    exact a2 k' p1 p2
  · obtain ⟨y, k, y0, y1, k0, k1, kl, l3, ky, kr⟩ := q
    rw [m13] at y1
    obtain ⟨k', p1, p2, p3, p4, p5, p6⟩ := key y k y0 y1 k0 k1
    rw [p3] at kl
    rw [p5] at ky
    rw [p6] at kr
    exact Or.inl ⟨y, k', y0, y1, p1, p2, kl, l3, ky, kr⟩
end RT
end
section
/-! one position of recording, case by case -/
section RP
variable {la vl rid : Int → Int → Int} {y k p : Int} {s : Nat → Int → Int}
theorem recP_1 (h : la y k < 2) : recP la vl rid y k p s = u2 s 5 p (vl y k) := by unfold recP; rw [if_pos h]
theorem recP_2n (h : la y k = 2) (hv : vl y k < 0) : recP la vl rid y k p s = u2 s 5 p (-1) := by unfold recP; rw [if_neg (by omega), if_pos h, if_pos hv]
theorem recP_2o (h : la y k = 2) (hv : 0 ≤ vl y k) (hn : nmAt (s 1) (vl y k) (s 0 0).toNat ≠ -1) : recP la vl rid y k p s = u2 s 5 p (nmAt (s 1) (vl y k) (s 0 0).toNat) := by unfold recP; rw [if_neg (by omega), if_pos h, if_neg (by omega), if_neg hn]
theorem recP_2w (h : la y k = 2) (hv : 0 ≤ vl y k) (hn : nmAt (s 1) (vl y k) (s 0 0).toNat = -1) : recP la vl rid y k p s = u2 (u2 (u2 s 1 (s 0 0) (vl y k)) 5 p (s 0 0)) 0 0 (s 0 0 + 1) := by unfold recP; rw [if_neg (by omega), if_pos h, if_neg (by omega), if_pos hn]
theorem recP_3n (h : 3 ≤ la y k) (hv : rid y k < 0) : recP la vl rid y k p s = u2 s 5 p (-1) := by unfold recP; rw [if_neg (by omega), if_neg (by omega), if_pos hv]
theorem recP_3o (h : 3 ≤ la y k) (hv : 0 ≤ rid y k) (hn : nmAt (fun q => rid (s 3 q) (s 4 q)) (rid y k) (s 2 0).toNat ≠ -1) : recP la vl rid y k p s = u2 s 5 p (nmAt (fun q => rid (s 3 q) (s 4 q)) (rid y k) (s 2 0).toNat) := by unfold recP; rw [if_neg (by omega), if_neg (by omega), if_neg (by omega), if_neg hn]
theorem recP_3w (h : 3 ≤ la y k) (hv : 0 ≤ rid y k) (hn : nmAt (fun q => rid (s 3 q) (s 4 q)) (rid y k) (s 2 0).toNat = -1) : recP la vl rid y k p s = u2 (u2 (u2 (u2 s 3 (s 2 0) y) 4 (s 2 0) k) 5 p (s 2 0)) 2 0 (s 2 0 + 1) := by unfold recP; rw [if_neg (by omega), if_neg (by omega), if_neg (by omega), if_pos hn]
/-- values of other positions stay -/
theorem recP_5 {q : Int} (h : q ≠ p) : recP la vl rid y k p s 5 q = s 5 q := by
  unfold recP
  split
  · exact u2_i _ _ _ h
  · split
    · split
      · exact u2_i _ _ _ h
      · split
        · rw [u2_k _ _ _ _ (by decide), u2_i _ _ _ h, u2_k _ _ _ _ (by decide)]
        · exact u2_i _ _ _ h
    · split
      · exact u2_i _ _ _ h
      · split
        · rw [u2_k _ _ _ _ (by decide), u2_i _ _ _ h, u2_k _ _ _ _ (by decide), u2_k _ _ _ _ (by decide)]
        · exact u2_i _ _ _ h
theorem recK_5 {r q : Int} {n : Nat} (h : q < 5 * r ∨ 5 * r + (n : Int) ≤ q) : recK la vl rid s r n 5 q = s 5 q := by
  induction n with
  | zero => rfl
  | succ n ih =>
    simp only [recK]
    rw [recP_5 (by omega)]
    exact ih (by omega)
theorem recK_m {r : Int} (n : Nat) : s 0 0 ≤ recK la vl rid s r n 0 0 := by
  induction n with
  | zero => exact Int.le_refl _
  | succ n ih => exact Int.le_trans ih recP_m
theorem recK_o {r q : Int} (n : Nat) (hq : 0 ≤ q ∧ q < s 0 0) : recK la vl rid s r n 1 q = s 1 q := by
  induction n with
  | zero => rfl
  | succ n ih =>
    have := recK_m (la := la) (vl := vl) (rid := rid) (s := s) (r := r) n
    simp only [recK]
    rw [recP_o (by omega)]
    exact ih
end RP
/-! the reference's recording against the pure run: the fifth save -/
def mRid (X : Nat → Int → Int → Int) (y k : Int) : Int := X 56 0 (5 * y + k)
def rmT (X : Nat → Int → Int → Int) (s : Nat → Int → Int) : Prop := X 70 0 4 = s 0 0 ∧ ∀ i, 0 ≤ i → i < s 0 0 → X 80 0 i = s 1 i
def rmR (X : Nat → Int → Int → Int) (s : Nat → Int → Int) : Prop := X 76 0 4 = s 2 0 ∧ ∀ i, 0 ≤ i → i < s 2 0 → X 81 0 i = mRid X (s 3 i) (s 4 i) ∧ X 77 0 (600 + i) = X 57 0 (X 81 0 i) ∧ X 78 0 (600 + i) = X 58 0 (X 81 0 i) ∧ ∀ j, 0 ≤ j → j < 12 → X 79 0 (12 * (600 + i) + j) = X 59 0 (12 * X 81 0 i + j)
def rmL (X : Nat → Int → Int → Int) (s : Nat → Int → Int) (r k : Int) : Prop := X 73 0 (5 * (120 + r) + k) = X 45 0 (5 * X 55 0 (s 1 r) + k) ∧ X 74 0 (5 * (120 + r) + k) = lnM X (s 1 r) k ∧ X 75 0 (5 * (120 + r) + k) = s 5 (5 * r + k)
def rmV (X : Nat → Int → Int → Int) (s : Nat → Int → Int) (r k : Int) : Prop := (∀ r', 0 ≤ r' → r' < r → X 71 0 (120 + r') = X 55 0 (s 1 r') ∧ X 72 0 (120 + r') = fcM X (s 1 r') ∧ ∀ k', 0 ≤ k' → k' < fcM X (s 1 r') → rmL X s r' k') ∧ ∀ k', 0 ≤ k' → k' < k → rmL X s r k'
section RM
variable {X X1 : Nat → Int → Int → Int} {s s' : Nat → Int → Int} {x : Int}
theorem rmT.of (h : rmT X s) (e0 : X1 70 0 4 = X 70 0 4) (e1 : X1 80 = X 80) (f0 : s' 0 0 = s 0 0) (f1 : s' 1 = s 1) : rmT X1 s' := by
  unfold rmT at *
  rw [e0, e1, f0, f1]
  exact h
theorem rmR.of (h : rmR X s) (e0 : X1 76 0 4 = X 76 0 4) (e : ∀ κ ∈ [56, 57, 58, 59, 77, 78, 79, 81], X1 κ = X κ) (f2 : s' 2 0 = s 2 0) (f3 : s' 3 = s 3) (f4 : s' 4 = s 4) : rmR X1 s' := by
  unfold rmR mRid at *
  rw [e0, e 56 (by decide), e 57 (by decide), e 58 (by decide), e 59 (by decide), e 77 (by decide), e 78 (by decide), e 79 (by decide), e 81 (by decide), f2, f3, f4]
  exact h
theorem rmT.push (h : rmT X s) (hp : 0 ≤ s 0 0) (e1 : X1 70 0 4 = X 70 0 4 + 1) (e2 : X1 80 0 (X 70 0 4) = x) (e3 : ∀ j, j ≠ X 70 0 4 → X1 80 0 j = X 80 0 j) : rmT X1 (u2 (u2 s 1 (s 0 0) x) 0 0 (s 0 0 + 1)) := by
  obtain ⟨h1, h2⟩ := h
  rw [h1] at e1 e2 e3
  refine ⟨by rw [u2_s, e1], fun i i0 i1 => ?_⟩
  rw [u2_s] at i1
  rw [u2_k _ _ _ _ (by decide)]
  by_cases e : i = s 0 0
  · rw [e, u2_s, e2]
  · rw [u2_i _ _ _ e, e3 i e]
    exact h2 i i0 (by omega)
theorem rmR.push {y k : Int} (h : rmR X s) (hp : 0 ≤ s 2 0) (e1 : X1 76 0 4 = X 76 0 4 + 1) (e2 : X1 81 0 (X 76 0 4) = mRid X y k) (e3 : ∀ j, j ≠ X 76 0 4 → X1 81 0 j = X 81 0 j) (e4 : X1 77 0 (600 + X 76 0 4) = X 57 0 (mRid X y k) ∧ X1 78 0 (600 + X 76 0 4) = X 58 0 (mRid X y k)) (e5 : ∀ j, j ≠ 600 + X 76 0 4 → X1 77 0 j = X 77 0 j ∧ X1 78 0 j = X 78 0 j) (e6 : ∀ j, 0 ≤ j → j < 12 → X1 79 0 (12 * (600 + X 76 0 4) + j) = X 59 0 (12 * mRid X y k + j)) (e7 : ∀ j, j < 12 * (600 + X 76 0 4) → X1 79 0 j = X 79 0 j) (e : ∀ κ ∈ [56, 57, 58, 59], X1 κ = X κ) : rmR X1 (u2 (u2 (u2 s 3 (s 2 0) y) 4 (s 2 0) k) 2 0 (s 2 0 + 1)) := by
  obtain ⟨h1, h2⟩ := h
  rw [h1] at e1 e2 e3 e4 e5 e6 e7
  have f3 : ∀ i, i ≠ s 2 0 → u2 (u2 (u2 s 3 (s 2 0) y) 4 (s 2 0) k) 2 0 (s 2 0 + 1) 3 i = s 3 i := fun i hi => by rw [u2_k _ _ _ _ (by decide), u2_k _ _ _ _ (by decide), u2_i _ _ _ hi]
  have f4 : ∀ i, i ≠ s 2 0 → u2 (u2 (u2 s 3 (s 2 0) y) 4 (s 2 0) k) 2 0 (s 2 0 + 1) 4 i = s 4 i := fun i hi => by rw [u2_k _ _ _ _ (by decide), u2_i _ _ _ hi, u2_k _ _ _ _ (by decide)]
  have g3 : u2 (u2 (u2 s 3 (s 2 0) y) 4 (s 2 0) k) 2 0 (s 2 0 + 1) 3 (s 2 0) = y := by rw [u2_k _ _ _ _ (by decide), u2_k _ _ _ _ (by decide), u2_s]
  have g4 : u2 (u2 (u2 s 3 (s 2 0) y) 4 (s 2 0) k) 2 0 (s 2 0 + 1) 4 (s 2 0) = k := by rw [u2_k _ _ _ _ (by decide), u2_s]
  have hm : ∀ a b, mRid X1 a b = mRid X a b := fun a b => by unfold mRid; rw [e 56 (by decide)]
  refine ⟨by rw [u2_s, e1], fun i i0 i1 => ?_⟩
  rw [u2_s] at i1
  rw [hm, e 57 (by decide), e 58 (by decide), e 59 (by decide)]
  by_cases q : i = s 2 0
  · rw [q, g3, g4, e2]
    exact ⟨rfl, e4.1, e4.2, e6⟩
  · rw [f3 i q, f4 i q, e3 i q, (e5 (600 + i) (by omega)).1, (e5 (600 + i) (by omega)).2]
    obtain ⟨a1, a2, a3, a4⟩ := h2 i i0 (by omega)
    exact ⟨a1, a2, a3, fun j j0 j1 => by rw [e7 _ (by omega)]; exact a4 j j0 j1⟩
end RM
end
section
/-! numbers cut to a lane; a new row of the reference; a mark of a used row -/
def cutZ (lane v : Int) : Int := if lane = 3 then ((jI v).toInt8.toInt32).toInt else if lane = 4 then (jI v).toInt else v
theorem x_eqi {p : Program} {l : Launch} {e : Env} {R : Room} {s : State} {m : MethodId} {args : Array Value} {below : List Frame} {meth : Method} {c : Code} {H : Heap} {locs : List Loc} {cells slots : Nat} {Q : State → Prop} {pc : Nat} {ls : Array Slot} {rest : List Value} {x : Int32} (k : ∀ z : Int, (-2147483648 ≤ z ∧ z ≤ 2147483647) → z = x.toInt → W p l e R s m args below meth c H locs cells slots Q (F0 m pc ls (.int (jI z) :: rest))) : W p l e R s m args below meth c H locs cells slots Q (F0 m pc ls (.int x :: rest)) := by
  obtain ⟨z, hz, rfl⟩ := jI_of x
  exact k z hz (jI_toInt hz).symm
theorem us1 {X : Nat → Int → Int → Int} {w z : Int} (h : X 60 0 w = 1) : u3 X 60 0 z 1 60 0 w = 1 := by
  by_cases e : w = z
  · rw [e, u3_s]
  · rw [u3_j _ _ _ _ e]
    exact h
def nwM (X X1 : Nat → Int → Int → Int) (lane n r : Int) : Prop := (∀ x k, 0 ≤ x → x < X 40 0 13 → 0 ≤ k → k < X 44 0 (X 55 0 x) → 3 ≤ X 46 0 (5 * X 55 0 x + k) → X 56 0 (5 * x + k) ≠ r) ∧ (∀ m, 0 ≤ m → m < X 40 0 22 → X 66 0 m ≠ r) ∧ X1 57 0 r = lane ∧ X1 58 0 r = n ∧ (∀ y, y ≠ r → X1 57 0 y = X 57 0 y ∧ X1 58 0 y = X 58 0 y) ∧ (∀ j, 0 ≤ j → j < 12 → X1 59 0 (12 * r + j) = 0) ∧ ∀ p, ¬ (12 * r ≤ p ∧ p < 12 * r + 12) → X1 59 0 p = X 59 0 p
section NW
variable {X X0 X1 X2 : Nat → Int → Int → Int} {lane n r : Int} {L : List Nat}
theorem nwM.to (h : nwM X X1 lane n r) (e57 : X2 57 = X1 57) (e58 : X2 58 = X1 58) (e59 : X2 59 = X1 59) : nwM X X2 lane n r := by
  unfold nwM at *
  rw [e57, e58, e59]
  exact h
theorem nwM.from (h : nwM X0 X1 lane n r) (hF : Frm L X X0) (hd : ∀ q ∈ [4014, 4023, 4400, 4600, 5500, 5600, 5700, 5800, 5900, 6600], q ∉ L) : nwM X X1 lane n r := by
  unfold nwM at *
  rw [hF.arr 44 (by decide +kernel) (hd 4400 (by decide)), hF.arr 46 (by decide +kernel) (hd 4600 (by decide)), hF.arr 55 (by decide +kernel) (hd 5500 (by decide)), hF.arr 56 (by decide +kernel) (hd 5600 (by decide)), hF.arr 57 (by decide +kernel) (hd 5700 (by decide)), hF.arr 58 (by decide +kernel) (hd 5800 (by decide)), hF.arr 59 (by decide +kernel) (hd 5900 (by decide)), hF.arr 66 (by decide +kernel) (hd 6600 (by decide)), hF 40 0 13 (hd 4014 (by decide)), hF 40 0 22 (hd 4023 (by decide))] at h
  exact h
theorem nwM.fresh {C : Nat → Int → Int → Int} {Y : Nat → Int → Int → Option Int} (h : nwM X X1 lane n r) (hN : rN C Y X) : ∀ g r' l, Lv Y X g r' l → r' ≠ r := by
  intro g r' l hv
  rcases hv with ⟨x, k, x0, x1, k0, k1, kl, l3, ky, kr⟩ | ⟨m, a, b, q67, ql, q3, qy, q68⟩ | ⟨m, a, b, q67, ql, q3, qy, q66⟩
  · rw [← kr]
    unfold lnM at kl
    exact h.1 x k x0 x1 k0 k1 (by omega)
  · have h9 := ((hN.2 m a b).1 q67).2.2.2 (by omega)
    rw [← q68, ← h9.2]
    exact h.2.1 m a b
  · rw [← q66]
    exact h.2.1 m a b
end NW
end
section
/-! a check's verdict, out of what it reads -/
def rlen (ln : Int → Int) : Option Int → Int
  | none => -1
  | some q => ln q
theorem rlen_n {ln : Int → Int} : rlen ln none = -1 := rfl
theorem rlen_s {ln : Int → Int} {q : Int} : rlen ln (some q) = ln q := rfl
def ckF (kd a b v fc la lb va vb rn it mt ld : Int) : Int :=
  if kd = 0 then (if ¬ (a < fc ∧ la = 0 ∧ b < fc ∧ lb = 0) then 4 else if vb = 0 then 5 else 0)
  else if kd = 1 then (if ¬ (a < fc ∧ la = 2) then 4 else if mt < 0 then 1 else if mt = v then 0 else 4)
  else if kd = 2 then (if ¬ (a < fc ∧ 3 ≤ la ∧ b < fc ∧ lb = 0) then 4 else if rn < 0 then 1 else if vb < 0 ∨ rn ≤ vb then 2 else if v < it then 0 else 6)
  else if kd = 3 then (if ¬ (a < fc ∧ la = 0) then 4 else if 12 < va then 6 else if va < 0 then 3 else 0)
  else if kd = 4 then (if ¬ (a < fc ∧ la = 0) then 4 else if va < v then 6 else 0)
  else (if ¬ (a < fc ∧ la = 2) then 4 else if mt < 0 then 1 else if ld < -1 then 4 else if ld < 0 then 1 else 0)
def ldM (X : Nat → Int → Int → Int) (x y a : Int) : Int := if nmAt (fun j => X 45 0 (5 * X 55 0 y + j)) (X 45 0 (5 * X 55 0 x + a)) (X 44 0 (X 55 0 y)).toNat < 0 then -2 else if X 46 0 (5 * X 55 0 y + nmAt (fun j => X 45 0 (5 * X 55 0 y + j)) (X 45 0 (5 * X 55 0 x + a)) (X 44 0 (X 55 0 y)).toNat) ≠ 2 then -2 else X 56 0 (5 * y + nmAt (fun j => X 45 0 (5 * X 55 0 y + j)) (X 45 0 (5 * X 55 0 x + a)) (X 44 0 (X 55 0 y)).toNat)
def ckM (X : Nat → Int → Int → Int) (x c : Int) : Int := ckF (X 50 0 c) (X 51 0 c) (X 52 0 c) (X 53 0 c) (X 44 0 (X 55 0 x)) (X 46 0 (5 * X 55 0 x + X 51 0 c)) (X 46 0 (5 * X 55 0 x + X 52 0 c)) (X 56 0 (5 * x + X 51 0 c)) (X 56 0 (5 * x + X 52 0 c)) (if X 56 0 (5 * x + X 51 0 c) < 0 then -1 else X 58 0 (X 56 0 (5 * x + X 51 0 c))) (X 59 0 (12 * X 56 0 (5 * x + X 51 0 c) + X 56 0 (5 * x + X 52 0 c))) (if X 56 0 (5 * x + X 51 0 c) < 0 then -1 else X 55 0 (X 56 0 (5 * x + X 51 0 c))) (ldM X x (X 56 0 (5 * x + X 51 0 c)) (X 51 0 c))
def ldC (X : Nat → Int → Int → Int) (Y : Nat → Int → Int → Option Int) (x y a : Int) : Int := if nmAt (X 20 (tyo (Y 15 y 0))) (X 20 (tyo (Y 15 x 0)) a) (X 19 (tyo (Y 15 y 0)) 1).toNat < 0 then -2 else if X 21 (tyo (Y 15 y 0)) (nmAt (X 20 (tyo (Y 15 y 0))) (X 20 (tyo (Y 15 x 0)) a) (X 19 (tyo (Y 15 y 0)) 1).toNat) ≠ 2 then -2 else if 0 ≤ X 16 y (nmAt (X 20 (tyo (Y 15 y 0))) (X 20 (tyo (Y 15 x 0)) a) (X 19 (tyo (Y 15 y 0)) 1).toNat) ∧ X 16 y (nmAt (X 20 (tyo (Y 15 y 0))) (X 20 (tyo (Y 15 x 0)) a) (X 19 (tyo (Y 15 y 0)) 1).toNat) < X 0 0 3 then X 16 y (nmAt (X 20 (tyo (Y 15 y 0))) (X 20 (tyo (Y 15 x 0)) a) (X 19 (tyo (Y 15 y 0)) 1).toNat) else -1
def ckC (X : Nat → Int → Int → Int) (Y : Nat → Int → Int → Option Int) (ln : Int → Int) (x g : Int) : Int := ckF (X 25 g 0) (X 25 g 1) (X 25 g 2) (X 25 g 3) (X 19 (tyo (Y 15 x 0)) 1) (X 21 (tyo (Y 15 x 0)) (X 25 g 1)) (X 21 (tyo (Y 15 x 0)) (X 25 g 2)) (X 16 x (X 25 g 1)) (X 16 x (X 25 g 2)) (rlen ln (Y 17 x (X 25 g 1))) (X 27 (tyo (Y 17 x (X 25 g 1))) (X 16 x (X 25 g 2))) (if 0 ≤ X 16 x (X 25 g 1) ∧ X 16 x (X 25 g 1) < X 0 0 3 then X 19 (tyo (Y 15 (X 16 x (X 25 g 1)) 0)) 0 else -1) (ldC X Y x (X 16 x (X 25 g 1)) (X 25 g 1))
theorem u3_own {α : Type} (Z : Nat → Int → Int → α) (k : Nat) (i j : Int) : u3 Z k i j (Z k i j) = Z := by
  funext k' i' j'
  simp only [u3]
  split
  · rename_i h
    obtain ⟨rfl, rfl, rfl⟩ := h
    rfl
  · rfl
/-! the reference's drop over the things -/
def DrI (X Xb : Nat → Int → Int → Int) (t k j x : Int) : Prop := ∀ y i, 0 ≤ y → y < X 40 0 13 → 0 ≤ i → i ≤ 4 → Xb 56 0 (5 * y + i) = if X 55 0 y = t ∧ k ≤ i ∧ (i < j ∨ (i = j ∧ y < x)) then X 56 0 (5 * y + i + 1) else X 56 0 (5 * y + i)
section DI
variable {X Xa Xb Xc : Nat → Int → Int → Int} {t k j x v : Int}
theorem DrI.in_ (h : ∀ p, Xa 56 0 p = X 56 0 p) : DrI X Xa t k k 0 := fun y i y0 y1 i0 i1 => by rw [if_neg (fun q => by omega), h]
theorem DrI.of (h : DrI X Xa t k j x) (e : ∀ p, Xb 56 0 p = Xa 56 0 p) : DrI X Xb t k j x := fun y i y0 y1 i0 i1 => by rw [e]; exact h y i y0 y1 i0 i1
theorem DrI.yes (h : DrI X Xb t k j x) (hx : 0 ≤ x ∧ x < X 40 0 13) (hj : 0 ≤ j ∧ j ≤ 3) (hk : k ≤ j) (ht : X 55 0 x = t) (e : Xc = u3 Xb 56 0 (5 * x + j) v) (hv : v = Xb 56 0 (5 * x + j + 1)) : DrI X Xc t k j (x + 1) := fun y i y0 y1 i0 i1 => by
  by_cases q : y = x ∧ i = j
  · obtain ⟨rfl, rfl⟩ := q
    have h9 := h y (i + 1) y0 y1 (by omega) (by omega)
    rw [if_neg (fun q => by omega), show 5 * y + (i + 1) = 5 * y + i + 1 by omega] at h9
    rw [e, u3_s, hv, h9, if_pos ⟨ht, hk, Or.inr ⟨rfl, by omega⟩⟩]
  · rw [e, u3_j _ _ _ _ (by omega), h y i y0 y1 i0 i1]
    by_cases c : X 55 0 y = t ∧ k ≤ i ∧ (i < j ∨ (i = j ∧ y < x))
    · rw [if_pos c, if_pos ⟨c.1, c.2.1, by omega⟩]
    · rw [if_neg c, if_neg (fun c2 => c ⟨c2.1, c2.2.1, by omega⟩)]
theorem DrI.no (h : DrI X Xb t k j x) (ht : X 55 0 x ≠ t) (e : Xc = u3 Xb 56 0 (5 * x + j) (Xb 56 0 (5 * x + j))) : DrI X Xc t k j (x + 1) := fun y i y0 y1 i0 i1 => by
  rw [e, u3_own, h y i y0 y1 i0 i1]
  by_cases c : X 55 0 y = t ∧ k ≤ i ∧ (i < j ∨ (i = j ∧ y < x))
  · rw [if_pos c, if_pos ⟨c.1, c.2.1, by omega⟩]
  · rw [if_neg c, if_neg (fun c2 => c ⟨c2.1, c2.2.1, by
      rcases c2.2.2 with q | ⟨q1, q2⟩
      · exact Or.inl q
      · have : y ≠ x := fun q => ht (by rw [← q]; exact c2.1)
        exact Or.inr ⟨q1, by omega⟩⟩)]
theorem DrI.out (h : DrI X Xb t k j x) (hx : X 40 0 13 ≤ x) : DrI X Xb t k (j + 1) 0 := fun y i y0 y1 i0 i1 => by
  rw [h y i y0 y1 i0 i1]
  by_cases c : X 55 0 y = t ∧ k ≤ i ∧ (i < j ∨ (i = j ∧ y < x))
  · rw [if_pos c, if_pos ⟨c.1, c.2.1, by omega⟩]
  · rw [if_neg c, if_neg (fun c2 => c ⟨c2.1, c2.2.1, by omega⟩)]
theorem DrI.fin (h : DrI X Xb t k j 0) : (∀ y i, 0 ≤ y → y < X 40 0 13 → X 55 0 y = t → k ≤ i → i < j → 0 ≤ i → i ≤ 4 → Xb 56 0 (5 * y + i) = X 56 0 (5 * y + i + 1)) ∧ ∀ y i, 0 ≤ y → y < X 40 0 13 → 0 ≤ i → i ≤ 4 → ¬ (X 55 0 y = t ∧ k ≤ i) → Xb 56 0 (5 * y + i) = X 56 0 (5 * y + i) :=
  ⟨fun y i y0 y1 e a b c d => by rw [h y i y0 y1 c d, if_pos ⟨e, a, Or.inl b⟩], fun y i y0 y1 c d n => by rw [h y i y0 y1 c d, if_neg (fun q => n ⟨q.1, q.2.1⟩)]⟩
end DI
/-! the reference's undoing, a step more -/
theorem uTrM.push {N : Int} {V Xa Xn : Nat → Int → Int → Int} (h : uTrM N (N - Xa 40 0 22).toNat V Xa) (hN : Xa 40 0 22 ≤ N) (hs : uStM (Xa 40 0 22 - 1) Xa Xn) (e : Xn 40 0 22 = Xa 40 0 22 - 1) : uTrM N (N - Xn 40 0 22).toNat V Xn := by
  rw [show (N - Xn 40 0 22).toNat = (N - Xa 40 0 22).toNat + 1 by omega]
  refine ⟨Xa, h, ?_⟩
  rw [show N - 1 - (((N - Xa 40 0 22).toNat : Nat) : Int) = Xa 40 0 22 - 1 by omega]
  exact hs
theorem uTrC.push {N iz : Int} {X Xa Xn : Nat → Int → Int → Int} {Y Ya Yn : Nat → Int → Int → Option Int} (h : uTrC N (N - 1 - iz).toNat X Y Xa Ya) (hN : iz ≤ N - 1) (hs : uStC iz Xa Xn Ya Yn) : uTrC N (N - 1 - (iz - 1)).toNat X Y Xn Yn := by
  rw [show (N - 1 - (iz - 1)).toNat = (N - 1 - iz).toNat + 1 by omega]
  refine ⟨Xa, Ya, h, ?_⟩
  rw [show N - 1 - (((N - 1 - iz).toNat : Nat) : Int) = iz by omega]
  exact hs
end
section
/-! the pure run: more of it -/
section RR
variable {fc : Int → Int} {la vl rid : Int → Int → Int} {x : Int}
theorem recR_ms (n : Nat) : recR fc la vl rid x n 0 0 ≤ recR fc la vl rid x (n + 1) 0 0 := by
  simp only [recR]
  by_cases c : (n : Int) < recR fc la vl rid x n 0 0
  · rw [if_pos c]
    exact recK_m _
  · rw [if_neg c]
    exact Int.le_refl _
theorem recR_os (n : Nat) {q : Int} (hq : 0 ≤ q ∧ q < recR fc la vl rid x n 0 0) : recR fc la vl rid x (n + 1) 1 q = recR fc la vl rid x n 1 q := by
  simp only [recR]
  by_cases c : (n : Int) < recR fc la vl rid x n 0 0
  · rw [if_pos c]
    exact recK_o _ hq
  · rw [if_neg c]
theorem recR_m (n d : Nat) : recR fc la vl rid x n 0 0 ≤ recR fc la vl rid x (n + d) 0 0 := by
  induction d with
  | zero => exact Int.le_refl _
  | succ d ih => exact Int.le_trans ih (recR_ms (n + d))
theorem recR_o (n d : Nat) {q : Int} (hq : 0 ≤ q ∧ q < recR fc la vl rid x n 0 0) : recR fc la vl rid x (n + d) 1 q = recR fc la vl rid x n 1 q := by
  induction d with
  | zero => rfl
  | succ d ih =>
    have := recR_m (fc := fc) (la := la) (vl := vl) (rid := rid) (x := x) n d
    rw [show n + (d + 1) = n + d + 1 by omega, recR_os (n + d) ⟨hq.1, by omega⟩]
    exact ih
theorem recR_stop (n d : Nat) (h : ¬ (n : Int) < recR fc la vl rid x n 0 0) : recR fc la vl rid x (n + d) = recR fc la vl rid x n := by
  induction d with
  | zero => rfl
  | succ d ih =>
    rw [show n + (d + 1) = n + d + 1 by omega]
    simp only [recR]
    rw [ih, if_neg (by omega)]
theorem recR_up (n : Nat) (h : (n : Int) < recR fc la vl rid x n 0 0) : recR fc la vl rid x (n + 1) = recK la vl rid (recR fc la vl rid x n) (n : Int) (fc (recR fc la vl rid x n 1 (n : Int))).toNat := by
  simp only [recR]
  rw [if_pos h]
theorem recR_z : recR fc la vl rid x 0 = u2 (u2 (u2 (fun _ _ => 0) 1 0 x) 0 0 1) 2 0 0 := rfl
theorem recK_z {s : Nat → Int → Int} {r : Int} : recK la vl rid s r 0 = s := rfl
theorem recK_s {s : Nat → Int → Int} {r k : Int} (hk : 0 ≤ k) : recK la vl rid s r (k + 1).toNat = recP la vl rid (s 1 r) k (5 * r + k) (recK la vl rid s r k.toNat) := by
  rw [show (k + 1).toNat = k.toNat + 1 by omega]
  simp only [recK]
  rw [show ((k.toNat : Nat) : Int) = k by omega]
end RR
/-! the reference, one position -/
section MS
variable {X X1 : Nat → Int → Int → Int} {s s' : Nat → Int → Int} {la vl rid : Int → Int → Int} {y k p v : Int}
def mStp (la vl rid : Int → Int → Int) (y k p : Int) (X1 : Nat → Int → Int → Int) (s : Nat → Int → Int) (v : Int) : Prop := rmT X1 (recP la vl rid y k p s) ∧ rmR X1 (recP la vl rid y k p s) ∧ v = recP la vl rid y k p s 5 p
theorem u2_f2 (s : Nat → Int → Int) {κ κ' : Nat} (i v : Int) (h : κ' ≠ κ) : u2 s κ i v κ' = s κ' := funext fun j => u2_k s i v j h
theorem mStp_v (hT : rmT X s) (hR : rmR X s) (e : recP la vl rid y k p s = u2 s 5 p v) : mStp la vl rid y k p X s v := by
  unfold mStp
  rw [e]
  refine ⟨hT.of rfl rfl (u2_k _ _ _ _ (by decide)) (u2_f2 _ _ _ (by decide)), hR.of rfl (fun _ _ => rfl) (u2_k _ _ _ _ (by decide)) (u2_f2 _ _ _ (by decide)) (u2_f2 _ _ _ (by decide)), (u2_s _ _ _ _).symm⟩
theorem mStp_t (hl : la y k = 2) (hv : 0 ≤ vl y k) (hT : rmT X1 (if nmAt (s 1) (vl y k) (s 0 0).toNat = -1 then u2 (u2 s 1 (s 0 0) (vl y k)) 0 0 (s 0 0 + 1) else s)) (hR : rmR X1 s) (hz : v = if nmAt (s 1) (vl y k) (s 0 0).toNat = -1 then s 0 0 else nmAt (s 1) (vl y k) (s 0 0).toNat) : mStp la vl rid y k p X1 s v := by
  unfold mStp
  by_cases c : nmAt (s 1) (vl y k) (s 0 0).toNat = -1
  · rw [if_pos c] at hT hz
    rw [recP_2w hl hv c]
    refine ⟨hT.of rfl rfl (by rw [u2_s, u2_s]) ?_, hR.of rfl (fun _ _ => rfl) ?_ ?_ ?_, ?_⟩
    · rw [u2_f2 (κ := 0) _ _ _ (by decide), u2_f2 (κ := 5) _ _ _ (by decide), u2_f2 (κ := 0) _ _ _ (by decide)]
    · rw [u2_k _ _ _ _ (by decide), u2_k _ _ _ _ (by decide), u2_k _ _ _ _ (by decide)]
    · rw [u2_f2 _ _ _ (by decide), u2_f2 _ _ _ (by decide), u2_f2 _ _ _ (by decide)]
    · rw [u2_f2 _ _ _ (by decide), u2_f2 _ _ _ (by decide), u2_f2 _ _ _ (by decide)]
    · rw [u2_k _ _ _ _ (by decide), u2_s]
      exact hz
  · rw [if_neg c] at hT hz
    rw [hz]
    exact mStp_v hT hR (recP_2o hl hv c)
theorem mStp_r (hl : 3 ≤ la y k) (hv : 0 ≤ rid y k) (hT : rmT X1 s) (hR : rmR X1 (if nmAt (fun q => rid (s 3 q) (s 4 q)) (rid y k) (s 2 0).toNat = -1 then u2 (u2 (u2 s 3 (s 2 0) y) 4 (s 2 0) k) 2 0 (s 2 0 + 1) else s)) (hz : v = if nmAt (fun q => rid (s 3 q) (s 4 q)) (rid y k) (s 2 0).toNat = -1 then s 2 0 else nmAt (fun q => rid (s 3 q) (s 4 q)) (rid y k) (s 2 0).toNat) : mStp la vl rid y k p X1 s v := by
  unfold mStp
  by_cases c : nmAt (fun q => rid (s 3 q) (s 4 q)) (rid y k) (s 2 0).toNat = -1
  · rw [if_pos c] at hR hz
    rw [recP_3w hl hv c]
    refine ⟨hT.of rfl rfl ?_ ?_, hR.of rfl (fun _ _ => rfl) (by rw [u2_s, u2_s]) ?_ ?_, ?_⟩
    · rw [u2_k _ _ _ _ (by decide), u2_k _ _ _ _ (by decide), u2_k _ _ _ _ (by decide), u2_k _ _ _ _ (by decide)]
    · rw [u2_f2 _ _ _ (by decide), u2_f2 _ _ _ (by decide), u2_f2 _ _ _ (by decide), u2_f2 _ _ _ (by decide)]
    · rw [u2_f2 (κ := 2) _ _ _ (by decide), u2_f2 (κ := 5) _ _ _ (by decide), u2_f2 (κ := 4) _ _ _ (by decide), u2_f2 (κ := 2) _ _ _ (by decide), u2_f2 (κ := 4) _ _ _ (by decide)]
    · rw [u2_f2 (κ := 2) _ _ _ (by decide), u2_f2 (κ := 5) _ _ _ (by decide), u2_f2 (κ := 2) _ _ _ (by decide)]
    · rw [u2_k _ _ _ _ (by decide), u2_s]
      exact hz
  · rw [if_neg c] at hR hz
    rw [hz]
    exact mStp_v hT hR (recP_3o hl hv c)
/-- what the slots speak of beside their own rows -/
def mSt (X X1 : Nat → Int → Int → Int) : Prop := X1 44 = X 44 ∧ X1 45 = X 45 ∧ X1 46 = X 46 ∧ X1 55 = X 55
theorem mSt.of {L : List Nat} (h : Frm L X X1) (hd : ∀ q ∈ [4400, 4500, 4600, 5500], q ∉ L) : mSt X X1 := ⟨h.arr 44 (by decide +kernel) (hd 4400 (by decide)), h.arr 45 (by decide +kernel) (hd 4500 (by decide)), h.arr 46 (by decide +kernel) (hd 4600 (by decide)), h.arr 55 (by decide +kernel) (hd 5500 (by decide))⟩
theorem rmL.of {r k : Int} (h : rmL X s r k) (hs : mSt X X1) (e3 : X1 73 0 (5 * (120 + r) + k) = X 73 0 (5 * (120 + r) + k)) (e4 : X1 74 0 (5 * (120 + r) + k) = X 74 0 (5 * (120 + r) + k)) (e5 : X1 75 0 (5 * (120 + r) + k) = X 75 0 (5 * (120 + r) + k)) (f1 : s' 1 r = s 1 r) (f5 : s' 5 (5 * r + k) = s 5 (5 * r + k)) : rmL X1 s' r k := by
  obtain ⟨h4, h5, h6, h7⟩ := hs
  unfold rmL lnM at *
  rw [e3, e4, e5, f1, f5, h5, h6, h7]
  exact h
theorem rmV.push {r k : Int} (h : rmV X s r k) (hs : mSt X X1) (hk : 0 ≤ k ∧ k ≤ 4) (hr : 0 ≤ r) (hf : ∀ t, X 44 0 t ≤ 5) (o71 : X1 71 = X 71) (o72 : X1 72 = X 72) (o3 : ∀ j, j ≠ 5 * (120 + r) + k → X1 73 0 j = X 73 0 j) (o4 : ∀ j, j ≠ 5 * (120 + r) + k → X1 74 0 j = X 74 0 j) (o5 : ∀ j, j ≠ 5 * (120 + r) + k → X1 75 0 j = X 75 0 j) (f1 : ∀ q, 0 ≤ q → q ≤ r → s' 1 q = s 1 q) (f5 : ∀ q, q ≠ 5 * r + k → s' 5 q = s 5 q) (hn : rmL X1 s' r k) : rmV X1 s' r (k + 1) := by
  obtain ⟨h1, h2⟩ := h
  refine ⟨fun r' a b => ?_, fun k' a b => ?_⟩
  · obtain ⟨g1, g2, g3⟩ := h1 r' a b
    have e := f1 r' a (by omega)
    have hfc : ∀ q, fcM X1 q = fcM X q := fun q => by simp only [fcM, hs.1, hs.2.2.2]
    rw [o71, o72, e, hfc, hs.2.2.2]
    refine ⟨g1, g2, fun k' a' b' => ?_⟩
    have h5 : fcM X (s 1 r') ≤ 5 := hf _
    exact (g3 k' a' b').of hs (o3 _ (by omega)) (o4 _ (by omega)) (o5 _ (by omega)) e (f5 _ (by omega))
  · by_cases e : k' = k
    · rw [e]
      exact hn
    · exact (h2 k' a (by omega)).of hs (o3 _ (by omega)) (o4 _ (by omega)) (o5 _ (by omega)) (f1 r hr (Int.le_refl _)) (f5 _ (by omega))
theorem rmV.next {r : Int} (h : rmV X s r (fcM X (s 1 r))) (h1 : X 71 0 (120 + r) = X 55 0 (s 1 r)) (h2 : X 72 0 (120 + r) = fcM X (s 1 r)) : rmV X s (r + 1) 0 := by
  refine ⟨fun r' a b => ?_, fun k' a b => by omega⟩
  by_cases e : r' = r
  · rw [e]
    exact ⟨h1, h2, h.2⟩
  · exact h.1 r' a (by omega)
theorem rmV.in_ {r : Int} (h : rmV X s r 0) (hs : mSt X X1) (hr : 0 ≤ r) (hf : ∀ t, X 44 0 t ≤ 5) (o71 : ∀ j, j ≠ 120 + r → X1 71 0 j = X 71 0 j) (o72 : ∀ j, j ≠ 120 + r → X1 72 0 j = X 72 0 j) (o3 : X1 73 = X 73) (o4 : X1 74 = X 74) (o5 : X1 75 = X 75) : rmV X1 s r 0 := by
  refine ⟨fun r' a b => ?_, fun k' a b => by omega⟩
  obtain ⟨g1, g2, g3⟩ := h.1 r' a b
  have hfc : ∀ q, fcM X1 q = fcM X q := fun q => by simp only [fcM, hs.1, hs.2.2.2]
  rw [o71 _ (by omega), o72 _ (by omega), hfc, hs.2.2.2]
  exact ⟨g1, g2, fun k' a' b' => (g3 k' a' b').of hs (by rw [o3]) (by rw [o4]) (by rw [o5]) rfl rfl⟩
end MS
/-! verdicts over versions -/
def jdM (X : Nat → Int → Int → Int) (x z : Int) : Prop := (z = 0 ∧ ∀ c, 0 ≤ c → c < X 49 0 (X 55 0 x) → ckM X x (4 * X 55 0 x + c) = 0) ∨ (z ≠ 0 ∧ ∃ c, 0 ≤ c ∧ c < X 49 0 (X 55 0 x) ∧ (∀ c', 0 ≤ c' → c' < c → ckM X x (4 * X 55 0 x + c') = 0) ∧ z = ckM X x (4 * X 55 0 x + c))
theorem jdM.from {L : List Nat} {X X0 : Nat → Int → Int → Int} {x z : Int} (h : jdM X0 x z) (hF : Frm L X X0) (hd : ∀ q ∈ [4400, 4500, 4600, 4900, 5000, 5100, 5200, 5300, 5500, 5600, 5800, 5900], q ∉ L) : jdM X x z := by
  have e4 := hF.arr 44 (by decide +kernel) (hd 4400 (by decide))
  have e5 := hF.arr 45 (by decide +kernel) (hd 4500 (by decide))
  have e6 := hF.arr 46 (by decide +kernel) (hd 4600 (by decide))
  have e9 := hF.arr 49 (by decide +kernel) (hd 4900 (by decide))
  have f0 := hF.arr 50 (by decide +kernel) (hd 5000 (by decide))
  have f1 := hF.arr 51 (by decide +kernel) (hd 5100 (by decide))
  have f2 := hF.arr 52 (by decide +kernel) (hd 5200 (by decide))
  have f3 := hF.arr 53 (by decide +kernel) (hd 5300 (by decide))
  have f5 := hF.arr 55 (by decide +kernel) (hd 5500 (by decide))
  have f6 := hF.arr 56 (by decide +kernel) (hd 5600 (by decide))
  have f8 := hF.arr 58 (by decide +kernel) (hd 5800 (by decide))
  have f9 := hF.arr 59 (by decide +kernel) (hd 5900 (by decide))
  have e : ckM X0 = ckM X := by
    funext x c
    simp only [ckM, ldM, e4, e5, e6, f0, f1, f2, f3, f5, f6, f8, f9]
  unfold jdM at *
  rw [e, e9, f5] at h
  exact h
def sg0 : Nat → Int → Int := fun _ _ => 0
section RI
variable {fc : Int → Int} {la vl rid : Int → Int → Int} {x r k q : Int} {V : Nat → Int → Int → Int}
theorem rmT.init (h : rmT V (if nmAt (sg0 1) x (sg0 0 0).toNat = -1 then u2 (u2 sg0 1 (sg0 0 0) x) 0 0 (sg0 0 0 + 1) else sg0)) : rmT V (recR fc la vl rid x 0) := by
  have c : nmAt (sg0 1) x (sg0 0 0).toNat = -1 := rfl
  rw [if_pos c] at h
  refine h.of rfl rfl ?_ ?_
  · rw [recR_z, u2_k _ _ _ _ (by decide), u2_s, u2_s]
    rfl
  · rw [recR_z, u2_f2 (κ := 2) _ _ _ (by decide), u2_f2 (κ := 0) _ _ _ (by decide), u2_f2 (κ := 0) _ _ _ (by decide)]
    rfl
theorem rmR.init (h : V 76 0 4 = 0) : rmR V (recR fc la vl rid x 0) := by
  have e : recR fc la vl rid x 0 2 0 = 0 := by rw [recR_z, u2_s]
  refine ⟨by rw [h, e], fun i a b => ?_⟩
  rw [e] at b
  omega
theorem recR_next (hr : 0 ≤ r) (hlt : r < recR fc la vl rid x r.toNat 0 0) (hk : k = fc (recR fc la vl rid x r.toNat 1 r)) : recR fc la vl rid x (r + 1).toNat = recK la vl rid (recR fc la vl rid x r.toNat) r k.toNat := by
  have e : ((r.toNat : Nat) : Int) = r := by omega
  rw [show (r + 1).toNat = r.toNat + 1 by omega, recR_up r.toNat (by rw [e]; exact hlt), e, hk]
theorem recR_at (hr : 0 ≤ r ∧ r ≤ 30) (hq : 0 ≤ q ∧ q < recR fc la vl rid x r.toNat 0 0) : recR fc la vl rid x 30 1 q = recR fc la vl rid x r.toNat 1 q ∧ q < recR fc la vl rid x 30 0 0 := by
  have e : r.toNat + (30 - r.toNat) = 30 := by omega
  have h1 := recR_o (fc := fc) (la := la) (vl := vl) (rid := rid) (x := x) r.toNat (30 - r.toNat) hq
  have h2 := recR_m (fc := fc) (la := la) (vl := vl) (rid := rid) (x := x) r.toNat (30 - r.toNat)
  rw [e] at h1 h2
  exact ⟨h1, by omega⟩
theorem recR_end (hr : 0 ≤ r ∧ r ≤ 30) (hs : recR fc la vl rid x r.toNat 0 0 ≤ r) : recR fc la vl rid x 30 = recR fc la vl rid x r.toNat := by
  have e : r.toNat + (30 - r.toNat) = 30 := by omega
  have h1 := recR_stop (fc := fc) (la := la) (vl := vl) (rid := rid) (x := x) r.toNat (30 - r.toNat) (by omega)
  rw [e] at h1
  exact h1
end RI
theorem rmV.upto {X : Nat → Int → Int → Int} {s : Nat → Int → Int} {r r' : Int} (h : rmV X s r 0) (hr : r' ≤ r) : rmV X s r' 0 := ⟨fun q a b => h.1 q a (by omega), fun k' a b => by omega⟩
theorem recR_pos {fc : Int → Int} {la vl rid : Int → Int → Int} {x : Int} (n : Nat) : 1 ≤ recR fc la vl rid x n 0 0 := by
  have h := recR_m (fc := fc) (la := la) (vl := vl) (rid := rid) (x := x) 0 n
  rw [Nat.zero_add] at h
  have e : recR fc la vl rid x 0 0 0 = 1 := by rw [recR_z, u2_k _ _ _ _ (by decide), u2_s]
  omega
end
section
/-! blocks that are copied; saves that are the same; the first difference -/
def andZ (a b : Int) : Int := (jI a &&& jI b).toInt
def CpK (κ : Nat) (E X : Nat → Int → Int → Int) (d s0 n : Int) : Prop := ∀ j, X κ 0 j = if d ≤ j ∧ j < d + n then E κ 0 (s0 + (j - d)) else E κ 0 j
section CP
variable {κ : Nat} {E Xa Xb Xc : Nat → Int → Int → Int} {d s0 n a b v : Int}
theorem CpK.in_ (h : Xa κ = E κ) : CpK κ E Xa d s0 0 := fun j => by rw [if_neg (fun q => by omega), h]
theorem CpK.of (h : CpK κ E Xa d s0 n) (e : Xb κ = Xa κ) : CpK κ E Xb d s0 n := fun j => by rw [e]; exact h j
theorem CpK.len {m : Int} (h : CpK κ E Xa d s0 n) (e : n = m) : CpK κ E Xa d s0 m := by rw [← e]; exact h
theorem CpK.step (h : CpK κ E Xa d s0 n) (hn : 0 ≤ n) (hd : d + n ≤ s0) (e0 : Xc κ = Xa κ) (e : Xb κ = u3 Xc κ 0 a v κ) (ha : a = d + n) (hv : v = Xa κ 0 b) (hb : b = s0 + n) : CpK κ E Xb d s0 (n + 1) := fun j => by
  rw [e]
  by_cases hc : j = a
  · rw [hc, u3_s, hv, h, if_neg (fun q => by omega), if_pos ⟨by omega, by omega⟩]
    congr 1
    omega
  · rw [u3_j _ _ _ _ hc, e0, h]
    by_cases q : d ≤ j ∧ j < d + n
    · rw [if_pos q, if_pos ⟨q.1, by omega⟩]
    · rw [if_neg q, if_neg (fun q2 => q ⟨q2.1, by omega⟩)]
theorem CpK.at_ (h : CpK κ E Xa d s0 n) {i : Int} (h0 : 0 ≤ i) (h1 : i < n) : Xa κ 0 (d + i) = E κ 0 (s0 + i) := by
  rw [h, if_pos ⟨by omega, by omega⟩]
  congr 1
  omega
theorem CpK.out (h : CpK κ E Xa d s0 n) {j : Int} (hj : ¬ (d ≤ j ∧ j < d + n)) : Xa κ 0 j = E κ 0 j := by rw [h, if_neg hj]
end CP
/-- what of the first four saves stays when the fifth is written -/
def S5 (X X1 : Nat → Int → Int → Int) : Prop := (∀ j, j ≤ 3 → X1 76 0 j = X 76 0 j) ∧ (∀ j, j < 600 → X1 73 0 j = X 73 0 j ∧ X1 77 0 j = X 77 0 j ∧ X1 78 0 j = X 78 0 j) ∧ ∀ j, j < 7200 → X1 79 0 j = X 79 0 j
section SF
variable {X X1 X2 : Nat → Int → Int → Int} {M : List Nat}
theorem S5.rf : S5 X X := ⟨fun _ _ => rfl, fun _ _ => ⟨rfl, rfl, rfl⟩, fun _ _ => rfl⟩
theorem S5.tr (h : S5 X X1) (g : S5 X1 X2) : S5 X X2 := ⟨fun j q => (g.1 j q).trans (h.1 j q), fun j q => ⟨(g.2.1 j q).1.trans (h.2.1 j q).1, (g.2.1 j q).2.1.trans (h.2.1 j q).2.1, (g.2.1 j q).2.2.trans (h.2.1 j q).2.2⟩, fun j q => (g.2.2 j q).trans (h.2.2 j q)⟩
theorem S5.set {k : Nat} {i z v : Int} (h : S5 X X1) (hk : (k = 76 → 4 ≤ z) ∧ (k = 73 → 600 ≤ z) ∧ (k = 77 → 600 ≤ z) ∧ (k = 78 → 600 ≤ z) ∧ (k = 79 → 7200 ≤ z)) : S5 X (u3 X1 k i z v) :=
  ⟨fun j q => (u3_at (by omega)).trans (h.1 j q), fun j q => ⟨(u3_at (by omega)).trans (h.2.1 j q).1, (u3_at (by omega)).trans (h.2.1 j q).2.1, (u3_at (by omega)).trans (h.2.1 j q).2.2⟩, fun j q => (u3_at (by omega)).trans (h.2.2 j q)⟩
theorem S5.frm (hF : Frm M X X1) (hd : ∀ c ∈ [7300, 7600, 7700, 7800, 7900], c ∉ M) : S5 X X1 := ⟨fun j _ => hF 76 0 j (hd 7600 (by decide)), fun j _ => ⟨hF 73 0 j (hd 7300 (by decide)), hF 77 0 j (hd 7700 (by decide)), hF 78 0 j (hd 7800 (by decide))⟩, fun j _ => hF 79 0 j (hd 7900 (by decide))⟩
end SF
/-- rows of saves that are the same -/
def rdE (X : Nat → Int → Int → Int) (a b : Int) : Prop := X 77 0 a = X 77 0 b ∧ X 78 0 a = X 78 0 b ∧ ∀ k, 0 ≤ k → k < X 78 0 a → X 79 0 (12 * a + k) = X 79 0 (12 * b + k)
def dfP (n : Int) (sh : Int → Prop) (fc : Int → Int) (vq : Int → Int → Prop) (nm : Int → Int → Int) (z : Int) : Prop := (z = -1 ∧ ∀ r, 0 ≤ r → r < n → sh r ∧ ∀ f, 0 ≤ f → f < fc r → vq r f) ∨ ∃ r, 0 ≤ r ∧ r < n ∧ (∀ r', 0 ≤ r' → r' < r → sh r' ∧ ∀ f, 0 ≤ f → f < fc r' → vq r' f) ∧ ((¬ sh r ∧ z = 100 * r + 99) ∨ (sh r ∧ ∃ f, 0 ≤ f ∧ f < fc r ∧ (∀ f', 0 ≤ f' → f' < f → vq r f') ∧ ¬ vq r f ∧ z = 100 * r + nm r f))
theorem dfP_uniq {n : Int} {sh sh' : Int → Prop} {fc fc' : Int → Int} {vq vq' : Int → Int → Prop} {nm nm' : Int → Int → Int} {z z' : Int} (h : dfP n sh fc vq nm z) (h' : dfP n sh' fc' vq' nm' z') (e : ∀ r, 0 ≤ r → r < n → (sh r ↔ sh' r) ∧ (sh r → fc r = fc' r ∧ ∀ f, 0 ≤ f → f < fc r → (vq r f ↔ vq' r f) ∧ nm r f = nm' r f)) : z = z' := by
  have ok : ∀ r, 0 ≤ r → r < n → (sh r ∧ ∀ f, 0 ≤ f → f < fc r → vq r f) → (sh' r ∧ ∀ f, 0 ≤ f → f < fc' r → vq' r f) := fun r a b q => by
    obtain ⟨e1, e2⟩ := e r a b
    obtain ⟨e3, e4⟩ := e2 q.1
    exact ⟨e1.mp q.1, fun f f0 f1 => (e4 f f0 (by omega)).1.mp (q.2 f f0 (by omega))⟩
  have ko : ∀ r, 0 ≤ r → r < n → (sh' r ∧ ∀ f, 0 ≤ f → f < fc' r → vq' r f) → (sh r ∧ ∀ f, 0 ≤ f → f < fc r → vq r f) := fun r a b q => by
    obtain ⟨e1, e2⟩ := e r a b
    have q1 := e1.mpr q.1
    obtain ⟨e3, e4⟩ := e2 q1
    exact ⟨q1, fun f f0 f1 => (e4 f f0 f1).1.mpr (q.2 f f0 (by omega))⟩
  -- a difference at r is none where all are the same
  have bad : ∀ r, 0 ≤ r → r < n → ((¬ sh r ∧ z = 100 * r + 99) ∨ (sh r ∧ ∃ f, 0 ≤ f ∧ f < fc r ∧ (∀ f', 0 ≤ f' → f' < f → vq r f') ∧ ¬ vq r f ∧ z = 100 * r + nm r f)) → ¬ (sh r ∧ ∀ f, 0 ≤ f → f < fc r → vq r f) := fun r a b q w => by
    rcases q with ⟨q, -⟩ | ⟨-, f, f0, f1, -, q, -⟩
    · exact q w.1
    · exact q (w.2 f f0 f1)
  have bad' : ∀ r, 0 ≤ r → r < n → ((¬ sh' r ∧ z' = 100 * r + 99) ∨ (sh' r ∧ ∃ f, 0 ≤ f ∧ f < fc' r ∧ (∀ f', 0 ≤ f' → f' < f → vq' r f') ∧ ¬ vq' r f ∧ z' = 100 * r + nm' r f)) → ¬ (sh' r ∧ ∀ f, 0 ≤ f → f < fc' r → vq' r f) := fun r a b q w => by
    rcases q with ⟨q, -⟩ | ⟨-, f, f0, f1, -, q, -⟩
    · exact q w.1
    · exact q (w.2 f f0 f1)
  rcases h with ⟨z1, a1⟩ | ⟨r, r0, r1, a1, d1⟩ <;> rcases h' with ⟨z2, a2⟩ | ⟨r', r0', r1', a2, d2⟩
  · omega
  · exact absurd (ok r' r0' r1' (a1 r' r0' r1')) (bad' r' r0' r1' d2)
  · exact absurd (ko r r0 r1 (a2 r r0 r1)) (bad r r0 r1 d1)
  · have hr : r = r' := by
      by_cases h1 : r < r'
      · exact absurd (ko r r0 r1 (a2 r r0 h1)) (bad r r0 r1 d1)
      · by_cases h2 : r' < r
        · exact absurd (ok r' r0' r1' (a1 r' r0' h2)) (bad' r' r0' r1' d2)
        · omega
    subst hr
    obtain ⟨e1, e2⟩ := e r r0 r1
    rcases d1 with ⟨q1, z1⟩ | ⟨q1, f, f0, f1, p1, n1, z1⟩ <;> rcases d2 with ⟨q2, z2⟩ | ⟨q2, f', f0', f1', p2, n2, z2⟩
    · omega
    · exact absurd (e1.mpr q2) q1
    · exact absurd (e1.mp q1) q2
    · obtain ⟨e3, e4⟩ := e2 q1
      have hf : f = f' := by
        by_cases h1 : f < f'
        · exact absurd ((e4 f f0 f1).1.mpr (p2 f f0 h1)) n1
        · by_cases h2 : f' < f
          · exact absurd ((e4 f' f0' (by omega)).1.mp (p1 f' f0' h2)) n2
          · omega
      subst hf
      have := (e4 f f0 f1).2
      omega
theorem rdr_eq {L : List Nat} {X X0 : Nat → Int → Int → Int} (hF : Frm L X X0) (hd : ∀ q ∈ [4400, 4600, 5500, 5600], q ∉ L) : fcM X0 = fcM X ∧ lnM X0 = lnM X ∧ mRid X0 = mRid X := by
  have e4 := hF.arr 44 (by decide +kernel) (hd 4400 (by decide))
  have e6 := hF.arr 46 (by decide +kernel) (hd 4600 (by decide))
  have e5 := hF.arr 55 (by decide +kernel) (hd 5500 (by decide))
  have f6 := hF.arr 56 (by decide +kernel) (hd 5600 (by decide))
  refine ⟨?_, ?_, ?_⟩
  · funext y
    simp only [fcM, e4, e5]
  · funext y k
    simp only [lnM, e6, e5]
  · funext y k
    simp only [mRid, f6]
def svC (E X1 : Nat → Int → Int → Int) (sv : Int) : Prop := X1 70 0 sv = E 70 0 4 ∧ X1 76 0 sv = E 76 0 4 ∧ (∀ j, j ≠ sv → X1 70 0 j = E 70 0 j ∧ X1 76 0 j = E 76 0 j) ∧ CpK 71 E X1 (30 * sv) 120 (E 70 0 4) ∧ CpK 72 E X1 (30 * sv) 120 (E 70 0 4) ∧ CpK 73 E X1 (150 * sv) 600 (5 * E 70 0 4) ∧ CpK 74 E X1 (150 * sv) 600 (5 * E 70 0 4) ∧ CpK 75 E X1 (150 * sv) 600 (5 * E 70 0 4) ∧ CpK 77 E X1 (150 * sv) 600 (E 76 0 4) ∧ CpK 78 E X1 (150 * sv) 600 (E 76 0 4) ∧ CpK 79 E X1 (1800 * sv) 7200 (12 * E 76 0 4)
def shM (X : Nat → Int → Int → Int) (sv r : Int) : Prop := r < X 70 0 sv ∧ r < X 70 0 4 ∧ X 71 0 (30 * sv + r) = X 71 0 (120 + r) ∧ X 72 0 (30 * sv + r) = X 72 0 (120 + r) ∧ ∀ k, 0 ≤ k → k < X 72 0 (30 * sv + r) → X 73 0 (5 * (30 * sv + r) + k) = X 73 0 (5 * (120 + r) + k) ∧ X 74 0 (5 * (30 * sv + r) + k) = X 74 0 (5 * (120 + r) + k)
def vqM (X : Nat → Int → Int → Int) (sv r f : Int) : Prop := X 75 0 (5 * (30 * sv + r) + f) = X 75 0 (5 * (120 + r) + f) ∧ (2 < X 74 0 (5 * (30 * sv + r) + f) → 0 ≤ X 75 0 (5 * (30 * sv + r) + f) → rdE X (150 * sv + X 75 0 (5 * (30 * sv + r) + f)) (600 + X 75 0 (5 * (30 * sv + r) + f)))
def mxM (X : Nat → Int → Int → Int) (sv : Int) : Int := if X 70 0 4 < X 70 0 sv then X 70 0 sv else X 70 0 4
end
section
/-! the class's recording against the pure run -/
def cFc (X : Nat → Int → Int → Int) (Y : Nat → Int → Int → Option Int) (y : Int) : Int := X 19 (tyo (Y 15 y 0)) 1
def cLa (X : Nat → Int → Int → Int) (Y : Nat → Int → Int → Option Int) (y k : Int) : Int := X 21 (tyo (Y 15 y 0)) k
def cRid (Y : Nat → Int → Int → Option Int) (y k : Int) : Int := tyo (Y 17 y k)
def cVl (X : Nat → Int → Int → Int) (Y : Nat → Int → Int → Option Int) (y k : Int) : Int := if cLa X Y y k = 2 then (if 0 ≤ X 16 y k ∧ X 16 y k < X 0 0 3 then X 16 y k else -1) else X 16 y k
theorem nmAt_push {f g : Int → Int} {a b n : Int} (hn : 0 ≤ n) (hg : ∀ j, 0 ≤ j → j < n → g j = f j) (hb : g n = b) : nmAt g a (n + 1).toNat = if nmAt f a n.toNat = -1 then (if b = a then n else -1) else nmAt f a n.toNat := by
  have e : (n + 1).toNat = n.toNat + 1 := by omega
  have e2 : ((n.toNat : Nat) : Int) = n := by omega
  rw [e]
  simp only [nmAt]
  rw [nmAt_congr (f := g) (g := f) (fun j j0 j1 => hg j j0 (by omega)), e2, hb]
/-- the records' things and the things' numbers -/
def rcT (X : Nat → Int → Int → Int) (Y : Nat → Int → Int → Option Int) (g : Int) (s : Nat → Int → Int) : Prop :=
  X 7 g 0 = s 0 0 ∧ (∀ i, 0 ≤ i → i < s 0 0 → Y 5 0 i = some (s 1 i) ∧ (0 ≤ s 1 i ∧ s 1 i < X 0 0 3) ∧ X 8 g i = tyo (Y 15 (s 1 i) 0) ∧ X 9 g i = cFc X Y (s 1 i)) ∧ ∀ x, 0 ≤ x → x < X 0 0 3 → X 15 x 3 = nmAt (s 1) x (s 0 0).toNat
/-- the records' rows and the rows' numbers -/
def rcR (X : Nat → Int → Int → Int) (Y : Nat → Int → Int → Option Int) (ln : Int → Int) (g : Int) (s : Nat → Int → Int) : Prop :=
  X 7 g 6 = s 2 0 ∧ (∀ i, 0 ≤ i → i < s 2 0 → X 13 g i = ln (cRid Y (s 3 i) (s 4 i)) ∧ ∀ j, 0 ≤ j → j < X 13 g i → X 14 g (12 * i + j) = X 27 (cRid Y (s 3 i) (s 4 i)) j) ∧ ∀ y k w, 0 ≤ y → y < X 0 0 3 → 0 ≤ k → k < cFc X Y y → Y 17 y k = some w → X 26 w 1 = nmAt (fun q => cRid Y (s 3 q) (s 4 q)) w (s 2 0).toNat
section RC3
variable {M N : List Nat} {X X1 : Nat → Int → Int → Int} {Y Y1 : Nat → Int → Int → Option Int} {ln : Int → Int} {g x : Int} {s : Nat → Int → Int}
theorem rcT.frm (h : rcT X Y g s) (hF : Frm M X X1) (hH : Frm N Y Y1) (hd : ∀ c ∈ [701, 4, 800, 900, 1902, 1504], c ∉ M) (he : ∀ c ∈ [500, 1501], c ∉ N) : rcT X1 Y1 g s := by
  have a1 : X1 7 g 0 = X 7 g 0 := hF 7 g 0 (hd 701 (by decide))
  have a2 : X1 0 0 3 = X 0 0 3 := hF 0 0 3 (hd 4 (by decide))
  have a3 : ∀ i, X1 8 g i = X 8 g i := fun i => hF 8 g i (hd 800 (by decide))
  have a4 : ∀ i, X1 9 g i = X 9 g i := fun i => hF 9 g i (hd 900 (by decide))
  have a5 : ∀ i, X1 19 i 1 = X 19 i 1 := fun i => hF 19 i 1 (hd 1902 (by decide))
  have a6 : ∀ i, X1 15 i 3 = X 15 i 3 := fun i => hF 15 i 3 (hd 1504 (by decide))
  have b1 : ∀ i, Y1 5 0 i = Y 5 0 i := fun i => hH 5 0 i (he 500 (by decide))
  have b2 : ∀ i, Y1 15 i 0 = Y 15 i 0 := fun i => hH 15 i 0 (he 1501 (by decide))
  unfold rcT cFc at *
  simp only [a1, a2, a3, a4, a5, a6, b1, b2]
  exact h
theorem rcR.frm (h : rcR X Y ln g s) (hF : Frm M X X1) (hH : Frm N Y Y1) (hd : ∀ c ∈ [707, 4, 1300, 1400, 1902, 2602, 2700], c ∉ M) (he : ∀ c ∈ [1700, 1501], c ∉ N) : rcR X1 Y1 ln g s := by
  have a1 : X1 7 g 6 = X 7 g 6 := hF 7 g 6 (hd 707 (by decide))
  have a2 : X1 0 0 3 = X 0 0 3 := hF 0 0 3 (hd 4 (by decide))
  have a3 : ∀ i, X1 13 g i = X 13 g i := fun i => hF 13 g i (hd 1300 (by decide))
  have a4 : ∀ i, X1 14 g i = X 14 g i := fun i => hF 14 g i (hd 1400 (by decide))
  have a5 : ∀ i, X1 19 i 1 = X 19 i 1 := fun i => hF 19 i 1 (hd 1902 (by decide))
  have a6 : ∀ i, X1 26 i 1 = X 26 i 1 := fun i => hF 26 i 1 (hd 2602 (by decide))
  have a7 : ∀ i j, X1 27 i j = X 27 i j := fun i j => hF 27 i j (hd 2700 (by decide))
  have b1 : ∀ i j, Y1 17 i j = Y 17 i j := fun i j => hH 17 i j (he 1700 (by decide))
  have b2 : ∀ i, Y1 15 i 0 = Y 15 i 0 := fun i => hH 15 i 0 (he 1501 (by decide))
  unfold rcR cFc cRid at *
  simp only [a1, a2, a3, a4, a5, a6, a7, b1, b2]
  exact h
/-- a thing becomes the next record -/
theorem rcT.push (h : rcT X Y g s) (hp : 0 ≤ s 0 0) (hx : 0 ≤ x ∧ x < X 0 0 3) (hn : X 15 x 3 = -1) (e1 : X1 7 g 0 = X 7 g 0 + 1) (e2 : X1 0 0 3 = X 0 0 3) (e3 : X1 15 x 3 = X 7 g 0) (e4 : ∀ i, i ≠ x → X1 15 i 3 = X 15 i 3) (e5 : Y1 5 0 (X 7 g 0) = some x) (e6 : ∀ j, j ≠ X 7 g 0 → Y1 5 0 j = Y 5 0 j) (e7 : X1 8 g (X 7 g 0) = tyo (Y 15 x 0)) (e8 : ∀ j, j ≠ X 7 g 0 → X1 8 g j = X 8 g j) (e9 : X1 9 g (X 7 g 0) = cFc X Y x) (e10 : ∀ j, j ≠ X 7 g 0 → X1 9 g j = X 9 g j) (e11 : ∀ i, X1 19 i 1 = X 19 i 1) (e12 : ∀ i, Y1 15 i 0 = Y 15 i 0) : rcT X1 Y1 g (u2 (u2 s 1 (s 0 0) x) 0 0 (s 0 0 + 1)) := by
  obtain ⟨h1, h2, h3⟩ := h
  have f0 : u2 (u2 s 1 (s 0 0) x) 0 0 (s 0 0 + 1) 0 0 = s 0 0 + 1 := u2_s _ _ _ _
  have f1 : ∀ i, u2 (u2 s 1 (s 0 0) x) 0 0 (s 0 0 + 1) 1 i = u2 s 1 (s 0 0) x 1 i := fun i => u2_k _ _ _ _ (by decide)
  have f2 : ∀ i, i ≠ s 0 0 → u2 s 1 (s 0 0) x 1 i = s 1 i := fun i hi => u2_i _ _ _ hi
  have f3 : u2 s 1 (s 0 0) x 1 (s 0 0) = x := u2_s _ _ _ _
  rw [h1] at e1 e3 e5 e6 e7 e8 e9 e10
  refine ⟨by rw [f0, e1], fun i i0 i1 => ?_, fun y y0 y1 => ?_⟩
  · rw [f0] at i1
    rw [f1]
    unfold cFc at e9 ⊢
    by_cases e : i = s 0 0
    · rw [e, f3, e5, e7, e9, e2]
      simp only [e11, e12]
      exact ⟨trivial, hx, trivial, trivial⟩
    · rw [f2 i e, e6 i e, e8 i e, e10 i e, e2]
      simp only [e11, e12]
      have := h2 i i0 (by omega)
      unfold cFc at this
      exact this
  · rw [f0]
    rw [e2] at y1
    have hc : nmAt (u2 (u2 s 1 (s 0 0) x) 0 0 (s 0 0 + 1) 1) y (s 0 0 + 1).toNat = if nmAt (s 1) y (s 0 0).toNat = -1 then (if x = y then s 0 0 else -1) else nmAt (s 1) y (s 0 0).toNat := nmAt_push hp (fun j j0 j1 => by rw [f1, f2 j (by omega)]) (by rw [f1, f3])
    rw [hc]
    by_cases e : y = x
    · rw [e, e3, ← h3 x hx.1 hx.2, hn, if_pos rfl, if_pos rfl]
    · rw [e4 y e, h3 y y0 y1]
      by_cases c : nmAt (s 1) y (s 0 0).toNat = -1
      · rw [if_pos c, if_neg (fun q => e q.symm), c]
      · rw [if_neg c]
/-- a row becomes the next one -/
theorem rcR.push {y k w : Int} (h : rcR X Y ln g s) (hp : 0 ≤ s 2 0) (hl : ∀ i, X 13 g i ≤ 12) (hw : Y 17 y k = some w) (hn : X 26 w 1 = -1) (e1 : X1 7 g 6 = X 7 g 6 + 1) (e2 : X1 0 0 3 = X 0 0 3) (e3 : X1 26 w 1 = X 7 g 6) (e4 : ∀ i, i ≠ w → X1 26 i 1 = X 26 i 1) (e5 : X1 13 g (X 7 g 6) = ln w) (e6 : ∀ i, i ≠ X 7 g 6 → X1 13 g i = X 13 g i) (e7 : ∀ j, 0 ≤ j → j < ln w → X1 14 g (12 * X 7 g 6 + j) = X 27 w j) (e8 : ∀ p, p < 12 * X 7 g 6 → X1 14 g p = X 14 g p) (e9 : ∀ i j, X1 27 i j = X 27 i j) (e10 : ∀ i, X1 19 i 1 = X 19 i 1) (e11 : ∀ i, Y1 15 i 0 = Y 15 i 0) (e12 : ∀ i j, Y1 17 i j = Y 17 i j) : rcR X1 Y1 ln g (u2 (u2 (u2 s 3 (s 2 0) y) 4 (s 2 0) k) 2 0 (s 2 0 + 1)) := by
  obtain ⟨h1, h2, h3⟩ := h
  have f0 : u2 (u2 (u2 s 3 (s 2 0) y) 4 (s 2 0) k) 2 0 (s 2 0 + 1) 2 0 = s 2 0 + 1 := u2_s _ _ _ _
  have f3 : ∀ i, i ≠ s 2 0 → u2 (u2 (u2 s 3 (s 2 0) y) 4 (s 2 0) k) 2 0 (s 2 0 + 1) 3 i = s 3 i := fun i hi => by rw [u2_k _ _ _ _ (by decide), u2_k _ _ _ _ (by decide), u2_i _ _ _ hi]
  have f4 : ∀ i, i ≠ s 2 0 → u2 (u2 (u2 s 3 (s 2 0) y) 4 (s 2 0) k) 2 0 (s 2 0 + 1) 4 i = s 4 i := fun i hi => by rw [u2_k _ _ _ _ (by decide), u2_i _ _ _ hi, u2_k _ _ _ _ (by decide)]
  have g3 : u2 (u2 (u2 s 3 (s 2 0) y) 4 (s 2 0) k) 2 0 (s 2 0 + 1) 3 (s 2 0) = y := by rw [u2_k _ _ _ _ (by decide), u2_k _ _ _ _ (by decide), u2_s]
  have g4 : u2 (u2 (u2 s 3 (s 2 0) y) 4 (s 2 0) k) 2 0 (s 2 0 + 1) 4 (s 2 0) = k := by rw [u2_k _ _ _ _ (by decide), u2_s]
  have hr : cRid Y y k = w := tyo_some hw
  have hrd : ∀ a b, cRid Y1 a b = cRid Y a b := fun a b => by unfold cRid; rw [e12]
  rw [h1] at e1 e3 e5 e6 e7 e8
  refine ⟨by rw [f0, e1], fun i i0 i1 => ?_, fun y' k' w' y0 y1 k0 k1 hw' => ?_⟩
  · rw [f0] at i1
    rw [hrd]
    by_cases e : i = s 2 0
    · rw [e, g3, g4, hr, e5]
      exact ⟨rfl, fun j j0 j1 => by rw [e7 j j0 j1, e9]⟩
    · rw [f3 i e, f4 i e, e6 i e]
      obtain ⟨a, b⟩ := h2 i i0 (by omega)
      refine ⟨a, fun j j0 j1 => ?_⟩
      have := hl i
      rw [e8 _ (by omega), e9]
      exact b j j0 j1
  · rw [f0]
    rw [e2] at y1
    rw [e12] at hw'
    have k1' : k' < cFc X Y y' := by unfold cFc at k1 ⊢; rw [e10, e11] at k1; exact k1
    have hc : nmAt (fun q => cRid Y1 (u2 (u2 (u2 s 3 (s 2 0) y) 4 (s 2 0) k) 2 0 (s 2 0 + 1) 3 q) (u2 (u2 (u2 s 3 (s 2 0) y) 4 (s 2 0) k) 2 0 (s 2 0 + 1) 4 q)) w' (s 2 0 + 1).toNat = if nmAt (fun q => cRid Y (s 3 q) (s 4 q)) w' (s 2 0).toNat = -1 then (if w = w' then s 2 0 else -1) else nmAt (fun q => cRid Y (s 3 q) (s 4 q)) w' (s 2 0).toNat := nmAt_push hp (fun j j0 j1 => by show cRid Y1 _ _ = cRid Y (s 3 j) (s 4 j); rw [hrd, f3 j (by omega), f4 j (by omega)]) (by show cRid Y1 _ _ = w; rw [hrd, g3, g4, hr])
    rw [hc]
    have h4 := h3 y' k' w' y0 y1 k0 k1' hw'
    by_cases e : w' = w
    · rw [e] at h4 ⊢
      rw [e3, ← h4, hn, if_pos rfl, if_pos rfl]
    · rw [e4 w' e, h4]
      by_cases c : nmAt (fun q => cRid Y (s 3 q) (s 4 q)) w' (s 2 0).toNat = -1
      · rw [if_pos c, if_neg (fun q => e q.symm), c]
      · rw [if_neg c]
end RC3
end
section
/-! the class's recording: readers over versions, the slots -/
section RC4
variable {M N : List Nat} {X X1 : Nat → Int → Int → Int} {Y Y1 : Nat → Int → Int → Option Int} {ln : Int → Int} {g x : Int} {s s' : Nat → Int → Int}
theorem cFc.frm (hF : Frm M X X1) (hH : Frm N Y Y1) (hd : 1902 ∉ M) (he : 1501 ∉ N) : cFc X1 Y1 = cFc X Y := by
  funext y
  unfold cFc
  rw [hH 15 y 0 he, hF 19 _ 1 hd]
theorem cLa.frm (hF : Frm M X X1) (hH : Frm N Y Y1) (hd : 2100 ∉ M) (he : 1501 ∉ N) : cLa X1 Y1 = cLa X Y := by
  funext y k
  unfold cLa
  rw [hH 15 y 0 he, hF 21 _ k hd]
theorem cRid.frm (hH : Frm N Y Y1) (he : 1700 ∉ N) : cRid Y1 = cRid Y := by
  funext y k
  unfold cRid
  rw [hH 17 y k he]
theorem cVl.frm (hF : Frm M X X1) (hH : Frm N Y Y1) (hd : ∀ c ∈ [2100, 1600, 4], c ∉ M) (he : 1501 ∉ N) : cVl X1 Y1 = cVl X Y := by
  funext y k
  unfold cVl
  rw [cLa.frm hF hH (hd 2100 (by decide)) he, hF 16 y k (hd 1600 (by decide)), hF 0 0 3 (hd 4 (by decide))]
theorem rcT.cong (h : rcT X Y g s) (f0 : s' 0 0 = s 0 0) (f1 : s' 1 = s 1) : rcT X Y g s' := by
  unfold rcT at *
  rw [f0, f1]
  exact h
theorem rcR.cong (h : rcR X Y ln g s) (f2 : s' 2 0 = s 2 0) (f3 : s' 3 = s 3) (f4 : s' 4 = s 4) : rcR X Y ln g s' := by
  unfold rcR at *
  rw [f2, f3, f4]
  exact h
theorem u2_f (s : Nat → Int → Int) {κ κ' : Nat} (i v : Int) (h : κ' ≠ κ) : u2 s κ i v κ' = s κ' := funext fun j => u2_k s i v j h
def rcL (X : Nat → Int → Int → Int) (Y : Nat → Int → Int → Option Int) (g : Int) (s : Nat → Int → Int) (r k : Int) : Prop := X 10 g (5 * r + k) = X 20 (tyo (Y 15 (s 1 r) 0)) k ∧ X 11 g (5 * r + k) = cLa X Y (s 1 r) k ∧ X 12 g (5 * r + k) = s 5 (5 * r + k)
def rcV (X : Nat → Int → Int → Int) (Y : Nat → Int → Int → Option Int) (g : Int) (s : Nat → Int → Int) (r k : Int) : Prop := (∀ r' k', 0 ≤ r' → r' < r → 0 ≤ k' → k' < cFc X Y (s 1 r') → rcL X Y g s r' k') ∧ ∀ k', 0 ≤ k' → k' < k → rcL X Y g s r k'
end RC4
end
section
/-! a verdict by its kind -/
section CK
variable {kd a b v fc la lb va vb rn it mt ld : Int}
theorem ckF_c (hk : 0 ≤ kd ∧ kd ≤ 5) (h : ¬ (a < fc ∧ (kd = 2 → 3 ≤ la) ∧ ((kd = 1 ∨ kd = 5) → la = 2) ∧ ((kd = 0 ∨ kd = 3 ∨ kd = 4) → la = 0)) ∨ ((kd = 0 ∨ kd = 2) ∧ ¬ (b < fc ∧ lb = 0))) : ckF kd a b v fc la lb va vb rn it mt ld = 4 := by
  unfold ckF
  (repeat' split) <;> omega
theorem ckF_0 (hk : kd = 0) (h : a < fc ∧ la = 0 ∧ b < fc ∧ lb = 0) : ckF kd a b v fc la lb va vb rn it mt ld = if vb = 0 then 5 else 0 := by
  unfold ckF
  rw [if_pos hk, if_neg (fun q => q h)]
theorem ckF_1 (hk : kd = 1) (h : a < fc ∧ la = 2) : ckF kd a b v fc la lb va vb rn it mt ld = if mt < 0 then 1 else if mt = v then 0 else 4 := by
  unfold ckF
  rw [if_neg (by omega), if_pos hk, if_neg (fun q => q h)]
theorem ckF_2 (hk : kd = 2) (h : a < fc ∧ 3 ≤ la ∧ b < fc ∧ lb = 0) : ckF kd a b v fc la lb va vb rn it mt ld = if rn < 0 then 1 else if vb < 0 ∨ rn ≤ vb then 2 else if v < it then 0 else 6 := by
  unfold ckF
  rw [if_neg (by omega), if_neg (by omega), if_pos hk, if_neg (fun q => q h)]
theorem ckF_3 (hk : kd = 3) (h : a < fc ∧ la = 0) : ckF kd a b v fc la lb va vb rn it mt ld = if 12 < va then 6 else if va < 0 then 3 else 0 := by
  unfold ckF
  rw [if_neg (by omega), if_neg (by omega), if_neg (by omega), if_pos hk, if_neg (fun q => q h)]
theorem ckF_4 (hk : kd = 4) (h : a < fc ∧ la = 0) : ckF kd a b v fc la lb va vb rn it mt ld = if va < v then 6 else 0 := by
  unfold ckF
  rw [if_neg (by omega), if_neg (by omega), if_neg (by omega), if_neg (by omega), if_pos hk, if_neg (fun q => q h)]
theorem ckF_5 (hk : kd = 5) (h : a < fc ∧ la = 2) : ckF kd a b v fc la lb va vb rn it mt ld = if mt < 0 then 1 else if ld < -1 then 4 else if ld < 0 then 1 else 0 := by
  unfold ckF
  rw [if_neg (by omega), if_neg (by omega), if_neg (by omega), if_neg (by omega), if_neg (by omega), if_neg (fun q => q h)]
end CK
end
section
/-! putting back: a field's verdict, a field's step, the run of fields and records -/
def goZ (a b : Int) : Prop := a = b ∨ (a = 1 ∧ b = 0) ∨ (a = 3 ∧ 3 < b) ∨ (a = 4 ∧ b = 5)
def fvF (tt lane fl v ou r1 r2 : Int) : Int := if tt < 0 then (if r1 = 0 then 8 else 0) else if ¬ (fl = lane ∨ (fl = 1 ∧ lane = 0) ∨ (fl = 3 ∧ 3 < lane) ∨ (fl = 4 ∧ lane = 5)) then 9 else if lane = 1 ∧ 0 ≤ v ∧ ou = 1 ∧ r2 = 0 then 7 else 0
/-- where the saved field k of record r of save s goes, in the reference -/
def toM (X : Nat → Int → Int → Int) (s r k : Int) : Int := nmAt (fun j => X 45 0 (5 * X 71 0 (30 * s + r) + j)) (X 73 0 (5 * (30 * s + r) + k)) (X 44 0 (X 71 0 (30 * s + r))).toNat
def tlM (X : Nat → Int → Int → Int) (s r k : Int) : Int := X 46 0 (5 * X 71 0 (30 * s + r) + toM X s r k)
def tvM (X : Nat → Int → Int → Int) (s r k : Int) : Int := X 75 0 (5 * (30 * s + r) + k)
def twM (X : Nat → Int → Int → Int) (s r k : Int) : Int := if tlM X s r k = 1 ∧ 0 ≤ tvM X s r k ∧ X 42 0 (tvM X s r k) = 1 then -1 else tvM X s r k
def fvM (X : Nat → Int → Int → Int) (s r k rule : Int) : Int := fvF (toM X s r k) (tlM X s r k) (X 74 0 (5 * (30 * s + r) + k)) (tvM X s r k) (X 42 0 (tvM X s r k)) (andZ rule 1) (andZ rule 2)
def rbM (s w lane : Int) (X X1 : Nat → Int → Int → Int) (row : Int) : Prop := (0 ≤ X 85 0 (3 * w + lane - 3) ∧ row = X 85 0 (3 * w + lane - 3) ∧ X1 = X) ∨ (X 85 0 (3 * w + lane - 3) < 0 ∧ (0 ≤ row ∧ row ≤ 399) ∧ ((∀ x k, 0 ≤ x → x < X 40 0 13 → 0 ≤ k → k < X 44 0 (X 55 0 x) → 3 ≤ X 46 0 (5 * X 55 0 x + k) → X 56 0 (5 * x + k) ≠ row) ∧ ∀ m, 0 ≤ m → m < X 40 0 22 → X 66 0 m ≠ row) ∧ (X1 57 0 row = lane ∧ X1 58 0 row = X 78 0 (150 * s + w)) ∧ (∀ y, y ≠ row → X1 57 0 y = X 57 0 y ∧ X1 58 0 y = X 58 0 y) ∧ (∀ j, 0 ≤ j → j < X 78 0 (150 * s + w) → X1 59 0 (12 * row + j) = X 79 0 (12 * (150 * s + w) + j)) ∧ (∀ p, ¬ (12 * row ≤ p ∧ p < 12 * row + 12) → X1 59 0 p = X 59 0 p) ∧ X1 85 0 (3 * w + lane - 3) = row ∧ (∀ j, j ≠ 3 * w + lane - 3 → X1 85 0 j = X 85 0 j) ∧ Frm [6000, 5700, 5800, 5900, 8500] X X1)
def fStM (s r bs k : Int) (X X1 : Nat → Int → Int → Int) : Prop := (toM X s r k < 0 ∧ X1 = X) ∨ (0 ≤ toM X s r k ∧ (tlM X s r k < 2 ∨ twM X s r k < 0) ∧ X1 = u3 X 56 0 (5 * (bs + r) + toM X s r k) (twM X s r k)) ∨ (0 ≤ toM X s r k ∧ tlM X s r k = 2 ∧ 0 ≤ twM X s r k ∧ X1 = u3 X 56 0 (5 * (bs + r) + toM X s r k) (bs + twM X s r k)) ∨ (0 ≤ toM X s r k ∧ 3 ≤ tlM X s r k ∧ 0 ≤ twM X s r k ∧ ∃ (X' : Nat → Int → Int → Int) (row : Int), rbM s (twM X s r k) (tlM X s r k) X X' row ∧ X1 = u3 X' 56 0 (5 * (bs + r) + toM X s r k) row)
def fTrM (s r rule bs : Int) : Nat → (Nat → Int → Int → Int) → (Nat → Int → Int → Int) → Prop
  | 0, X, X1 => X1 = X
  | k + 1, X, X1 => ∃ X', fTrM s r rule bs k X X' ∧ fvM X' s r (k : Int) rule = 0 ∧ fStM s r bs (k : Int) X' X1
def rTrM (s rule bs : Int) : Nat → (Nat → Int → Int → Int) → (Nat → Int → Int → Int) → Prop
  | 0, X, X1 => X1 = X
  | r + 1, X, X1 => ∃ X', rTrM s rule bs r X X' ∧ fTrM s (r : Int) rule bs (X' 72 0 (30 * s + (r : Int))).toNat X' X1
def fEndM (s r rule bs z : Int) (X X1 : Nat → Int → Int → Int) : Prop := (z = 0 ∧ fTrM s r rule bs (X 72 0 (30 * s + r)).toNat X X1) ∨ (z ≠ 0 ∧ ∃ (k : Int) (X' : Nat → Int → Int → Int), 0 ≤ k ∧ k < X 72 0 (30 * s + r) ∧ fTrM s r rule bs k.toNat X X' ∧ fvM X' s r k rule ≠ 0 ∧ z = -10 - fvM X' s r k rule ∧ Frm [4042, 4043, 4044] X' X1)
theorem fTrM.push {s r rule bs k : Int} {X Xa Xb : Nat → Int → Int → Int} (h : fTrM s r rule bs k.toNat X Xa) (hk : 0 ≤ k) (hv : fvM Xa s r k rule = 0) (hs : fStM s r bs k Xa Xb) : fTrM s r rule bs (k + 1).toNat X Xb := by
  rw [show (k + 1).toNat = k.toNat + 1 by omega]
  refine ⟨Xa, h, ?_⟩
  rw [show ((k.toNat : Nat) : Int) = k by omega]
  exact ⟨hv, hs⟩
theorem rTrM.push {s r rule bs : Int} {X Xa Xb : Nat → Int → Int → Int} (h : rTrM s rule bs r.toNat X Xa) (hr : 0 ≤ r) (hs : fTrM s r rule bs (Xa 72 0 (30 * s + r)).toNat Xa Xb) : rTrM s rule bs (r + 1).toNat X Xb := by
  rw [show (r + 1).toNat = r.toNat + 1 by omega]
  refine ⟨Xa, h, ?_⟩
  rw [show ((r.toNat : Nat) : Int) = r by omega]
  exact hs
section FV
variable {tt lane fl v ou r1 r2 : Int}
theorem fvF_g (h : tt < 0) (h1 : r1 = 0) : fvF tt lane fl v ou r1 r2 = 8 := by unfold fvF; rw [if_pos h, if_pos h1]
theorem fvF_g0 (h : tt < 0) (h1 : r1 ≠ 0) : fvF tt lane fl v ou r1 r2 = 0 := by unfold fvF; rw [if_pos h, if_neg h1]
theorem fvF_l (h : 0 ≤ tt) (h1 : ¬ (fl = lane ∨ (fl = 1 ∧ lane = 0) ∨ (fl = 3 ∧ 3 < lane) ∨ (fl = 4 ∧ lane = 5))) : fvF tt lane fl v ou r1 r2 = 9 := by unfold fvF; rw [if_neg (by omega), if_pos h1]
theorem fvF_w (h : 0 ≤ tt) (h1 : fl = lane ∨ (fl = 1 ∧ lane = 0) ∨ (fl = 3 ∧ 3 < lane) ∨ (fl = 4 ∧ lane = 5)) (h2 : lane = 1 ∧ 0 ≤ v ∧ ou = 1 ∧ r2 = 0) : fvF tt lane fl v ou r1 r2 = 7 := by unfold fvF; rw [if_neg (by omega), if_neg (fun q => q h1), if_pos h2]
theorem fvF_0 (h : 0 ≤ tt) (h1 : fl = lane ∨ (fl = 1 ∧ lane = 0) ∨ (fl = 3 ∧ 3 < lane) ∨ (fl = 4 ∧ lane = 5)) (h2 : ¬ (lane = 1 ∧ 0 ≤ v ∧ ou = 1 ∧ r2 = 0)) : fvF tt lane fl v ou r1 r2 = 0 := by unfold fvF; rw [if_neg (by omega), if_neg (fun q => q h1), if_neg h2]
end FV
theorem stM_eq {L : List Nat} {X X0 : Nat → Int → Int → Int} (hF : Frm L X X0) (hd : ∀ q ∈ [4200, 4400, 4500, 4600, 7100, 7300, 7400, 7500], q ∉ L) : toM X0 = toM X ∧ tlM X0 = tlM X ∧ tvM X0 = tvM X ∧ twM X0 = twM X ∧ fvM X0 = fvM X := by
  have e2 := hF.arr 42 (by decide +kernel) (hd 4200 (by decide))
  have e4 := hF.arr 44 (by decide +kernel) (hd 4400 (by decide))
  have e5 := hF.arr 45 (by decide +kernel) (hd 4500 (by decide))
  have e6 := hF.arr 46 (by decide +kernel) (hd 4600 (by decide))
  have f1 := hF.arr 71 (by decide +kernel) (hd 7100 (by decide))
  have f3 := hF.arr 73 (by decide +kernel) (hd 7300 (by decide))
  have f4 := hF.arr 74 (by decide +kernel) (hd 7400 (by decide))
  have f5 := hF.arr 75 (by decide +kernel) (hd 7500 (by decide))
  have g1 : toM X0 = toM X := by
    funext s r k
    simp only [toM, e4, e5, f1, f3]
  have g2 : tlM X0 = tlM X := by
    funext s r k
    simp only [tlM, g1, e6, f1]
  have g3 : tvM X0 = tvM X := by
    funext s r k
    simp only [tvM, f5]
  have g4 : twM X0 = twM X := by
    funext s r k
    simp only [twM, g2, g3, e2]
  refine ⟨g1, g2, g3, g4, ?_⟩
  funext s r k rule
  simp only [fvM, g1, g2, g3, e2, f4]
end
section
/-! the class's verdicts -/
theorem tyo_s {q : Int} : tyo (some q) = q := rfl
def jdC (X : Nat → Int → Int → Int) (Y : Nat → Int → Int → Option Int) (ln : Int → Int) (x z : Int) : Prop := (z = 0 ∧ ∀ c, 0 ≤ c → c < X 19 (tyo (Y 15 x 0)) 6 → ckC X Y ln x (tyo (Y 24 (tyo (Y 15 x 0)) c)) = 0) ∨ (z ≠ 0 ∧ ∃ c, 0 ≤ c ∧ c < X 19 (tyo (Y 15 x 0)) 6 ∧ (∀ c', 0 ≤ c' → c' < c → ckC X Y ln x (tyo (Y 24 (tyo (Y 15 x 0)) c')) = 0) ∧ z = ckC X Y ln x (tyo (Y 24 (tyo (Y 15 x 0)) c)))
/-- a row of references whose end moved down by one -/
def ShY (κ : Nat) (Y Ya : Nat → Int → Int → Option Int) (q k i : Int) : Prop := ∀ y j, Ya κ y j = if y = q ∧ k ≤ j ∧ j < i then Y κ y (j + 1) else Y κ y j
theorem ShY.in_ {κ : Nat} {Y Ya : Nat → Int → Int → Option Int} {q k : Int} (h : Ya κ = Y κ) : ShY κ Y Ya q k k := fun y j => by rw [if_neg (fun g => by omega), h]
theorem ShY.step {κ : Nat} {Y Ya Yb : Nat → Int → Int → Option Int} {q k i : Int} {v : Option Int} (h : ShY κ Y Ya q k i) (hk : k ≤ i) (e : Yb κ = u3 Ya κ q i v κ) (hv : v = Ya κ q (i + 1)) : ShY κ Y Yb q k (i + 1) := fun y j => by
  rw [e]
  by_cases hc : y = q ∧ j = i
  · obtain ⟨rfl, rfl⟩ := hc
    rw [u3_s, hv, h, if_neg (fun g => by omega), if_pos ⟨rfl, hk, by omega⟩]
  · have e2 : u3 Ya κ q i v κ y j = Ya κ y j := by
      simp only [u3]
      rw [if_neg (fun g => hc g.2)]
    rw [e2, h]
    by_cases hd : y = q ∧ k ≤ j ∧ j < i
    · rw [if_pos hd, if_pos ⟨hd.1, hd.2.1, by omega⟩]
    · rw [if_neg hd, if_neg (fun g => hd ⟨g.1, g.2.1, by
        have : j ≠ i := fun q9 => hc ⟨g.1, q9⟩
        omega⟩)]
/-! a field comes to, or goes from, the things of a type, in the class -/
def FdC (X Xa : Nat → Int → Int → Int) (Y Ya : Nat → Int → Int → Option Int) (t K dv x : Int) : Prop := (∀ y, 0 ≤ y → y < x → Y 15 y 0 = some t → Xa 16 y K = dv ∧ Ya 17 y K = none) ∧ ∀ y j, ¬ (0 ≤ y ∧ y < x ∧ Y 15 y 0 = some t ∧ j = K) → Xa 16 y j = X 16 y j ∧ Ya 17 y j = Y 17 y j
def DrC (X Xa : Nat → Int → Int → Int) (Y Ya : Nat → Int → Int → Option Int) (t k x : Int) : Prop := (∀ y, 0 ≤ y → y < x → Y 15 y 0 = some t → ∀ j, Xa 16 y j = (if k ≤ j ∧ j < 4 then X 16 y (j + 1) else X 16 y j) ∧ Ya 17 y j = (if k ≤ j ∧ j < 4 then Y 17 y (j + 1) else Y 17 y j)) ∧ ∀ y, ¬ (0 ≤ y ∧ y < x ∧ Y 15 y 0 = some t) → ∀ j, Xa 16 y j = X 16 y j ∧ Ya 17 y j = Y 17 y j
section FC
variable {X Xa Xo Xe : Nat → Int → Int → Int} {Y Ya Yo Ye : Nat → Int → Int → Option Int} {t K dv x k : Int}
theorem FdC.in_ (e : ∀ y j, Xa 16 y j = X 16 y j) (f : ∀ y j, Ya 17 y j = Y 17 y j) : FdC X Xa Y Ya t K dv 0 := ⟨fun y a b => by omega, fun y j _ => ⟨e y j, f y j⟩⟩
theorem FdC.yes (h : FdC X Xa Y Ya t K dv x) (s1 : Xe 16 x K = dv) (s2 : ∀ y j, ¬ (y = x ∧ j = K) → Xe 16 y j = Xa 16 y j) (s3 : Ye 17 x K = none) (s4 : ∀ y j, ¬ (y = x ∧ j = K) → Ye 17 y j = Ya 17 y j) (hx : 0 ≤ x) (ht : Y 15 x 0 = some t) : FdC X Xe Y Ye t K dv (x + 1) := by
  refine ⟨fun y a b c => ?_, fun y j n => ?_⟩
  · by_cases e : y = x
    · rw [e]
      exact ⟨s1, s3⟩
    · rw [s2 y K (fun q => e q.1), s4 y K (fun q => e q.1)]
      exact h.1 y a (by omega) c
  · have e : ¬ (y = x ∧ j = K) := fun q => n ⟨by omega, by omega, by rw [q.1]; exact ht, q.2⟩
    rw [s2 y j e, s4 y j e]
    exact h.2 y j (fun q => n ⟨q.1, by omega, q.2.2.1, q.2.2.2⟩)
theorem FdC.no (h : FdC X Xa Y Ya t K dv x) (ht : Y 15 x 0 ≠ some t) : FdC X Xa Y Ya t K dv (x + 1) := by
  refine ⟨fun y a b c => ?_, fun y j n => h.2 y j (fun q => n ⟨q.1, by omega, q.2.2.1, q.2.2.2⟩)⟩
  exact h.1 y a (by
    have : y ≠ x := fun q => ht (by rw [← q]; exact c)
    omega) c
theorem DrC.in_ (e : ∀ y j, Xa 16 y j = X 16 y j) (f : ∀ y j, Ya 17 y j = Y 17 y j) : DrC X Xa Y Ya t k 0 := ⟨fun y a b => by omega, fun y _ j => ⟨e y j, f y j⟩⟩
theorem DrC.yes (h : DrC X Xa Y Ya t k x) (s1 : Sh 16 Xo Xe x k 4) (s2 : ShY 17 Yo Ye x k 4) (e1 : ∀ y j, Xo 16 y j = Xa 16 y j) (e2 : ∀ y j, Yo 17 y j = Ya 17 y j) (hx : 0 ≤ x) (ht : Y 15 x 0 = some t) : DrC X Xe Y Ye t k (x + 1) := by
  refine ⟨fun y a b c j => ?_, fun y n j => ?_⟩
  · rw [s1, s2, e1, e1, e2, e2]
    by_cases e : y = x
    · subst e
      have h9 := fun j => h.2 y (fun q => by omega) j
      by_cases q : k ≤ j ∧ j < 4
      · have q2 : y = y ∧ k ≤ j ∧ j < 4 := ⟨rfl, q.1, q.2⟩
        rw [if_pos q2, if_pos q2, if_pos q, if_pos q]
        exact h9 (j + 1)
      · have q2 : ¬ (y = y ∧ k ≤ j ∧ j < 4) := fun w => q w.2
        rw [if_neg q2, if_neg q2, if_neg q, if_neg q]
        exact h9 j
    · have q2 : ¬ (y = x ∧ k ≤ j ∧ j < 4) := fun w => e w.1
      rw [if_neg q2, if_neg q2]
      exact h.1 y a (by omega) c j
  · have e : y ≠ x := fun q => n ⟨by omega, by omega, by rw [q]; exact ht⟩
    rw [s1, s2, if_neg (fun w => e w.1), if_neg (fun w => e w.1), e1, e2]
    exact h.2 y (fun q => n ⟨q.1, by omega, q.2.2⟩) j
theorem DrC.no (h : DrC X Xa Y Ya t k x) (ht : Y 15 x 0 ≠ some t) : DrC X Xa Y Ya t k (x + 1) := by
  refine ⟨fun y a b c => ?_, fun y n => h.2 y (fun q => n ⟨q.1, by omega, q.2.2⟩)⟩
  exact h.1 y a (by
    have : y ≠ x := fun q => ht (by rw [← q]; exact c)
    omega) c
end FC
/-- verdicts over versions, in the class -/
theorem ckC_frm {M N : List Nat} {X X1 : Nat → Int → Int → Int} {Y Y1 : Nat → Int → Int → Option Int} {ln : Int → Int} (hF : Frm M X X1) (hH : Frm N Y Y1) (hd : ∀ c ∈ [4, 1600, 1901, 1902, 2000, 2100, 2501, 2502, 2503, 2504, 2700], c ∉ M) (he : ∀ c ∈ [1501, 1700], c ∉ N) : ckC X1 Y1 ln = ckC X Y ln := by
  have a0 : X1 0 0 3 = X 0 0 3 := hF 0 0 3 (hd 4 (by decide))
  have a1 : X1 16 = X 16 := hF.arr 16 (by decide +kernel) (hd 1600 (by decide))
  have a2 : ∀ i, X1 19 i 0 = X 19 i 0 := fun i => hF 19 i 0 (hd 1901 (by decide))
  have a3 : ∀ i, X1 19 i 1 = X 19 i 1 := fun i => hF 19 i 1 (hd 1902 (by decide))
  have a4 : X1 20 = X 20 := hF.arr 20 (by decide +kernel) (hd 2000 (by decide))
  have a5 : X1 21 = X 21 := hF.arr 21 (by decide +kernel) (hd 2100 (by decide))
  have a6 : ∀ i, X1 25 i 0 = X 25 i 0 := fun i => hF 25 i 0 (hd 2501 (by decide))
  have a7 : ∀ i, X1 25 i 1 = X 25 i 1 := fun i => hF 25 i 1 (hd 2502 (by decide))
  have a8 : ∀ i, X1 25 i 2 = X 25 i 2 := fun i => hF 25 i 2 (hd 2503 (by decide))
  have a9 : ∀ i, X1 25 i 3 = X 25 i 3 := fun i => hF 25 i 3 (hd 2504 (by decide))
  have b0 : X1 27 = X 27 := hF.arr 27 (by decide +kernel) (hd 2700 (by decide))
  have c1 : ∀ i, Y1 15 i 0 = Y 15 i 0 := fun i => hH 15 i 0 (he 1501 (by decide))
  have c2 : Y1 17 = Y 17 := hH.arr 17 (by decide +kernel) (he 1700 (by decide))
  funext x g
  simp only [ckC, ldC, a0, a1, a2, a3, a4, a5, a6, a7, a8, a9, b0, c1, c2]
theorem jdC_frm {M N : List Nat} {X X1 : Nat → Int → Int → Int} {Y Y1 : Nat → Int → Int → Option Int} {ln : Int → Int} (hF : Frm M X X1) (hH : Frm N Y Y1) (hd : ∀ c ∈ [4, 1600, 1901, 1902, 1907, 2000, 2100, 2501, 2502, 2503, 2504, 2700], c ∉ M) (he : ∀ c ∈ [1501, 1700, 2400], c ∉ N) : jdC X1 Y1 ln = jdC X Y ln := by
  have e := ckC_frm (ln := ln) hF hH (fun c hc => hd c (by simp only [List.mem_cons, List.not_mem_nil, or_false] at hc ⊢; omega)) (fun c hc => he c (by simp only [List.mem_cons, List.not_mem_nil, or_false] at hc ⊢; omega))
  have c1 : ∀ i, Y1 15 i 0 = Y 15 i 0 := fun i => hH 15 i 0 (he 1501 (by decide))
  have c2 : Y1 24 = Y 24 := hH.arr 24 (by decide +kernel) (he 2400 (by decide))
  have c3 : ∀ i, X1 19 i 6 = X 19 i 6 := fun i => hF 19 i 6 (hd 1907 (by decide))
  funext x z
  simp only [jdC, e, c1, c2, c3]
end
section
/-! the class, one position of recording; the other records stay -/
def gK (g : Int) (X X1 : Nat → Int → Int → Int) : Prop := ∀ y, y ≠ g → (X1 7 y 0 = X 7 y 0 ∧ X1 7 y 6 = X 7 y 6) ∧ X1 8 y = X 8 y ∧ X1 9 y = X 9 y ∧ X1 10 y = X 10 y ∧ X1 11 y = X 11 y ∧ X1 12 y = X 12 y ∧ X1 13 y = X 13 y ∧ X1 14 y = X 14 y
section GK
variable {X X1 X2 : Nat → Int → Int → Int} {g : Int} {M : List Nat}
theorem gK.rf : gK g X X := fun _ _ => ⟨⟨rfl, rfl⟩, rfl, rfl, rfl, rfl, rfl, rfl, rfl⟩
theorem gK.tr (h : gK g X X1) (k : gK g X1 X2) : gK g X X2 := fun y hy => by
  obtain ⟨⟨a1, a2⟩, a3, a4, a5, a6, a7, a8, a9⟩ := h y hy
  obtain ⟨⟨b1, b2⟩, b3, b4, b5, b6, b7, b8, b9⟩ := k y hy
  exact ⟨⟨b1.trans a1, b2.trans a2⟩, b3.trans a3, b4.trans a4, b5.trans a5, b6.trans a6, b7.trans a7, b8.trans a8, b9.trans a9⟩
theorem gK.set {κ : Nat} {i j v : Int} (h : gK g X X1) (hk : 7 ≤ κ ∧ κ ≤ 14 → i = g) : gK g X (u3 X1 κ i j v) := fun y hy => by
  have e : ∀ q : Nat, 7 ≤ q → q ≤ 14 → u3 X1 κ i j v q y = X1 q y := fun q h1 h2 => u3_ne _ _ _ _ _ _ _ (fun w => hy (by
    have := hk ⟨by omega, by omega⟩
    rw [w.2, this]))
  obtain ⟨⟨a1, a2⟩, a3, a4, a5, a6, a7, a8, a9⟩ := h y hy
  rw [e 7 (by decide) (by decide), e 8 (by decide) (by decide), e 9 (by decide) (by decide), e 10 (by decide) (by decide), e 11 (by decide) (by decide), e 12 (by decide) (by decide), e 13 (by decide) (by decide), e 14 (by decide) (by decide)]
  exact ⟨⟨a1, a2⟩, a3, a4, a5, a6, a7, a8, a9⟩
theorem gK.frm (hF : Frm M X X1) (hd : ∀ c ∈ [701, 707, 800, 900, 1000, 1100, 1200, 1300, 1400], c ∉ M) : gK g X X1 := fun y _ =>
  ⟨⟨hF 7 y 0 (hd 701 (by decide)), hF 7 y 6 (hd 707 (by decide))⟩, congrFun (hF.arr 8 (by decide +kernel) (hd 800 (by decide))) y, congrFun (hF.arr 9 (by decide +kernel) (hd 900 (by decide))) y, congrFun (hF.arr 10 (by decide +kernel) (hd 1000 (by decide))) y, congrFun (hF.arr 11 (by decide +kernel) (hd 1100 (by decide))) y, congrFun (hF.arr 12 (by decide +kernel) (hd 1200 (by decide))) y, congrFun (hF.arr 13 (by decide +kernel) (hd 1300 (by decide))) y, congrFun (hF.arr 14 (by decide +kernel) (hd 1400 (by decide))) y⟩
end GK
section CS
variable {X X1 : Nat → Int → Int → Int} {Y Y1 : Nat → Int → Int → Option Int} {ln : Int → Int} {g : Int} {s s' : Nat → Int → Int} {la vl rid : Int → Int → Int} {y k p v : Int}
def cStp (la vl rid : Int → Int → Int) (y k p : Int) (X1 : Nat → Int → Int → Int) (Y1 : Nat → Int → Int → Option Int) (ln : Int → Int) (g : Int) (s : Nat → Int → Int) (v : Int) : Prop := rcT X1 Y1 g (recP la vl rid y k p s) ∧ rcR X1 Y1 ln g (recP la vl rid y k p s) ∧ v = recP la vl rid y k p s 5 p
theorem cStp_v (hT : rcT X Y g s) (hR : rcR X Y ln g s) (e : recP la vl rid y k p s = u2 s 5 p v) : cStp la vl rid y k p X Y ln g s v := by
  unfold cStp
  rw [e]
  exact ⟨hT.cong (u2_k _ _ _ _ (by decide)) (u2_f2 _ _ _ (by decide)), hR.cong (u2_k _ _ _ _ (by decide)) (u2_f2 _ _ _ (by decide)) (u2_f2 _ _ _ (by decide)), (u2_s _ _ _ _).symm⟩
theorem cStp_t (hl : la y k = 2) (hv : 0 ≤ vl y k) (hT : rcT X1 Y1 g (if nmAt (s 1) (vl y k) (s 0 0).toNat = -1 then u2 (u2 s 1 (s 0 0) (vl y k)) 0 0 (s 0 0 + 1) else s)) (hR : rcR X1 Y1 ln g s) (hz : v = if nmAt (s 1) (vl y k) (s 0 0).toNat = -1 then s 0 0 else nmAt (s 1) (vl y k) (s 0 0).toNat) : cStp la vl rid y k p X1 Y1 ln g s v := by
  unfold cStp
  by_cases c : nmAt (s 1) (vl y k) (s 0 0).toNat = -1
  · rw [if_pos c] at hT hz
    rw [recP_2w hl hv c]
    refine ⟨hT.cong (by rw [u2_s, u2_s]) ?_, hR.cong ?_ ?_ ?_, ?_⟩
    · rw [u2_f2 (κ := 0) _ _ _ (by decide), u2_f2 (κ := 5) _ _ _ (by decide), u2_f2 (κ := 0) _ _ _ (by decide)]
    · rw [u2_k _ _ _ _ (by decide), u2_k _ _ _ _ (by decide), u2_k _ _ _ _ (by decide)]
    · rw [u2_f2 _ _ _ (by decide), u2_f2 _ _ _ (by decide), u2_f2 _ _ _ (by decide)]
    · rw [u2_f2 _ _ _ (by decide), u2_f2 _ _ _ (by decide), u2_f2 _ _ _ (by decide)]
    · rw [u2_k _ _ _ _ (by decide), u2_s]
      exact hz
  · rw [if_neg c] at hT hz
    rw [hz]
    exact cStp_v hT hR (recP_2o hl hv c)
theorem cStp_r (hl : 3 ≤ la y k) (hv : 0 ≤ rid y k) (hT : rcT X1 Y1 g s) (hR : rcR X1 Y1 ln g (if nmAt (fun q => rid (s 3 q) (s 4 q)) (rid y k) (s 2 0).toNat = -1 then u2 (u2 (u2 s 3 (s 2 0) y) 4 (s 2 0) k) 2 0 (s 2 0 + 1) else s)) (hz : v = if nmAt (fun q => rid (s 3 q) (s 4 q)) (rid y k) (s 2 0).toNat = -1 then s 2 0 else nmAt (fun q => rid (s 3 q) (s 4 q)) (rid y k) (s 2 0).toNat) : cStp la vl rid y k p X1 Y1 ln g s v := by
  unfold cStp
  by_cases c : nmAt (fun q => rid (s 3 q) (s 4 q)) (rid y k) (s 2 0).toNat = -1
  · rw [if_pos c] at hR hz
    rw [recP_3w hl hv c]
    refine ⟨hT.cong ?_ ?_, hR.cong (by rw [u2_s, u2_s]) ?_ ?_, ?_⟩
    · rw [u2_k _ _ _ _ (by decide), u2_k _ _ _ _ (by decide), u2_k _ _ _ _ (by decide), u2_k _ _ _ _ (by decide)]
    · rw [u2_f2 _ _ _ (by decide), u2_f2 _ _ _ (by decide), u2_f2 _ _ _ (by decide), u2_f2 _ _ _ (by decide)]
    · rw [u2_f2 (κ := 2) _ _ _ (by decide), u2_f2 (κ := 5) _ _ _ (by decide), u2_f2 (κ := 4) _ _ _ (by decide), u2_f2 (κ := 2) _ _ _ (by decide), u2_f2 (κ := 4) _ _ _ (by decide)]
    · rw [u2_f2 (κ := 2) _ _ _ (by decide), u2_f2 (κ := 5) _ _ _ (by decide), u2_f2 (κ := 2) _ _ _ (by decide)]
    · rw [u2_k _ _ _ _ (by decide), u2_s]
      exact hz
  · rw [if_neg c] at hR hz
    rw [hz]
    exact cStp_v hT hR (recP_3o hl hv c)
/-- what the slots speak of beside their own rows -/
def cSt (X X1 : Nat → Int → Int → Int) (Y Y1 : Nat → Int → Int → Option Int) : Prop := (∀ i, X1 19 i 1 = X 19 i 1) ∧ X1 20 = X 20 ∧ X1 21 = X 21 ∧ ∀ i, Y1 15 i 0 = Y 15 i 0
theorem cSt.of {L N : List Nat} (h : Frm L X X1) (k : Frm N Y Y1) (hd : ∀ q ∈ [1902, 2000, 2100], q ∉ L) (he : 1501 ∉ N) : cSt X X1 Y Y1 := ⟨fun i => h 19 i 1 (hd 1902 (by decide)), h.arr 20 (by decide +kernel) (hd 2000 (by decide)), h.arr 21 (by decide +kernel) (hd 2100 (by decide)), fun i => k 15 i 0 he⟩
theorem rcL.of {r k : Int} (h : rcL X Y g s r k) (hs : cSt X X1 Y Y1) (e3 : X1 10 g (5 * r + k) = X 10 g (5 * r + k)) (e4 : X1 11 g (5 * r + k) = X 11 g (5 * r + k)) (e5 : X1 12 g (5 * r + k) = X 12 g (5 * r + k)) (f1 : s' 1 r = s 1 r) (f5 : s' 5 (5 * r + k) = s 5 (5 * r + k)) : rcL X1 Y1 g s' r k := by
  obtain ⟨h4, h5, h6, h7⟩ := hs
  unfold rcL cLa at *
  rw [e3, e4, e5, f1, f5, h5, h6, h7]
  exact h
theorem cSt.fc (hs : cSt X X1 Y Y1) (q : Int) : cFc X1 Y1 q = cFc X Y q := by
  unfold cFc
  rw [hs.2.2.2, hs.1]
theorem rcV.push {r k : Int} (h : rcV X Y g s r k) (hs : cSt X X1 Y Y1) (hk : 0 ≤ k ∧ k ≤ 4) (hr : 0 ≤ r) (hf : ∀ t, X 19 t 1 ≤ 5) (o3 : ∀ j, j ≠ 5 * r + k → X1 10 g j = X 10 g j) (o4 : ∀ j, j ≠ 5 * r + k → X1 11 g j = X 11 g j) (o5 : ∀ j, j ≠ 5 * r + k → X1 12 g j = X 12 g j) (f1 : ∀ q, 0 ≤ q → q ≤ r → s' 1 q = s 1 q) (f5 : ∀ q, q ≠ 5 * r + k → s' 5 q = s 5 q) (hn : rcL X1 Y1 g s' r k) : rcV X1 Y1 g s' r (k + 1) := by
  obtain ⟨h1, h2⟩ := h
  refine ⟨fun r' k' a b c d => ?_, fun k' a b => ?_⟩
  · have e := f1 r' a (by omega)
    rw [e, hs.fc] at d
    have h5 : cFc X Y (s 1 r') ≤ 5 := hf _
    exact (h1 r' k' a b c d).of hs (o3 _ (by omega)) (o4 _ (by omega)) (o5 _ (by omega)) e (f5 _ (by omega))
  · by_cases e : k' = k
    · rw [e]
      exact hn
    · exact (h2 k' a (by omega)).of hs (o3 _ (by omega)) (o4 _ (by omega)) (o5 _ (by omega)) (f1 r hr (Int.le_refl _)) (f5 _ (by omega))
theorem rcV.next {r : Int} (h : rcV X Y g s r (cFc X Y (s 1 r))) : rcV X Y g s (r + 1) 0 := by
  refine ⟨fun r' k' a b c d => ?_, fun k' a b => by omega⟩
  by_cases e : r' = r
  · rw [e] at d ⊢
    exact h.2 k' c d
  · exact h.1 r' k' a (by omega) c d
theorem rcV.frm (h : rcV X Y g s y k) (hs : cSt X X1 Y Y1) (e3 : X1 10 = X 10) (e4 : X1 11 = X 11) (e5 : X1 12 = X 12) : rcV X1 Y1 g s y k := by
  refine ⟨fun r' k' a b c d => ?_, fun k' a b => ?_⟩
  · rw [hs.fc] at d
    exact (h.1 r' k' a b c d).of hs (by rw [e3]) (by rw [e4]) (by rw [e5]) rfl rfl
  · exact (h.2 k' a b).of hs (by rw [e3]) (by rw [e4]) (by rw [e5]) rfl rfl
theorem rcV.upto {r r' : Int} (h : rcV X Y g s r 0) (hr : r' ≤ r) : rcV X Y g s r' 0 := ⟨fun q k' a b => h.1 q k' a (by omega), fun k' a b => by omega⟩
theorem rcT.init {fc : Int → Int} {x : Int} (h : rcT X Y g (if nmAt (sg0 1) x (sg0 0 0).toNat = -1 then u2 (u2 sg0 1 (sg0 0 0) x) 0 0 (sg0 0 0 + 1) else sg0)) : rcT X Y g (recR fc la vl rid x 0) := by
  have c : nmAt (sg0 1) x (sg0 0 0).toNat = -1 := rfl
  rw [if_pos c] at h
  refine h.cong ?_ ?_
  · rw [recR_z, u2_k _ _ _ _ (by decide), u2_s, u2_s]
    rfl
  · rw [recR_z, u2_f2 (κ := 2) _ _ _ (by decide), u2_f2 (κ := 0) _ _ _ (by decide), u2_f2 (κ := 0) _ _ _ (by decide)]
    rfl
theorem rcR.init {fc : Int → Int} {x : Int} (h : X 7 g 6 = 0) (hn : ∀ y k w, 0 ≤ y → y < X 0 0 3 → 0 ≤ k → k < cFc X Y y → Y 17 y k = some w → X 26 w 1 = -1) : rcR X Y ln g (recR fc la vl rid x 0) := by
  have e : recR fc la vl rid x 0 2 0 = 0 := by rw [recR_z, u2_s]
  refine ⟨by rw [h, e], fun i a b => ?_, fun y k w a b c d f => ?_⟩
  · rw [e] at b
    omega
  · rw [e]
    exact hn y k w a b c d f
end CS
/-! records that are the same, in the class -/
def itE (X : Nat → Int → Int → Int) (g o i : Int) : Prop := X 13 g i = X 13 o i ∧ ∀ k, 0 ≤ k → k < X 13 g i → X 14 g (12 * i + k) = X 14 o (12 * i + k)
def vqC (X : Nat → Int → Int → Int) (g o i : Int) : Prop := X 12 g i = X 12 o i ∧ (3 ≤ X 11 g i → X 12 g i ≠ -1 → itE X g o (X 12 g i))
def shC (X : Nat → Int → Int → Int) (g o r : Int) : Prop := r < X 7 g 0 ∧ r < X 7 o 0 ∧ X 8 g r = X 8 o r ∧ X 9 g r = X 9 o r ∧ ∀ k, 0 ≤ k → k < X 9 g r → X 10 g (5 * r + k) = X 10 o (5 * r + k) ∧ X 11 g (5 * r + k) = X 11 o (5 * r + k)
def mxC (X : Nat → Int → Int → Int) (g o : Int) : Int := if X 7 g 0 < X 7 o 0 then X 7 o 0 else X 7 g 0
end
section
/-! putting back, in the class: the state is c (how many rows), X, Y, ln -/
def bdC (X : Nat → Int → Int → Int) (v : Int) : Int := if v ≠ -1 ∧ ¬ (0 ≤ v ∧ v < 16 ∧ X 3 0 v = 1) then 1 else 0
def toC (X : Nat → Int → Int → Int) (Y : Nat → Int → Int → Option Int) (x g i : Int) : Int := nmAt (X 20 (tyo (Y 15 x 0))) (X 10 g i) (X 19 (tyo (Y 15 x 0)) 1).toNat
def tlC (X : Nat → Int → Int → Int) (Y : Nat → Int → Int → Option Int) (x g i : Int) : Int := X 21 (tyo (Y 15 x 0)) (toC X Y x g i)
def twC (X : Nat → Int → Int → Int) (Y : Nat → Int → Int → Option Int) (x g i : Int) : Int := if tlC X Y x g i = 1 ∧ bdC X (X 12 g i) = 1 then -1 else X 12 g i
def fvC (X : Nat → Int → Int → Int) (Y : Nat → Int → Int → Option Int) (x g i rule : Int) : Int := fvF (toC X Y x g i) (tlC X Y x g i) (X 11 g i) 0 (bdC X (X 12 g i)) (andZ rule 1) (andZ rule 2)
def rpC (g w lane c : Int) (X : Nat → Int → Int → Int) (Y : Nat → Int → Int → Option Int) (ln : Int → Int) (c1 : Int) (X1 : Nat → Int → Int → Int) (Y1 : Nat → Int → Int → Option Int) (ln1 : Int → Int) (q : Int) : Prop := (Y 6 0 (3 * w + lane - 3) = some q ∧ c1 = c ∧ X1 = X ∧ Y1 = Y ∧ ln1 = ln) ∨ (Y 6 0 (3 * w + lane - 3) = none ∧ q = c ∧ c1 = c + 1 ∧ ln1 c = X 13 g w ∧ (∀ i, 0 ≤ i → i < c → ln1 i = ln i) ∧ (∀ j, 0 ≤ j → j < X 13 g w → X1 27 c j = X 14 g (12 * w + j)) ∧ (∀ y, y ≠ c → X1 27 y = X 27 y) ∧ Frm [2602, 2700] X X1 ∧ Y1 = u3 Y 6 0 (3 * w + lane - 3) (some c))
def fStC (g x i f c : Int) (X : Nat → Int → Int → Int) (Y : Nat → Int → Int → Option Int) (ln : Int → Int) (c1 : Int) (X1 : Nat → Int → Int → Int) (Y1 : Nat → Int → Int → Option Int) (ln1 : Int → Int) : Prop := (toC X Y x g i < 0 ∧ c1 = c ∧ X1 = X ∧ Y1 = Y ∧ ln1 = ln) ∨ (0 ≤ toC X Y x g i ∧ tlC X Y x g i < 3 ∧ c1 = c ∧ X1 = u3 X 16 x (toC X Y x g i) (if tlC X Y x g i = 2 ∧ twC X Y x g i ≠ -1 then f + twC X Y x g i else twC X Y x g i) ∧ Y1 = Y ∧ ln1 = ln) ∨ (0 ≤ toC X Y x g i ∧ 3 ≤ tlC X Y x g i ∧ twC X Y x g i = -1 ∧ c1 = c ∧ X1 = X ∧ Y1 = u3 Y 17 x (toC X Y x g i) none ∧ ln1 = ln) ∨ (0 ≤ toC X Y x g i ∧ 3 ≤ tlC X Y x g i ∧ twC X Y x g i ≠ -1 ∧ ∃ (Y' : Nat → Int → Int → Option Int) (q : Int), rpC g (twC X Y x g i) (tlC X Y x g i) c X Y ln c1 X1 Y' ln1 q ∧ Y1 = u3 Y' 17 x (toC X Y x g i) (some q))
def fTrC (g r f rule : Int) : Nat → Int → (Nat → Int → Int → Int) → (Nat → Int → Int → Option Int) → (Int → Int) → Int → (Nat → Int → Int → Int) → (Nat → Int → Int → Option Int) → (Int → Int) → Prop
  | 0, c, X, Y, ln, c1, X1, Y1, ln1 => c1 = c ∧ X1 = X ∧ Y1 = Y ∧ ln1 = ln
  | k + 1, c, X, Y, ln, c1, X1, Y1, ln1 => ∃ (c' : Int) (X' : Nat → Int → Int → Int) (Y' : Nat → Int → Int → Option Int) (ln' : Int → Int), fTrC g r f rule k c X Y ln c' X' Y' ln' ∧ fvC X' Y' (f + r) g (5 * r + (k : Int)) rule = 0 ∧ fStC g (f + r) (5 * r + (k : Int)) f c' X' Y' ln' c1 X1 Y1 ln1
def rTrC (g f rule : Int) : Nat → Int → (Nat → Int → Int → Int) → (Nat → Int → Int → Option Int) → (Int → Int) → Int → (Nat → Int → Int → Int) → (Nat → Int → Int → Option Int) → (Int → Int) → Prop
  | 0, c, X, Y, ln, c1, X1, Y1, ln1 => c1 = c ∧ X1 = X ∧ Y1 = Y ∧ ln1 = ln
  | r + 1, c, X, Y, ln, c1, X1, Y1, ln1 => ∃ (c' : Int) (X' : Nat → Int → Int → Int) (Y' : Nat → Int → Int → Option Int) (ln' : Int → Int), rTrC g f rule r c X Y ln c' X' Y' ln' ∧ fTrC g (r : Int) f rule (X' 9 g (r : Int)).toNat c' X' Y' ln' c1 X1 Y1 ln1
section TC
variable {g r f rule k c c1 c2 : Int} {X X1 X2 : Nat → Int → Int → Int} {Y Y1 Y2 : Nat → Int → Int → Option Int} {ln ln1 ln2 : Int → Int}
theorem fTrC.push (h : fTrC g r f rule k.toNat c X Y ln c1 X1 Y1 ln1) (hk : 0 ≤ k) (hv : fvC X1 Y1 (f + r) g (5 * r + k) rule = 0) (hs : fStC g (f + r) (5 * r + k) f c1 X1 Y1 ln1 c2 X2 Y2 ln2) : fTrC g r f rule (k + 1).toNat c X Y ln c2 X2 Y2 ln2 := by
  rw [show (k + 1).toNat = k.toNat + 1 by omega]
  refine ⟨c1, X1, Y1, ln1, h, ?_⟩
  rw [show ((k.toNat : Nat) : Int) = k by omega]
  exact ⟨hv, hs⟩
theorem rTrC.push (h : rTrC g f rule r.toNat c X Y ln c1 X1 Y1 ln1) (hr : 0 ≤ r) (hs : fTrC g r f rule (X1 9 g r).toNat c1 X1 Y1 ln1 c2 X2 Y2 ln2) : rTrC g f rule (r + 1).toNat c X Y ln c2 X2 Y2 ln2 := by
  rw [show (r + 1).toNat = r.toNat + 1 by omega]
  refine ⟨c1, X1, Y1, ln1, h, ?_⟩
  rw [show ((r.toNat : Nat) : Int) = r by omega]
  exact hs
end TC
theorem Frm.nil {α : Type} {X X1 : Nat → Int → Int → α} (h : Frm [] X X1) : X1 = X := funext fun k => funext fun i => funext fun j => h k i j (by simp)
end
end
section
set_option maxHeartbeats 4000000 in
set_option maxRecDepth 100000 in
theorem c_X5_init (l : Launch) (D : va_G) (tc : Nat → ClassId) (base : Nat) (u : St) (E : va_W) (h0 : Nat) (n : Int) (hn : 0 ≤ n ∧ n ≤ 12) : KC l D tc base yX5_init wsX5_init ({ frames := 1, cells := 1, slots := 12, locals := 12 } : Room) [.ref h0, .int (jI n)] u (E ++ ([(h0, .inr (5, [.null, .int 0]))] : va_W)) 1 12 (fun u' E' => u' = u ∧ ∃ q1 : Nat, E' = E ++ ([(h0, .inr (5, [.ref q1, .int 0])), (q1, .inl (tc 1, (n : Int).toNat, .inr (.inl (fun _ => 0))))] : va_W)) := by
  refine KC_of (cc := cX5_init) (maxL := 2) (ret := none) (by decide) rfl (Nat.le_of_ble_eq_true rfl) ?_
  intro p e s m below meth c ls hx hb hr hml hown hts hlocks hnm hl hK hw hS
  have hnm : meth.name = "<init>" := hnm
  have hown : s.vm.findClass RX5 = some m.cls := hown
  have hbs : base ≤ s.heap.size := hw.2.2
  have hi5 : ∀ w ∈ wsX50, w ∈ wsX5_init := fun w h => List.mem_cons_of_mem _ (List.mem_append_right _ h)
  have hf5 : fctx s m _ RX5 wsX5_init D tc RX5 TX5 2 5 := ⟨hts, hi5, hown, hK.1, rfl⟩
  have lk7 := hts (.fieldLink RX5 7 (TX5 0).1 (TX5 0).2.1 (TX5 0).2.2.1) (gj_X5_init_0 _ (gp_4 gp_h))
  have hl : lv_has ls 2 [(0, .ref h0), (1, .int (jI n))] := hl
  refine lv_aload_n hx hb dX5_init_0 rfl (lv_at hl 0 rfl) ?_
  refine W.objInit hx hb hown (hts (.methodLink RX5 1 objectInit) (by first | exact gj_X5_init_0 _ (gp_h) | decide +kernel)) (hts (.instanceMethod objectInit) (by first | exact gj_X5_init_0 _ (gp_1 gp_h) | decide +kernel)) (hts _ (List.mem_cons_of_mem _ (List.mem_append_left _ (List.mem_of_getElem? (i := 2) rfl)))) rfl (by rw [hml]; exact hl.1) rfl dX5_init_1 (Nat.le_of_ble_eq_true rfl) (Nat.le_of_ble_eq_true rfl) ?_
  refine W.eq (g2 := F0 m 4 ls []) rfl ?_
  refine lv_aload_n hx hb dX5_init_4 rfl (lv_at hl 0 rfl) ?_
  refine lv_iload_n hx hb dX5_init_5 rfl (lv_at hl 1 rfl) ?_
  refine g_newa (t := 1) (z := n) (a0 := ((n : Int).toNat, .inr (.inl (fun _ => 0)))) (atype := .long) hx hb (hts (.arrayClass .long) (by first | exact gj_X5_init_0 _ (gp_1 (gp_1 (gp_1 gp_h))) | decide +kernel)) rfl hK.1 rfl hw hS hbs (fun _ => rfl) (by omega) (by omega) (show (n : Int).toNat * 8 ≤ 536870912 by omega) (show 0 + 1 ≤ 1 by omega) (show 0 + (n : Int).toNat ≤ 12 by omega) dX5_init_6 (fun q1 H hw hS => ?_)
  have hw : wx D tc base u (E ++ ([(h0, .inr (5, [.null, .int 0])), (q1, .inl (tc 1, (n : Int).toNat, .inr (.inl (fun _ => 0))))] : va_W)) H := hw
  refine W.widen (k := 1) (n := 12) (by omega) (by omega) ?_
  refine g_putF (ci := 5) hx hb hf5 ⟨tyX5_ok, nmX5⟩ hw hS 0 rfl 0 (by decide) lk7 rfl hnm rfl (tyX5_ok 0 (by decide)) rfl rfl (Nat.le_of_ble_eq_true rfl) dX5_init_8 (fun H locs hw hS => ?_)
  have hw : wx D tc base u (E ++ ([(h0, .inr (5, [.ref q1, .int 0])), (q1, .inl (tc 1, (n : Int).toNat, .inr (.inl (fun _ => 0))))] : va_W)) H := hw
  refine ret_x hx hb hr hlocks hw hS (show 1 ≤ 1 by omega) (show 12 ≤ 12 by omega) dX5_init_11 ?_
  exact ⟨rfl, q1, rfl⟩

set_option maxHeartbeats 4000000 in
set_option maxRecDepth 100000 in
theorem c_X0_init (l : Launch) (D : va_G) (tc : Nat → ClassId) (base : Nat) (u : St) (E : va_W) (h0 : Nat) (kind a b v : Int) : KC l D tc base yX0_init wsX0_init ({ frames := 1, cells := 0, slots := 0, locals := 12 } : Room) [.ref h0, .int (jI kind), .int (jI a), .int (jI b), .long (jL v)] u (E ++ ([(h0, .inr (0, [.int 0, .int 0, .int 0, .long 0]))] : va_W)) 0 0 (fun u' E' => u' = u ∧ E' = E ++ ([(h0, .inr (0, [.int (jI kind), .int (jI a), .int (jI b), .long (jL v)]))] : va_W)) := by
  refine KC_of (cc := cX0_init) (maxL := 6) (ret := none) (by decide) rfl (Nat.le_of_ble_eq_true rfl) ?_
  intro p e s m below meth c ls hx hb hr hml hown hts hlocks hnm hl hK hw hS
  have hnm : meth.name = "<init>" := hnm
  have hown : s.vm.findClass RX0 = some m.cls := hown
  have hbs : base ≤ s.heap.size := hw.2.2
  have hi0 : ∀ w ∈ wsX00, w ∈ wsX0_init := fun w h => List.mem_cons_of_mem _ (List.mem_append_right _ h)
  have hf0 : fctx s m _ RX0 wsX0_init D tc RX0 TX0 4 0 := ⟨hts, hi0, hown, hK.1, rfl⟩
  have lk7 := hts (.fieldLink RX0 7 (TX0 0).1 (TX0 0).2.1 (TX0 0).2.2.1) (gj_X0_init_0 _ (gp_1 (gp_1 (gp_1 gp_h))))
  have lk13 := hts (.fieldLink RX0 13 (TX0 1).1 (TX0 1).2.1 (TX0 1).2.2.1) (gj_X0_init_0 _ (gp_4 gp_h))
  have lk16 := hts (.fieldLink RX0 16 (TX0 2).1 (TX0 2).2.1 (TX0 2).2.2.1) (gj_X0_init_0 _ (gp_4 (gp_1 gp_h)))
  have lk19 := hts (.fieldLink RX0 19 (TX0 3).1 (TX0 3).2.1 (TX0 3).2.2.1) (gj_X0_init_0 _ (gp_4 (gp_1 (gp_1 gp_h))))
  have hl : lv_has ls 6 [(0, .ref h0), (1, .int (jI kind)), (2, .int (jI a)), (3, .int (jI b)), (4, .long (jL v))] := hl
  refine lv_aload_n hx hb dX0_init_0 rfl (lv_at hl 0 rfl) ?_
  refine W.objInit hx hb hown (hts (.methodLink RX0 1 objectInit) (by first | exact gj_X0_init_0 _ (gp_h) | decide +kernel)) (hts (.instanceMethod objectInit) (by first | exact gj_X0_init_0 _ (gp_1 gp_h) | decide +kernel)) (hts _ (List.mem_cons_of_mem _ (List.mem_append_left _ (List.mem_of_getElem? (i := 2) rfl)))) rfl (by rw [hml]; exact hl.1) rfl dX0_init_1 (Nat.le_of_ble_eq_true rfl) (Nat.le_of_ble_eq_true rfl) ?_
  refine W.eq (g2 := F0 m 4 ls []) rfl ?_
  refine lv_aload_n hx hb dX0_init_4 rfl (lv_at hl 0 rfl) ?_
  refine lv_iload_n hx hb dX0_init_5 rfl (lv_at hl 1 rfl) ?_
  refine g_putF (ci := 0) hx hb hf0 ⟨tyX0_ok, nmX0⟩ hw hS 0 rfl 0 (by decide) lk7 rfl hnm rfl (tyX0_ok 0 (by decide)) rfl rfl (Nat.le_of_ble_eq_true rfl) dX0_init_6 (fun H locs hw hS => ?_)
  have hw : wx D tc base u (E ++ ([(h0, .inr (0, [.int (jI kind), .int 0, .int 0, .long 0]))] : va_W)) H := hw
  refine lv_aload_n hx hb dX0_init_9 rfl (lv_at hl 0 rfl) ?_
  refine lv_iload_n hx hb dX0_init_10 rfl (lv_at hl 2 rfl) ?_
  refine g_putF (ci := 0) hx hb hf0 ⟨tyX0_ok, nmX0⟩ hw hS 0 rfl 1 (by decide) lk13 rfl hnm rfl (tyX0_ok 1 (by decide)) rfl rfl (Nat.le_of_ble_eq_true rfl) dX0_init_11 (fun H locs hw hS => ?_)
  have hw : wx D tc base u (E ++ ([(h0, .inr (0, [.int (jI kind), .int (jI a), .int 0, .long 0]))] : va_W)) H := hw
  refine lv_aload_n hx hb dX0_init_14 rfl (lv_at hl 0 rfl) ?_
  refine lv_iload_n hx hb dX0_init_15 rfl (lv_at hl 3 rfl) ?_
  refine g_putF (ci := 0) hx hb hf0 ⟨tyX0_ok, nmX0⟩ hw hS 0 rfl 2 (by decide) lk16 rfl hnm rfl (tyX0_ok 2 (by decide)) rfl rfl (Nat.le_of_ble_eq_true rfl) dX0_init_16 (fun H locs hw hS => ?_)
  have hw : wx D tc base u (E ++ ([(h0, .inr (0, [.int (jI kind), .int (jI a), .int (jI b), .long 0]))] : va_W)) H := hw
  refine lv_aload_n hx hb dX0_init_19 rfl (lv_at hl 0 rfl) ?_
  refine lv_lload hx hb dX0_init_20 (lv_at hl 4 rfl) ?_
  refine g_putF (ci := 0) hx hb hf0 ⟨tyX0_ok, nmX0⟩ hw hS 0 rfl 3 (by decide) lk19 rfl hnm rfl (tyX0_ok 3 (by decide)) rfl rfl (Nat.le_of_ble_eq_true rfl) dX0_init_22 (fun H locs hw hS => ?_)
  have hw : wx D tc base u (E ++ ([(h0, .inr (0, [.int (jI kind), .int (jI a), .int (jI b), .long (jL v)]))] : va_W)) H := hw
  refine ret_x hx hb hr hlocks hw hS (show 0 ≤ 0 by omega) (show 0 ≤ 0 by omega) dX0_init_25 ?_
  exact ⟨rfl, rfl⟩

set_option maxHeartbeats 4000000 in
set_option maxRecDepth 100000 in
theorem c_X7_init (l : Launch) (D : va_G) (tc : Nat → ClassId) (base : Nat) (u : St) (E : va_W) (h0 : Nat) (n : Int) : KC l D tc base yX7_init wsX7_init ({ frames := 1, cells := 5, slots := 24, locals := 12 } : Room) [.ref h0, .int (jI n)] u (E ++ ([(h0, .inr (7, [.int 0, .int 0, .null, .null, .null, .null, .int 0, .null]))] : va_W)) 5 24 (fun u' E' => u' = u ∧ ∃ q1 : Nat, ∃ q2 : Nat, ∃ q3 : Nat, ∃ q4 : Nat, ∃ q5 : Nat, E' = E ++ ([(h0, .inr (7, [.int (jI n), .int 0, .ref q1, .ref q2, .ref q3, .ref q4, .int 0, .ref q5])), (q1, .inl (tc 0, (5 : Int).toNat, .inl (fun _ => 0))), (q2, .inl (tc 0, (5 : Int).toNat, .inl (fun _ => 0))), (q3, .inl (tc 1, (5 : Int).toNat, .inr (.inl (fun _ => 0)))), (q4, .inl (tc 2, (5 : Int).toNat, .inl (fun _ => 0))), (q5, .inl (tc 3, (4 : Int).toNat, .inr (.inr (.inr (.inr (fun _ => none))))))] : va_W)) := by
  refine KC_of (cc := cX7_init) (maxL := 2) (ret := none) (by decide) rfl (Nat.le_of_ble_eq_true rfl) ?_
  intro p e s m below meth c ls hx hb hr hml hown hts hlocks hnm hl hK hw hS
  have hnm : meth.name = "<init>" := hnm
  have hown : s.vm.findClass RX7 = some m.cls := hown
  have hbs : base ≤ s.heap.size := hw.2.2
  have hi7 : ∀ w ∈ wsX70, w ∈ wsX7_init := fun w h => List.mem_cons_of_mem _ (List.mem_append_right _ h)
  have hf7 : fctx s m _ RX7 wsX7_init D tc RX7 TX7 8 7 := ⟨hts, hi7, hown, hK.1, rfl⟩
  have lk9 := hts (.fieldLink RX7 9 (TX7 2).1 (TX7 2).2.1 (TX7 2).2.2.1) (gj_X7_init_0 _ (gp_4 gp_h))
  have lk15 := hts (.fieldLink RX7 15 (TX7 3).1 (TX7 3).2.1 (TX7 3).2.2.1) (gj_X7_init_0 _ (gp_4 (gp_1 gp_h)))
  have lk18 := hts (.fieldLink RX7 18 (TX7 4).1 (TX7 4).2.1 (TX7 4).2.2.1) (gj_X7_init_0 _ (gp_4 (gp_1 (gp_1 (gp_1 gp_h)))))
  have lk22 := hts (.fieldLink RX7 22 (TX7 5).1 (TX7 5).2.1 (TX7 5).2.2.1) (gj_X7_init_0 _ (gp_4 (gp_4 (gp_1 gp_h))))
  have lk28 := hts (.fieldLink RX7 28 (TX7 7).1 (TX7 7).2.1 (TX7 7).2.2.1) (gj_X7_init_0 _ (gp_4 (gp_4 (gp_1 (gp_1 (gp_1 gp_h))))))
  have lk32 := hts (.fieldLink RX7 32 (TX7 0).1 (TX7 0).2.1 (TX7 0).2.2.1) (gj_X7_init_0 _ (gp_4 (gp_4 (gp_4 gp_h))))
  have hl : lv_has ls 2 [(0, .ref h0), (1, .int (jI n))] := hl
  refine lv_aload_n hx hb dX7_init_0 rfl (lv_at hl 0 rfl) ?_
  refine W.objInit hx hb hown (hts (.methodLink RX7 3 objectInit) (by first | exact gj_X7_init_0 _ (gp_h) | decide +kernel)) (hts (.instanceMethod objectInit) (by first | exact gj_X7_init_0 _ (gp_1 gp_h) | decide +kernel)) (hts _ (List.mem_cons_of_mem _ (List.mem_append_left _ (List.mem_of_getElem? (i := 2) rfl)))) rfl (by rw [hml]; exact hl.1) rfl dX7_init_1 (Nat.le_of_ble_eq_true rfl) (Nat.le_of_ble_eq_true rfl) ?_
  refine W.eq (g2 := F0 m 4 ls []) rfl ?_
  refine lv_aload_n hx hb dX7_init_4 rfl (lv_at hl 0 rfl) ?_
  refine lv_iconst (v := jI 5) hx hb dX7_init_5 rfl ?_
  refine g_newa (t := 0) (z := 5) (a0 := ((5 : Int).toNat, .inl (fun _ => 0))) (atype := .int) hx hb (hts (.arrayClass .int) (by first | exact gj_X7_init_0 _ (gp_1 (gp_1 (gp_1 gp_h))) | decide +kernel)) rfl hK.1 rfl hw hS hbs (fun _ => rfl) (by omega) (by omega) (by decide) (show 0 + 1 ≤ 5 by omega) (show 0 + (5 : Int).toNat ≤ 24 by omega) dX7_init_6 (fun q1 H hw hS => ?_)
  have hw : wx D tc base u (E ++ ([(h0, .inr (7, [.int 0, .int 0, .null, .null, .null, .null, .int 0, .null])), (q1, .inl (tc 0, (5 : Int).toNat, .inl (fun _ => 0)))] : va_W)) H := hw
  refine W.widen (k := 1) (n := 5) (by omega) (by omega) ?_
  refine g_putF (ci := 7) hx hb hf7 ⟨tyX7_ok, nmX7⟩ hw hS 0 rfl 2 (by decide) lk9 rfl hnm rfl (tyX7_ok 2 (by decide)) rfl rfl (Nat.le_of_ble_eq_true rfl) dX7_init_8 (fun H locs hw hS => ?_)
  have hw : wx D tc base u (E ++ ([(h0, .inr (7, [.int 0, .int 0, .ref q1, .null, .null, .null, .int 0, .null])), (q1, .inl (tc 0, (5 : Int).toNat, .inl (fun _ => 0)))] : va_W)) H := hw
  refine lv_aload_n hx hb dX7_init_11 rfl (lv_at hl 0 rfl) ?_
  refine lv_iconst (v := jI 5) hx hb dX7_init_12 rfl ?_
  refine g_newa (t := 0) (z := 5) (a0 := ((5 : Int).toNat, .inl (fun _ => 0))) (atype := .int) hx hb (hts (.arrayClass .int) (by first | exact gj_X7_init_0 _ (gp_1 (gp_1 (gp_1 gp_h))) | decide +kernel)) rfl hK.1 rfl hw hS hbs (fun _ => rfl) (by omega) (by omega) (by decide) (show 1 + 1 ≤ 5 by omega) (show 5 + (5 : Int).toNat ≤ 24 by omega) dX7_init_13 (fun q2 H hw hS => ?_)
  have hw : wx D tc base u (E ++ ([(h0, .inr (7, [.int 0, .int 0, .ref q1, .null, .null, .null, .int 0, .null])), (q1, .inl (tc 0, (5 : Int).toNat, .inl (fun _ => 0))), (q2, .inl (tc 0, (5 : Int).toNat, .inl (fun _ => 0)))] : va_W)) H := hw
  refine W.widen (k := 2) (n := 10) (by omega) (by omega) ?_
  refine g_putF (ci := 7) hx hb hf7 ⟨tyX7_ok, nmX7⟩ hw hS 0 rfl 3 (by decide) lk15 rfl hnm rfl (tyX7_ok 3 (by decide)) rfl rfl (Nat.le_of_ble_eq_true rfl) dX7_init_15 (fun H locs hw hS => ?_)
  have hw : wx D tc base u (E ++ ([(h0, .inr (7, [.int 0, .int 0, .ref q1, .ref q2, .null, .null, .int 0, .null])), (q1, .inl (tc 0, (5 : Int).toNat, .inl (fun _ => 0))), (q2, .inl (tc 0, (5 : Int).toNat, .inl (fun _ => 0)))] : va_W)) H := hw
  refine lv_aload_n hx hb dX7_init_18 rfl (lv_at hl 0 rfl) ?_
  refine lv_iconst (v := jI 5) hx hb dX7_init_19 rfl ?_
  refine g_newa (t := 1) (z := 5) (a0 := ((5 : Int).toNat, .inr (.inl (fun _ => 0)))) (atype := .long) hx hb (hts (.arrayClass .long) (by first | exact gj_X7_init_0 _ (gp_4 (gp_1 (gp_1 gp_h))) | decide +kernel)) rfl hK.1 rfl hw hS hbs (fun _ => rfl) (by omega) (by omega) (by decide) (show 2 + 1 ≤ 5 by omega) (show 10 + (5 : Int).toNat ≤ 24 by omega) dX7_init_20 (fun q3 H hw hS => ?_)
  have hw : wx D tc base u (E ++ ([(h0, .inr (7, [.int 0, .int 0, .ref q1, .ref q2, .null, .null, .int 0, .null])), (q1, .inl (tc 0, (5 : Int).toNat, .inl (fun _ => 0))), (q2, .inl (tc 0, (5 : Int).toNat, .inl (fun _ => 0))), (q3, .inl (tc 1, (5 : Int).toNat, .inr (.inl (fun _ => 0))))] : va_W)) H := hw
  refine W.widen (k := 3) (n := 15) (by omega) (by omega) ?_
  refine g_putF (ci := 7) hx hb hf7 ⟨tyX7_ok, nmX7⟩ hw hS 0 rfl 4 (by decide) lk18 rfl hnm rfl (tyX7_ok 4 (by decide)) rfl rfl (Nat.le_of_ble_eq_true rfl) dX7_init_22 (fun H locs hw hS => ?_)
  have hw : wx D tc base u (E ++ ([(h0, .inr (7, [.int 0, .int 0, .ref q1, .ref q2, .ref q3, .null, .int 0, .null])), (q1, .inl (tc 0, (5 : Int).toNat, .inl (fun _ => 0))), (q2, .inl (tc 0, (5 : Int).toNat, .inl (fun _ => 0))), (q3, .inl (tc 1, (5 : Int).toNat, .inr (.inl (fun _ => 0))))] : va_W)) H := hw
  refine lv_aload_n hx hb dX7_init_25 rfl (lv_at hl 0 rfl) ?_
  refine lv_iconst (v := jI 5) hx hb dX7_init_26 rfl ?_
  refine g_newa (t := 2) (z := 5) (a0 := ((5 : Int).toNat, .inl (fun _ => 0))) (atype := .boolean) hx hb (hts (.arrayClass .boolean) (by first | exact gj_X7_init_0 _ (gp_4 (gp_4 gp_h)) | decide +kernel)) rfl hK.1 rfl hw hS hbs (fun _ => rfl) (by omega) (by omega) (by decide) (show 3 + 1 ≤ 5 by omega) (show 15 + (5 : Int).toNat ≤ 24 by omega) dX7_init_27 (fun q4 H hw hS => ?_)
  have hw : wx D tc base u (E ++ ([(h0, .inr (7, [.int 0, .int 0, .ref q1, .ref q2, .ref q3, .null, .int 0, .null])), (q1, .inl (tc 0, (5 : Int).toNat, .inl (fun _ => 0))), (q2, .inl (tc 0, (5 : Int).toNat, .inl (fun _ => 0))), (q3, .inl (tc 1, (5 : Int).toNat, .inr (.inl (fun _ => 0)))), (q4, .inl (tc 2, (5 : Int).toNat, .inl (fun _ => 0)))] : va_W)) H := hw
  refine W.widen (k := 4) (n := 20) (by omega) (by omega) ?_
  refine g_putF (ci := 7) hx hb hf7 ⟨tyX7_ok, nmX7⟩ hw hS 0 rfl 5 (by decide) lk22 rfl hnm rfl (tyX7_ok 5 (by decide)) rfl rfl (Nat.le_of_ble_eq_true rfl) dX7_init_29 (fun H locs hw hS => ?_)
  have hw : wx D tc base u (E ++ ([(h0, .inr (7, [.int 0, .int 0, .ref q1, .ref q2, .ref q3, .ref q4, .int 0, .null])), (q1, .inl (tc 0, (5 : Int).toNat, .inl (fun _ => 0))), (q2, .inl (tc 0, (5 : Int).toNat, .inl (fun _ => 0))), (q3, .inl (tc 1, (5 : Int).toNat, .inr (.inl (fun _ => 0)))), (q4, .inl (tc 2, (5 : Int).toNat, .inl (fun _ => 0)))] : va_W)) H := hw
  refine lv_aload_n hx hb dX7_init_32 rfl (lv_at hl 0 rfl) ?_
  refine lv_iconst (v := jI 4) hx hb dX7_init_33 rfl ?_
  refine g_newq (t := 3) (z := 4) hx hb hown (hts (.classLink RX7 26 RX0) (by first | exact gj_X7_init_0 _ (gp_4 (gp_4 (gp_1 (gp_1 gp_h)))) | decide +kernel)) hK.2.2.2.2.2.1 hK.1 rfl hw hS hbs (by omega) (by omega) (show 4 + 1 ≤ 5 by omega) (show 20 + (4 : Int).toNat ≤ 24 by omega) dX7_init_34 (fun q5 H hw hS => ?_)
  have hw : wx D tc base u (E ++ ([(h0, .inr (7, [.int 0, .int 0, .ref q1, .ref q2, .ref q3, .ref q4, .int 0, .null])), (q1, .inl (tc 0, (5 : Int).toNat, .inl (fun _ => 0))), (q2, .inl (tc 0, (5 : Int).toNat, .inl (fun _ => 0))), (q3, .inl (tc 1, (5 : Int).toNat, .inr (.inl (fun _ => 0)))), (q4, .inl (tc 2, (5 : Int).toNat, .inl (fun _ => 0))), (q5, .inl (tc 3, (4 : Int).toNat, .inr (.inr (.inr (.inr (fun _ => none))))))] : va_W)) H := hw
  refine W.widen (k := 5) (n := 24) (by omega) (by omega) ?_
  refine g_putF (ci := 7) hx hb hf7 ⟨tyX7_ok, nmX7⟩ hw hS 0 rfl 7 (by decide) lk28 rfl hnm rfl (tyX7_ok 7 (by decide)) rfl rfl (Nat.le_of_ble_eq_true rfl) dX7_init_37 (fun H locs hw hS => ?_)
  have hw : wx D tc base u (E ++ ([(h0, .inr (7, [.int 0, .int 0, .ref q1, .ref q2, .ref q3, .ref q4, .int 0, .ref q5])), (q1, .inl (tc 0, (5 : Int).toNat, .inl (fun _ => 0))), (q2, .inl (tc 0, (5 : Int).toNat, .inl (fun _ => 0))), (q3, .inl (tc 1, (5 : Int).toNat, .inr (.inl (fun _ => 0)))), (q4, .inl (tc 2, (5 : Int).toNat, .inl (fun _ => 0))), (q5, .inl (tc 3, (4 : Int).toNat, .inr (.inr (.inr (.inr (fun _ => none))))))] : va_W)) H := hw
  refine lv_aload_n hx hb dX7_init_40 rfl (lv_at hl 0 rfl) ?_
  refine lv_iload_n hx hb dX7_init_41 rfl (lv_at hl 1 rfl) ?_
  refine g_putF (ci := 7) hx hb hf7 ⟨tyX7_ok, nmX7⟩ hw hS 0 rfl 0 (by decide) lk32 rfl hnm rfl (tyX7_ok 0 (by decide)) rfl rfl (Nat.le_of_ble_eq_true rfl) dX7_init_42 (fun H locs hw hS => ?_)
  have hw : wx D tc base u (E ++ ([(h0, .inr (7, [.int (jI n), .int 0, .ref q1, .ref q2, .ref q3, .ref q4, .int 0, .ref q5])), (q1, .inl (tc 0, (5 : Int).toNat, .inl (fun _ => 0))), (q2, .inl (tc 0, (5 : Int).toNat, .inl (fun _ => 0))), (q3, .inl (tc 1, (5 : Int).toNat, .inr (.inl (fun _ => 0)))), (q4, .inl (tc 2, (5 : Int).toNat, .inl (fun _ => 0))), (q5, .inl (tc 3, (4 : Int).toNat, .inr (.inr (.inr (.inr (fun _ => none))))))] : va_W)) H := hw
  refine ret_x hx hb hr hlocks hw hS (show 5 ≤ 5 by omega) (show 24 ≤ 24 by omega) dX7_init_45 ?_
  exact ⟨rfl, q1, q2, q3, q4, q5, rfl⟩
end
section
set_option maxHeartbeats 4000000 in
set_option maxRecDepth 100000 in
theorem c_X1_init (l : Launch) (D : va_G) (tc : Nat → ClassId) (base : Nat) (u : St) (E : va_W) (h0 : Nat)  : KC l D tc base yX1_init wsX1_init ({ frames := 1, cells := 0, slots := 0, locals := 12 } : Room) [.ref h0] u (E ++ ([(h0, .inr (1, [.int 0, .int 0, .int 0, .int 0]))] : va_W)) 0 0 (fun u' E' => u' = u ∧ E' = E ++ ([(h0, .inr (1, [.int 0, .int 0, .int 0, .int 0]))] : va_W)) := by
  refine KC_of (cc := cX1_init) (maxL := 1) (ret := none) (by decide) rfl (Nat.le_of_ble_eq_true rfl) ?_
  intro p e s m below meth c ls hx hb hr hml hown hts hlocks hnm hl hK hw hS
  have hnm : meth.name = "<init>" := hnm
  have hown : s.vm.findClass RX1 = some m.cls := hown
  have hbs : base ≤ s.heap.size := hw.2.2
  have hl : lv_has ls 1 [(0, .ref h0)] := hl
  refine lv_aload_n hx hb dX1_init_0 rfl (lv_at hl 0 rfl) ?_
  refine W.objInit hx hb hown (hts (.methodLink RX1 1 objectInit) (by first | exact gj_X1_init_0 _ (gp_h) | decide +kernel)) (hts (.instanceMethod objectInit) (by first | exact gj_X1_init_0 _ (gp_1 gp_h) | decide +kernel)) (hts _ (List.mem_cons_of_mem _ (List.mem_of_getElem? (i := 2) rfl))) rfl (by rw [hml]; exact hl.1) rfl dX1_init_1 (Nat.le_of_ble_eq_true rfl) (Nat.le_of_ble_eq_true rfl) ?_
  refine W.eq (g2 := F0 m 4 ls []) rfl ?_
  refine ret_x hx hb hr hlocks hw hS (show 0 ≤ 0 by omega) (show 0 ≤ 0 by omega) dX1_init_4 ?_
  exact ⟨rfl, rfl⟩

set_option maxHeartbeats 4000000 in
set_option maxRecDepth 100000 in
theorem c_X3_init (l : Launch) (D : va_G) (tc : Nat → ClassId) (base : Nat) (u : St) (E : va_W) (h0 : Nat)  : KC l D tc base yX3_init wsX3_init ({ frames := 1, cells := 0, slots := 0, locals := 12 } : Room) [.ref h0] u (E ++ ([(h0, .inr (3, [.null, .int 0, .long 0, .null]))] : va_W)) 0 0 (fun u' E' => u' = u ∧ E' = E ++ ([(h0, .inr (3, [.null, .int 0, .long 0, .null]))] : va_W)) := by
  refine KC_of (cc := cX3_init) (maxL := 1) (ret := none) (by decide) rfl (Nat.le_of_ble_eq_true rfl) ?_
  intro p e s m below meth c ls hx hb hr hml hown hts hlocks hnm hl hK hw hS
  have hnm : meth.name = "<init>" := hnm
  have hown : s.vm.findClass RX3 = some m.cls := hown
  have hbs : base ≤ s.heap.size := hw.2.2
  have hl : lv_has ls 1 [(0, .ref h0)] := hl
  refine lv_aload_n hx hb dX3_init_0 rfl (lv_at hl 0 rfl) ?_
  refine W.objInit hx hb hown (hts (.methodLink RX3 1 objectInit) (by first | exact gj_X3_init_0 _ (gp_h) | decide +kernel)) (hts (.instanceMethod objectInit) (by first | exact gj_X3_init_0 _ (gp_1 gp_h) | decide +kernel)) (hts _ (List.mem_cons_of_mem _ (List.mem_of_getElem? (i := 2) rfl))) rfl (by rw [hml]; exact hl.1) rfl dX3_init_1 (Nat.le_of_ble_eq_true rfl) (Nat.le_of_ble_eq_true rfl) ?_
  refine W.eq (g2 := F0 m 4 ls []) rfl ?_
  refine ret_x hx hb hr hlocks hw hS (show 0 ≤ 0 by omega) (show 0 ≤ 0 by omega) dX3_init_4 ?_
  exact ⟨rfl, rfl⟩

set_option maxHeartbeats 4000000 in
set_option maxRecDepth 100000 in
theorem c_X4_init (l : Launch) (D : va_G) (tc : Nat → ClassId) (base : Nat) (u : St) (E : va_W) (h0 : Nat)  : KC l D tc base yX4_init wsX4_init ({ frames := 1, cells := 7, slots := 2460, locals := 12 } : Room) [.ref h0] u (E ++ ([(h0, .inr (4, [.int 0, .null, .null, .null, .null, .null, .int 0, .null, .null]))] : va_W)) 7 2460 (fun u' E' => u' = u ∧ ∃ q1 : Nat, ∃ q2 : Nat, ∃ q3 : Nat, ∃ q4 : Nat, ∃ q5 : Nat, ∃ q6 : Nat, ∃ q7 : Nat, E' = E ++ ([(h0, .inr (4, [.int 0, .ref q1, .ref q2, .ref q3, .ref q4, .ref q5, .int 0, .ref q6, .ref q7])), (q1, .inl (tc 0, (30 : Int).toNat, .inl (fun _ => 0))), (q2, .inl (tc 0, (30 : Int).toNat, .inl (fun _ => 0))), (q3, .inl (tc 0, (150 : Int).toNat, .inl (fun _ => 0))), (q4, .inl (tc 0, (150 : Int).toNat, .inl (fun _ => 0))), (q5, .inl (tc 1, (150 : Int).toNat, .inr (.inl (fun _ => 0)))), (q6, .inl (tc 0, (150 : Int).toNat, .inl (fun _ => 0))), (q7, .inl (tc 1, (1800 : Int).toNat, .inr (.inl (fun _ => 0))))] : va_W)) := by
  refine KC_of (cc := cX4_init) (maxL := 1) (ret := none) (by decide) rfl (Nat.le_of_ble_eq_true rfl) ?_
  intro p e s m below meth c ls hx hb hr hml hown hts hlocks hnm hl hK hw hS
  have hnm : meth.name = "<init>" := hnm
  have hown : s.vm.findClass RX4 = some m.cls := hown
  have hbs : base ≤ s.heap.size := hw.2.2
  have hi4 : ∀ w ∈ wsX40, w ∈ wsX4_init := fun w h => List.mem_cons_of_mem _ (List.mem_append_right _ h)
  have hf4 : fctx s m _ RX4 wsX4_init D tc RX4 TX4 9 4 := ⟨hts, hi4, hown, hK.1, rfl⟩
  have lk9 := hts (.fieldLink RX4 9 (TX4 1).1 (TX4 1).2.1 (TX4 1).2.2.1) (gj_X4_init_0 _ (gp_4 gp_h))
  have lk15 := hts (.fieldLink RX4 15 (TX4 2).1 (TX4 2).2.1 (TX4 2).2.2.1) (gj_X4_init_0 _ (gp_4 (gp_1 gp_h)))
  have lk18 := hts (.fieldLink RX4 18 (TX4 3).1 (TX4 3).2.1 (TX4 3).2.2.1) (gj_X4_init_0 _ (gp_4 (gp_1 (gp_1 gp_h))))
  have lk21 := hts (.fieldLink RX4 21 (TX4 4).1 (TX4 4).2.1 (TX4 4).2.2.1) (gj_X4_init_0 _ (gp_4 (gp_1 (gp_1 (gp_1 gp_h)))))
  have lk24 := hts (.fieldLink RX4 24 (TX4 5).1 (TX4 5).2.1 (TX4 5).2.2.1) (gj_X4_init_0 _ (gp_4 (gp_4 (gp_1 gp_h))))
  have lk28 := hts (.fieldLink RX4 28 (TX4 7).1 (TX4 7).2.1 (TX4 7).2.2.1) (gj_X4_init_0 _ (gp_4 (gp_4 (gp_1 (gp_1 gp_h)))))
  have lk31 := hts (.fieldLink RX4 31 (TX4 8).1 (TX4 8).2.1 (TX4 8).2.2.1) (gj_X4_init_0 _ (gp_4 (gp_4 (gp_1 (gp_1 (gp_1 gp_h))))))
  have hl : lv_has ls 1 [(0, .ref h0)] := hl
  refine lv_aload_n hx hb dX4_init_0 rfl (lv_at hl 0 rfl) ?_
  refine W.objInit hx hb hown (hts (.methodLink RX4 3 objectInit) (by first | exact gj_X4_init_0 _ (gp_h) | decide +kernel)) (hts (.instanceMethod objectInit) (by first | exact gj_X4_init_0 _ (gp_1 gp_h) | decide +kernel)) (hts _ (List.mem_cons_of_mem _ (List.mem_append_left _ (List.mem_of_getElem? (i := 2) rfl)))) rfl (by rw [hml]; exact hl.1) rfl dX4_init_1 (Nat.le_of_ble_eq_true rfl) (Nat.le_of_ble_eq_true rfl) ?_
  refine W.eq (g2 := F0 m 4 ls []) rfl ?_
  refine lv_aload_n hx hb dX4_init_4 rfl (lv_at hl 0 rfl) ?_
  refine lv_bipush (v := jI 30) hx hb dX4_init_5 (by decide) ?_
  refine g_newa (t := 0) (z := 30) (a0 := ((30 : Int).toNat, .inl (fun _ => 0))) (atype := .int) hx hb (hts (.arrayClass .int) (by first | exact gj_X4_init_0 _ (gp_1 (gp_1 (gp_1 gp_h))) | decide +kernel)) rfl hK.1 rfl hw hS hbs (fun _ => rfl) (by omega) (by omega) (by decide) (show 0 + 1 ≤ 7 by omega) (show 0 + (30 : Int).toNat ≤ 2460 by omega) dX4_init_7 (fun q1 H hw hS => ?_)
  have hw : wx D tc base u (E ++ ([(h0, .inr (4, [.int 0, .null, .null, .null, .null, .null, .int 0, .null, .null])), (q1, .inl (tc 0, (30 : Int).toNat, .inl (fun _ => 0)))] : va_W)) H := hw
  refine W.widen (k := 1) (n := 30) (by omega) (by omega) ?_
  refine g_putF (ci := 4) hx hb hf4 ⟨tyX4_ok, nmX4⟩ hw hS 0 rfl 1 (by decide) lk9 rfl hnm rfl (tyX4_ok 1 (by decide)) rfl rfl (Nat.le_of_ble_eq_true rfl) dX4_init_9 (fun H locs hw hS => ?_)
  have hw : wx D tc base u (E ++ ([(h0, .inr (4, [.int 0, .ref q1, .null, .null, .null, .null, .int 0, .null, .null])), (q1, .inl (tc 0, (30 : Int).toNat, .inl (fun _ => 0)))] : va_W)) H := hw
  refine lv_aload_n hx hb dX4_init_12 rfl (lv_at hl 0 rfl) ?_
  refine lv_bipush (v := jI 30) hx hb dX4_init_13 (by decide) ?_
  refine g_newa (t := 0) (z := 30) (a0 := ((30 : Int).toNat, .inl (fun _ => 0))) (atype := .int) hx hb (hts (.arrayClass .int) (by first | exact gj_X4_init_0 _ (gp_1 (gp_1 (gp_1 gp_h))) | decide +kernel)) rfl hK.1 rfl hw hS hbs (fun _ => rfl) (by omega) (by omega) (by decide) (show 1 + 1 ≤ 7 by omega) (show 30 + (30 : Int).toNat ≤ 2460 by omega) dX4_init_15 (fun q2 H hw hS => ?_)
  have hw : wx D tc base u (E ++ ([(h0, .inr (4, [.int 0, .ref q1, .null, .null, .null, .null, .int 0, .null, .null])), (q1, .inl (tc 0, (30 : Int).toNat, .inl (fun _ => 0))), (q2, .inl (tc 0, (30 : Int).toNat, .inl (fun _ => 0)))] : va_W)) H := hw
  refine W.widen (k := 2) (n := 60) (by omega) (by omega) ?_
  refine g_putF (ci := 4) hx hb hf4 ⟨tyX4_ok, nmX4⟩ hw hS 0 rfl 2 (by decide) lk15 rfl hnm rfl (tyX4_ok 2 (by decide)) rfl rfl (Nat.le_of_ble_eq_true rfl) dX4_init_17 (fun H locs hw hS => ?_)
  have hw : wx D tc base u (E ++ ([(h0, .inr (4, [.int 0, .ref q1, .ref q2, .null, .null, .null, .int 0, .null, .null])), (q1, .inl (tc 0, (30 : Int).toNat, .inl (fun _ => 0))), (q2, .inl (tc 0, (30 : Int).toNat, .inl (fun _ => 0)))] : va_W)) H := hw
  refine lv_aload_n hx hb dX4_init_20 rfl (lv_at hl 0 rfl) ?_
  refine lv_sipush (v := jI 150) hx hb dX4_init_21 (by decide) ?_
  refine g_newa (t := 0) (z := 150) (a0 := ((150 : Int).toNat, .inl (fun _ => 0))) (atype := .int) hx hb (hts (.arrayClass .int) (by first | exact gj_X4_init_0 _ (gp_1 (gp_1 (gp_1 gp_h))) | decide +kernel)) rfl hK.1 rfl hw hS hbs (fun _ => rfl) (by omega) (by omega) (by decide) (show 2 + 1 ≤ 7 by omega) (show 60 + (150 : Int).toNat ≤ 2460 by omega) dX4_init_24 (fun q3 H hw hS => ?_)
  have hw : wx D tc base u (E ++ ([(h0, .inr (4, [.int 0, .ref q1, .ref q2, .null, .null, .null, .int 0, .null, .null])), (q1, .inl (tc 0, (30 : Int).toNat, .inl (fun _ => 0))), (q2, .inl (tc 0, (30 : Int).toNat, .inl (fun _ => 0))), (q3, .inl (tc 0, (150 : Int).toNat, .inl (fun _ => 0)))] : va_W)) H := hw
  refine W.widen (k := 3) (n := 210) (by omega) (by omega) ?_
  refine g_putF (ci := 4) hx hb hf4 ⟨tyX4_ok, nmX4⟩ hw hS 0 rfl 3 (by decide) lk18 rfl hnm rfl (tyX4_ok 3 (by decide)) rfl rfl (Nat.le_of_ble_eq_true rfl) dX4_init_26 (fun H locs hw hS => ?_)
  have hw : wx D tc base u (E ++ ([(h0, .inr (4, [.int 0, .ref q1, .ref q2, .ref q3, .null, .null, .int 0, .null, .null])), (q1, .inl (tc 0, (30 : Int).toNat, .inl (fun _ => 0))), (q2, .inl (tc 0, (30 : Int).toNat, .inl (fun _ => 0))), (q3, .inl (tc 0, (150 : Int).toNat, .inl (fun _ => 0)))] : va_W)) H := hw
  refine lv_aload_n hx hb dX4_init_29 rfl (lv_at hl 0 rfl) ?_
  refine lv_sipush (v := jI 150) hx hb dX4_init_30 (by decide) ?_
  refine g_newa (t := 0) (z := 150) (a0 := ((150 : Int).toNat, .inl (fun _ => 0))) (atype := .int) hx hb (hts (.arrayClass .int) (by first | exact gj_X4_init_0 _ (gp_1 (gp_1 (gp_1 gp_h))) | decide +kernel)) rfl hK.1 rfl hw hS hbs (fun _ => rfl) (by omega) (by omega) (by decide) (show 3 + 1 ≤ 7 by omega) (show 210 + (150 : Int).toNat ≤ 2460 by omega) dX4_init_33 (fun q4 H hw hS => ?_)
  have hw : wx D tc base u (E ++ ([(h0, .inr (4, [.int 0, .ref q1, .ref q2, .ref q3, .null, .null, .int 0, .null, .null])), (q1, .inl (tc 0, (30 : Int).toNat, .inl (fun _ => 0))), (q2, .inl (tc 0, (30 : Int).toNat, .inl (fun _ => 0))), (q3, .inl (tc 0, (150 : Int).toNat, .inl (fun _ => 0))), (q4, .inl (tc 0, (150 : Int).toNat, .inl (fun _ => 0)))] : va_W)) H := hw
  refine W.widen (k := 4) (n := 360) (by omega) (by omega) ?_
  refine g_putF (ci := 4) hx hb hf4 ⟨tyX4_ok, nmX4⟩ hw hS 0 rfl 4 (by decide) lk21 rfl hnm rfl (tyX4_ok 4 (by decide)) rfl rfl (Nat.le_of_ble_eq_true rfl) dX4_init_35 (fun H locs hw hS => ?_)
  have hw : wx D tc base u (E ++ ([(h0, .inr (4, [.int 0, .ref q1, .ref q2, .ref q3, .ref q4, .null, .int 0, .null, .null])), (q1, .inl (tc 0, (30 : Int).toNat, .inl (fun _ => 0))), (q2, .inl (tc 0, (30 : Int).toNat, .inl (fun _ => 0))), (q3, .inl (tc 0, (150 : Int).toNat, .inl (fun _ => 0))), (q4, .inl (tc 0, (150 : Int).toNat, .inl (fun _ => 0)))] : va_W)) H := hw
  refine lv_aload_n hx hb dX4_init_38 rfl (lv_at hl 0 rfl) ?_
  refine lv_sipush (v := jI 150) hx hb dX4_init_39 (by decide) ?_
  refine g_newa (t := 1) (z := 150) (a0 := ((150 : Int).toNat, .inr (.inl (fun _ => 0)))) (atype := .long) hx hb (hts (.arrayClass .long) (by first | exact gj_X4_init_0 _ (gp_4 (gp_4 gp_h)) | decide +kernel)) rfl hK.1 rfl hw hS hbs (fun _ => rfl) (by omega) (by omega) (by decide) (show 4 + 1 ≤ 7 by omega) (show 360 + (150 : Int).toNat ≤ 2460 by omega) dX4_init_42 (fun q5 H hw hS => ?_)
  have hw : wx D tc base u (E ++ ([(h0, .inr (4, [.int 0, .ref q1, .ref q2, .ref q3, .ref q4, .null, .int 0, .null, .null])), (q1, .inl (tc 0, (30 : Int).toNat, .inl (fun _ => 0))), (q2, .inl (tc 0, (30 : Int).toNat, .inl (fun _ => 0))), (q3, .inl (tc 0, (150 : Int).toNat, .inl (fun _ => 0))), (q4, .inl (tc 0, (150 : Int).toNat, .inl (fun _ => 0))), (q5, .inl (tc 1, (150 : Int).toNat, .inr (.inl (fun _ => 0))))] : va_W)) H := hw
  refine W.widen (k := 5) (n := 510) (by omega) (by omega) ?_
  refine g_putF (ci := 4) hx hb hf4 ⟨tyX4_ok, nmX4⟩ hw hS 0 rfl 5 (by decide) lk24 rfl hnm rfl (tyX4_ok 5 (by decide)) rfl rfl (Nat.le_of_ble_eq_true rfl) dX4_init_44 (fun H locs hw hS => ?_)
  have hw : wx D tc base u (E ++ ([(h0, .inr (4, [.int 0, .ref q1, .ref q2, .ref q3, .ref q4, .ref q5, .int 0, .null, .null])), (q1, .inl (tc 0, (30 : Int).toNat, .inl (fun _ => 0))), (q2, .inl (tc 0, (30 : Int).toNat, .inl (fun _ => 0))), (q3, .inl (tc 0, (150 : Int).toNat, .inl (fun _ => 0))), (q4, .inl (tc 0, (150 : Int).toNat, .inl (fun _ => 0))), (q5, .inl (tc 1, (150 : Int).toNat, .inr (.inl (fun _ => 0))))] : va_W)) H := hw
  refine lv_aload_n hx hb dX4_init_47 rfl (lv_at hl 0 rfl) ?_
  refine lv_sipush (v := jI 150) hx hb dX4_init_48 (by decide) ?_
  refine g_newa (t := 0) (z := 150) (a0 := ((150 : Int).toNat, .inl (fun _ => 0))) (atype := .int) hx hb (hts (.arrayClass .int) (by first | exact gj_X4_init_0 _ (gp_1 (gp_1 (gp_1 gp_h))) | decide +kernel)) rfl hK.1 rfl hw hS hbs (fun _ => rfl) (by omega) (by omega) (by decide) (show 5 + 1 ≤ 7 by omega) (show 510 + (150 : Int).toNat ≤ 2460 by omega) dX4_init_51 (fun q6 H hw hS => ?_)
  have hw : wx D tc base u (E ++ ([(h0, .inr (4, [.int 0, .ref q1, .ref q2, .ref q3, .ref q4, .ref q5, .int 0, .null, .null])), (q1, .inl (tc 0, (30 : Int).toNat, .inl (fun _ => 0))), (q2, .inl (tc 0, (30 : Int).toNat, .inl (fun _ => 0))), (q3, .inl (tc 0, (150 : Int).toNat, .inl (fun _ => 0))), (q4, .inl (tc 0, (150 : Int).toNat, .inl (fun _ => 0))), (q5, .inl (tc 1, (150 : Int).toNat, .inr (.inl (fun _ => 0)))), (q6, .inl (tc 0, (150 : Int).toNat, .inl (fun _ => 0)))] : va_W)) H := hw
  refine W.widen (k := 6) (n := 660) (by omega) (by omega) ?_
  refine g_putF (ci := 4) hx hb hf4 ⟨tyX4_ok, nmX4⟩ hw hS 0 rfl 7 (by decide) lk28 rfl hnm rfl (tyX4_ok 7 (by decide)) rfl rfl (Nat.le_of_ble_eq_true rfl) dX4_init_53 (fun H locs hw hS => ?_)
  have hw : wx D tc base u (E ++ ([(h0, .inr (4, [.int 0, .ref q1, .ref q2, .ref q3, .ref q4, .ref q5, .int 0, .ref q6, .null])), (q1, .inl (tc 0, (30 : Int).toNat, .inl (fun _ => 0))), (q2, .inl (tc 0, (30 : Int).toNat, .inl (fun _ => 0))), (q3, .inl (tc 0, (150 : Int).toNat, .inl (fun _ => 0))), (q4, .inl (tc 0, (150 : Int).toNat, .inl (fun _ => 0))), (q5, .inl (tc 1, (150 : Int).toNat, .inr (.inl (fun _ => 0)))), (q6, .inl (tc 0, (150 : Int).toNat, .inl (fun _ => 0)))] : va_W)) H := hw
  refine lv_aload_n hx hb dX4_init_56 rfl (lv_at hl 0 rfl) ?_
  refine lv_sipush (v := jI 1800) hx hb dX4_init_57 (by decide) ?_
  refine g_newa (t := 1) (z := 1800) (a0 := ((1800 : Int).toNat, .inr (.inl (fun _ => 0)))) (atype := .long) hx hb (hts (.arrayClass .long) (by first | exact gj_X4_init_0 _ (gp_4 (gp_4 gp_h)) | decide +kernel)) rfl hK.1 rfl hw hS hbs (fun _ => rfl) (by omega) (by omega) (by decide) (show 6 + 1 ≤ 7 by omega) (show 660 + (1800 : Int).toNat ≤ 2460 by omega) dX4_init_60 (fun q7 H hw hS => ?_)
  have hw : wx D tc base u (E ++ ([(h0, .inr (4, [.int 0, .ref q1, .ref q2, .ref q3, .ref q4, .ref q5, .int 0, .ref q6, .null])), (q1, .inl (tc 0, (30 : Int).toNat, .inl (fun _ => 0))), (q2, .inl (tc 0, (30 : Int).toNat, .inl (fun _ => 0))), (q3, .inl (tc 0, (150 : Int).toNat, .inl (fun _ => 0))), (q4, .inl (tc 0, (150 : Int).toNat, .inl (fun _ => 0))), (q5, .inl (tc 1, (150 : Int).toNat, .inr (.inl (fun _ => 0)))), (q6, .inl (tc 0, (150 : Int).toNat, .inl (fun _ => 0))), (q7, .inl (tc 1, (1800 : Int).toNat, .inr (.inl (fun _ => 0))))] : va_W)) H := hw
  refine W.widen (k := 7) (n := 2460) (by omega) (by omega) ?_
  refine g_putF (ci := 4) hx hb hf4 ⟨tyX4_ok, nmX4⟩ hw hS 0 rfl 8 (by decide) lk31 rfl hnm rfl (tyX4_ok 8 (by decide)) rfl rfl (Nat.le_of_ble_eq_true rfl) dX4_init_62 (fun H locs hw hS => ?_)
  have hw : wx D tc base u (E ++ ([(h0, .inr (4, [.int 0, .ref q1, .ref q2, .ref q3, .ref q4, .ref q5, .int 0, .ref q6, .ref q7])), (q1, .inl (tc 0, (30 : Int).toNat, .inl (fun _ => 0))), (q2, .inl (tc 0, (30 : Int).toNat, .inl (fun _ => 0))), (q3, .inl (tc 0, (150 : Int).toNat, .inl (fun _ => 0))), (q4, .inl (tc 0, (150 : Int).toNat, .inl (fun _ => 0))), (q5, .inl (tc 1, (150 : Int).toNat, .inr (.inl (fun _ => 0)))), (q6, .inl (tc 0, (150 : Int).toNat, .inl (fun _ => 0))), (q7, .inl (tc 1, (1800 : Int).toNat, .inr (.inl (fun _ => 0))))] : va_W)) H := hw
  refine ret_x hx hb hr hlocks hw hS (show 7 ≤ 7 by omega) (show 2460 ≤ 2460 by omega) dX4_init_65 ?_
  exact ⟨rfl, q1, q2, q3, q4, q5, q6, q7, rfl⟩

set_option maxHeartbeats 4000000 in
set_option maxRecDepth 100000 in
theorem c_X6_init (l : Launch) (D : va_G) (tc : Nat → ClassId) (base : Nat) (u : St) (E : va_W) (h0 : Nat)  : KC l D tc base yX6_init wsX6_init ({ frames := 1, cells := 2, slots := 10, locals := 12 } : Room) [.ref h0] u (E ++ ([(h0, .inr (6, [.null, .null, .null, .int 0]))] : va_W)) 2 10 (fun u' E' => u' = u ∧ ∃ q1 : Nat, ∃ q2 : Nat, E' = E ++ ([(h0, .inr (6, [.null, .ref q1, .ref q2, .int 0])), (q1, .inl (tc 1, (5 : Int).toNat, .inr (.inl (fun _ => 0)))), (q2, .inl (tc 6, (5 : Int).toNat, .inr (.inr (.inr (.inr (fun _ => none))))))] : va_W)) := by
  refine KC_of (cc := cX6_init) (maxL := 1) (ret := none) (by decide) rfl (Nat.le_of_ble_eq_true rfl) ?_
  intro p e s m below meth c ls hx hb hr hml hown hts hlocks hnm hl hK hw hS
  have hnm : meth.name = "<init>" := hnm
  have hown : s.vm.findClass RX6 = some m.cls := hown
  have hbs : base ≤ s.heap.size := hw.2.2
  have hi6 : ∀ w ∈ wsX60, w ∈ wsX6_init := fun w h => List.mem_cons_of_mem _ (List.mem_append_right _ h)
  have hf6 : fctx s m _ RX6 wsX6_init D tc RX6 TX6 4 6 := ⟨hts, hi6, hown, hK.1, rfl⟩
  have lk9 := hts (.fieldLink RX6 9 (TX6 1).1 (TX6 1).2.1 (TX6 1).2.2.1) (gj_X6_init_0 _ (gp_4 gp_h))
  have lk17 := hts (.fieldLink RX6 17 (TX6 2).1 (TX6 2).2.1 (TX6 2).2.2.1) (gj_X6_init_0 _ (gp_4 (gp_1 (gp_1 gp_h))))
  have hl : lv_has ls 1 [(0, .ref h0)] := hl
  refine lv_aload_n hx hb dX6_init_0 rfl (lv_at hl 0 rfl) ?_
  refine W.objInit hx hb hown (hts (.methodLink RX6 3 objectInit) (by first | exact gj_X6_init_0 _ (gp_h) | decide +kernel)) (hts (.instanceMethod objectInit) (by first | exact gj_X6_init_0 _ (gp_1 gp_h) | decide +kernel)) (hts _ (List.mem_cons_of_mem _ (List.mem_append_left _ (List.mem_of_getElem? (i := 2) rfl)))) rfl (by rw [hml]; exact hl.1) rfl dX6_init_1 (Nat.le_of_ble_eq_true rfl) (Nat.le_of_ble_eq_true rfl) ?_
  refine W.eq (g2 := F0 m 4 ls []) rfl ?_
  refine lv_aload_n hx hb dX6_init_4 rfl (lv_at hl 0 rfl) ?_
  refine lv_iconst (v := jI 5) hx hb dX6_init_5 rfl ?_
  refine g_newa (t := 1) (z := 5) (a0 := ((5 : Int).toNat, .inr (.inl (fun _ => 0)))) (atype := .long) hx hb (hts (.arrayClass .long) (by first | exact gj_X6_init_0 _ (gp_1 (gp_1 (gp_1 gp_h))) | decide +kernel)) rfl hK.1 rfl hw hS hbs (fun _ => rfl) (by omega) (by omega) (by decide) (show 0 + 1 ≤ 2 by omega) (show 0 + (5 : Int).toNat ≤ 10 by omega) dX6_init_6 (fun q1 H hw hS => ?_)
  have hw : wx D tc base u (E ++ ([(h0, .inr (6, [.null, .null, .null, .int 0])), (q1, .inl (tc 1, (5 : Int).toNat, .inr (.inl (fun _ => 0))))] : va_W)) H := hw
  refine W.widen (k := 1) (n := 5) (by omega) (by omega) ?_
  refine g_putF (ci := 6) hx hb hf6 ⟨tyX6_ok, nmX6⟩ hw hS 0 rfl 1 (by decide) lk9 rfl hnm rfl (tyX6_ok 1 (by decide)) rfl rfl (Nat.le_of_ble_eq_true rfl) dX6_init_8 (fun H locs hw hS => ?_)
  have hw : wx D tc base u (E ++ ([(h0, .inr (6, [.null, .ref q1, .null, .int 0])), (q1, .inl (tc 1, (5 : Int).toNat, .inr (.inl (fun _ => 0))))] : va_W)) H := hw
  refine lv_aload_n hx hb dX6_init_11 rfl (lv_at hl 0 rfl) ?_
  refine lv_iconst (v := jI 5) hx hb dX6_init_12 rfl ?_
  refine g_newq (t := 6) (z := 5) hx hb hown (hts (.classLink RX6 15 RX5) (by first | exact gj_X6_init_0 _ (gp_4 (gp_1 gp_h)) | decide +kernel)) hK.2.2.2.2.2.2.2.2.1 hK.1 rfl hw hS hbs (by omega) (by omega) (show 1 + 1 ≤ 2 by omega) (show 5 + (5 : Int).toNat ≤ 10 by omega) dX6_init_13 (fun q2 H hw hS => ?_)
  have hw : wx D tc base u (E ++ ([(h0, .inr (6, [.null, .ref q1, .null, .int 0])), (q1, .inl (tc 1, (5 : Int).toNat, .inr (.inl (fun _ => 0)))), (q2, .inl (tc 6, (5 : Int).toNat, .inr (.inr (.inr (.inr (fun _ => none))))))] : va_W)) H := hw
  refine W.widen (k := 2) (n := 10) (by omega) (by omega) ?_
  refine g_putF (ci := 6) hx hb hf6 ⟨tyX6_ok, nmX6⟩ hw hS 0 rfl 2 (by decide) lk17 rfl hnm rfl (tyX6_ok 2 (by decide)) rfl rfl (Nat.le_of_ble_eq_true rfl) dX6_init_16 (fun H locs hw hS => ?_)
  have hw : wx D tc base u (E ++ ([(h0, .inr (6, [.null, .ref q1, .ref q2, .int 0])), (q1, .inl (tc 1, (5 : Int).toNat, .inr (.inl (fun _ => 0)))), (q2, .inl (tc 6, (5 : Int).toNat, .inr (.inr (.inr (.inr (fun _ => none))))))] : va_W)) H := hw
  refine ret_x hx hb hr hlocks hw hS (show 2 ≤ 2 by omega) (show 10 ≤ 10 by omega) dX6_init_19 ?_
  exact ⟨rfl, q1, q2, rfl⟩
end
