/-! rows: what is made -/
theorem va_RA_inj {U : State} {a b : ClassId} {ty : FieldType} (h1 : va_RA U a ty) (h2 : va_RA U b ty) : a = b := by
  cases ty with
  | object C =>
    obtain ⟨_, _, -, -, -, e1⟩ := h1
    obtain ⟨_, _, -, -, -, e2⟩ := h2
    exact Option.some.inj (e1.symm.trans e2)
  | _ => exact Option.some.inj (h1.symm.trans h2)
theorem jI_nn {z : Int} (h0 : 0 ≤ z) (h1 : z ≤ 2147483647) : ¬ jI z < 0 := by
  rw [jI_0, jI_lt (by omega) (by omega)]
  omega
theorem jI_tn {z : Int} (h0 : 0 ≤ z) (h1 : z ≤ 2147483647) : (jI z).toNatClampNeg = z.toNat := by
  have := jI_cl h0 h1
  omega
section NX
variable {p : Program} {l : Launch} {e : Env} {R : Room} {s : State} {m : MethodId} {args : Array Value} {below : List Frame} {meth : Method} {c : Code} {H H0 : Heap} {locs : List Loc} {cells slots : Nat} {Q : State → Prop}
variable {cc : ByteArray} {pc : Nat} {ls : Array Slot} {rest : List Value} {D : va_G} {tc : Nat → ClassId} {base : Nat} {u : St} {E : va_W}
variable {own C : String} {T : u_T} {N ci index : Nat} {Ts : List Cond} {k t : Nat} {z : Int}
theorem nx_new (hx : p.tables.exec = Jvm.exec) (hb : c.code = cc) (F : fctx s m args own Ts D tc C T N ci) {ty0 : Nat → FieldType} (G : tctx T N ty0) (hcl : (Cond.classLink own index C).before args s = true) (hinst : (Cond.instantiable C N).before args s = true) (hini : (Cond.initialized C).before args s = true)
    (hw : wx D tc base u E H) (hS : va_S (frA base) H0 H locs) (hbs : base ≤ H0.size) {fs : List Value} (hfs : ∀ j, j < N → defaultValue (ty0 j) = vp_V fs j) (hcells : cells + 1 ≤ R.cells) (hslots : slots + N ≤ R.slots) (hdg : decode cc pc = .ok (.new index, 3))
    (kk : ∀ (q : Nat) (H1 : Heap), wx D tc base u (E ++ [(q, .inr (ci, fs))]) H1 → va_S (frA base) H0 H1 locs → W p l e R s m args below meth c H1 locs (cells + 1) (slots + N) Q (F0 m (pc + 3) ls (.ref q :: rest))) : W p l e R s m args below meth c H locs cells slots Q (F0 m pc ls rest) := by
  obtain ⟨hts, hin, hown, hK, hc⟩ := F
  obtain ⟨⟨RL, h1, hP, hD⟩, hrf, hz⟩ := hw
  refine va_new hx hb hts hin ty0 G.1 hown hcl hinst hini hK hP hD hS (fun q h => Nat.le_trans hbs h) hc hfs hcells hslots hdg (fun q H1 hP1 hD1 hS1 => kk q H1 ⟨⟨RL, h1, ?_, ?_⟩, hrf, Nat.le_trans hbs hS1.1⟩ hS1)
  · rw [← List.append_assoc]; exact hP1
  · rw [← List.append_assoc]; exact hD1
theorem nx_newa (hx : p.tables.exec = Jvm.exec) (hb : c.code = cc) {atype : ArrayType} (harr : (Cond.arrayClass (newarray.typeOf atype)).before args s = true) {ty : FieldType} (hty : newarray.typeOf atype = ty) (hK : va_K D vwCl (tysL tc) s) (ht : (tysL tc)[t]? = some (tc t, ty))
    (hw : wx D tc base u E H) (hS : va_S (frA base) H0 H locs) (hbs : base ≤ H0.size) {a0 : vp_A} (ha : ∀ cA : ClassId, vp_cell cA a0 = arrV cA z.toNat (fun _ => defaultValue ty)) (h0 : 0 ≤ z) (h1 : z ≤ 10000) (hbytes : z.toNat * componentBytes ty ≤ 536870912) (hcells : cells + 1 ≤ R.cells) (hslots : slots + z.toNat ≤ R.slots) (hdg : decode cc pc = .ok (.newarray atype, 2))
    (kk : ∀ (q : Nat) (H1 : Heap), wx D tc base u (E ++ [(q, .inl (tc t, a0))]) H1 → va_S (frA base) H0 H1 locs → W p l e R s m args below meth c H1 locs (cells + 1) (slots + z.toNat) Q (F0 m (pc + 2) ls (.ref q :: rest))) : W p l e R s m args below meth c H locs cells slots Q (F0 m pc ls (.int (jI z) :: rest)) := by
  obtain ⟨⟨RL, h2, hP, hD⟩, hrf, hz⟩ := hw
  refine va_newa hx hb harr hty hK hP hD hS (fun q h => Nat.le_trans hbs h) ha (jI_nn h0 (by omega)) (jI_tn h0 (by omega)) hbytes hcells hslots hdg (fun q cA H1 hK1 hP1 hD1 hS1 => ?_)
  have hc : cA = tc t := va_RA_inj (hK1.2 (tysL tc).length (cA, ty) (by simp)).2 (hK.2 t _ ht).2
  subst hc
  refine kk q H1 ⟨⟨RL, h2, ?_, ?_⟩, hrf, Nat.le_trans hbs hS1.1⟩ hS1
  · rw [← List.append_assoc]; exact hP1
  · rw [← List.append_assoc]; exact hD1
theorem nx_newq (hx : p.tables.exec = Jvm.exec) (hb : c.code = cc) (hown : s.vm.findClass own = some m.cls) (hclink : (Cond.classLink own index C).before args s = true) (hover : va_AO C s) (hK : va_K D vwCl (tysL tc) s) (ht : (tysL tc)[t]? = some (tc t, .object C))
    (hw : wx D tc base u E H) (hS : va_S (frA base) H0 H locs) (hbs : base ≤ H0.size) (h0 : 0 ≤ z) (h1 : z ≤ 10000) (hcells : cells + 1 ≤ R.cells) (hslots : slots + z.toNat ≤ R.slots) (hdg : decode cc pc = .ok (.anewarray index, 3))
    (kk : ∀ (q : Nat) (H1 : Heap), wx D tc base u (E ++ [(q, .inl (tc t, z.toNat, .inr (.inr (.inr (.inr (fun _ => none))))))]) H1 → va_S (frA base) H0 H1 locs → W p l e R s m args below meth c H1 locs (cells + 1) (slots + z.toNat) Q (F0 m (pc + 3) ls (.ref q :: rest))) : W p l e R s m args below meth c H locs cells slots Q (F0 m pc ls (.int (jI z) :: rest)) := by
  obtain ⟨⟨RL, h2, hP, hD⟩, hrf, hz⟩ := hw
  refine va_newq hx hb hown hclink hover hK hP hD hS (fun q h => Nat.le_trans hbs h) (jI_nn h0 (by omega)) (jI_tn h0 (by omega)) (by omega) hcells hslots hdg (fun q cA H1 hK1 hP1 hD1 hS1 => ?_)
  have hc : cA = tc t := va_RA_inj (hK1.2 (tysL tc).length (cA, .object C) (by simp)).2 (hK.2 t _ ht).2
  subst hc
  refine kk q H1 ⟨⟨RL, h2, ?_, ?_⟩, hrf, Nat.le_trans hbs hS1.1⟩ hS1
  · rw [← List.append_assoc]; exact hP1
  · rw [← List.append_assoc]; exact hD1
theorem nx_set {a : Nat} {x y : va_E} {e0 : Nat} {W0 : va_W} (he : E[e0]? = some (a, x)) : (W0 ++ E)[W0.length + e0]? = some (a, x) ∧ (W0 ++ E).set (W0.length + e0) (a, y) = W0 ++ E.set e0 (a, y) := by
  constructor
  · rw [List.getElem?_append_right (by omega)]
    simpa using he
  · rw [List.set_append_right _ _ (by omega)]
    congr 2
    omega
/-- a final field, in the constructor -/
theorem nx_putF (hx : p.tables.exec = Jvm.exec) (hb : c.code = cc) (F : fctx s m args own Ts D tc C T N ci) {ty0 : Nat → FieldType} (G : tctx T N ty0) (hw : wx D tc base u E H) (hS : va_S (frA base) H0 H locs) (e0 : Nat) {a : Nat} {fs : List Value} (he : E[e0]? = some (a, .inr (ci, fs))) (k : Nat) (hk : k < N)
    (hlink : (Cond.fieldLink own index (T k).1 (T k).2.1 (T k).2.2.1).before args s = true) (hfin : (T k).2.2.2 = true) (hin2 : meth.name = "<init>") (hdecl : (T k).1 = own) {ty : FieldType} {v : Value} (hd : parseFieldDescriptor (T k).2.2.1 = some ty) (hn : narrow ty v = v) (hfit : fits ty v = true) (hl : k < fs.length) (hdg : decode cc pc = .ok (.putfield index, 3))
    (kk : ∀ (H1 : Heap) (locs1 : List Loc), wx D tc base u (E.set e0 (a, .inr (ci, fs.set k v))) H1 → va_S (frA base) H0 H1 locs1 → W p l e R s m args below meth c H1 locs1 cells slots Q (F0 m (pc + 3) ls rest)) : W p l e R s m args below meth c H locs cells slots Q (F0 m pc ls (v :: .ref a :: rest)) := by
  obtain ⟨hts, hin, hown, hK, hc⟩ := F
  obtain ⟨⟨RL, h1, hP, hD⟩, hrf, hz⟩ := hw
  have h2 := nx_set (W0 := wlE tc u.1 u.2.2.1 u.2.2.2.1 u.2.2.2.2 RL) (y := .inr (ci, fs.set k v)) he
  refine va_putF hx hb hts hin ty0 G.1 G.2 hown hK hP hD hS _ h2.1 hc k hk hlink (fun _ h => h) hfin hin2 hdecl hd hn hfit hl hdg (fun H1 locs1 hP1 hD1 hS1 => ?_)
  rw [h2.2] at hP1 hD1
  exact kk H1 locs1 ⟨⟨RL, h1, hP1, hD1⟩, hrf, by have := hS1.1; have h6 : base ≤ a := hD.2 _ _ h2.1; have h7 := (hP1 _ _ (nx_set (W0 := wlE tc u.1 u.2.2.1 u.2.2.2.1 u.2.2.2.2 RL) (E := E.set e0 (a, .inr (ci, fs.set k v))) (e0 := e0) (a := a) (x := .inr (ci, fs.set k v)) (y := .inr (ci, fs)) (by rw [List.getElem?_set_self (List.getElem?_eq_some_iff.mp he).1])).1).lt; dsimp only at h7; omega⟩ hS1
theorem nx_put (hx : p.tables.exec = Jvm.exec) (hb : c.code = cc) (F : fctx s m args own Ts D tc C T N ci) {ty0 : Nat → FieldType} (G : tctx T N ty0) (hw : wx D tc base u E H) (hS : va_S (frA base) H0 H locs) (e0 : Nat) {a : Nat} {fs : List Value} (he : E[e0]? = some (a, .inr (ci, fs))) (k : Nat) (hk : k < N)
    (hlink : (Cond.fieldLink own index (T k).1 (T k).2.1 (T k).2.2.1).before args s = true) (hfin : (T k).2.2.2 = false) {ty : FieldType} {v : Value} (hd : parseFieldDescriptor (T k).2.2.1 = some ty) (hn : narrow ty v = v) (hfit : fits ty v = true) (hl : k < fs.length) (hdg : decode cc pc = .ok (.putfield index, 3))
    (kk : ∀ (H1 : Heap) (locs1 : List Loc), wx D tc base u (E.set e0 (a, .inr (ci, fs.set k v))) H1 → va_S (frA base) H0 H1 locs1 → W p l e R s m args below meth c H1 locs1 cells slots Q (F0 m (pc + 3) ls rest)) : W p l e R s m args below meth c H locs cells slots Q (F0 m pc ls (v :: .ref a :: rest)) := by
  obtain ⟨hts, hin, hown, hK, hc⟩ := F
  obtain ⟨⟨RL, h1, hP, hD⟩, hrf, hz⟩ := hw
  have h2 := nx_set (W0 := wlE tc u.1 u.2.2.1 u.2.2.2.1 u.2.2.2.2 RL) (y := .inr (ci, fs.set k v)) he
  refine va_put hx hb hts hin ty0 G.1 G.2 hown hK hP hD hS _ h2.1 hc k hk hlink (fun _ h => h) hfin hd hn hfit hl hdg (fun H1 locs1 hP1 hD1 hS1 => ?_)
  rw [h2.2] at hP1 hD1
  exact kk H1 locs1 ⟨⟨RL, h1, hP1, hD1⟩, hrf, by have h6 : base ≤ a := hD.2 _ _ h2.1; have h7 := (hP1 _ _ (nx_set (W0 := wlE tc u.1 u.2.2.1 u.2.2.2.1 u.2.2.2.2 RL) (E := E.set e0 (a, .inr (ci, fs.set k v))) (e0 := e0) (a := a) (x := .inr (ci, fs.set k v)) (y := .inr (ci, fs)) (by rw [List.getElem?_set_self (List.getElem?_eq_some_iff.mp he).1])).1).lt; dsimp only at h7; omega⟩ hS1
end NX
/-! contracts of constructors -/
def PcX (D : va_G) (tc : Nat → ClassId) (base : Nat) (u : St) (E : va_W) (av : List Value) : Array Value → State → Prop := va_Pc av (fun U => wx D tc base u E U.heap ∧ Kx D tc U)
theorem PcX.blind {D : va_G} {tc : Nat → ClassId} {base : Nat} {u : St} {E : va_W} {av : List Value} : FrameBlind (PcX D tc base u E av) := fun a U g mk q => ⟨q.1, q.2.1, q.2.2.call⟩
def QX (D : va_G) (tc : Nat → ClassId) (base : Nat) (post : St → va_W → Prop) : Array Value → State → Outcome → State → Prop := va_Qv (fun (q : St × va_W) => post q.1 q.2) (fun q t => wx D tc base q.1 q.2 t.heap) (frA base)
def KC (l : Launch) (D : va_G) (tc : Nat → ClassId) (base : Nat) (y : MethodName) (ws : List Cond) (rm : Room) (av : List Value) (u : St) (E : va_W) (mc ms : Nat) (post : St → va_W → Prop) : Prop := Met l y ws rm (PcX D tc base u E av) (QX D tc base post) mc ms (frA base)
theorem KC_of {l : Launch} {D : va_G} {tc : Nat → ClassId} {base : Nat} {y : MethodName} {ws ws' : List Cond} {rm : Room} {av : List Value} {u : St} {E : va_W} {mc ms : Nat} {Qc : Array Value → State → Outcome → State → Prop} {cc : ByteArray} {maxL : Nat} {ret : Option FieldType}
    (hy : plainName y.cls = true) (hw : ws = Cond.code y cc maxL ret :: ws') (hsl : (lg_sl av).length ≤ maxL)
    (body : ∀ (p : Program) (e : Env) (s : State) (m : MethodId) (below : List Frame) (meth : Method) (c : Code) (ls : Array Slot), p.tables.exec = Jvm.exec → c.code = cc → meth.sig.returnType = ret → c.maxLocals = maxL → s.vm.findClass y.cls = some m.cls → (∀ w ∈ ws, w.before av.toArray s = true) → meth.locks = false → meth.name = y.name → lv_has ls maxL (lv_args 0 av) → Kx D tc s → wx D tc base u E s.heap → va_S (frA base) s.heap s.heap [] →
      W p l e rm s m av.toArray below meth c s.heap [] 0 0 (MQ below Qc av.toArray s mc ms (frA base)) (F0 m 0 ls [])) : Met l y ws rm (PcX D tc base u E av) Qc mc ms (frA base) := by
  refine Met.ofW (cc := cc) (maxL := maxL) (ret := ret) hy hw ?_
  intro p e s m args below meth c s₁ B hml hv
  obtain ⟨rfl, hW, hK⟩ := hv
  have hl := lv_entry av (n := maxL) hsl
  rw [lg_entry_eq]
  exact body p e s m below meth c _ B.exec B.bytes B.returns hml (findClass_of_methodNamed B.named) (atoms_spec (ws := ws) B.pre) B.notSynchronized (name_of_methodNamed B.named B.method).1 hl hK hW va_S.rf
section NC
variable {p : Program} {l : Launch} {e : Env} {R : Room} {s : State} {m : MethodId} {args : Array Value} {below : List Frame} {meth : Method} {c : Code} {H H0 : Heap} {locs : List Loc} {cells slots : Nat} {Q : State → Prop}
variable {cc bytes : ByteArray} {pc nL maxL mc ms n index : Nat} {ls : Array Slot} {rest st0 As : List Value} {D : va_G} {tc : Nat → ClassId} {base b : Nat} {u u' : St} {E E' : va_W}
variable {own C host : String} {Ts ws : List Cond} {rm : Room} {y : MethodName}
theorem ret_x {post : St → va_W → Prop} (hx : p.tables.exec = Jvm.exec) (hb : c.code = cc) (hr : meth.sig.returnType = none) (hlocks : meth.locks = false) (hw : wx D tc base u' E' H) (hS : va_S (frA base) s.heap H locs) (h1 : cells ≤ mc) (h2 : slots ≤ ms) (hdg : decode cc pc = .ok (.return_, 1)) (hp : post u' E') :
    W p l e R s m args below meth c H locs cells slots (MQ below (QX D tc base post) args s mc ms (frA base)) (F0 m pc ls []) := by
  refine W.widen (k := mc) (n := ms) h1 h2 ?_
  exact W.vret hx hb hr (fun t ht hW => ⟨⟨(u', E'), rfl, hp, by show wx D tc base u' E' t.heap; rw [ht]; exact hw⟩, hS.F ht⟩) hS.2.2 hdg
theorem gos_x {post : St → va_W → Prop} {av : Array Value} (hr : va_Run p l e R s m args below meth c H locs cells slots mc ms (F0 m pc ls st0) rest (QX D tc base post av) (frA base)) (hS : va_S (frA base) H0 H locs)
    (kk : ∀ (u' : St) (E' : va_W) (H1 : Heap) (locs1 : List Loc), post u' E' → wx D tc base u' E' H1 → va_S (frA base) H0 H1 locs1 → W p l e R s m args below meth c H1 locs1 (cells + mc) (slots + ms) Q (F0 m (pc + 3) ls rest)) : W p l e R s m args below meth c H locs cells slots Q (F0 m pc ls st0) := by
  refine va_callv hr hS (fun q _ h => h) (fun q h => h) (fun u1 t H1 locs1 ht hvm hp hB _ _ hS1 => ?_)
  rw [ht] at hB
  exact kk u1.1 u1.2 H1 locs1 hp hB hS1
theorem run_I {Qc : Array Value → State → Outcome → State → Prop} (hx : p.tables.exec = Jvm.exec) (hb : c.code = cc) (hml : c.maxLocals = nL) (hown : s.vm.findClass own = some m.cls) (hts : ∀ w ∈ Ts, w.before args s = true) (hM : Met l y ws rm (PcX D tc base u E (.ref b :: As)) Qc mc ms (frA base)) (cw : CallB R s args own index y bytes maxL none ws rm mc ms n ∧ y.name = "<init>" ∧ (Cond.instanceMethod y).before args s = true)
    (hK : Kx D tc s) (hw : wx D tc base u E H) (hn : As.length = n) (hl : ls.size = nL) (hstack : st0 = As.reverse ++ .ref b :: rest) (hrm : (rest.map fun v => v.category).sum ≤ 8) (hdg : decode cc pc = .ok (.invokespecial index, 3)) (hf : cells + mc ≤ R.cells ∧ slots + ms ≤ R.slots) :
    va_Run p l e R s m args below meth c H locs cells slots mc ms (F0 m pc ls st0) rest (Qc (Value.ref b :: As).toArray) (frA base) :=
  va_runI ⟨hx, hb, hml, hown, hts⟩ hM cw ⟨PcX.blind, fun U hU hW => ⟨rfl, by rw [hU]; exact hw, hK.warm hW⟩⟩ rfl hn hl hstack (lv_room hrm) hdg hf
theorem run_IN {Qc : Array Value → State → Outcome → State → Prop} (hx : p.tables.exec = Jvm.exec) (hb : c.code = cc) (hml : c.maxLocals = nL) (hown : s.vm.findClass own = some m.cls) (hts : ∀ w ∈ Ts, w.before args s = true) (hM : Met l y ws rm (PcX D tc base u E (.ref b :: As)) Qc mc ms (frA base)) (cw : va_CN R s args own index y host bytes maxL none ws rm mc ms n ∧ y.name = "<init>" ∧ (Cond.instanceMethod y).before args s = true)
    (hK : Kx D tc s) (hw : wx D tc base u E H) (hn : As.length = n) (hl : ls.size = nL) (hstack : st0 = As.reverse ++ .ref b :: rest) (hrm : (rest.map fun v => v.category).sum ≤ 8) (hdg : decode cc pc = .ok (.invokespecial index, 3)) (hf : cells + mc ≤ R.cells ∧ slots + ms ≤ R.slots) :
    va_Run p l e R s m args below meth c H locs cells slots mc ms (F0 m pc ls st0) rest (Qc (Value.ref b :: As).toArray) (frA base) :=
  va_runIN ⟨hx, hb, hml, hown, hts⟩ hM cw ⟨PcX.blind, fun U hU hW => ⟨rfl, by rw [hU]; exact hw, hK.warm hW⟩⟩ rfl hn hl hstack (lv_room hrm) hdg hf
end NC
