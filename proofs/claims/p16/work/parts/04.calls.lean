/-! contracts over the world, their beginnings, their ends, calls -/
def NQ (U : State) : Prop := (va_Nw (.methodLinkNest RX8 31 yX4_init RX8) U ∧ va_Nw (.methodLinkNest RX8 57 yX1_init RX8) U ∧ va_Nw (.methodLinkNest RX8 62 yX6_init RX8) U ∧ va_Nw (.methodLinkNest RX2 21 yX3_init RX8) U) ∧ (va_AO RX0 U ∧ va_AO RX3 U ∧ va_AO RX4 U ∧ va_AO RX5 U ∧ va_AO RX6 U ∧ va_AO RX7 U)
theorem NQ.warm {s U : State} (hW : s.WarmedH U.vm) (h : NQ s) : NQ U := ⟨⟨va_Nw.warmM hW h.1.1, va_Nw.warmM hW h.1.2.1, va_Nw.warmM hW h.1.2.2.1, va_Nw.warmM hW h.1.2.2.2⟩, va_AO.moved hW.alike h.2.1, va_AO.moved hW.alike h.2.2.1, va_AO.moved hW.alike h.2.2.2.1, va_AO.moved hW.alike h.2.2.2.2.1, va_AO.moved hW.alike h.2.2.2.2.2.1, va_AO.moved hW.alike h.2.2.2.2.2.2⟩
theorem NQ.call {U : State} {g : JFrame} {mk : MethodId} {a : Array Value} (h : NQ U) : NQ (U.calling g mk a) := ⟨⟨va_Nw.same rfl rfl h.1.1, va_Nw.same rfl rfl h.1.2.1, va_Nw.same rfl rfl h.1.2.2.1, va_Nw.same rfl rfl h.1.2.2.2⟩, va_AO.moved (u := U) (U := U.calling g mk a) (Vm.Alike.refl U.vm) h.2.1, va_AO.moved (u := U) (U := U.calling g mk a) (Vm.Alike.refl U.vm) h.2.2.1, va_AO.moved (u := U) (U := U.calling g mk a) (Vm.Alike.refl U.vm) h.2.2.2.1, va_AO.moved (u := U) (U := U.calling g mk a) (Vm.Alike.refl U.vm) h.2.2.2.2.1, va_AO.moved (u := U) (U := U.calling g mk a) (Vm.Alike.refl U.vm) h.2.2.2.2.2.1, va_AO.moved (u := U) (U := U.calling g mk a) (Vm.Alike.refl U.vm) h.2.2.2.2.2.2⟩
def NK (U : State) : Prop := va_Nw (.methodLinkNest RX7 39 yX8_isBelow RX8) U ∧ va_Nw (.methodLinkNest RX7 47 yX8_isRowLane RX8) U ∧ va_Nw (.methodLinkNest RX4 50 yX8_isRowLane RX8) U ∧ NQ U
def Kx (D : va_G) (tc : Nat → ClassId) (U : State) : Prop := va_K D vwCl (tysL tc) U ∧ NK U
theorem Kx.warm {D : va_G} {tc : Nat → ClassId} {s U : State} (hW : s.WarmedH U.vm) (h : Kx D tc s) : Kx D tc U := ⟨va_K.moved hW.alike h.1, va_Nw.warmM hW h.2.1, va_Nw.warmM hW h.2.2.1, va_Nw.warmM hW h.2.2.2.1, NQ.warm hW h.2.2.2.2⟩
theorem Kx.call {D : va_G} {tc : Nat → ClassId} {U : State} {g : JFrame} {mk : MethodId} {a : Array Value} (h : Kx D tc U) : Kx D tc (U.calling g mk a) := ⟨va_K.moved (u := U) (U := U.calling g mk a) (Vm.Alike.refl U.vm) h.1, va_Nw.same rfl rfl h.2.1, va_Nw.same rfl rfl h.2.2.1, va_Nw.same rfl rfl h.2.2.2.1, NQ.call h.2.2.2.2⟩
/-- how many cells there are of each kind -/
def fxL : List (Nat × Int) := [(0, 1), (1, 1), (2, 1), (3, 1), (4, 1), (5, 1), (6, 1), (7, 6), (8, 6), (9, 6), (10, 6), (11, 6), (12, 6), (13, 6), (14, 6), (15, 30), (16, 30), (17, 30), (28, 80), (29, 1), (30, 1), (31, 1), (32, 1), (40, 1), (42, 1), (44, 1), (45, 1), (46, 1), (47, 1), (48, 1), (49, 1), (50, 1), (51, 1), (52, 1), (53, 1), (55, 1), (56, 1), (57, 1), (58, 1), (59, 1), (60, 1), (62, 1), (64, 1), (65, 1), (66, 1), (67, 1), (68, 1), (70, 1), (71, 1), (72, 1), (73, 1), (74, 1), (75, 1), (76, 1), (77, 1), (78, 1), (79, 1), (80, 1), (81, 1), (85, 1), (86, 1), (87, 1), (88, 1), (89, 1), (90, 1), (100, 1)]
def Fx (cnt : Nat → Int) : Prop := (∀ q ∈ fxL, cnt q.1 = q.2) ∧ (∀ k ∈ [20, 21, 22, 23, 24], cnt k = cnt 19) ∧ cnt 27 = cnt 26
theorem Fx.at {cnt : Nat → Int} (h : Fx cnt) (k : Nat) (n : Int) (hk : (k, n) ∈ fxL) : cnt k = n := h.1 (k, n) hk
abbrev frA (base : Nat) : Nat → Prop := fun q => base ≤ q
def PcW (D : va_G) (tc : Nat → ClassId) (base : Nat) (u : St) (av : List Value) : Array Value → State → Prop := va_Pc av (fun U => wd D tc base u U.heap ∧ Kx D tc U)
theorem PcW.blind {D : va_G} {tc : Nat → ClassId} {base : Nat} {u : St} {av : List Value} : FrameBlind (PcW D tc base u av) := fun a U g mk q => ⟨q.1, q.2.1, q.2.2.call⟩
def QI (D : va_G) (tc : Nat → ClassId) (base : Nat) (post : Int → St → Prop) : Array Value → State → Outcome → State → Prop := va_Qi (fun (r : Int32) (u' : St) => ∃ z : Int, r = jI z ∧ post z u') (fun u' t => wd D tc base u' t.heap) (frA base)
def QL (D : va_G) (tc : Nat → ClassId) (base : Nat) (post : Int → St → Prop) : Array Value → State → Outcome → State → Prop := va_Ql (fun (r : Int64) (u' : St) => ∃ z : Int, r = jL z ∧ post z u') (fun u' t => wd D tc base u' t.heap) (frA base)
def QV (D : va_G) (tc : Nat → ClassId) (base : Nat) (post : St → Prop) : Array Value → State → Outcome → State → Prop := va_Qv (fun (u' : St) => post u') (fun u' t => wd D tc base u' t.heap) (frA base)
def QR (D : va_G) (tc : Nat → ClassId) (base k : Nat) (post : Option Int → St → Prop) : Array Value → State → Outcome → State → Prop := va_Qq (fun (r : Option Nat) (u' : St) => ∃ o : Option Int, r = o.map (u'.1 k) ∧ post o u') (fun u' t => wd D tc base u' t.heap) (frA base)
def KI (l : Launch) (D : va_G) (tc : Nat → ClassId) (base : Nat) (y : MethodName) (ws : List Cond) (rm : Room) (av : List Value) (u : St) (mc ms : Nat) (post : Int → St → Prop) : Prop := Met l y ws rm (PcW D tc base u av) (QI D tc base post) mc ms (frA base)
def KL (l : Launch) (D : va_G) (tc : Nat → ClassId) (base : Nat) (y : MethodName) (ws : List Cond) (rm : Room) (av : List Value) (u : St) (mc ms : Nat) (post : Int → St → Prop) : Prop := Met l y ws rm (PcW D tc base u av) (QL D tc base post) mc ms (frA base)
def KV (l : Launch) (D : va_G) (tc : Nat → ClassId) (base : Nat) (y : MethodName) (ws : List Cond) (rm : Room) (av : List Value) (u : St) (mc ms : Nat) (post : St → Prop) : Prop := Met l y ws rm (PcW D tc base u av) (QV D tc base post) mc ms (frA base)
def KR (l : Launch) (D : va_G) (tc : Nat → ClassId) (base k : Nat) (y : MethodName) (ws : List Cond) (rm : Room) (av : List Value) (u : St) (mc ms : Nat) (post : Option Int → St → Prop) : Prop := Met l y ws rm (PcW D tc base u av) (QR D tc base k post) mc ms (frA base)
theorem K_of {l : Launch} {D : va_G} {tc : Nat → ClassId} {base : Nat} {y : MethodName} {ws ws' : List Cond} {rm : Room} {av : List Value} {u : St} {mc ms : Nat} {Qc : Array Value → State → Outcome → State → Prop} {cc : ByteArray} {maxL : Nat} {ret : Option FieldType}
    (hy : plainName y.cls = true) (hw : ws = Cond.code y cc maxL ret :: ws') (hsl : (lg_sl av).length ≤ maxL)
    (body : ∀ (p : Program) (e : Env) (s : State) (m : MethodId) (below : List Frame) (meth : Method) (c : Code) (ls : Array Slot), p.tables.exec = Jvm.exec → c.code = cc → meth.sig.returnType = ret → c.maxLocals = maxL → s.vm.findClass y.cls = some m.cls → (∀ w ∈ ws, w.before av.toArray s = true) → meth.locks = false → lv_has ls maxL (lv_args 0 av) → Kx D tc s → wd D tc base u s.heap → va_S (frA base) s.heap s.heap [] →
      W p l e rm s m av.toArray below meth c s.heap [] 0 0 (MQ below Qc av.toArray s mc ms (frA base)) (F0 m 0 ls [])) : Met l y ws rm (PcW D tc base u av) Qc mc ms (frA base) := by
  refine Met.ofW (cc := cc) (maxL := maxL) (ret := ret) hy hw ?_
  intro p e s m args below meth c s₁ B hml hv
  obtain ⟨rfl, hW, hK⟩ := hv
  have hl := lv_entry av (n := maxL) hsl
  rw [lg_entry_eq]
  exact body p e s m below meth c _ B.exec B.bytes B.returns hml (findClass_of_methodNamed B.named) (atoms_spec (ws := ws) B.pre) B.notSynchronized hl hK hW va_S.rf
section XC
variable {p : Program} {l : Launch} {e : Env} {R : Room} {s : State} {m : MethodId} {args : Array Value} {below : List Frame} {meth : Method} {c : Code} {H H0 : Heap} {locs : List Loc} {cells slots : Nat} {Q : State → Prop}
variable {cc bytes : ByteArray} {pc nL maxL mc ms n index : Nat} {ls : Array Slot} {rest st0 As : List Value} {D : va_G} {tc : Nat → ClassId} {base : Nat} {ad : Nat → Int → Nat} {cnt : Nat → Int} {X : Nat → Int → Int → Int} {Y : Nat → Int → Int → Option Int} {ln : Int → Int} {u u' : St}
variable {own C host : String} {T : u_T} {N ci : Nat} {Ts ws : List Cond} {rm : Room} {ret : Option FieldType} {y : MethodName} {k j : Nat} {i z : Int}
theorem ret_i {post : Int → St → Prop} (hx : p.tables.exec = Jvm.exec) (hb : c.code = cc) (hr : meth.sig.returnType = some .int) (hlocks : meth.locks = false) (hw : wd D tc base u' H) (hS : va_S (frA base) s.heap H locs) (h1 : cells ≤ mc) (h2 : slots ≤ ms) (hdg : decode cc pc = .ok (.ireturn, 1)) (hp : post z u') :
    W p l e R s m args below meth c H locs cells slots (MQ below (QI D tc base post) args s mc ms (frA base)) (F0 m pc ls [.int (jI z)]) := by
  refine W.widen (k := mc) (n := ms) h1 h2 ?_
  exact W.iret (v := jI z) hx hb hr (fun t ht hW => ⟨⟨jI z, u', rfl, ⟨z, rfl, hp⟩, by show wd D tc base u' t.heap; rw [ht]; exact hw⟩, hS.F ht⟩) hS.2.2 hdg
theorem ret_z {post : Int → St → Prop} (hx : p.tables.exec = Jvm.exec) (hb : c.code = cc) (hr : meth.sig.returnType = some .boolean) (hlocks : meth.locks = false) (hw : wd D tc base u' H) (hS : va_S (frA base) s.heap H locs) (h1 : cells ≤ mc) (h2 : slots ≤ ms) (hdg : decode cc pc = .ok (.ireturn, 1)) (hz : z = 0 ∨ z = 1) (hp : post z u') :
    W p l e R s m args below meth c H locs cells slots (MQ below (QI D tc base post) args s mc ms (frA base)) (F0 m pc ls [.int (jI z)]) := by
  refine W.widen (k := mc) (n := ms) h1 h2 ?_
  exact W.zret (v := jI z) (ty := .boolean) hx hb hr (by rcases hz with rfl | rfl <;> decide +kernel) (fun t ht hW => ⟨⟨jI z, u', rfl, ⟨z, rfl, hp⟩, by show wd D tc base u' t.heap; rw [ht]; exact hw⟩, hS.F ht⟩) hS.2.2 hdg
theorem ret_l {post : Int → St → Prop} (hx : p.tables.exec = Jvm.exec) (hb : c.code = cc) (hr : meth.sig.returnType = some .long) (hlocks : meth.locks = false) (hw : wd D tc base u' H) (hS : va_S (frA base) s.heap H locs) (h1 : cells ≤ mc) (h2 : slots ≤ ms) (hdg : decode cc pc = .ok (.lreturn, 1)) (hp : post z u') :
    W p l e R s m args below meth c H locs cells slots (MQ below (QL D tc base post) args s mc ms (frA base)) (F0 m pc ls [.long (jL z)]) := by
  refine W.widen (k := mc) (n := ms) h1 h2 ?_
  exact W.lret (v := jL z) hx hb hr (fun t ht hW => ⟨⟨jL z, u', rfl, ⟨z, rfl, hp⟩, by show wd D tc base u' t.heap; rw [ht]; exact hw⟩, hS.F ht⟩) hS.2.2 hdg
theorem ret_v {post : St → Prop} (hx : p.tables.exec = Jvm.exec) (hb : c.code = cc) (hr : meth.sig.returnType = none) (hlocks : meth.locks = false) (hw : wd D tc base u' H) (hS : va_S (frA base) s.heap H locs) (h1 : cells ≤ mc) (h2 : slots ≤ ms) (hdg : decode cc pc = .ok (.return_, 1)) (hp : post u') :
    W p l e R s m args below meth c H locs cells slots (MQ below (QV D tc base post) args s mc ms (frA base)) (F0 m pc ls []) := by
  refine W.widen (k := mc) (n := ms) h1 h2 ?_
  exact W.vret hx hb hr (fun t ht hW => ⟨⟨u', rfl, hp, by show wd D tc base u' t.heap; rw [ht]; exact hw⟩, hS.F ht⟩) hS.2.2 hdg
theorem ret_r {post : Option Int → St → Prop} {rt : String} (hx : p.tables.exec = Jvm.exec) (hb : c.code = cc) (hr : meth.sig.returnType = some (.object rt)) (hlocks : meth.locks = false) (hw : wd D tc base u' H) (hS : va_S (frA base) s.heap H locs) (h1 : cells ≤ mc) (h2 : slots ≤ ms) (hdg : decode cc pc = .ok (.areturn, 1)) (hp : post (some i) u') :
    W p l e R s m args below meth c H locs cells slots (MQ below (QR D tc base k post) args s mc ms (frA base)) (F0 m pc ls [.ref (u'.1 k i)]) := by
  refine W.widen (k := mc) (n := ms) h1 h2 ?_
  exact W.aret (v := .ref (u'.1 k i)) hx hb hr (Or.inl ⟨_, rfl⟩) (Or.inr ⟨_, rfl⟩) (fun t ht hW => ⟨⟨some (u'.1 k i), u', rfl, ⟨some i, rfl, hp⟩, by show wd D tc base u' t.heap; rw [ht]; exact hw⟩, hS.F ht⟩) hS.2.2 hdg
theorem ret_n {post : Option Int → St → Prop} {rt : String} (hx : p.tables.exec = Jvm.exec) (hb : c.code = cc) (hr : meth.sig.returnType = some (.object rt)) (hlocks : meth.locks = false) (hw : wd D tc base u' H) (hS : va_S (frA base) s.heap H locs) (h1 : cells ≤ mc) (h2 : slots ≤ ms) (hdg : decode cc pc = .ok (.areturn, 1)) (hp : post none u') :
    W p l e R s m args below meth c H locs cells slots (MQ below (QR D tc base k post) args s mc ms (frA base)) (F0 m pc ls [.null]) := by
  refine W.widen (k := mc) (n := ms) h1 h2 ?_
  exact W.aret (v := .null) hx hb hr (Or.inl ⟨_, rfl⟩) (Or.inl rfl) (fun t ht hW => ⟨⟨none, u', rfl, ⟨none, rfl, hp⟩, by show wd D tc base u' t.heap; rw [ht]; exact hw⟩, hS.F ht⟩) hS.2.2 hdg
theorem rcv {c1 t1 : Nat} (hK : Kx D tc s) (hw : wd D tc base (ad, cnt, X, Y, ln) H) (h0 : 0 ≤ i) (h1 : i < cnt k) (hs : SL k j ci c1 t1 N) {q : vw_C} (hc : vwCl[ci]? = some q) : ∃ cell : Cell, H[ad k i]? = some cell ∧ cell.vm.isStatics = false ∧ s.vm.findClass q.1 = some cell.cls := by
  obtain ⟨wl, q0, hP, hD, hq, -, -⟩ := wd_pos hw h0 h1
  rw [ob_E hs] at hq
  exact va_recv hK.1 hP hc hq
/-- how a call goes on, by what it answers -/
theorem gos_i {post : Int → St → Prop} {av : Array Value} (hr : va_Run p l e R s m args below meth c H locs cells slots mc ms (F0 m pc ls st0) rest (QI D tc base post av) (frA base)) (hS : va_S (frA base) H0 H locs)
    (kk : ∀ (z : Int) (u' : St) (H1 : Heap) (locs1 : List Loc), post z u' → wd D tc base u' H1 → va_S (frA base) H0 H1 locs1 → W p l e R s m args below meth c H1 locs1 (cells + mc) (slots + ms) Q (F0 m (pc + 3) ls (.int (jI z) :: rest))) : W p l e R s m args below meth c H locs cells slots Q (F0 m pc ls st0) := by
  refine va_calli hr hS (fun q _ h => h) (fun q h => h) (fun r u1 t H1 locs1 ht hvm hp hB _ _ hS1 => ?_)
  obtain ⟨z, rfl, hp⟩ := hp
  rw [ht] at hB
  exact kk z u1 H1 locs1 hp hB hS1
theorem gos_l {post : Int → St → Prop} {av : Array Value} (hr : va_Run p l e R s m args below meth c H locs cells slots mc ms (F0 m pc ls st0) rest (QL D tc base post av) (frA base)) (hS : va_S (frA base) H0 H locs)
    (kk : ∀ (z : Int) (u' : St) (H1 : Heap) (locs1 : List Loc), post z u' → wd D tc base u' H1 → va_S (frA base) H0 H1 locs1 → W p l e R s m args below meth c H1 locs1 (cells + mc) (slots + ms) Q (F0 m (pc + 3) ls (.long (jL z) :: rest))) : W p l e R s m args below meth c H locs cells slots Q (F0 m pc ls st0) := by
  refine va_calll hr hS (fun q _ h => h) (fun q h => h) (fun r u1 t H1 locs1 ht hvm hp hB _ _ hS1 => ?_)
  obtain ⟨z, rfl, hp⟩ := hp
  rw [ht] at hB
  exact kk z u1 H1 locs1 hp hB hS1
theorem gos_v {post : St → Prop} {av : Array Value} (hr : va_Run p l e R s m args below meth c H locs cells slots mc ms (F0 m pc ls st0) rest (QV D tc base post av) (frA base)) (hS : va_S (frA base) H0 H locs)
    (kk : ∀ (u' : St) (H1 : Heap) (locs1 : List Loc), post u' → wd D tc base u' H1 → va_S (frA base) H0 H1 locs1 → W p l e R s m args below meth c H1 locs1 (cells + mc) (slots + ms) Q (F0 m (pc + 3) ls rest)) : W p l e R s m args below meth c H locs cells slots Q (F0 m pc ls st0) := by
  refine va_callv hr hS (fun q _ h => h) (fun q h => h) (fun u1 t H1 locs1 ht hvm hp hB _ _ hS1 => ?_)
  rw [ht] at hB
  exact kk u1 H1 locs1 hp hB hS1
theorem gos_r {post : Option Int → St → Prop} {av : Array Value} (hr : va_Run p l e R s m args below meth c H locs cells slots mc ms (F0 m pc ls st0) rest (QR D tc base k post av) (frA base)) (hS : va_S (frA base) H0 H locs)
    (kn : ∀ (u' : St) (H1 : Heap) (locs1 : List Loc), post none u' → wd D tc base u' H1 → va_S (frA base) H0 H1 locs1 → W p l e R s m args below meth c H1 locs1 (cells + mc) (slots + ms) Q (F0 m (pc + 3) ls (.null :: rest)))
    (kk : ∀ (i : Int) (u' : St) (H1 : Heap) (locs1 : List Loc), post (some i) u' → wd D tc base u' H1 → va_S (frA base) H0 H1 locs1 → W p l e R s m args below meth c H1 locs1 (cells + mc) (slots + ms) Q (F0 m (pc + 3) ls (.ref (u'.1 k i) :: rest))) : W p l e R s m args below meth c H locs cells slots Q (F0 m pc ls st0) := by
  refine va_callq hr hS (fun q _ h => h) (fun q h => h) (fun r u1 t H1 locs1 ht hvm hp hB _ _ hS1 => ?_)
  obtain ⟨o, rfl, hp⟩ := hp
  rw [ht] at hB
  cases o with
  | none => exact kn u1 H1 locs1 hp hB hS1
  | some i => exact kk i u1 H1 locs1 hp hB hS1
/-- a call of an object's method -/
theorem run_V {Qc : Array Value → State → Outcome → State → Prop} {c1 t1 : Nat} {q : vw_C} (hx : p.tables.exec = Jvm.exec) (hb : c.code = cc) (hml : c.maxLocals = nL) (hown : s.vm.findClass own = some m.cls) (hts : ∀ w ∈ Ts, w.before args s = true) (hM : Met l y ws rm (PcW D tc base (ad, cnt, X, Y, ln) (.ref (ad k i) :: As)) Qc mc ms (frA base)) (cw : CallW R s args own q.1 index y bytes maxL ret ws rm mc ms n)
    (hK : Kx D tc s) (hw : wd D tc base (ad, cnt, X, Y, ln) H) (h0 : 0 ≤ i) (h1 : i < cnt k) (hs : SL k j ci c1 t1 N) (hc : vwCl[ci]? = some q) (hn : As.length = n) (hl : ls.size = nL) (hstack : st0 = As.reverse ++ .ref (ad k i) :: rest) (hrm : (rest.map fun v => v.category).sum ≤ 8) (hdg : decode cc pc = .ok (.invokevirtual index, 3)) (hf : cells + mc ≤ R.cells ∧ slots + ms ≤ R.slots) :
    va_Run p l e R s m args below meth c H locs cells slots mc ms (F0 m pc ls st0) rest (Qc (Value.ref (ad k i) :: As).toArray) (frA base) :=
  va_runV ⟨hx, hb, hml, hown, hts⟩ hM cw ⟨PcW.blind, rcv hK hw h0 h1 hs hc, fun U hU hW => ⟨rfl, by rw [hU]; exact hw, hK.warm hW⟩⟩ rfl hn hl hstack (lv_room hrm) hdg hf
theorem run_S {Qc : Array Value → State → Outcome → State → Prop} (hx : p.tables.exec = Jvm.exec) (hb : c.code = cc) (hml : c.maxLocals = nL) (hown : s.vm.findClass own = some m.cls) (hts : ∀ w ∈ Ts, w.before args s = true) (hM : Met l y ws rm (PcW D tc base u As) Qc mc ms (frA base)) (cw : CallB R s args own index y bytes maxL ret ws rm mc ms n ∧ (Cond.static y).before args s = true)
    (hK : Kx D tc s) (hw : wd D tc base u H) (hn : As.length = n) (hl : ls.size = nL) (hstack : st0 = As.reverse ++ rest) (hrm : (rest.map fun v => v.category).sum ≤ 8) (hdg : decode cc pc = .ok (.invokestatic index, 3)) (hf : cells + mc ≤ R.cells ∧ slots + ms ≤ R.slots) :
    va_Run p l e R s m args below meth c H locs cells slots mc ms (F0 m pc ls st0) rest (Qc As.toArray) (frA base) :=
  va_runS ⟨hx, hb, hml, hown, hts⟩ hM cw ⟨PcW.blind, fun U hU hW => ⟨rfl, by rw [hU]; exact hw, hK.warm hW⟩⟩ rfl hn hl hstack (lv_room hrm) hdg hf
theorem run_SN {Qc : Array Value → State → Outcome → State → Prop} (hx : p.tables.exec = Jvm.exec) (hb : c.code = cc) (hml : c.maxLocals = nL) (hown : s.vm.findClass own = some m.cls) (hts : ∀ w ∈ Ts, w.before args s = true) (hM : Met l y ws rm (PcW D tc base u As) Qc mc ms (frA base)) (cw : va_CN R s args own index y host bytes maxL ret ws rm mc ms n ∧ (Cond.static y).before args s = true ∧ True)
    (hK : Kx D tc s) (hw : wd D tc base u H) (hn : As.length = n) (hl : ls.size = nL) (hstack : st0 = As.reverse ++ rest) (hrm : (rest.map fun v => v.category).sum ≤ 8) (hdg : decode cc pc = .ok (.invokestatic index, 3)) (hf : cells + mc ≤ R.cells ∧ slots + ms ≤ R.slots) :
    va_Run p l e R s m args below meth c H locs cells slots mc ms (F0 m pc ls st0) rest (Qc As.toArray) (frA base) :=
  va_runSN ⟨hx, hb, hml, hown, hts⟩ hM cw ⟨PcW.blind, fun U hU hW => ⟨rfl, by rw [hU]; exact hw, hK.warm hW⟩⟩ rfl hn hl hstack (lv_room hrm) hdg hf
end XC
/-! the ranges: printed by wip/tools/walk.py -/
def rgL : List (List (Int × Int)) := [[((-9223372036854775808), 9223372036854775807), (0, 8), ((-9223372036854775808), 9223372036854775807), (0, 30), ((-9223372036854775808), 9223372036854775807), ((-9223372036854775808), 9223372036854775807), ((-9223372036854775808), 9223372036854775807), ((-9223372036854775808), 9223372036854775807), ((-9223372036854775808), 9223372036854775807), ((-9223372036854775808), 9223372036854775807), ((-9223372036854775808), 9223372036854775807), ((-9223372036854775808), 9223372036854775807)],
  [((-9223372036854775808), 9223372036854775807)],
  [((-9223372036854775808), 9223372036854775807)],
  [(0, 1)],
  [((-9223372036854775808), 9223372036854775807)],
  [((-9223372036854775808), 9223372036854775807)],
  [((-9223372036854775808), 9223372036854775807)],
  [(0, 30), ((-9223372036854775808), 9223372036854775807), ((-9223372036854775808), 9223372036854775807), ((-9223372036854775808), 9223372036854775807), ((-9223372036854775808), 9223372036854775807), ((-9223372036854775808), 9223372036854775807), (0, 150), ((-9223372036854775808), 9223372036854775807), ((-9223372036854775808), 9223372036854775807)],
  [(0, 7)],
  [(0, 5)],
  [(0, 19)],
  [(0, 5)],
  [((-9223372036854775808), 9223372036854775807)],
  [(0, 12)],
  [((-9223372036854775808), 9223372036854775807)],
  [((-9223372036854775808), 9223372036854775807), ((-9223372036854775808), 9223372036854775807), ((-9223372036854775808), 9223372036854775807), ((-1), 29)],
  [((-9223372036854775808), 9223372036854775807)],
  [((-9223372036854775808), 9223372036854775807)],
  [],
  [(0, 7), (0, 5), ((-9223372036854775808), 9223372036854775807), ((-9223372036854775808), 9223372036854775807), ((-9223372036854775808), 9223372036854775807), ((-9223372036854775808), 9223372036854775807), (0, 4), ((-9223372036854775808), 9223372036854775807)],
  [(0, 19)],
  [(0, 5)],
  [((-9223372036854775808), 9223372036854775807)],
  [(0, 1)],
  [((-9223372036854775808), 9223372036854775807)],
  [(0, 5), (0, 4), (0, 4), ((-9223372036854775808), 9223372036854775807)],
  [((-9223372036854775808), 9223372036854775807), ((-1), 149)],
  [((-9223372036854775808), 9223372036854775807)],
  [((-9223372036854775808), 9223372036854775807), (0, 11), ((-9223372036854775808), 9223372036854775807), ((-9223372036854775808), 9223372036854775807)],
  [((-9223372036854775808), 9223372036854775807), (0, 80), ((-9223372036854775808), 9223372036854775807), (0, 4)],
  [((-9223372036854775808), 9223372036854775807)],
  [(0, 80)],
  [(0, 1), ((-2147483648), 2147483647), ((-2147483648), 2147483647), ((-2147483648), 2147483647)],
  [],
  [],
  [],
  [],
  [],
  [],
  [],
  [((-2147483648), 2147483647), ((-9223372036854775808), 9223372036854775807), (0, 8), ((-9223372036854775808), 9223372036854775807), ((-9223372036854775808), 9223372036854775807), ((-9223372036854775808), 9223372036854775807), ((-9223372036854775808), 9223372036854775807), ((-9223372036854775808), 9223372036854775807), ((-9223372036854775808), 9223372036854775807), ((-9223372036854775808), 9223372036854775807), ((-9223372036854775808), 9223372036854775807), ((-9223372036854775808), 9223372036854775807), ((-9223372036854775808), 9223372036854775807), (0, 30), ((-9223372036854775808), 9223372036854775807), ((-9223372036854775808), 9223372036854775807), ((-9223372036854775808), 9223372036854775807), ((-9223372036854775808), 9223372036854775807), ((-9223372036854775808), 9223372036854775807), ((-9223372036854775808), 9223372036854775807), (0, 4), ((-9223372036854775808), 9223372036854775807), (0, 80), ((-9223372036854775808), 9223372036854775807), ((-9223372036854775808), 9223372036854775807), ((-9223372036854775808), 9223372036854775807), ((-9223372036854775808), 9223372036854775807), ((-9223372036854775808), 9223372036854775807), (0, 3), ((-9223372036854775808), 9223372036854775807), ((-9223372036854775808), 9223372036854775807), ((-9223372036854775808), 9223372036854775807), ((-9223372036854775808), 9223372036854775807), ((-9223372036854775808), 9223372036854775807), ((-9223372036854775808), 9223372036854775807), ((-9223372036854775808), 9223372036854775807), ((-9223372036854775808), 9223372036854775807), ((-9223372036854775808), 9223372036854775807), ((-9223372036854775808), 9223372036854775807), ((-9223372036854775808), 9223372036854775807), ((-9223372036854775808), 9223372036854775807), ((-2147483648), 2147483647), ((-2147483648), 2147483647), ((-2147483648), 2147483647), ((-9223372036854775808), 9223372036854775807), ((-9223372036854775808), 9223372036854775807), ((-9223372036854775808), 9223372036854775807), ((-9223372036854775808), 9223372036854775807), ((-9223372036854775808), 9223372036854775807), ((-9223372036854775808), 9223372036854775807), (0, 30)],
  [],
  [(0, 1)],
  [],
  [(0, 5)],
  [(0, 19)],
  [(0, 5)],
  [((-9223372036854775808), 9223372036854775807)],
  [(0, 1)],
  [(0, 4)],
  [(0, 5)],
  [(0, 4)],
  [(0, 4)],
  [((-9223372036854775808), 9223372036854775807)],
  [],
  [(0, 7)],
  [((-9223372036854775808), 9223372036854775807)],
  [(0, 5)],
  [(0, 12)],
  [((-9223372036854775808), 9223372036854775807)],
  [(0, 1)],
  [],
  [(0, 80)],
  [],
  [(0, 29)],
  [(0, 4)],
  [((-1), 399)],
  [((-1), 11)],
  [((-9223372036854775808), 9223372036854775807)],
  [],
  [(0, 30)],
  [(0, 7)],
  [(0, 5)],
  [(0, 19)],
  [(0, 5)],
  [((-9223372036854775808), 9223372036854775807)],
  [(0, 150)],
  [(0, 5)],
  [(0, 12)],
  [((-9223372036854775808), 9223372036854775807)],
  [(0, 29)],
  [(0, 399)],
  [],
  [],
  [],
  [((-1), 399)],
  [((-1), 29)],
  [((-1), 29)],
  [((-1), 399)],
  [((-1), 399)],
  [(0, 29)],
  [],
  [],
  [],
  [],
  [],
  [],
  [],
  [],
  [],
  [((-9223372036854775808), 9223372036854775807)]]
def rg (k : Nat) (j : Int) : Int × Int := (rgL.getD k []).getD (if (rgL.getD k []).length = 1 then 0 else j.toNat) (-9223372036854775808, 9223372036854775807)
def Rng (X : Nat → Int → Int → Int) : Prop := ∀ (k : Nat) (i j : Int), (rg k j).1 ≤ X k i j ∧ X k i j ≤ (rg k j).2
theorem rng_set {X : Nat → Int → Int → Int} {k : Nat} {i j v : Int} (h : Rng X) (hv : (rg k j).1 ≤ v ∧ v ≤ (rg k j).2) : Rng (u3 X k i j v) := by
  intro k2 i2 j2
  simp only [u3]
  split
  · rename_i hc
    obtain ⟨rfl, rfl, rfl⟩ := hc
    exact hv
  · exact h k2 i2 j2
def fcode (k : Nat) (j : Int) : Nat := if (lay k).1 = 0 then k * 100 else k * 100 + 1 + j.toNat
def Frm {α : Type} (M : List Nat) (X X1 : Nat → Int → Int → α) : Prop := ∀ (k : Nat) (i j : Int), fcode k j ∉ M → X1 k i j = X k i j
theorem Frm.rf {α : Type} {M : List Nat} {X : Nat → Int → Int → α} : Frm M X X := fun _ _ _ _ => rfl
theorem Frm.tr {α : Type} {M : List Nat} {X X1 X2 : Nat → Int → Int → α} (h : Frm M X X1) (g : Frm M X1 X2) : Frm M X X2 := fun k i j n => (g k i j n).trans (h k i j n)
theorem Frm.set {α : Type} {M : List Nat} {X X1 : Nat → Int → Int → α} {k : Nat} {i j : Int} {v : α} (h : Frm M X X1) (hm : fcode k j ∈ M) : Frm M X (u3 X1 k i j v) := by
  intro k2 i2 j2 hn
  simp only [u3]
  split
  · rename_i hc
    obtain ⟨rfl, rfl, rfl⟩ := hc
    exact absurd hm hn
  · exact h k2 i2 j2 hn
theorem Frm.mono {α : Type} {M M1 : List Nat} {X X1 : Nat → Int → Int → α} (h : Frm M X X1) (hs : ∀ c ∈ M, c ∈ M1) : Frm M1 X X1 := fun k i j n => h k i j (fun q => n (hs _ q))

