/-! throwing and catching -/
section Rows2
variable {p : Program} {l : Launch} {e : Env} {R : Room} {s : State} {m : MethodId} {args : Array Value} {below : List Frame} {meth : Method} {c : Code} {H : Heap} {locs : List Loc} {cells slots : Nat} {Q : State → Prop}
variable {mc ms : Nat} {free : Addr → Prop} {A0 A1 : Nat → Prop} {H0 : Heap} {a : Array Value} {pc : Nat} {ls : Array Slot} {st0 rest : List Value}
/-- caught by the row x of this method's table; the rows ahead don't take it -/
theorem vx_catch {own name : String} {E : String} {ce : Cell} {q : Addr} (hown : s.vm.findClass own = some m.cls) (pre : List ExceptionTableEntry) (x : ExceptionTableEntry) (suf : List ExceptionTableEntry) (hsplit : c.exceptionTable.toList = pre ++ x :: suf)
    (hpass : ∀ z ∈ pre, covers z pc = false ∨ (z.catchType ≠ 0 ∧ ∃ nm : String, (Cond.classLink own z.catchType nm).before args s = true ∧ va_Nc E nm s)) (hx : covers x pc = true) (h0 : x.catchType ≠ 0)
    (hlink : (Cond.classLink own x.catchType name).before args s = true) (hcast : (Cond.castable E name).before args s = true) (hcell : H[q]? = some ce) (hv : ce.vm = .none) (hcl : s.vm.findClass E = some ce.cls)
    (kk : W p l e R s m args below meth c H locs cells slots Q (F0 m x.handlerPc ls [.ref q])) : vx_W p l e R s m args below meth c H locs cells slots Q (F0 m pc ls rest) q := by
  intro T hT X
  have hpl : e.platform.magicAccessors = ({} : Platform).magicAccessors := by rw [X.admits.platform]
  obtain ⟨c3, c4, hc3, hc4, hasg⟩ := Cond.castable_spec hcast
  cases Option.some.inj (hc3.symm.trans hcl)
  obtain ⟨c5, hc5, hcl5⟩ := Cond.classLink_spec hown hlink e.platform hpl
  cases Option.some.inj (hc4.symm.trans hc5)
  obtain ⟨vm', X', st⟩ := X.thenCaughtThrough q (g := F0 m pc ls rest) rfl (Steps.refl _) (by rw [hT]; exact hcell) (by rw [hv]; rfl) (by obtain ⟨k9, h9, -⟩ := Vm.findClass_spec hcl; exact ⟨k9, h9⟩) pre x suf hsplit
    (fun z hz => by
      rcases hpass z hz with h | ⟨hz0, nm, hl1, hn1⟩
      · exact Or.inl h
      · obtain ⟨c6, hc6, hcl6⟩ := Cond.classLink_spec hown hl1 e.platform hpl
        obtain ⟨a8, b8, h1, h2, h3⟩ := hn1
        cases Option.some.inj (h1.symm.trans hcl)
        cases Option.some.inj (h2.symm.trans hc6)
        exact Or.inr ⟨hz0, _, hcl6, h3⟩) hx (Or.inr ⟨h0, c4, hcl5, hasg⟩)
  obtain ⟨t, a1, b1⟩ := kk (T.setVm vm') hT X'
  exact ⟨t, st.trans a1, b1⟩
end Rows2
/-- what a throw stands on -/
def dI1 : MethodName := ⟨"java/lang/RuntimeException", "<init>", "(Ljava/lang/String;)V"⟩
def dI2 : MethodName := ⟨"java/lang/Exception", "<init>", "(Ljava/lang/String;)V"⟩
def dI3 : MethodName := ⟨"java/lang/Throwable", "<init>", "(Ljava/lang/String;)V"⟩
abbrev eA : String := "java/lang/IllegalArgumentException"
abbrev eI : String := "java/lang/IndexOutOfBoundsException"
abbrev eS : String := "java/lang/IllegalStateException"
abbrev eNs : List String := ["java/lang/RuntimeException", "java/lang/Exception"]
def TS (U : State) : Prop := (∃ a, vk_R RX8 183 "no such thing" a U) ∧ (∃ a, vk_R RX8 190 "no such field" a U) ∧ (∃ a, vk_R RX8 198 "no lane of rows" a U) ∧ (∃ a, vk_R RX8 201 "no row" a U) ∧ (∃ a, vk_R RX8 203 "no such item" a U)
def TD (U : State) : Prop := va_Nw (.declares dI1) U ∧ va_Nw (.declares dI2) U ∧ va_Nw (.declares dI3) U
def TC (U : State) : Prop := va_Nw (.castable eA eA) U ∧ va_Nw (.castable eI eI) U ∧ va_Nw (.castable eS eS) U
def TN (U : State) : Prop := va_Nc eI eA U ∧ va_Nc eS eA U ∧ va_Nc eI eS U
def TZ (base : Nat) (U : State) (H : Heap) : Prop := vx_Zq Bundle.tN "UNASSIGNED_STACK" Bundle.steD (frA base) U H ∧ vx_Zq Bundle.tN "SUPPRESSED_SENTINEL" Bundle.listD (frA base) U H
def TK (base : Nat) (U : State) (H : Heap) : Prop := TS U ∧ TD U ∧ TC U ∧ TN U ∧ TZ base U H
theorem TK.go {base : Nat} {s U : State} {H0 H : Heap} {locs : List Loc} (h : TK base s H0) (hS : va_S (frA base) H0 H locs) (hW : s.WarmedH U.vm) : TK base U H := by
  obtain ⟨⟨⟨a1, h1⟩, ⟨a2, h2⟩, ⟨a3, h3⟩, ⟨a4, h4⟩, ⟨a5, h5⟩⟩, ⟨d1, d2, d3⟩, ⟨c1, c2, c3⟩, ⟨n1, n2, n3⟩, z1, z2⟩ := h
  exact ⟨⟨⟨a1, vk_R.warm hW h1⟩, ⟨a2, vk_R.warm hW h2⟩, ⟨a3, vk_R.warm hW h3⟩, ⟨a4, vk_R.warm hW h4⟩, ⟨a5, vk_R.warm hW h5⟩⟩, ⟨va_Nw.warmD hW d1, va_Nw.warmD hW d2, va_Nw.warmD hW d3⟩, ⟨va_Nw.warmC hW c1, va_Nw.warmC hW c2, va_Nw.warmC hW c3⟩, ⟨va_Nc.moved hW.alike n1, va_Nc.moved hW.alike n2, va_Nc.moved hW.alike n3⟩, vx_Zq.moved hW.alike (z1.kept hS.2.1), vx_Zq.moved hW.alike (z2.kept hS.2.1)⟩
theorem TK.call {base : Nat} {U : State} {H : Heap} {g : JFrame} {mk : MethodId} {a : Array Value} (h : TK base U H) : TK base (U.calling g mk a) H := by
  obtain ⟨⟨⟨a1, h1⟩, ⟨a2, h2⟩, ⟨a3, h3⟩, ⟨a4, h4⟩, ⟨a5, h5⟩⟩, ⟨d1, d2, d3⟩, ⟨c1, c2, c3⟩, ⟨n1, n2, n3⟩, z1, z2⟩ := h
  exact ⟨⟨⟨a1, vk_R.same rfl h1⟩, ⟨a2, vk_R.same rfl h2⟩, ⟨a3, vk_R.same rfl h3⟩, ⟨a4, vk_R.same rfl h4⟩, ⟨a5, vk_R.same rfl h5⟩⟩, ⟨va_Nw.same rfl rfl d1, va_Nw.same rfl rfl d2, va_Nw.same rfl rfl d3⟩, ⟨va_Nw.same rfl rfl c1, va_Nw.same rfl rfl c2, va_Nw.same rfl rfl c3⟩, ⟨va_Nc.moved (u := U) (U := U.calling g mk a) (Vm.Alike.refl U.vm) n1, va_Nc.moved (u := U) (U := U.calling g mk a) (Vm.Alike.refl U.vm) n2, va_Nc.moved (u := U) (U := U.calling g mk a) (Vm.Alike.refl U.vm) n3⟩, vx_Zq.moved (u := U) (U := U.calling g mk a) (Vm.Alike.refl U.vm) z1, vx_Zq.moved (u := U) (U := U.calling g mk a) (Vm.Alike.refl U.vm) z2⟩
def PcT (D : va_G) (tc : Nat → ClassId) (base : Nat) (u : St) (av : List Value) : Array Value → State → Prop := va_Pc av (fun U => wd D tc base u U.heap ∧ Kx D tc U ∧ TK base U U.heap)
theorem PcT.blind {D : va_G} {tc : Nat → ClassId} {base : Nat} {u : St} {av : List Value} : FrameBlind (PcT D tc base u av) := fun a U g mk q => ⟨q.1, q.2.1, q.2.2.1.call, q.2.2.2.call⟩
def XT (D : va_G) (tc : Nat → ClassId) (base : Nat) (u : St) (Es : String → Prop) : String → State → State → Prop := vx_X (fun (_ : Unit) => True) (fun E _ t => Es E ∧ wd D tc base u t.heap) (frA base)
def KT (l : Launch) (D : va_G) (tc : Nat → ClassId) (base : Nat) (y : MethodName) (ws : List Cond) (rm : Room) (av : List Value) (u : St) (mc ms : Nat) (post : Int → St → Prop) (Es : String → Prop) : Prop := vx_Met l y ws rm (PcT D tc base u av) (QL D tc base post) (XT D tc base u Es) mc ms (frA base)
theorem KT_of {l : Launch} {D : va_G} {tc : Nat → ClassId} {base : Nat} {y : MethodName} {ws ws' : List Cond} {rm : Room} {av : List Value} {u : St} {mc ms : Nat} {Qc : Array Value → State → Outcome → State → Prop} {XC : String → State → State → Prop} {cc : ByteArray} {maxL : Nat} {ret : Option FieldType}
    (hy : plainName y.cls = true) (hw : ws = Cond.code y cc maxL ret :: ws') (hsl : (lg_sl av).length ≤ maxL)
    (body : ∀ (p : Program) (e : Env) (s : State) (m : MethodId) (below : List Frame) (meth : Method) (c : Code) (ls : Array Slot), p.tables.exec = Jvm.exec → c.code = cc → meth.sig.returnType = ret → c.maxLocals = maxL → s.vm.findClass y.cls = some m.cls → (∀ w ∈ ws, w.before av.toArray s = true) → meth.locks = false → (∀ x ∈ c.exceptionTable.toList, False) → lv_has ls maxL (lv_args 0 av) → Kx D tc s → TK base s s.heap → wd D tc base u s.heap → va_S (frA base) s.heap s.heap [] →
      W p l e rm s m av.toArray below meth c s.heap [] 0 0 (vx_MQ below Qc XC av.toArray s mc ms (frA base)) (F0 m 0 ls [])) : vx_Met l y ws rm (PcT D tc base u av) Qc XC mc ms (frA base) := by
  refine vx_ofW (cc := cc) (maxL := maxL) (ret := ret) hy hw ?_
  intro p e s m args below meth c s₁ B hml hex hv
  obtain ⟨rfl, hW, hK, hT⟩ := hv
  have hl := lv_entry av (n := maxL) hsl
  rw [lg_entry_eq]
  exact body p e s m below meth c _ B.exec B.bytes B.returns hml (findClass_of_methodNamed B.named) (atoms_spec (ws := ws) B.pre) B.notSynchronized hex hl hK hT hW va_S.rf
theorem wd_kept {D : va_G} {tc : Nat → ClassId} {base : Nat} {u : St} {H H1 : Heap} (h : wd D tc base u H) (hz : H.size ≤ H1.size) (hq : ∀ q : Nat, q < H.size → H1[q]? = H[q]?) : wd D tc base u H1 := by
  obtain ⟨⟨RL, h1, h2, h3⟩, h4, h5⟩ := h
  exact ⟨⟨RL, h1, h2.kept (fun k q hk => hq _ (h2 k q hk).lt), h3⟩, h4, Nat.le_trans h5 hz⟩
/-- the throw of a new exception with a text -/
theorem t_throw {p : Program} {l : Launch} {e : Env} {R : Room} {s : State} {m : MethodId} {args : Array Value} {below : List Frame} {meth : Method} {c : Code} {H : Heap} {locs : List Loc} {cells slots : Nat} {ls : Array Slot} {rest : List Value} {Qc : Array Value → State → Outcome → State → Prop} {D : va_G} {tc : Nat → ClassId} {base : Nat} {u : St} {Es : String → Prop}
    {cc : ByteArray} {pc : Nat} (hx : p.tables.exec = Jvm.exec) (hb : c.code = cc) (hl : l.stackTraces = false) {cls text : String} {ik is ic mc ms sa : Nat} (hown : s.vm.findClass RX8 = some m.cls) (hcls : Bundle.fit cls = true)
    (hk : (Cond.classLink RX8 ik cls).before args s = true) (hini : (Cond.initialized cls).before args s = true) (hstr : vk_R RX8 is text sa s) (hat : ∀ w ∈ (vx_atS RX8 ic cls eNs).filter goodWord, w.before args s = true)
    (hb2 : ∀ w ∈ (vx_atS RX8 ic cls eNs).filter (fun w => !goodWord w), w ∈ [Cond.declares dI1, Cond.declares dI2, Cond.declares dI3, Cond.castable cls cls]) (hcc : va_Nw (.castable cls cls) s) (hT : TK base s s.heap)
    (hgood : ∀ w ∈ Cond.classLink RX8 ik cls :: Cond.initialized cls :: vx_atS RX8 ic cls eNs, vx_ot w = true)
    (hw : wd D tc base u H) (hS : va_S (frA base) s.heap H locs) (hsize : ls.size = c.maxLocals)
    (d0 : decode cc pc = .ok (.new ik, 3)) (d3 : decode cc (pc + 3) = .ok (.dup, 1)) (d4 : decode cc (pc + 4) = .ok (.ldc is, 2)) (d6 : decode cc (pc + 6) = .ok (.invokespecial ic, 3)) (d9 : decode cc (pc + 9) = .ok (.athrow, 1))
    (hout : ∀ x ∈ c.exceptionTable.toList, False) (hRframes : 5 < R.frames) (hRlocals : (rest.map fun v => v.category).sum + 82 ≤ R.locals) (hRcells : cells + 1 ≤ R.cells) (hRslots : slots + 6 ≤ R.slots) (hlocks : meth.locks = false) (hm : Es cls) (hc : cells + 1 ≤ mc) (hs : slots + 6 ≤ ms) :
    W p l e R s m args below meth c H locs cells slots (vx_MQ below Qc (XT D tc base u Es) args s mc ms (frA base)) (F0 m pc ls rest) := by
  obtain ⟨hTS, ⟨hd1, hd2, hd3⟩, hTC, hTN, hz1, hz2⟩ := hT
  refine vx_throwS hx hb hl hown hcls (by decide +kernel) hk hini hstr (vx_hat hat hb2 (vx_c (va_Nw.use rfl hd1) (vx_c (va_Nw.use rfl hd2) (vx_c (va_Nw.use rfl hd3) (vx_c (va_Nw.use rfl hcc) vx_n))))) hgood hz1 hz2 hS hsize d0 d3 d4 d6 d9 (fun x hx => (hout x hx).elim) hRframes hRlocals hRcells hRslots hlocks ?_ hS.2.2 hc hs
  intro t ht h1 h2
  refine ⟨(), trivial, ⟨hm, wd_kept hw h1 h2⟩, ?_⟩
  exact ⟨Nat.le_trans hS.1 h1, fun q hq hA => (h2 q (Nat.lt_of_lt_of_le hq hS.1)).trans (hS.2.1 q hq hA)⟩
/-! what at and itemAt answer -/
section AtS
variable {X : Nat → Int → Int → Int} {Y : Nat → Int → Int → Option Int} {ln : Int → Int} {x k i z r q : Int}
def tHas (X : Nat → Int → Int → Int) (x : Int) : Prop := 0 ≤ x ∧ x < X 0 0 3
def tFld (X : Nat → Int → Int → Int) (Y : Nat → Int → Int → Option Int) (x k : Int) : Prop := 0 ≤ k ∧ k < X 19 (tyo (Y 15 x 0)) 1
def tRow (X : Nat → Int → Int → Int) (Y : Nat → Int → Int → Option Int) (x k : Int) : Prop := 3 ≤ X 21 (tyo (Y 15 x 0)) k
def atE (X : Nat → Int → Int → Int) (Y : Nat → Int → Int → Option Int) (x k : Int) (E : String) : Prop := (E = eA ∧ ¬ tHas X x) ∨ (E = eI ∧ tHas X x ∧ ¬ tFld X Y x k)
def atV (X : Nat → Int → Int → Int) (Y : Nat → Int → Int → Option Int) (ln : Int → Int) (x k z : Int) : Prop := tHas X x ∧ tFld X Y x k ∧ ((¬ tRow X Y x k ∧ z = X 16 x k) ∨ (tRow X Y x k ∧ Y 17 x k = none ∧ z = -1) ∨ (tRow X Y x k ∧ ∃ g, Y 17 x k = some g ∧ z = ln g))
def iaE (X : Nat → Int → Int → Int) (Y : Nat → Int → Int → Option Int) (ln : Int → Int) (x k i : Int) (E : String) : Prop := (E = eA ∧ ¬ tHas X x) ∨ (E = eI ∧ ((tHas X x ∧ ¬ tFld X Y x k) ∨ (tHas X x ∧ tFld X Y x k ∧ tRow X Y x k ∧ ∃ g, Y 17 x k = some g ∧ ¬ (0 ≤ i ∧ i < ln g)))) ∨ (E = eS ∧ tHas X x ∧ tFld X Y x k ∧ (¬ tRow X Y x k ∨ Y 17 x k = none))
def iaV (X : Nat → Int → Int → Int) (Y : Nat → Int → Int → Option Int) (ln : Int → Int) (x k i z : Int) : Prop := tHas X x ∧ tFld X Y x k ∧ tRow X Y x k ∧ ∃ g, Y 17 x k = some g ∧ (0 ≤ i ∧ i < ln g) ∧ z = X 27 g i
theorem t_fld (e : z = x) (y : Y 15 z 0 = some r) (h : 0 ≤ k ∧ k < X 19 r 1 ∧ k ≤ 4) : tFld X Y x k := by
  subst e; unfold tFld; rw [y]; exact ⟨h.1, h.2.1⟩
theorem t_nfld (e : z = x) (y : Y 15 z 0 = some r) (h : Hid (¬ (0 ≤ k ∧ k < X 19 r 1))) : ¬ tFld X Y x k := by
  subst e; unfold tFld; rw [y]; exact h
theorem t_row (e : z = x) (y : Y 15 z 0 = some r) (h : 3 ≤ X 21 r k) : tRow X Y x k := by
  subst e; unfold tRow; rw [y]; exact h
theorem t_nrow (e : z = x) (y : Y 15 z 0 = some r) (h : Hid (¬ 3 ≤ X 21 r k)) : ¬ tRow X Y x k := by
  subst e; unfold tRow; rw [y]; exact h
theorem t_has (h : 0 ≤ x ∧ x < X 0 0 3 ∧ x ≤ 29) : tHas X x := ⟨h.1, h.2.1⟩
theorem at_A (h : Hid (¬ (0 ≤ x ∧ x < X 0 0 3))) : atE X Y x k eA := Or.inl ⟨rfl, h⟩
theorem at_I (e : z = x) (hx : 0 ≤ x ∧ x < X 0 0 3 ∧ x ≤ 29) (y : Y 15 z 0 = some r) (h : Hid (¬ (0 ≤ k ∧ k < X 19 r 1))) : atE X Y x k eI := Or.inr ⟨rfl, t_has hx, t_nfld e y h⟩
theorem at_0 (e : z = x) (hx : 0 ≤ x ∧ x < X 0 0 3 ∧ x ≤ 29) (y : Y 15 z 0 = some r) (hk : 0 ≤ k ∧ k < X 19 r 1 ∧ k ≤ 4) (h : 3 ≤ X 21 r k) (g : Y 17 z k = none) : atV X Y ln x k (-1) :=
  ⟨t_has hx, t_fld e y hk, Or.inr (Or.inl ⟨t_row e y h, by rw [← e]; exact g, rfl⟩)⟩
theorem at_1 (e : z = x) (hx : 0 ≤ x ∧ x < X 0 0 3 ∧ x ≤ 29) (y : Y 15 z 0 = some r) (hk : 0 ≤ k ∧ k < X 19 r 1 ∧ k ≤ 4) (h : 3 ≤ X 21 r k) (g : Y 17 z k = some q) : atV X Y ln x k (ln q) :=
  ⟨t_has hx, t_fld e y hk, Or.inr (Or.inr ⟨t_row e y h, q, by rw [← e]; exact g, rfl⟩)⟩
theorem at_2 (e : z = x) (hx : 0 ≤ x ∧ x < X 0 0 3 ∧ x ≤ 29) (y : Y 15 z 0 = some r) (hk : 0 ≤ k ∧ k < X 19 r 1 ∧ k ≤ 4) (h : Hid (¬ 3 ≤ X 21 r k)) : atV X Y ln x k (X 16 z k) :=
  ⟨t_has hx, t_fld e y hk, Or.inl ⟨t_nrow e y h, by rw [e]⟩⟩
theorem ia_A (h : Hid (¬ (0 ≤ x ∧ x < X 0 0 3))) : iaE X Y ln x k i eA := Or.inl ⟨rfl, h⟩
theorem ia_I (e : z = x) (hx : 0 ≤ x ∧ x < X 0 0 3 ∧ x ≤ 29) (y : Y 15 z 0 = some r) (h : Hid (¬ (0 ≤ k ∧ k < X 19 r 1))) : iaE X Y ln x k i eI := Or.inr (Or.inl ⟨rfl, Or.inl ⟨t_has hx, t_nfld e y h⟩⟩)
theorem ia_S1 (e : z = x) (hx : 0 ≤ x ∧ x < X 0 0 3 ∧ x ≤ 29) (y : Y 15 z 0 = some r) (hk : 0 ≤ k ∧ k < X 19 r 1 ∧ k ≤ 4) (h : Hid (¬ 3 ≤ X 21 r k)) : iaE X Y ln x k i eS := Or.inr (Or.inr ⟨rfl, t_has hx, t_fld e y hk, Or.inl (t_nrow e y h)⟩)
theorem ia_S2 (e : z = x) (hx : 0 ≤ x ∧ x < X 0 0 3 ∧ x ≤ 29) (y : Y 15 z 0 = some r) (hk : 0 ≤ k ∧ k < X 19 r 1 ∧ k ≤ 4) (g : Y 17 z k = none) : iaE X Y ln x k i eS := Or.inr (Or.inr ⟨rfl, t_has hx, t_fld e y hk, Or.inr (by rw [← e]; exact g)⟩)
theorem ia_I2 (e : z = x) (hx : 0 ≤ x ∧ x < X 0 0 3 ∧ x ≤ 29) (y : Y 15 z 0 = some r) (hk : 0 ≤ k ∧ k < X 19 r 1 ∧ k ≤ 4) (h : 3 ≤ X 21 r k) (g : Y 17 z k = some q) (hi : Hid (¬ (0 ≤ i ∧ i < ln q))) : iaE X Y ln x k i eI := Or.inr (Or.inl ⟨rfl, Or.inr ⟨t_has hx, t_fld e y hk, t_row e y h, q, by rw [← e]; exact g, hi⟩⟩)
theorem ia_V (e : z = x) (hx : 0 ≤ x ∧ x < X 0 0 3 ∧ x ≤ 29) (y : Y 15 z 0 = some r) (hk : 0 ≤ k ∧ k < X 19 r 1 ∧ k ≤ 4) (h : 3 ≤ X 21 r k) (g : Y 17 z k = some q) (hi : 0 ≤ i ∧ i < ln q) : iaV X Y ln x k i (X 27 q i) := ⟨t_has hx, t_fld e y hk, t_row e y h, q, by rw [← e]; exact g, hi, rfl⟩
def atL (X X1 : Nat → Int → Int → Int) (Y : Nat → Int → Int → Option Int) (ln : Int → Int) (x k z : Int) : Prop := (z = 1 ∧ ¬ tHas X x) ∨ (z = 2 ∧ tHas X x ∧ ¬ tFld X Y x k) ∨ (z = 0 ∧ atV X Y ln x k (X1 100 0 0))
def iaL (X X1 : Nat → Int → Int → Int) (Y : Nat → Int → Int → Option Int) (ln : Int → Int) (x k i z : Int) : Prop := (z = 1 ∧ ¬ tHas X x) ∨ (z = 3 ∧ ((tHas X x ∧ ¬ tFld X Y x k) ∨ (tHas X x ∧ tFld X Y x k ∧ tRow X Y x k ∧ ∃ g, Y 17 x k = some g ∧ ¬ (0 ≤ i ∧ i < ln g)))) ∨ (z = 2 ∧ tHas X x ∧ tFld X Y x k ∧ (¬ tRow X Y x k ∨ Y 17 x k = none)) ∨ (z = 0 ∧ iaV X Y ln x k i (X1 100 0 0))
end AtS
