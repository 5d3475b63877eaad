section
/-! throwing and catching -/
section Rows2
variable {p : Program} {l : Launch} {e : Env} {R : Room} {s : State} {m : MethodId} {args : Array Value} {below : List Frame} {meth : Method} {c : Code} {H : Heap} {locs : List Loc} {cells slots : Nat} {Q : State → Prop}
variable {mc ms : Nat} {free : Addr → Prop} {A0 A1 : Nat → Prop} {H0 : Heap} {a : Array Value} {pc : Nat} {ls : Array Slot} {st0 rest : List Value}
/-- caught by the row x of this method's table; the rows ahead don't take it -/
theorem vx_catch {own name : String} {E : String} {ce : Cell} {q : Addr} (hown : s.vm.findClass own = some m.cls) (pre : List ExceptionTableEntry) (x : ExceptionTableEntry) (suf : List ExceptionTableEntry) (hsplit : c.exceptionTable.toList = pre ++ x :: suf)
    (hpass : ∀ z ∈ pre, covers z pc = false ∨ (z.catchType ≠ 0 ∧ ∃ nm : String, (Cond.classLink own z.catchType nm).before args s = true ∧ va_Nc E nm s)) (hx : covers x pc = true) (h0 : x.catchType ≠ 0)
    (hlink : (Cond.classLink own x.catchType name).before args s = true) (hcast : (Cond.castable E name).before args s = true) (hcell : H[q]? = some ce) (hv : ce.vm = .none) (hcl : s.vm.findClass E = some ce.cls)
    (kk : W p l e R s m args below meth c H locs cells slots Q (F0 m x.handlerPc ls [.ref q])) : vx_W p l e R s m args below meth c H locs cells slots Q (F0 m pc ls rest) q := by
  intro T hT X
  have hpl : e.platform.magicAccessors = ({} : Platform).magicAccessors := by rw [X.admits.platform]
  obtain ⟨c3, c4, hc3, hc4, hasg⟩ := Cond.castable_spec hcast
  cases Option.some.inj (hc3.symm.trans hcl)
  obtain ⟨c5, hc5, hcl5⟩ := Cond.classLink_spec hown hlink e.platform hpl
  cases Option.some.inj (hc4.symm.trans hc5)
  obtain ⟨vm', X', st⟩ := X.thenCaughtThrough q (g := F0 m pc ls rest) rfl (Steps.refl _) (by rw [hT]; exact hcell) (by rw [hv]; rfl) (by obtain ⟨k9, h9, -⟩ := Vm.findClass_spec hcl; exact ⟨k9, h9⟩) pre x suf hsplit
    (fun z hz => by
      rcases hpass z hz with h | ⟨hz0, nm, hl1, hn1⟩
      · exact Or.inl h
      · obtain ⟨c6, hc6, hcl6⟩ := Cond.classLink_spec hown hl1 e.platform hpl
        obtain ⟨a8, b8, h1, h2, h3⟩ := hn1
        cases Option.some.inj (h1.symm.trans hcl)
        cases Option.some.inj (h2.symm.trans hc6)
        exact Or.inr ⟨hz0, _, hcl6, h3⟩) hx (Or.inr ⟨h0, c4, hcl5, hasg⟩)
  obtain ⟨t, a1, b1⟩ := kk (T.setVm vm') hT X'
  exact ⟨t, st.trans a1, b1⟩
end Rows2
/-- what a throw stands on -/
def dI1 : MethodName := ⟨"java/lang/RuntimeException", "<init>", "(Ljava/lang/String;)V"⟩
def dI2 : MethodName := ⟨"java/lang/Exception", "<init>", "(Ljava/lang/String;)V"⟩
def dI3 : MethodName := ⟨"java/lang/Throwable", "<init>", "(Ljava/lang/String;)V"⟩
abbrev eA : String := "java/lang/IllegalArgumentException"
abbrev eI : String := "java/lang/IndexOutOfBoundsException"
abbrev eS : String := "java/lang/IllegalStateException"
abbrev eNs : List String := ["java/lang/RuntimeException", "java/lang/Exception"]
def TS (U : State) : Prop := (∃ a, vk_R RX8 183 "no such thing" a U) ∧ (∃ a, vk_R RX8 190 "no such field" a U) ∧ (∃ a, vk_R RX8 198 "no lane of rows" a U) ∧ (∃ a, vk_R RX8 201 "no row" a U) ∧ (∃ a, vk_R RX8 203 "no such item" a U)
def TD (U : State) : Prop := va_Nw (.declares dI1) U ∧ va_Nw (.declares dI2) U ∧ va_Nw (.declares dI3) U
def TC (U : State) : Prop := va_Nw (.castable eA eA) U ∧ va_Nw (.castable eI eI) U ∧ va_Nw (.castable eS eS) U
def TN (U : State) : Prop := va_Nc eI eA U ∧ va_Nc eS eA U ∧ va_Nc eI eS U
def TZ (base : Nat) (U : State) (H : Heap) : Prop := vx_Zq Bundle.tN "UNASSIGNED_STACK" Bundle.steD (frA base) U H ∧ vx_Zq Bundle.tN "SUPPRESSED_SENTINEL" Bundle.listD (frA base) U H
def TK (base : Nat) (U : State) (H : Heap) : Prop := TS U ∧ TD U ∧ TC U ∧ TN U ∧ TZ base U H
theorem TK.go {base : Nat} {s U : State} {H0 H : Heap} {locs : List Loc} (h : TK base s H0) (hS : va_S (frA base) H0 H locs) (hW : s.WarmedH U.vm) : TK base U H := by
  obtain ⟨⟨⟨a1, h1⟩, ⟨a2, h2⟩, ⟨a3, h3⟩, ⟨a4, h4⟩, ⟨a5, h5⟩⟩, ⟨d1, d2, d3⟩, ⟨c1, c2, c3⟩, ⟨n1, n2, n3⟩, z1, z2⟩ := h
  exact ⟨⟨⟨a1, vk_R.warm hW h1⟩, ⟨a2, vk_R.warm hW h2⟩, ⟨a3, vk_R.warm hW h3⟩, ⟨a4, vk_R.warm hW h4⟩, ⟨a5, vk_R.warm hW h5⟩⟩, ⟨va_Nw.warmD hW d1, va_Nw.warmD hW d2, va_Nw.warmD hW d3⟩, ⟨va_Nw.warmC hW c1, va_Nw.warmC hW c2, va_Nw.warmC hW c3⟩, ⟨va_Nc.moved hW.alike n1, va_Nc.moved hW.alike n2, va_Nc.moved hW.alike n3⟩, vx_Zq.moved hW.alike (z1.kept hS.2.1), vx_Zq.moved hW.alike (z2.kept hS.2.1)⟩
theorem TK.call {base : Nat} {U : State} {H : Heap} {g : JFrame} {mk : MethodId} {a : Array Value} (h : TK base U H) : TK base (U.calling g mk a) H := by
  obtain ⟨⟨⟨a1, h1⟩, ⟨a2, h2⟩, ⟨a3, h3⟩, ⟨a4, h4⟩, ⟨a5, h5⟩⟩, ⟨d1, d2, d3⟩, ⟨c1, c2, c3⟩, ⟨n1, n2, n3⟩, z1, z2⟩ := h
  exact ⟨⟨⟨a1, vk_R.same rfl h1⟩, ⟨a2, vk_R.same rfl h2⟩, ⟨a3, vk_R.same rfl h3⟩, ⟨a4, vk_R.same rfl h4⟩, ⟨a5, vk_R.same rfl h5⟩⟩, ⟨va_Nw.same rfl rfl d1, va_Nw.same rfl rfl d2, va_Nw.same rfl rfl d3⟩, ⟨va_Nw.same rfl rfl c1, va_Nw.same rfl rfl c2, va_Nw.same rfl rfl c3⟩, ⟨va_Nc.moved (u := U) (U := U.calling g mk a) (Vm.Alike.refl U.vm) n1, va_Nc.moved (u := U) (U := U.calling g mk a) (Vm.Alike.refl U.vm) n2, va_Nc.moved (u := U) (U := U.calling g mk a) (Vm.Alike.refl U.vm) n3⟩, vx_Zq.moved (u := U) (U := U.calling g mk a) (Vm.Alike.refl U.vm) z1, vx_Zq.moved (u := U) (U := U.calling g mk a) (Vm.Alike.refl U.vm) z2⟩
def PcT (D : va_G) (tc : Nat → ClassId) (base : Nat) (u : St) (av : List Value) : Array Value → State → Prop := va_Pc av (fun U => wd D tc base u U.heap ∧ Kx D tc U ∧ TK base U U.heap)
theorem PcT.blind {D : va_G} {tc : Nat → ClassId} {base : Nat} {u : St} {av : List Value} : FrameBlind (PcT D tc base u av) := fun a U g mk q => ⟨q.1, q.2.1, q.2.2.1.call, q.2.2.2.call⟩
def XT (D : va_G) (tc : Nat → ClassId) (base : Nat) (u : St) (Es : List String) : String → State → State → Prop := vx_X (fun (_ : Unit) => True) (fun E _ t => E ∈ Es ∧ wd D tc base u t.heap) (frA base)
def KT (l : Launch) (D : va_G) (tc : Nat → ClassId) (base : Nat) (y : MethodName) (ws : List Cond) (rm : Room) (av : List Value) (u : St) (mc ms : Nat) (post : Int → St → Prop) (Es : List String) : Prop := vx_Met l y ws rm (PcT D tc base u av) (QL D tc base post) (XT D tc base u Es) mc ms (frA base)
theorem KT_of {l : Launch} {D : va_G} {tc : Nat → ClassId} {base : Nat} {y : MethodName} {ws ws' : List Cond} {rm : Room} {av : List Value} {u : St} {mc ms : Nat} {Qc : Array Value → State → Outcome → State → Prop} {XC : String → State → State → Prop} {cc : ByteArray} {maxL : Nat} {ret : Option FieldType}
    (hy : plainName y.cls = true) (hw : ws = Cond.code y cc maxL ret :: ws') (hsl : (lg_sl av).length ≤ maxL)
    (body : ∀ (p : Program) (e : Env) (s : State) (m : MethodId) (below : List Frame) (meth : Method) (c : Code) (ls : Array Slot), p.tables.exec = Jvm.exec → c.code = cc → meth.sig.returnType = ret → c.maxLocals = maxL → s.vm.findClass y.cls = some m.cls → (∀ w ∈ ws, w.before av.toArray s = true) → meth.locks = false → (∀ x ∈ c.exceptionTable.toList, False) → lv_has ls maxL (lv_args 0 av) → Kx D tc s → TK base s s.heap → wd D tc base u s.heap → va_S (frA base) s.heap s.heap [] →
      W p l e rm s m av.toArray below meth c s.heap [] 0 0 (vx_MQ below Qc XC av.toArray s mc ms (frA base)) (F0 m 0 ls [])) : vx_Met l y ws rm (PcT D tc base u av) Qc XC mc ms (frA base) := by
  refine vx_ofW (cc := cc) (maxL := maxL) (ret := ret) hy hw ?_
  intro p e s m args below meth c s₁ B hml hex hv
  obtain ⟨rfl, hW, hK, hT⟩ := hv
  have hl := lv_entry av (n := maxL) hsl
  rw [lg_entry_eq]
  exact body p e s m below meth c _ B.exec B.bytes B.returns hml (findClass_of_methodNamed B.named) (atoms_spec (ws := ws) B.pre) B.notSynchronized hex hl hK hT hW va_S.rf
theorem wd_kept {D : va_G} {tc : Nat → ClassId} {base : Nat} {u : St} {H H1 : Heap} (h : wd D tc base u H) (hz : H.size ≤ H1.size) (hq : ∀ q : Nat, q < H.size → H1[q]? = H[q]?) : wd D tc base u H1 := by
  obtain ⟨⟨RL, h1, h2, h3⟩, h4, h5⟩ := h
  exact ⟨⟨RL, h1, h2.kept (fun k q hk => hq _ (h2 k q hk).lt), h3⟩, h4, Nat.le_trans h5 hz⟩
/-- the throw of a new exception with a text -/
theorem t_throw {p : Program} {l : Launch} {e : Env} {R : Room} {s : State} {m : MethodId} {args : Array Value} {below : List Frame} {meth : Method} {c : Code} {H : Heap} {locs : List Loc} {cells slots : Nat} {ls : Array Slot} {rest : List Value} {Qc : Array Value → State → Outcome → State → Prop} {D : va_G} {tc : Nat → ClassId} {base : Nat} {u : St} {Es : List String}
    {cc : ByteArray} {pc : Nat} (hx : p.tables.exec = Jvm.exec) (hb : c.code = cc) (hl : l.stackTraces = false) {cls text : String} {ik is ic mc ms sa : Nat} (hown : s.vm.findClass RX8 = some m.cls) (hcls : Bundle.fit cls = true)
    (hk : (Cond.classLink RX8 ik cls).before args s = true) (hini : (Cond.initialized cls).before args s = true) (hstr : vk_R RX8 is text sa s) (hat : ∀ w ∈ (vx_atS RX8 ic cls eNs).filter goodWord, w.before args s = true)
    (hb2 : ∀ w ∈ (vx_atS RX8 ic cls eNs).filter (fun w => !goodWord w), w ∈ [Cond.declares dI1, Cond.declares dI2, Cond.declares dI3, Cond.castable cls cls]) (hcc : va_Nw (.castable cls cls) s) (hT : TK base s s.heap)
    (hgood : ∀ w ∈ Cond.classLink RX8 ik cls :: Cond.initialized cls :: vx_atS RX8 ic cls eNs, vx_ot w = true)
    (hw : wd D tc base u H) (hS : va_S (frA base) s.heap H locs) (hsize : ls.size = c.maxLocals)
    (d0 : decode cc pc = .ok (.new ik, 3)) (d3 : decode cc (pc + 3) = .ok (.dup, 1)) (d4 : decode cc (pc + 4) = .ok (.ldc is, 2)) (d6 : decode cc (pc + 6) = .ok (.invokespecial ic, 3)) (d9 : decode cc (pc + 9) = .ok (.athrow, 1))
    (hout : ∀ x ∈ c.exceptionTable.toList, False) (hRframes : 5 < R.frames) (hRlocals : (rest.map fun v => v.category).sum + 82 ≤ R.locals) (hRcells : cells + 1 ≤ R.cells) (hRslots : slots + 6 ≤ R.slots) (hlocks : meth.locks = false) (hm : cls ∈ Es) (hc : cells + 1 ≤ mc) (hs : slots + 6 ≤ ms) :
    W p l e R s m args below meth c H locs cells slots (vx_MQ below Qc (XT D tc base u Es) args s mc ms (frA base)) (F0 m pc ls rest) := by
  obtain ⟨hTS, ⟨hd1, hd2, hd3⟩, hTC, hTN, hz1, hz2⟩ := hT
  refine vx_throwS hx hb hl hown hcls (by decide +kernel) hk hini hstr (vx_hat hat hb2 (vx_c (va_Nw.use rfl hd1) (vx_c (va_Nw.use rfl hd2) (vx_c (va_Nw.use rfl hd3) (vx_c (va_Nw.use rfl hcc) vx_n))))) hgood hz1 hz2 hS hsize d0 d3 d4 d6 d9 (fun x hx => (hout x hx).elim) hRframes hRlocals hRcells hRslots hlocks ?_ hS.2.2 hc hs
  intro t ht h1 h2
  refine ⟨(), trivial, ⟨hm, wd_kept hw h1 h2⟩, ?_⟩
  exact ⟨Nat.le_trans hS.1 h1, fun q hq hA => (h2 q (Nat.lt_of_lt_of_le hq hS.1)).trans (hS.2.1 q hq hA)⟩
end
section
set_option maxHeartbeats 4000000 in
set_option maxRecDepth 100000 in
theorem c_X8_at (l : Launch) (hlT : l.stackTraces = false) (D : va_G) (tc : Nat → ClassId) (base : Nat) (ad : Nat → Int → Nat) (cnt : Nat → Int) (X : Nat → Int → Int → Int) (Y : Nat → Int → Int → Option Int) (ln : Int → Int) (hR : Rng X) (hFx : Fx cnt) (hLn : LnOK ln) (hCI : CInv cnt X Y ln) (x k : Int) (hx : -2147483648 ≤ x ∧ x ≤ 2147483647) (hk : -2147483648 ≤ k ∧ k ≤ 2147483647) : KT l D tc base yX8_at wsX8_at ({ frames := 6, cells := 1, slots := 6, locals := 82 } : Room) [.ref (ad 0 0), .int (jI x), .int (jI k)] (ad, cnt, X, Y, ln) 1 6 (fun z u => u = (ad, cnt, X, Y, ln) ∧ (-9223372036854775808 ≤ z ∧ z ≤ 9223372036854775807)) [eA, eI] := by
  refine KT_of (cc := cX8_at) (maxL := 5) (ret := (some .long)) (by decide) rfl (Nat.le_of_ble_eq_true rfl) ?_
  intro p e s m below meth c ls hx hb hr hml hown hts hlocks hex hl hK hT hw hS
  have hown : s.vm.findClass RX8 = some m.cls := hown
  have hi5 : ∀ w ∈ wsX50, w ∈ wsX8_at := fun w h => List.mem_cons_of_mem _ (List.mem_append_left _ (List.mem_append_left _ (List.mem_append_left _ (List.mem_append_right _ h))))
  have hf5 : fctx s m _ RX8 wsX8_at D tc RX5 TX5 2 5 := ⟨hts, hi5, hown, hK.1, rfl⟩
  have hi6 : ∀ w ∈ wsX60, w ∈ wsX8_at := fun w h => List.mem_cons_of_mem _ (List.mem_append_left _ (List.mem_append_left _ (List.mem_append_left _ (List.mem_append_left _ (List.mem_append_left _ (List.mem_append_right _ h))))))
  have hf6 : fctx s m _ RX8 wsX8_at D tc RX6 TX6 4 6 := ⟨hts, hi6, hown, hK.1, rfl⟩
  have hi7 : ∀ w ∈ wsX70, w ∈ wsX8_at := fun w h => List.mem_cons_of_mem _ (List.mem_append_left _ (List.mem_append_left _ (List.mem_append_left _ (List.mem_append_left _ (List.mem_append_right _ h)))))
  have hf7 : fctx s m _ RX8 wsX8_at D tc RX7 TX7 8 7 := ⟨hts, hi7, hown, hK.1, rfl⟩
  have lk97 := hts (.fieldLink RX8 97 (TX6 0).1 (TX6 0).2.1 (TX6 0).2.2.1) (gj_X8_at_0 _ (gp_4 gp_h))
  have lk135 := hts (.fieldLink RX8 135 (TX7 3).1 (TX7 3).2.1 (TX7 3).2.2.1) (gj_X8_at_0 _ (gp_4 (gp_1 gp_h)))
  have lk158 := hts (.fieldLink RX8 158 (TX6 2).1 (TX6 2).2.1 (TX6 2).2.2.1) (gj_X8_at_0 _ (gp_4 (gp_1 (gp_1 (gp_1 gp_h)))))
  have lk161 := hts (.fieldLink RX8 161 (TX5 0).1 (TX5 0).2.1 (TX5 0).2.2.1) (gj_X8_at_0 _ (gp_4 (gp_4 (gp_1 gp_h))))
  have lk193 := hts (.fieldLink RX8 193 (TX6 1).1 (TX6 1).2.1 (TX6 1).2.2.1) (gj_X8_at_0 _ (gp_4 (gp_1 (gp_1 gp_h))))
  have hc0 : cnt 0 = 1 := hFx.at 0 1 (by decide)
  have hc15 : cnt 15 = 30 := hFx.at 15 30 (by decide)
  have hc16 : cnt 16 = 30 := hFx.at 16 30 (by decide)
  have hc17 : cnt 17 = 30 := hFx.at 17 30 (by decide)
  have hc21 : cnt 21 = cnt 19 := hFx.2.1 21 (by decide)
  have hc27 : cnt 27 = cnt 26 := hFx.2.2
  have hl : lv_has ls 5 [(0, .ref (ad 0 0)), (1, .int (jI x)), (2, .int (jI k))] := hl
  have ftc : 0 ≤ X 0 0 3 ∧ X 0 0 3 ≤ 30 := hR 0 0 3
  have fty : 0 ≤ X 0 0 1 ∧ X 0 0 1 ≤ 8 := hR 0 0 1
  have hct : cnt 19 = X 0 0 1 := hCI.2.2.2.1.1
  have hfj : 0 ≤ X 29 0 3 ∧ X 29 0 3 ≤ 4 := hR 29 0 3
  have hfn : 0 ≤ X 29 0 1 ∧ X 29 0 1 ≤ 80 := hR 29 0 1
  refine lv_aload_n hx hb dX8_at_0 rfl (lv_at hl 0 rfl) ?_
  refine lv_iload_n hx hb dX8_at_1 rfl (lv_at hl 1 rfl) ?_
  refine x_i2l hx hb (by omega) dX8_at_2 ?_
  refine gos_r (run_V (As := [.long (jL x)]) (rest := []) hx hb hml hown hts (c_X8_thingNumbered l D tc base ad cnt X Y ln hR hFx hLn hCI x (by omega)) (cwV 1 hts gX8_at_X8_thingNumbered rfl rfl rfl (by first | exact hd_X8_thingNumbered | decide +kernel) ⟨Nat.le_of_ble_eq_true rfl, Nat.le_of_ble_eq_true rfl⟩) hK hw (by first | exact Int.le_refl 0 | omega) (by first | exact zlt hc0 | omega) sl_0_0 rfl rfl hl.1 rfl (Nat.le_of_ble_eq_true rfl) dX8_at_3 ⟨(by show _ ≤ (1 : Nat); omega), (by show _ ≤ (6 : Nat); omega)⟩) hS (fun u2 H locs p3 hw hS => ?_) (fun z1 u2 H locs p3 hw hS => ?_)
  · obtain ⟨eu2, hsp3, hnp3⟩ := p3
    subst eu2
    refine lv_astore_nN (lv' := [(3, .null), (0, .ref (ad 0 0)), (1, .int (jI x)), (2, .int (jI k))]) hx hb dX8_at_6 rfl hl (by decide) rfl (fun ls hl => ?_)
    refine lv_aload_nN hx hb dX8_at_7 rfl (lv_at hl 0 rfl) ?_
    refine lv_ifnonnullN hx hb dX8_at_8 ?_
    obtain ⟨sa, hsa⟩ := hT.1.1
    exact t_throw hx hb hlT hown (by decide +kernel) (hts (.classLink RX8 181 eA) (by decide +kernel)) (hts (.initialized eA) (by decide +kernel)) hsa (fun w hq => hts w (List.mem_cons_of_mem _ (List.mem_append_left _ (List.mem_append_right _ hq)))) (by decide +kernel) hT.2.2.1.1 hT (by decide +kernel) hw hS (hl.1.trans hml.symm) dX8_at_11 dX8_at_14 dX8_at_15 dX8_at_17 dX8_at_20 hex (Nat.le_of_ble_eq_true rfl) (Nat.le_of_ble_eq_true rfl) (by show _ ≤ (1 : Nat); omega) (by show _ ≤ (6 : Nat); omega) hlocks (by decide) (by omega) (by omega)
  · obtain ⟨eu2, hsp3, hnp3⟩ := p3
    subst eu2
    obtain ⟨ezz1, p3⟩ := hsp3 z1 rfl
    refine lv_astore_n (lv' := [(3, .ref (ad 15 z1)), (0, .ref (ad 0 0)), (1, .int (jI x)), (2, .int (jI k))]) hx hb dX8_at_6 rfl hl (by decide) rfl (fun ls hl => ?_)
    refine lv_aload_n hx hb dX8_at_7 rfl (lv_at hl 0 rfl) ?_
    refine lv_ifnonnull (tgt := 21) hx hb dX8_at_8 (by decide) ?_
    refine lv_aload_n hx hb dX8_at_21 rfl (lv_at hl 0 rfl) ?_
    refine x_getr (jz := 0) hx hb hf6 hw (by omega) (by omega) sl_15_0 rfl lk97 dX8_at_22 (fun y4 => ?_) (fun r5 y4 gr5 lr5 => ?_)
    · exfalso
      exact absurd y4 (hCI.2.2.2.2.1 z1 (by omega) (by omega))
    · refine lv_iload_n hx hb dX8_at_25 rfl (lv_at hl 3 rfl) ?_
      refine gos_i (run_V (As := [.int (jI k)]) (rest := []) hx hb hml hown hts (c_X7_hasField l D tc base ad cnt X Y ln hR hFx hLn r5 k (by omega) (by omega)) (cwV 1 hts gX8_at_X7_hasField rfl rfl rfl (by first | exact hd_X7_hasField | decide +kernel) ⟨Nat.le_of_ble_eq_true rfl, Nat.le_of_ble_eq_true rfl⟩) hK hw (by first | exact Int.le_refl 0 | omega) (by first | exact zlt hc19 | omega) sl_19_0 rfl rfl hl.1 rfl (Nat.le_of_ble_eq_true rfl) dX8_at_26 ⟨(by show _ ≤ (1 : Nat); omega), (by show _ ≤ (6 : Nat); omega)⟩) hS (fun z6 u7 H locs p8 hw hS => ?_)
      obtain ⟨eu7, p8⟩ := p8
      subst eu7
      rcases p8 with ⟨ez6, p8⟩ | ⟨ez6, p8⟩
      · subst ez6
        refine x_if_neT (tgt := 42) hx hb (by omega) (by decide) dX8_at_29 (by decide) ?_
        refine lv_aload_n hx hb dX8_at_42 rfl (lv_at hl 0 rfl) ?_
        refine x_getr (jz := 0) hx hb hf6 hw (by omega) (by omega) sl_15_0 rfl lk97 dX8_at_43 (fun y9 => ?_) (fun r10 y9 gr10 lr10 => ?_)
        · exfalso
          rw [y4] at y9; cases y9
        · have er10 : r10 = r5 := by rw [y4] at y9; cases y9; rfl
          rw [er10]
          refine x_geto hx hb hf7 hw (by omega) (by omega) sl_19_3 lk135 dX8_at_46 ?_
          refine lv_iload_n hx hb dX8_at_49 rfl (lv_at hl 3 rfl) ?_
          refine x_iald hx hb hK.1 hw (by omega) (by omega) ar_21 (len_E ar_21 (by first | exact Nat.ne_of_beq_eq_false rfl | decide)) (by omega) (by omega) (by omega) dX8_at_50 ?_
          have f11 : 0 ≤ X 21 r5 k ∧ X 21 r5 k ≤ 5 := hR 21 r5 k
          refine gos_i (run_S (As := [.int (jI (X 21 r5 k))]) (rest := []) hx hb hml hown hts (c_X8_isRowLane l D tc base ad cnt X Y ln (X 21 r5 k) (by omega)) (cwS 1 hts gX8_at_X8_isRowLane rfl rfl rfl (by first | exact hd_X8_isRowLane | decide +kernel) ⟨Nat.le_of_ble_eq_true rfl, Nat.le_of_ble_eq_true rfl⟩) hK hw rfl hl.1 rfl (Nat.le_of_ble_eq_true rfl) dX8_at_51 ⟨(by show _ ≤ (1 : Nat); omega), (by show _ ≤ (6 : Nat); omega)⟩) hS (fun z12 u13 H locs p14 hw hS => ?_)
          obtain ⟨eu13, p14⟩ := p14
          subst eu13
          rcases p14 with ⟨ez12, p14⟩ | ⟨ez12, p14⟩
          · subst ez12
            refine x_if_neT (tgt := 64) hx hb (by omega) (by decide) dX8_at_54 (by decide) ?_
            refine lv_aload_n hx hb dX8_at_64 rfl (lv_at hl 0 rfl) ?_
            refine x_geto hx hb hf6 hw (by omega) (by omega) sl_15_2 lk158 dX8_at_65 ?_
            refine lv_iload_n hx hb dX8_at_68 rfl (lv_at hl 3 rfl) ?_
            refine x_aald hx hb hK.1 hw (by omega) (by omega) ar_17 rfl (len_E ar_17 (by first | exact Nat.ne_of_beq_eq_false rfl | decide)) (by omega) (by omega) (by omega) dX8_at_69 (fun y15 => ?_) (fun r16 y15 gr16 lr16 => ?_)
            · refine lv_astoreN (lv' := [(4, .null), (3, .ref (ad 15 z1)), (0, .ref (ad 0 0)), (1, .int (jI x)), (2, .int (jI k))]) hx hb dX8_at_70 hl (by decide) rfl (fun ls hl => ?_)
              refine lv_aloadN hx hb dX8_at_72 (lv_at hl 0 rfl) ?_
              refine lv_ifnonnullN hx hb dX8_at_74 ?_
              refine lv_ldc2 (v := jL (-1)) hx hb hown (hts (.constantLong RX8 88 (-1)) (by first | exact gj_X8_at_0 _ (gp_4 (gp_4 gp_h)) | decide +kernel)) dX8_at_77 ?_
              refine lv_goto (tgt := 90) hx hb dX8_at_80 (by decide) ?_
              refine vx_ret ?_
              refine ret_l (mc := 1) (ms := 6) hx hb hr hlocks hw hS (by first | exact Nat.le_of_ble_eq_true rfl | omega) (by first | exact Nat.le_of_ble_eq_true rfl | omega) dX8_at_90 ?_
              exact ⟨rfl, by omega⟩
            · refine lv_astore (lv' := [(4, .ref (ad 26 r16)), (3, .ref (ad 15 z1)), (0, .ref (ad 0 0)), (1, .int (jI x)), (2, .int (jI k))]) hx hb dX8_at_70 hl (by decide) rfl (fun ls hl => ?_)
              refine lv_aload hx hb dX8_at_72 (lv_at hl 0 rfl) ?_
              refine lv_ifnonnull (tgt := 83) hx hb dX8_at_74 (by decide) ?_
              refine lv_aload hx hb dX8_at_83 (lv_at hl 0 rfl) ?_
              refine x_geto hx hb hf5 hw (by omega) (by omega) sl_26_0 lk161 dX8_at_85 ?_
              have f17 : 0 ≤ ln r16 ∧ ln r16 ≤ 12 := hLn r16
              refine x_alenl hx hb hK.1 hw (by omega) (by omega) ar_27 (show lenE ln 27 r16 = ln r16 from rfl) (by omega) dX8_at_88 ?_
              refine x_i2l hx hb (by omega) dX8_at_89 ?_
              refine vx_ret ?_
              refine ret_l (mc := 1) (ms := 6) hx hb hr hlocks hw hS (by first | exact Nat.le_of_ble_eq_true rfl | omega) (by first | exact Nat.le_of_ble_eq_true rfl | omega) dX8_at_90 ?_
              exact ⟨rfl, by omega⟩
          · subst ez12
            refine x_if_neF (tgt := 64) hx hb (by omega) (by decide) dX8_at_54 (by decide) ?_
            refine lv_aload_n hx hb dX8_at_57 rfl (lv_at hl 0 rfl) ?_
            refine x_geto hx hb hf6 hw (by omega) (by omega) sl_15_1 lk193 dX8_at_58 ?_
            refine lv_iload_n hx hb dX8_at_61 rfl (lv_at hl 3 rfl) ?_
            refine x_lald hx hb hK.1 hw (by omega) (by omega) ar_16 (len_E ar_16 (by first | exact Nat.ne_of_beq_eq_false rfl | decide)) (by omega) (by omega) (by omega) dX8_at_62 ?_
            have f18 : (-9223372036854775808) ≤ X 16 z1 k ∧ X 16 z1 k ≤ 9223372036854775807 := hR 16 z1 k
            refine vx_ret ?_
            refine ret_l (mc := 1) (ms := 6) hx hb hr hlocks hw hS (by first | exact Nat.le_of_ble_eq_true rfl | omega) (by first | exact Nat.le_of_ble_eq_true rfl | omega) dX8_at_63 ?_
            exact ⟨rfl, by omega⟩
      · subst ez6
        refine x_if_neF (tgt := 42) hx hb (by omega) (by decide) dX8_at_29 (by decide) ?_
        obtain ⟨sa, hsa⟩ := hT.1.2.1
        exact t_throw hx hb hlT hown (by decide +kernel) (hts (.classLink RX8 188 eI) (by decide +kernel)) (hts (.initialized eI) (by decide +kernel)) hsa (fun w hq => hts w (List.mem_cons_of_mem _ (List.mem_append_right _ hq))) (by decide +kernel) hT.2.2.1.2.1 hT (by decide +kernel) hw hS (hl.1.trans hml.symm) dX8_at_32 dX8_at_35 dX8_at_36 dX8_at_38 dX8_at_41 hex (Nat.le_of_ble_eq_true rfl) (Nat.le_of_ble_eq_true rfl) (by show _ ≤ (1 : Nat); omega) (by show _ ≤ (6 : Nat); omega) hlocks (by decide) (by omega) (by omega)

set_option maxHeartbeats 4000000 in
set_option maxRecDepth 100000 in
theorem c_X8_itemAt (l : Launch) (hlT : l.stackTraces = false) (D : va_G) (tc : Nat → ClassId) (base : Nat) (ad : Nat → Int → Nat) (cnt : Nat → Int) (X : Nat → Int → Int → Int) (Y : Nat → Int → Int → Option Int) (ln : Int → Int) (hR : Rng X) (hFx : Fx cnt) (hLn : LnOK ln) (hCI : CInv cnt X Y ln) (x k i : Int) (hx : -2147483648 ≤ x ∧ x ≤ 2147483647) (hk : -2147483648 ≤ k ∧ k ≤ 2147483647) (hi : -2147483648 ≤ i ∧ i ≤ 2147483647) : KT l D tc base yX8_itemAt wsX8_itemAt ({ frames := 6, cells := 1, slots := 6, locals := 82 } : Room) [.ref (ad 0 0), .int (jI x), .int (jI k), .int (jI i)] (ad, cnt, X, Y, ln) 1 6 (fun z u => u = (ad, cnt, X, Y, ln) ∧ (-9223372036854775808 ≤ z ∧ z ≤ 9223372036854775807)) [eA, eI, eS] := by
  refine KT_of (cc := cX8_itemAt) (maxL := 6) (ret := (some .long)) (by decide) rfl (Nat.le_of_ble_eq_true rfl) ?_
  intro p e s m below meth c ls hx hb hr hml hown hts hlocks hex hl hK hT hw hS
  have hown : s.vm.findClass RX8 = some m.cls := hown
  have hi5 : ∀ w ∈ wsX50, w ∈ wsX8_itemAt := fun w h => List.mem_cons_of_mem _ (List.mem_append_left _ (List.mem_append_left _ (List.mem_append_left _ (List.mem_append_left _ (List.mem_append_right _ h)))))
  have hf5 : fctx s m _ RX8 wsX8_itemAt D tc RX5 TX5 2 5 := ⟨hts, hi5, hown, hK.1, rfl⟩
  have hi6 : ∀ w ∈ wsX60, w ∈ wsX8_itemAt := fun w h => List.mem_cons_of_mem _ (List.mem_append_left _ (List.mem_append_left _ (List.mem_append_left _ (List.mem_append_left _ (List.mem_append_left _ (List.mem_append_left _ (List.mem_append_right _ h)))))))
  have hf6 : fctx s m _ RX8 wsX8_itemAt D tc RX6 TX6 4 6 := ⟨hts, hi6, hown, hK.1, rfl⟩
  have hi7 : ∀ w ∈ wsX70, w ∈ wsX8_itemAt := fun w h => List.mem_cons_of_mem _ (List.mem_append_left _ (List.mem_append_left _ (List.mem_append_left _ (List.mem_append_left _ (List.mem_append_left _ (List.mem_append_right _ h))))))
  have hf7 : fctx s m _ RX8 wsX8_itemAt D tc RX7 TX7 8 7 := ⟨hts, hi7, hown, hK.1, rfl⟩
  have lk97 := hts (.fieldLink RX8 97 (TX6 0).1 (TX6 0).2.1 (TX6 0).2.2.1) (gj_X8_itemAt_0 _ (gp_4 (gp_1 (gp_1 gp_h))))
  have lk135 := hts (.fieldLink RX8 135 (TX7 3).1 (TX7 3).2.1 (TX7 3).2.2.1) (gj_X8_itemAt_0 _ (gp_4 (gp_1 (gp_1 (gp_1 gp_h)))))
  have lk158 := hts (.fieldLink RX8 158 (TX6 2).1 (TX6 2).2.1 (TX6 2).2.2.1) (gj_X8_itemAt_0 _ (gp_4 (gp_4 gp_h)))
  have lk161 := hts (.fieldLink RX8 161 (TX5 0).1 (TX5 0).2.1 (TX5 0).2.2.1) (gj_X8_itemAt_0 _ (gp_4 (gp_4 (gp_1 gp_h))))
  have hc0 : cnt 0 = 1 := hFx.at 0 1 (by decide)
  have hc15 : cnt 15 = 30 := hFx.at 15 30 (by decide)
  have hc17 : cnt 17 = 30 := hFx.at 17 30 (by decide)
  have hc21 : cnt 21 = cnt 19 := hFx.2.1 21 (by decide)
  have hc27 : cnt 27 = cnt 26 := hFx.2.2
  have hl : lv_has ls 6 [(0, .ref (ad 0 0)), (1, .int (jI x)), (2, .int (jI k)), (3, .int (jI i))] := hl
  have ftc : 0 ≤ X 0 0 3 ∧ X 0 0 3 ≤ 30 := hR 0 0 3
  have fty : 0 ≤ X 0 0 1 ∧ X 0 0 1 ≤ 8 := hR 0 0 1
  have hct : cnt 19 = X 0 0 1 := hCI.2.2.2.1.1
  have hfj : 0 ≤ X 29 0 3 ∧ X 29 0 3 ≤ 4 := hR 29 0 3
  have hfn : 0 ≤ X 29 0 1 ∧ X 29 0 1 ≤ 80 := hR 29 0 1
  refine lv_aload_n hx hb dX8_itemAt_0 rfl (lv_at hl 0 rfl) ?_
  refine lv_iload_n hx hb dX8_itemAt_1 rfl (lv_at hl 1 rfl) ?_
  refine x_i2l hx hb (by omega) dX8_itemAt_2 ?_
  refine gos_r (run_V (As := [.long (jL x)]) (rest := []) hx hb hml hown hts (c_X8_thingNumbered l D tc base ad cnt X Y ln hR hFx hLn hCI x (by omega)) (cwV 1 hts gX8_itemAt_X8_thingNumbered rfl rfl rfl (by first | exact hd_X8_thingNumbered | decide +kernel) ⟨Nat.le_of_ble_eq_true rfl, Nat.le_of_ble_eq_true rfl⟩) hK hw (by first | exact Int.le_refl 0 | omega) (by first | exact zlt hc0 | omega) sl_0_0 rfl rfl hl.1 rfl (Nat.le_of_ble_eq_true rfl) dX8_itemAt_3 ⟨(by show _ ≤ (1 : Nat); omega), (by show _ ≤ (6 : Nat); omega)⟩) hS (fun u2 H locs p3 hw hS => ?_) (fun z1 u2 H locs p3 hw hS => ?_)
  · obtain ⟨eu2, hsp3, hnp3⟩ := p3
    subst eu2
    refine lv_astoreN (lv' := [(4, .null), (0, .ref (ad 0 0)), (1, .int (jI x)), (2, .int (jI k)), (3, .int (jI i))]) hx hb dX8_itemAt_6 hl (by decide) rfl (fun ls hl => ?_)
    refine lv_aloadN hx hb dX8_itemAt_8 (lv_at hl 0 rfl) ?_
    refine lv_ifnonnullN hx hb dX8_itemAt_10 ?_
    obtain ⟨sa, hsa⟩ := hT.1.1
    exact t_throw hx hb hlT hown (by decide +kernel) (hts (.classLink RX8 181 eA) (by decide +kernel)) (hts (.initialized eA) (by decide +kernel)) hsa (fun w hq => hts w (List.mem_cons_of_mem _ (List.mem_append_left _ (List.mem_append_left _ (List.mem_append_right _ hq))))) (by decide +kernel) hT.2.2.1.1 hT (by decide +kernel) hw hS (hl.1.trans hml.symm) dX8_itemAt_13 dX8_itemAt_16 dX8_itemAt_17 dX8_itemAt_19 dX8_itemAt_22 hex (Nat.le_of_ble_eq_true rfl) (Nat.le_of_ble_eq_true rfl) (by show _ ≤ (1 : Nat); omega) (by show _ ≤ (6 : Nat); omega) hlocks (by decide) (by omega) (by omega)
  · obtain ⟨eu2, hsp3, hnp3⟩ := p3
    subst eu2
    obtain ⟨ezz1, p3⟩ := hsp3 z1 rfl
    refine lv_astore (lv' := [(4, .ref (ad 15 z1)), (0, .ref (ad 0 0)), (1, .int (jI x)), (2, .int (jI k)), (3, .int (jI i))]) hx hb dX8_itemAt_6 hl (by decide) rfl (fun ls hl => ?_)
    refine lv_aload hx hb dX8_itemAt_8 (lv_at hl 0 rfl) ?_
    refine lv_ifnonnull (tgt := 23) hx hb dX8_itemAt_10 (by decide) ?_
    refine lv_aload hx hb dX8_itemAt_23 (lv_at hl 0 rfl) ?_
    refine x_getr (jz := 0) hx hb hf6 hw (by omega) (by omega) sl_15_0 rfl lk97 dX8_itemAt_25 (fun y4 => ?_) (fun r5 y4 gr5 lr5 => ?_)
    · exfalso
      exact absurd y4 (hCI.2.2.2.2.1 z1 (by omega) (by omega))
    · refine lv_iload_n hx hb dX8_itemAt_28 rfl (lv_at hl 3 rfl) ?_
      refine gos_i (run_V (As := [.int (jI k)]) (rest := []) hx hb hml hown hts (c_X7_hasField l D tc base ad cnt X Y ln hR hFx hLn r5 k (by omega) (by omega)) (cwV 1 hts gX8_itemAt_X7_hasField rfl rfl rfl (by first | exact hd_X7_hasField | decide +kernel) ⟨Nat.le_of_ble_eq_true rfl, Nat.le_of_ble_eq_true rfl⟩) hK hw (by first | exact Int.le_refl 0 | omega) (by first | exact zlt hc19 | omega) sl_19_0 rfl rfl hl.1 rfl (Nat.le_of_ble_eq_true rfl) dX8_itemAt_29 ⟨(by show _ ≤ (1 : Nat); omega), (by show _ ≤ (6 : Nat); omega)⟩) hS (fun z6 u7 H locs p8 hw hS => ?_)
      obtain ⟨eu7, p8⟩ := p8
      subst eu7
      rcases p8 with ⟨ez6, p8⟩ | ⟨ez6, p8⟩
      · subst ez6
        refine x_if_neT (tgt := 45) hx hb (by omega) (by decide) dX8_itemAt_32 (by decide) ?_
        refine lv_aload hx hb dX8_itemAt_45 (lv_at hl 0 rfl) ?_
        refine x_getr (jz := 0) hx hb hf6 hw (by omega) (by omega) sl_15_0 rfl lk97 dX8_itemAt_47 (fun y9 => ?_) (fun r10 y9 gr10 lr10 => ?_)
        · exfalso
          rw [y4] at y9; cases y9
        · have er10 : r10 = r5 := by rw [y4] at y9; cases y9; rfl
          rw [er10]
          refine x_geto hx hb hf7 hw (by omega) (by omega) sl_19_3 lk135 dX8_itemAt_50 ?_
          refine lv_iload_n hx hb dX8_itemAt_53 rfl (lv_at hl 3 rfl) ?_
          refine x_iald hx hb hK.1 hw (by omega) (by omega) ar_21 (len_E ar_21 (by first | exact Nat.ne_of_beq_eq_false rfl | decide)) (by omega) (by omega) (by omega) dX8_itemAt_54 ?_
          have f11 : 0 ≤ X 21 r5 k ∧ X 21 r5 k ≤ 5 := hR 21 r5 k
          refine gos_i (run_S (As := [.int (jI (X 21 r5 k))]) (rest := []) hx hb hml hown hts (c_X8_isRowLane l D tc base ad cnt X Y ln (X 21 r5 k) (by omega)) (cwS 1 hts gX8_itemAt_X8_isRowLane rfl rfl rfl (by first | exact hd_X8_isRowLane | decide +kernel) ⟨Nat.le_of_ble_eq_true rfl, Nat.le_of_ble_eq_true rfl⟩) hK hw rfl hl.1 rfl (Nat.le_of_ble_eq_true rfl) dX8_itemAt_55 ⟨(by show _ ≤ (1 : Nat); omega), (by show _ ≤ (6 : Nat); omega)⟩) hS (fun z12 u13 H locs p14 hw hS => ?_)
          obtain ⟨eu13, p14⟩ := p14
          subst eu13
          rcases p14 with ⟨ez12, p14⟩ | ⟨ez12, p14⟩
          · subst ez12
            refine x_if_neT (tgt := 71) hx hb (by omega) (by decide) dX8_itemAt_58 (by decide) ?_
            refine lv_aload hx hb dX8_itemAt_71 (lv_at hl 0 rfl) ?_
            refine x_geto hx hb hf6 hw (by omega) (by omega) sl_15_2 lk158 dX8_itemAt_73 ?_
            refine lv_iload_n hx hb dX8_itemAt_76 rfl (lv_at hl 3 rfl) ?_
            refine x_aald hx hb hK.1 hw (by omega) (by omega) ar_17 rfl (len_E ar_17 (by first | exact Nat.ne_of_beq_eq_false rfl | decide)) (by omega) (by omega) (by omega) dX8_itemAt_77 (fun y15 => ?_) (fun r16 y15 gr16 lr16 => ?_)
            · refine lv_astoreN (lv' := [(5, .null), (4, .ref (ad 15 z1)), (0, .ref (ad 0 0)), (1, .int (jI x)), (2, .int (jI k)), (3, .int (jI i))]) hx hb dX8_itemAt_78 hl (by decide) rfl (fun ls hl => ?_)
              refine lv_aloadN hx hb dX8_itemAt_80 (lv_at hl 0 rfl) ?_
              refine lv_ifnonnullN hx hb dX8_itemAt_82 ?_
              obtain ⟨sa, hsa⟩ := hT.1.2.2.2.1
              exact t_throw hx hb hlT hown (by decide +kernel) (hts (.classLink RX8 196 eS) (by decide +kernel)) (hts (.initialized eS) (by decide +kernel)) hsa (fun w hq => hts w (List.mem_cons_of_mem _ (List.mem_append_right _ hq))) (by decide +kernel) hT.2.2.1.2.2 hT (by decide +kernel) hw hS (hl.1.trans hml.symm) dX8_itemAt_85 dX8_itemAt_88 dX8_itemAt_89 dX8_itemAt_91 dX8_itemAt_94 hex (Nat.le_of_ble_eq_true rfl) (Nat.le_of_ble_eq_true rfl) (by show _ ≤ (1 : Nat); omega) (by show _ ≤ (6 : Nat); omega) hlocks (by decide) (by omega) (by omega)
            · refine lv_astore (lv' := [(5, .ref (ad 26 r16)), (4, .ref (ad 15 z1)), (0, .ref (ad 0 0)), (1, .int (jI x)), (2, .int (jI k)), (3, .int (jI i))]) hx hb dX8_itemAt_78 hl (by decide) rfl (fun ls hl => ?_)
              refine lv_aload hx hb dX8_itemAt_80 (lv_at hl 0 rfl) ?_
              refine lv_ifnonnull (tgt := 95) hx hb dX8_itemAt_82 (by decide) ?_
              refine lv_iload_n hx hb dX8_itemAt_95 rfl (lv_at hl 5 rfl) ?_
              refine lv_aload hx hb dX8_itemAt_96 (lv_at hl 0 rfl) ?_
              refine x_geto hx hb hf5 hw (by omega) (by omega) sl_26_0 lk161 dX8_itemAt_98 ?_
              have f17 : 0 ≤ ln r16 ∧ ln r16 ≤ 12 := hLn r16
              refine x_alenl hx hb hK.1 hw (by omega) (by omega) ar_27 (show lenE ln 27 r16 = ln r16 from rfl) (by omega) dX8_itemAt_101 ?_
              refine gos_i (run_S (As := [.int (jI i), .int (jI (ln r16))]) (rest := []) hx hb hml hown hts (c_X8_isBelow l D tc base ad cnt X Y ln i (ln r16) (by omega) (by omega)) (cwS 2 hts gX8_itemAt_X8_isBelow rfl rfl rfl (by first | exact hd_X8_isBelow | decide +kernel) ⟨Nat.le_of_ble_eq_true rfl, Nat.le_of_ble_eq_true rfl⟩) hK hw rfl hl.1 rfl (Nat.le_of_ble_eq_true rfl) dX8_itemAt_102 ⟨(by show _ ≤ (1 : Nat); omega), (by show _ ≤ (6 : Nat); omega)⟩) hS (fun z18 u19 H locs p20 hw hS => ?_)
              obtain ⟨eu19, p20⟩ := p20
              subst eu19
              rcases p20 with ⟨ez18, p20⟩ | ⟨ez18, p20⟩
              · subst ez18
                refine x_if_neT (tgt := 118) hx hb (by omega) (by decide) dX8_itemAt_105 (by decide) ?_
                refine lv_aload hx hb dX8_itemAt_118 (lv_at hl 0 rfl) ?_
                refine x_geto hx hb hf5 hw (by omega) (by omega) sl_26_0 lk161 dX8_itemAt_120 ?_
                refine lv_iload_n hx hb dX8_itemAt_123 rfl (lv_at hl 5 rfl) ?_
                have f21 : 0 ≤ ln r16 ∧ ln r16 ≤ 12 := hLn r16
                refine x_lald hx hb hK.1 hw (by omega) (by omega) ar_27 (show lenE ln 27 r16 = ln r16 from rfl) (by omega) (by omega) (by omega) dX8_itemAt_124 ?_
                have f22 : (-9223372036854775808) ≤ X 27 r16 i ∧ X 27 r16 i ≤ 9223372036854775807 := hR 27 r16 i
                refine vx_ret ?_
                refine ret_l (mc := 1) (ms := 6) hx hb hr hlocks hw hS (by first | exact Nat.le_of_ble_eq_true rfl | omega) (by first | exact Nat.le_of_ble_eq_true rfl | omega) dX8_itemAt_125 ?_
                exact ⟨rfl, by omega⟩
              · subst ez18
                refine x_if_neF (tgt := 118) hx hb (by omega) (by decide) dX8_itemAt_105 (by decide) ?_
                obtain ⟨sa, hsa⟩ := hT.1.2.2.2.2
                exact t_throw hx hb hlT hown (by decide +kernel) (hts (.classLink RX8 188 eI) (by decide +kernel)) (hts (.initialized eI) (by decide +kernel)) hsa (fun w hq => hts w (List.mem_cons_of_mem _ (List.mem_append_left _ (List.mem_append_right _ hq)))) (by decide +kernel) hT.2.2.1.2.1 hT (by decide +kernel) hw hS (hl.1.trans hml.symm) dX8_itemAt_108 dX8_itemAt_111 dX8_itemAt_112 dX8_itemAt_114 dX8_itemAt_117 hex (Nat.le_of_ble_eq_true rfl) (Nat.le_of_ble_eq_true rfl) (by show _ ≤ (1 : Nat); omega) (by show _ ≤ (6 : Nat); omega) hlocks (by decide) (by omega) (by omega)
          · subst ez12
            refine x_if_neF (tgt := 71) hx hb (by omega) (by decide) dX8_itemAt_58 (by decide) ?_
            obtain ⟨sa, hsa⟩ := hT.1.2.2.1
            exact t_throw hx hb hlT hown (by decide +kernel) (hts (.classLink RX8 196 eS) (by decide +kernel)) (hts (.initialized eS) (by decide +kernel)) hsa (fun w hq => hts w (List.mem_cons_of_mem _ (List.mem_append_right _ hq))) (by decide +kernel) hT.2.2.1.2.2 hT (by decide +kernel) hw hS (hl.1.trans hml.symm) dX8_itemAt_61 dX8_itemAt_64 dX8_itemAt_65 dX8_itemAt_67 dX8_itemAt_70 hex (Nat.le_of_ble_eq_true rfl) (Nat.le_of_ble_eq_true rfl) (by show _ ≤ (1 : Nat); omega) (by show _ ≤ (6 : Nat); omega) hlocks (by decide) (by omega) (by omega)
      · subst ez6
        refine x_if_neF (tgt := 45) hx hb (by omega) (by decide) dX8_itemAt_32 (by decide) ?_
        obtain ⟨sa, hsa⟩ := hT.1.2.1
        exact t_throw hx hb hlT hown (by decide +kernel) (hts (.classLink RX8 188 eI) (by decide +kernel)) (hts (.initialized eI) (by decide +kernel)) hsa (fun w hq => hts w (List.mem_cons_of_mem _ (List.mem_append_left _ (List.mem_append_right _ hq)))) (by decide +kernel) hT.2.2.1.2.1 hT (by decide +kernel) hw hS (hl.1.trans hml.symm) dX8_itemAt_35 dX8_itemAt_38 dX8_itemAt_39 dX8_itemAt_41 dX8_itemAt_44 hex (Nat.le_of_ble_eq_true rfl) (Nat.le_of_ble_eq_true rfl) (by show _ ≤ (1 : Nat); omega) (by show _ ≤ (6 : Nat); omega) hlocks (by decide) (by omega) (by omega)
end
section
section
def wsL_at_r1 : List Cond := [Cond.classLink RL 13 "java/lang/IllegalArgumentException", Cond.classLink RL 15 "java/lang/IndexOutOfBoundsException", Cond.methodLink RL 7 yX8_at, Cond.instanceMethod yX8_at, Cond.selects RX8 yX8_at yX8_at, Cond.initialized RX8, Cond.code yX8_at cX8_at 5 (some .long), Cond.classLink RX8 181 "java/lang/IllegalArgumentException", Cond.initialized "java/lang/IllegalArgumentException", Cond.classLink RX8 188 "java/lang/IndexOutOfBoundsException", Cond.initialized "java/lang/IndexOutOfBoundsException", Cond.fieldLink RX8 97 "StateRecords$Thing" "type" "LStateRecords$Type;", Cond.fieldLink RX8 135 "StateRecords$Type" "lanes" "[I", Cond.fieldLink RX8 193 "StateRecords$Thing" "values" "[J", Cond.fieldLink RX8 158 "StateRecords$Thing" "rows" "[LStateRecords$Row;", Cond.constantLong RX8 88 (-1), Cond.fieldLink RX8 161 "StateRecords$Row" "items" "[J", Cond.methodLink RX8 177 yX8_thingNumbered, Cond.instanceMethod yX8_thingNumbered, Cond.selects RX8 yX8_thingNumbered yX8_thingNumbered, Cond.code yX8_thingNumbered cX8_thingNumbered 3 (some (.object "StateRecords$Thing")), Cond.fieldLink RX8 94 "StateRecords" "thingCount" "I", Cond.fieldLink RX8 17 "StateRecords" "things" "[LStateRecords$Thing;", Cond.methodLink RX8 104 yX7_hasField]
def wsL_at_r2 : List Cond := [Cond.instanceMethod yX7_hasField, Cond.selects RX7 yX7_hasField yX7_hasField, Cond.initialized RX7, Cond.code yX7_hasField cX7_hasField 2 (some .boolean), Cond.fieldLink RX7 36 "StateRecords$Type" "fieldCount" "I", Cond.static yX8_isBelow, Cond.code yX8_isBelow cX8_isBelow 2 (some .boolean), Cond.methodLink RX8 150 yX8_isRowLane, Cond.static yX8_isRowLane, Cond.code yX8_isRowLane cX8_isRowLane 1 (some .boolean)]
def wsL_at : List Cond := .codeWith yL_at cL_at 5 (some .int) [(0, 9, 12, 13), (0, 9, 16, 15)] :: ((wsL_at_r1 ++ wsL_at_r2) ++ wsX60 ++ wsX70 ++ wsX50 ++ wsX80 ++ (vx_atS RX8 185 "java/lang/IllegalArgumentException" ["java/lang/RuntimeException", "java/lang/Exception"]).filter goodWord ++ (vx_atS RX8 192 "java/lang/IndexOutOfBoundsException" ["java/lang/RuntimeException", "java/lang/Exception"]).filter goodWord)
def wsL_itemAt_r1 : List Cond := [Cond.classLink RL 13 "java/lang/IllegalArgumentException", Cond.classLink RL 21 "java/lang/IllegalStateException", Cond.classLink RL 15 "java/lang/IndexOutOfBoundsException", Cond.methodLink RL 17 yX8_itemAt, Cond.instanceMethod yX8_itemAt, Cond.selects RX8 yX8_itemAt yX8_itemAt, Cond.initialized RX8, Cond.code yX8_itemAt cX8_itemAt 6 (some .long), Cond.classLink RX8 181 "java/lang/IllegalArgumentException", Cond.initialized "java/lang/IllegalArgumentException", Cond.classLink RX8 188 "java/lang/IndexOutOfBoundsException", Cond.initialized "java/lang/IndexOutOfBoundsException", Cond.classLink RX8 196 "java/lang/IllegalStateException", Cond.initialized "java/lang/IllegalStateException", Cond.fieldLink RX8 97 "StateRecords$Thing" "type" "LStateRecords$Type;", Cond.fieldLink RX8 135 "StateRecords$Type" "lanes" "[I", Cond.fieldLink RX8 158 "StateRecords$Thing" "rows" "[LStateRecords$Row;", Cond.fieldLink RX8 161 "StateRecords$Row" "items" "[J", Cond.methodLink RX8 177 yX8_thingNumbered, Cond.instanceMethod yX8_thingNumbered, Cond.selects RX8 yX8_thingNumbered yX8_thingNumbered, Cond.code yX8_thingNumbered cX8_thingNumbered 3 (some (.object "StateRecords$Thing")), Cond.fieldLink RX8 94 "StateRecords" "thingCount" "I", Cond.fieldLink RX8 17 "StateRecords" "things" "[LStateRecords$Thing;"]
def wsL_itemAt_r2 : List Cond := [Cond.methodLink RX8 104 yX7_hasField, Cond.instanceMethod yX7_hasField, Cond.selects RX7 yX7_hasField yX7_hasField, Cond.initialized RX7, Cond.code yX7_hasField cX7_hasField 2 (some .boolean), Cond.fieldLink RX7 36 "StateRecords$Type" "fieldCount" "I", Cond.static yX8_isBelow, Cond.code yX8_isBelow cX8_isBelow 2 (some .boolean), Cond.methodLink RX8 150 yX8_isRowLane, Cond.static yX8_isRowLane, Cond.code yX8_isRowLane cX8_isRowLane 1 (some .boolean), Cond.methodLink RX8 74 yX8_isBelow]
def wsL_itemAt : List Cond := .codeWith yL_itemAt cL_itemAt 6 (some .int) [(0, 11, 14, 13), (0, 11, 18, 21), (0, 11, 22, 15)] :: ((wsL_itemAt_r1 ++ wsL_itemAt_r2) ++ wsX60 ++ wsX70 ++ wsX50 ++ wsX80 ++ (vx_atS RX8 185 "java/lang/IllegalArgumentException" ["java/lang/RuntimeException", "java/lang/Exception"]).filter goodWord ++ (vx_atS RX8 192 "java/lang/IndexOutOfBoundsException" ["java/lang/RuntimeException", "java/lang/Exception"]).filter goodWord ++ (vx_atS RX8 200 "java/lang/IllegalStateException" ["java/lang/RuntimeException", "java/lang/Exception"]).filter goodWord)
set_option maxRecDepth 20000 in
theorem ggL_at_X8_at : GoodIn wsL_at wsX8_at := goodIn_ca (goodIn_ca (goodIn_r _ [7, 8, 9, 10, 11, 12, 13, 14, 15, 16, 17, 18, 19, 20, 6, 21, 22, 23, 24, 25, 26, 27, 28, 29, 30, 31, 32, 33, 34, 35, 36, 37, 38, 39, 40, 41, 42, 43, 44, 45, 46, 47, 48, 49, 50, 51, 52, 53, 54, 55, 56, 57, 58, 59, 60] (by decide +kernel) (by decide +kernel)) (goodIn_sub (fun _ h => List.mem_cons_of_mem _ (List.mem_append_left _ (List.mem_append_right _ h))) (by decide +kernel))) (goodIn_sub (fun _ h => List.mem_cons_of_mem _ (List.mem_append_right _ h)) (by decide +kernel))
set_option maxRecDepth 20000 in
theorem gL_at_X8_at : GoodIn wsL_at (wsV RL 7 RX8 yX8_at wsX8_at) := goodIn_app (goodIn_of _ (by decide +kernel)) ggL_at_X8_at
set_option maxRecDepth 20000 in
theorem ggL_itemAt_X8_itemAt : GoodIn wsL_itemAt wsX8_itemAt := goodIn_ca (goodIn_ca (goodIn_ca (goodIn_r _ [8, 9, 10, 11, 12, 13, 14, 15, 16, 17, 18, 19, 20, 21, 7, 22, 23, 24, 25, 26, 27, 28, 29, 30, 31, 32, 33, 34, 35, 36, 37, 38, 39, 40, 41, 42, 43, 44, 45, 46, 47, 48, 49, 50, 51, 52, 53, 54, 55, 56, 57, 58, 59, 60, 61, 62] (by decide +kernel) (by decide +kernel)) (goodIn_sub (fun _ h => List.mem_cons_of_mem _ (List.mem_append_left _ (List.mem_append_left _ (List.mem_append_right _ h)))) (by decide +kernel))) (goodIn_sub (fun _ h => List.mem_cons_of_mem _ (List.mem_append_left _ (List.mem_append_right _ h))) (by decide +kernel))) (goodIn_sub (fun _ h => List.mem_cons_of_mem _ (List.mem_append_right _ h)) (by decide +kernel))
set_option maxRecDepth 20000 in
theorem gL_itemAt_X8_itemAt : GoodIn wsL_itemAt (wsV RL 17 RX8 yX8_itemAt wsX8_itemAt) := goodIn_app (goodIn_of _ (by decide +kernel)) ggL_itemAt_X8_itemAt
end
section
/-! the law's two readers: what they throw is caught -/
theorem KH_of {l : Launch} {D : va_G} {tc : Nat → ClassId} {base : Nat} {y : MethodName} {ws ws' : List Cond} {rm : Room} {av : List Value} {u : St} {mc ms : Nat} {Qc : Array Value → State → Outcome → State → Prop} {XC : String → State → State → Prop} {cc : ByteArray} {maxL : Nat} {ret : Option FieldType} {hh : List (Nat × Nat × Nat × Nat)}
    (hy : plainName y.cls = true) (hw : ws = Cond.codeWith y cc maxL ret hh :: ws') (hsl : (lg_sl av).length ≤ maxL)
    (body : ∀ (p : Program) (e : Env) (s : State) (m : MethodId) (below : List Frame) (meth : Method) (c : Code) (ls : Array Slot), p.tables.exec = Jvm.exec → c.code = cc → meth.sig.returnType = ret → c.maxLocals = maxL → s.vm.findClass y.cls = some m.cls → (∀ w ∈ ws, w.before av.toArray s = true) → meth.locks = false → c.exceptionTable.toList = tableOf hh → lv_has ls maxL (lv_args 0 av) → Kx D tc s → TK base s s.heap → wd D tc base u s.heap → va_S (frA base) s.heap s.heap [] →
      W p l e rm s m av.toArray below meth c s.heap [] 0 0 (vx_MQ below Qc XC av.toArray s mc ms (frA base)) (F0 m 0 ls [])) : vx_Met l y ws rm (PcT D tc base u av) Qc XC mc ms (frA base) := by
  refine vx_ofWH (cc := cc) (maxL := maxL) (ret := ret) (hh := hh) hy hw ?_
  intro p e s m args below meth c s₁ B hml hv
  obtain ⟨rfl, hW, hK, hT⟩ := hv
  have hl := lv_entry av (n := maxL) hsl
  rw [lg_entry_eq]
  exact body p e s m below meth c _ B.exec B.bytes B.returns hml (findClass_of_methodNamed B.named) (atoms_spec (ws := ws) B.pre) B.notSynchronized (vx_table (x := y) B (atoms_spec (ws := ws) B.pre _ (by rw [hw]; exact List.mem_cons_self))) hl hK hT hW va_S.rf
def XF (base : Nat) : String → State → State → Prop := vx_X (fun (_ : Unit) => False) (fun _ _ _ => True) (frA base)
theorem run_T {p : Program} {l : Launch} {e : Env} {R : Room} {s : State} {m : MethodId} {args : Array Value} {below : List Frame} {meth : Method} {c : Code} {H : Heap} {locs : List Loc} {cells slots : Nat}
    {cc bytes : ByteArray} {pc nL maxL mc ms n index : Nat} {ls : Array Slot} {rest st0 As : List Value} {D : va_G} {tc : Nat → ClassId} {base : Nat} {ad : Nat → Int → Nat} {cnt : Nat → Int} {X : Nat → Int → Int → Int} {Y : Nat → Int → Int → Option Int} {ln : Int → Int} {own : String} {N ci : Nat} {Ts ws : List Cond} {rm : Room} {ret : Option FieldType} {y : MethodName} {k j : Nat} {i : Int}
    {Qc : Array Value → State → Outcome → State → Prop} {XC : String → State → State → Prop} {c1 t1 : Nat} {q : vw_C} (hx : p.tables.exec = Jvm.exec) (hb : c.code = cc) (hml : c.maxLocals = nL) (hown : s.vm.findClass own = some m.cls) (hts : ∀ w ∈ Ts, w.before args s = true) (hM : vx_Met l y ws rm (PcT D tc base (ad, cnt, X, Y, ln) (.ref (ad k i) :: As)) Qc XC mc ms (frA base)) (cw : CallW R s args own q.1 index y bytes maxL ret ws rm mc ms n)
    (hK : Kx D tc s) (hT : TK base s s.heap) (hS : va_S (frA base) s.heap H locs) (hw : wd D tc base (ad, cnt, X, Y, ln) H) (h0 : 0 ≤ i) (h1 : i < cnt k) (hs : SL k j ci c1 t1 N) (hc : vwCl[ci]? = some q) (hn : As.length = n) (hl : ls.size = nL) (hstack : st0 = As.reverse ++ .ref (ad k i) :: rest) (hrm : (rest.map fun v => v.category).sum ≤ 8) (hdg : decode cc pc = .ok (.invokevirtual index, 3)) (hf : cells + mc ≤ R.cells ∧ slots + ms ≤ R.slots) :
    vx_Run p l e R s m args below meth c H locs cells slots mc ms (F0 m pc ls st0) rest (Qc (Value.ref (ad k i) :: As).toArray) XC (frA base) :=
  vx_runV ⟨hx, hb, hml, hown, hts⟩ hM cw ⟨PcT.blind, rcv hK hw h0 h1 hs hc, fun U hU hW => ⟨rfl, by rw [hU]; exact hw, hK.warm hW, by rw [hU]; exact hT.go hS hW⟩⟩ rfl hn hl hstack (lv_room hrm) hdg hf
end
section
set_option maxHeartbeats 4000000 in
set_option maxRecDepth 100000 in
theorem c_L_at (l : Launch) (hlT : l.stackTraces = false) (D : va_G) (tc : Nat → ClassId) (base : Nat) (ad : Nat → Int → Nat) (cnt : Nat → Int) (X : Nat → Int → Int → Int) (Y : Nat → Int → Int → Option Int) (ln : Int → Int) (hR : Rng X) (hFx : Fx cnt) (hLn : LnOK ln) (hCI : CInv cnt X Y ln) (x k : Int) (hqx : -2147483648 ≤ x ∧ x ≤ 2147483647) (hqk : -2147483648 ≤ k ∧ k ≤ 2147483647) : vx_Met l yL_at wsL_at ({ frames := 7, cells := 1, slots := 6, locals := 106 } : Room) (PcT D tc base (ad, cnt, X, Y, ln) [.ref (ad 0 0), .int (jI x), .int (jI k), .ref (ad 100 0)]) (QI D tc base (fun z u => ∃ X1 : Nat → Int → Int → Int, u = (ad, cnt, X1, Y, ln) ∧ Rng X1 ∧ Frm [10000] X X1 ∧ (0 ≤ z ∧ z ≤ 3))) (XF base) 1 6 (frA base) := by
  refine KH_of (cc := cL_at) (maxL := 5) (ret := some .int) (hh := [(0, 9, 12, 13), (0, 9, 16, 15)]) (by decide) rfl (Nat.le_of_ble_eq_true rfl) ?_
  intro p e s m below meth c ls hx hb hr hml hown hts hlocks htab hl hK hT hw hS
  have hown : s.vm.findClass RL = some m.cls := hown
  have hl : lv_has ls 5 [(0, .ref (ad 0 0)), (1, .int (jI x)), (2, .int (jI k)), (3, .ref (ad 100 0))] := hl
  have hc0 : cnt 0 = 1 := hFx.at 0 1 (by decide)
  have hc100 : cnt 100 = 1 := hFx.at 100 1 (by decide)
  refine lv_aload_n hx hb dL_at_0 rfl (lv_at hl 3 rfl) ?_
  refine lv_iconst (v := jI 0) hx hb dL_at_1 rfl ?_
  refine lv_aload_n hx hb dL_at_2 rfl (lv_at hl 0 rfl) ?_
  refine lv_iload_n hx hb dL_at_3 rfl (lv_at hl 1 rfl) ?_
  refine lv_iload_n hx hb dL_at_4 rfl (lv_at hl 2 rfl) ?_
  refine vx_calll (run_T (As := [.int (jI x), .int (jI k)]) (rest := [.int (jI 0), .ref (ad 100 0)]) hx hb hml hown hts (c_X8_at l hlT D tc base ad cnt X Y ln hR hFx hLn hCI x k hqx hqk) (cwV 2 hts gL_at_X8_at rfl rfl rfl (by first | exact hd_X8_at | decide +kernel) ⟨Nat.le_of_ble_eq_true rfl, Nat.le_of_ble_eq_true rfl⟩) hK hT hS hw (by omega) (by omega) sl_0_0 rfl rfl hl.1 rfl (Nat.le_of_ble_eq_true rfl) dL_at_5 ⟨Nat.le_of_ble_eq_true rfl, Nat.le_of_ble_eq_true rfl⟩) hS (fun q _ h => h) (fun q h => h) (fun q _ h => h) ?_ ?_
  · intro E ce q9 u9 t H1 locs1 ht hvm hp hB hz hk1 hS1 hcell hv hcl
    obtain ⟨hE, hw1⟩ := hB
    rw [ht] at hw1
    simp only [List.mem_cons, List.not_mem_nil, or_false] at hE
    rcases hE with rfl | rfl
    · refine vx_catch (name := eA) hown [] ⟨0, 9, 12, 13⟩ [⟨0, 9, 16, 15⟩] (by rw [htab]; rfl) (fun z hz => nomatch hz) (by decide) (by decide) (hts (.classLink RL 13 eA) (by decide +kernel)) (va_Nw.use rfl hT.2.2.1.1) hcell hv hcl ?_
      refine lv_astore (lv' := [(4, .ref q9), (0, .ref (ad 0 0)), (1, .int (jI x)), (2, .int (jI k)), (3, .ref (ad 100 0))]) hx hb dL_at_12 hl (by decide) rfl (fun ls hl => ?_)
      refine lv_iconst (v := jI 1) hx hb dL_at_14 rfl ?_
      refine vx_ret ?_
      exact ret_i (mc := 1) (ms := 6) (z := 1) hx hb hr hlocks hw1 hS1 (by omega) (by omega) dL_at_15 ⟨X, rfl, hR, Frm.rf, by omega⟩
    · refine vx_catch (name := eI) hown [⟨0, 9, 12, 13⟩] ⟨0, 9, 16, 15⟩ [] (by rw [htab]; rfl) (fun z hz => by rw [List.mem_singleton.mp hz]; exact Or.inr ⟨by decide, eA, hts (.classLink RL 13 eA) (by decide +kernel), hT.2.2.2.1.1⟩) (by decide) (by decide) (hts (.classLink RL 15 eI) (by decide +kernel)) (va_Nw.use rfl hT.2.2.1.2.1) hcell hv hcl ?_
      refine lv_astore (lv' := [(4, .ref q9), (0, .ref (ad 0 0)), (1, .int (jI x)), (2, .int (jI k)), (3, .ref (ad 100 0))]) hx hb dL_at_16 hl (by decide) rfl (fun ls hl => ?_)
      refine lv_iconst (v := jI 2) hx hb dL_at_18 rfl ?_
      refine vx_ret ?_
      exact ret_i (mc := 1) (ms := 6) (z := 2) hx hb hr hlocks hw1 hS1 (by omega) (by omega) dL_at_19 ⟨X, rfl, hR, Frm.rf, by omega⟩
  · intro r u9 t H1 locs1 ht hvm hp hB hz hk1 hS1
    obtain ⟨z, rfl, rfl, hz9⟩ := hp
    rw [ht] at hB
    refine x_last hx hb hK.1 hB hS1 (by omega) (by omega) ar_100 (len_E ar_100 (by first | exact Nat.ne_of_beq_eq_false rfl | decide)) (by omega) (by omega) (by omega) dL_at_8 (fun H locs hw hS => ?_)
    refine lv_goto (tgt := 20) hx hb dL_at_9 (by decide) ?_
    refine lv_iconst (v := jI 0) hx hb dL_at_20 rfl ?_
    refine vx_ret ?_
    exact ret_i (mc := 1) (ms := 6) (z := 0) hx hb hr hlocks hw hS (by omega) (by omega) dL_at_21 ⟨_, rfl, rng_set hR (show (-9223372036854775808) ≤ z ∧ z ≤ 9223372036854775807 by omega), Frm.set Frm.rf (by decide), by omega⟩

set_option maxHeartbeats 4000000 in
set_option maxRecDepth 100000 in
theorem c_L_itemAt (l : Launch) (hlT : l.stackTraces = false) (D : va_G) (tc : Nat → ClassId) (base : Nat) (ad : Nat → Int → Nat) (cnt : Nat → Int) (X : Nat → Int → Int → Int) (Y : Nat → Int → Int → Option Int) (ln : Int → Int) (hR : Rng X) (hFx : Fx cnt) (hLn : LnOK ln) (hCI : CInv cnt X Y ln) (x k i : Int) (hqx : -2147483648 ≤ x ∧ x ≤ 2147483647) (hqk : -2147483648 ≤ k ∧ k ≤ 2147483647) (hqi : -2147483648 ≤ i ∧ i ≤ 2147483647) : vx_Met l yL_itemAt wsL_itemAt ({ frames := 7, cells := 1, slots := 6, locals := 107 } : Room) (PcT D tc base (ad, cnt, X, Y, ln) [.ref (ad 0 0), .int (jI x), .int (jI k), .int (jI i), .ref (ad 100 0)]) (QI D tc base (fun z u => ∃ X1 : Nat → Int → Int → Int, u = (ad, cnt, X1, Y, ln) ∧ Rng X1 ∧ Frm [10000] X X1 ∧ (0 ≤ z ∧ z ≤ 3))) (XF base) 1 6 (frA base) := by
  refine KH_of (cc := cL_itemAt) (maxL := 6) (ret := some .int) (hh := [(0, 11, 14, 13), (0, 11, 18, 21), (0, 11, 22, 15)]) (by decide) rfl (Nat.le_of_ble_eq_true rfl) ?_
  intro p e s m below meth c ls hx hb hr hml hown hts hlocks htab hl hK hT hw hS
  have hown : s.vm.findClass RL = some m.cls := hown
  have hl : lv_has ls 6 [(0, .ref (ad 0 0)), (1, .int (jI x)), (2, .int (jI k)), (3, .int (jI i)), (4, .ref (ad 100 0))] := hl
  have hc0 : cnt 0 = 1 := hFx.at 0 1 (by decide)
  have hc100 : cnt 100 = 1 := hFx.at 100 1 (by decide)
  refine lv_aload hx hb dL_itemAt_0 (lv_at hl 4 rfl) ?_
  refine lv_iconst (v := jI 0) hx hb dL_itemAt_2 rfl ?_
  refine lv_aload_n hx hb dL_itemAt_3 rfl (lv_at hl 0 rfl) ?_
  refine lv_iload_n hx hb dL_itemAt_4 rfl (lv_at hl 1 rfl) ?_
  refine lv_iload_n hx hb dL_itemAt_5 rfl (lv_at hl 2 rfl) ?_
  refine lv_iload_n hx hb dL_itemAt_6 rfl (lv_at hl 3 rfl) ?_
  refine vx_calll (run_T (As := [.int (jI x), .int (jI k), .int (jI i)]) (rest := [.int (jI 0), .ref (ad 100 0)]) hx hb hml hown hts (c_X8_itemAt l hlT D tc base ad cnt X Y ln hR hFx hLn hCI x k i hqx hqk hqi) (cwV 3 hts gL_itemAt_X8_itemAt rfl rfl rfl (by first | exact hd_X8_itemAt | decide +kernel) ⟨Nat.le_of_ble_eq_true rfl, Nat.le_of_ble_eq_true rfl⟩) hK hT hS hw (by omega) (by omega) sl_0_0 rfl rfl hl.1 rfl (Nat.le_of_ble_eq_true rfl) dL_itemAt_7 ⟨Nat.le_of_ble_eq_true rfl, Nat.le_of_ble_eq_true rfl⟩) hS (fun q _ h => h) (fun q h => h) (fun q _ h => h) ?_ ?_
  · intro E ce q9 u9 t H1 locs1 ht hvm hp hB hz hk1 hS1 hcell hv hcl
    obtain ⟨hE, hw1⟩ := hB
    rw [ht] at hw1
    simp only [List.mem_cons, List.not_mem_nil, or_false] at hE
    rcases hE with rfl | rfl | rfl
    · refine vx_catch (name := eA) hown [] ⟨0, 11, 14, 13⟩ [⟨0, 11, 18, 21⟩, ⟨0, 11, 22, 15⟩] (by rw [htab]; rfl) (fun z hz => nomatch hz) (by decide) (by decide) (hts (.classLink RL 13 eA) (by decide +kernel)) (va_Nw.use rfl hT.2.2.1.1) hcell hv hcl ?_
      refine lv_astore (lv' := [(5, .ref q9), (0, .ref (ad 0 0)), (1, .int (jI x)), (2, .int (jI k)), (3, .int (jI i)), (4, .ref (ad 100 0))]) hx hb dL_itemAt_14 hl (by decide) rfl (fun ls hl => ?_)
      refine lv_iconst (v := jI 1) hx hb dL_itemAt_16 rfl ?_
      refine vx_ret ?_
      exact ret_i (mc := 1) (ms := 6) (z := 1) hx hb hr hlocks hw1 hS1 (by omega) (by omega) dL_itemAt_17 ⟨X, rfl, hR, Frm.rf, by omega⟩
    · refine vx_catch (name := eI) hown [⟨0, 11, 14, 13⟩, ⟨0, 11, 18, 21⟩] ⟨0, 11, 22, 15⟩ [] (by rw [htab]; rfl) (fun z hz => by exact (List.mem_cons.mp hz).elim (fun h => by rw [h]; exact Or.inr ⟨by decide, eA, hts (.classLink RL 13 eA) (by decide +kernel), hT.2.2.2.1.1⟩) (fun h => by rw [List.mem_singleton.mp h]; exact Or.inr ⟨by decide, eS, hts (.classLink RL 21 eS) (by decide +kernel), hT.2.2.2.1.2.2⟩)) (by decide) (by decide) (hts (.classLink RL 15 eI) (by decide +kernel)) (va_Nw.use rfl hT.2.2.1.2.1) hcell hv hcl ?_
      refine lv_astore (lv' := [(5, .ref q9), (0, .ref (ad 0 0)), (1, .int (jI x)), (2, .int (jI k)), (3, .int (jI i)), (4, .ref (ad 100 0))]) hx hb dL_itemAt_22 hl (by decide) rfl (fun ls hl => ?_)
      refine lv_iconst (v := jI 3) hx hb dL_itemAt_24 rfl ?_
      refine vx_ret ?_
      exact ret_i (mc := 1) (ms := 6) (z := 3) hx hb hr hlocks hw1 hS1 (by omega) (by omega) dL_itemAt_25 ⟨X, rfl, hR, Frm.rf, by omega⟩
    · refine vx_catch (name := eS) hown [⟨0, 11, 14, 13⟩] ⟨0, 11, 18, 21⟩ [⟨0, 11, 22, 15⟩] (by rw [htab]; rfl) (fun z hz => by rw [List.mem_singleton.mp hz]; exact Or.inr ⟨by decide, eA, hts (.classLink RL 13 eA) (by decide +kernel), hT.2.2.2.1.2.1⟩) (by decide) (by decide) (hts (.classLink RL 21 eS) (by decide +kernel)) (va_Nw.use rfl hT.2.2.1.2.2) hcell hv hcl ?_
      refine lv_astore (lv' := [(5, .ref q9), (0, .ref (ad 0 0)), (1, .int (jI x)), (2, .int (jI k)), (3, .int (jI i)), (4, .ref (ad 100 0))]) hx hb dL_itemAt_18 hl (by decide) rfl (fun ls hl => ?_)
      refine lv_iconst (v := jI 2) hx hb dL_itemAt_20 rfl ?_
      refine vx_ret ?_
      exact ret_i (mc := 1) (ms := 6) (z := 2) hx hb hr hlocks hw1 hS1 (by omega) (by omega) dL_itemAt_21 ⟨X, rfl, hR, Frm.rf, by omega⟩
  · intro r u9 t H1 locs1 ht hvm hp hB hz hk1 hS1
    obtain ⟨z, rfl, rfl, hz9⟩ := hp
    rw [ht] at hB
    refine x_last hx hb hK.1 hB hS1 (by omega) (by omega) ar_100 (len_E ar_100 (by first | exact Nat.ne_of_beq_eq_false rfl | decide)) (by omega) (by omega) (by omega) dL_itemAt_10 (fun H locs hw hS => ?_)
    refine lv_goto (tgt := 26) hx hb dL_itemAt_11 (by decide) ?_
    refine lv_iconst (v := jI 0) hx hb dL_itemAt_26 rfl ?_
    refine vx_ret ?_
    exact ret_i (mc := 1) (ms := 6) (z := 0) hx hb hr hlocks hw hS (by omega) (by omega) dL_itemAt_27 ⟨_, rfl, rng_set hR (show (-9223372036854775808) ≤ z ∧ z ≤ 9223372036854775807 by omega), Frm.set Frm.rf (by decide), by omega⟩
end
end
section
section
/-! new cells hold nothing: what is there before anything was written -/
def Zr (cnt : Nat → Int) (X : Nat → Int → Int → Int) (Y : Nat → Int → Int → Option Int) : Prop := ∀ k i j, (i < 0 ∨ cnt k ≤ i) → X k i j = 0 ∧ Y k i j = none
def rawV (g : Nat → Nat) (c : Nat × Nat) : Value := if c.1 = 0 then .int 0 else if c.1 = 1 then .long 0 else if c.1 = 3 then .ref (g c.2) else .null
def rawE (tc : Nat → ClassId) (g : Nat → Nat) (k : Nat) : va_E :=
  if (lay k).1 = 0 then
    (if (lay k).2.2.1.1 = 0 then .inl (tc (lay k).2.2.1.2.1, ((lay k).2.2.2).toNat, .inl (fun _ => 0))
    else if (lay k).2.2.1.1 = 1 then .inl (tc (lay k).2.2.1.2.1, ((lay k).2.2.2).toNat, .inr (.inl (fun _ => 0)))
    else .inl (tc (lay k).2.2.1.2.1, ((lay k).2.2.2).toNat, .inr (.inr (.inr (.inr (fun _ => none))))))
  else .inr ((lay k).1 - 1, (List.range (lay k).2.1.length).map (fun j => rawV g (slo k j)))
section RW
variable {D : va_G} {tc : Nat → ClassId} {base : Nat} {E F : va_W} {H : Heap} {ad ad1 : Nat → Int → Nat} {cnt : Nat → Int} {X : Nat → Int → Int → Int} {Y : Nat → Int → Int → Option Int} {ln : Int → Int} {KS : List Nat} {n : Int} {f : Nat → Nat} {k : Nat}
theorem ceE_raw (hk : k ≠ 27) (hX : ∀ j, X k n j = 0) (hY : ∀ j, Y k n j = none) : ceE tc ad X Y ln k n = rawE tc (fun t => ad t n) k := by
  have hX2 : X k n = fun _ => 0 := funext hX
  have hY2 : Y k n = fun _ => none := funext hY
  unfold ceE rawE lenE
  rw [if_neg hk, hX2, hY2]
  split
  · split
    · rfl
    · split
      · rfl
      · rfl
  · congr 2
    refine List.map_congr_left (fun j hj => ?_)
    unfold slV rawV
    rw [hX2, hY2]
    rfl
theorem growz (hw : wx D tc base (ad, cnt, X, Y, ln) (E ++ F) H) (h0 : 0 ≤ n) (hn : ∀ k ∈ KS, cnt k = n) (h27 : 27 ∉ KS) (ho : Own cnt) (hz : Zr cnt X Y) (hF : F = KS.map fun k => (f k, rawE tc (fun t => up2 ad KS n f t n) k)) : wx D tc base (up2 ad KS n f, upc cnt KS, X, Y, ln) E H := by
  have hrf := wd_ref (wx_wd hw)
  refine adopt (NL := KS.map fun k => (k, n)) hw ?_ (fun k i g0 g1 => ?_) ho (fun k i => ?_) ?_
  · rw [hF]
    unfold wlE
    rw [List.map_map]
    refine List.map_congr_left (fun k hk => ?_)
    have h1 := hz k n
    rw [Function.comp]
    show (f k, rawE tc (fun t => up2 ad KS n f t n) k) = (up2 ad KS n f k n, ceE tc (up2 ad KS n f) X Y ln k n)
    rw [ceE_raw (fun q => h27 (q ▸ hk)) (fun j => (h1 j (Or.inr (by rw [hn k hk]; omega))).1) (fun j => (h1 j (Or.inr (by rw [hn k hk]; omega))).2), up2_s hk]
  · have hne : ¬ (k ∈ KS ∧ i = n) := fun q => by have := hn k q.1; omega
    exact ⟨by simp only [up2, if_neg hne], rfl, rfl, fun _ => rfl⟩
  · simp only [upc]
    by_cases hk : k ∈ KS
    · have := hn k hk
      rw [if_pos hk]
      constructor
      · intro h
        by_cases hi : i = n
        · exact Or.inr (List.mem_map.mpr ⟨k, hk, by rw [hi]⟩)
        · exact Or.inl (by omega)
      · rintro (h | h)
        · omega
        · obtain ⟨k', -, e⟩ := List.mem_map.mp h
          cases e
          omega
    · rw [if_neg hk]
      constructor
      · exact fun h => Or.inl h
      · rintro (h | h)
        · exact h
        · obtain ⟨k', hk', e⟩ := List.mem_map.mp h
          cases e
          exact absurd hk' hk
  · intro k i j t r g0 g1 hr e
    by_cases hm : k ∈ KS
    · by_cases hi : i = n
      · have := (hz k i j (Or.inr (by rw [hn k hm]; omega))).2
        rw [this] at e
        cases e
      · rw [upc_s hm] at g1
        have h5 := hn k hm
        have := hrf k i j t r g0 (by omega) hr e
        have h2 : cnt t ≤ upc cnt KS t := upc_le
        omega
    · rw [upc_k hm] at g1
      have := hrf k i j t r g0 g1 hr e
      have h2 : cnt t ≤ upc cnt KS t := upc_le
      omega
theorem Zr.up (hz : Zr cnt X Y) : Zr (upc cnt KS) X Y := fun k i j h => hz k i j (by have : cnt k ≤ upc cnt KS k := upc_le; omega)
theorem Zr.setX {i j v : Int} (hz : Zr cnt X Y) (h0 : 0 ≤ i) (h1 : i < cnt k) : Zr cnt (u3 X k i j v) Y := fun k' i' j' h => by
  refine ⟨?_, (hz k' i' j' h).2⟩
  simp only [u3]
  rw [if_neg (fun q => by obtain ⟨rfl, rfl, rfl⟩ := q; omega)]
  exact (hz k' i' j' h).1
theorem Zr.setY {i j : Int} {v : Option Int} (hz : Zr cnt X Y) (h0 : 0 ≤ i) (h1 : i < cnt k) : Zr cnt X (u3 Y k i j v) := fun k' i' j' h => by
  refine ⟨(hz k' i' j' h).1, ?_⟩
  simp only [u3]
  rw [if_neg (fun q => by obtain ⟨rfl, rfl, rfl⟩ := q; omega)]
  exact (hz k' i' j' h).2
theorem Own.up (h : Own cnt) (h1 : ∀ p ∈ ownL, p.1 ∈ KS → p.2 ∈ KS) (h2 : ∀ k ∈ KS, ¬ ((lay k).1 = 0 ∧ (lay k).2.2.1.1 = 9)) : Own (upc cnt KS) := by
  refine ⟨fun p hp => ?_, fun k g1 g2 => by rw [upc_k (fun q => h2 k q ⟨g1, g2⟩)]; exact h.2 k g1 g2⟩
  have h3 := h.1 p hp
  by_cases hm : p.1 ∈ KS
  · rw [upc_s hm, upc_s (h1 p hp hm)]
    omega
  · rw [upc_k hm]
    have : cnt p.2 ≤ upc cnt KS p.2 := upc_le
    omega
end RW
end
section
/-! a store beside cells that are being made -/
theorem wx_pos {D : va_G} {tc : Nat → ClassId} {base : Nat} {ad : Nat → Int → Nat} {cnt : Nat → Int} {X : Nat → Int → Int → Int} {R : Nat → Int → Int → Option Int} {ln : Int → Int} {E : va_W} {H : Heap} {k : Nat} {i : Int}
    (hw : wx D tc base (ad, cnt, X, R, ln) E H) (h0 : 0 ≤ i) (h1 : i < cnt k) : ∃ (ws : va_W) (q0 : Nat), va_P D vwCl ws H ∧ va_D (fun q => base ≤ q) ws ∧ ws[q0]? = some (ad k i, ceE tc ad X R ln k i) ∧
      (∀ (k' : Nat) (i' : Int), 0 ≤ i' → i' < cnt k' → ∃ q1 : Nat, ws[q1]? = some (ad k' i', ceE tc ad X R ln k' i')) ∧
      ∀ (X' : Nat → Int → Int → Int) (R' : Nat → Int → Int → Option Int) (H' : Heap), base ≤ H'.size → (∀ k' i', ¬ (k' = k ∧ i' = i) → X' k' i' = X k' i' ∧ R' k' i' = R k' i') → RefOK cnt R' → va_P D vwCl (ws.set q0 (ad k i, ceE tc ad X' R' ln k i)) H' → va_D (fun q => base ≤ q) (ws.set q0 (ad k i, ceE tc ad X' R' ln k i)) → wx D tc base (ad, cnt, X', R', ln) E H' := by
  obtain ⟨⟨RL, hRL, hP, hD⟩, -, -⟩ := hw
  have hget : ∀ (k' : Nat) (i' : Int), 0 ≤ i' → i' < cnt k' → ∃ q1 : Nat, RL[q1]? = some (k', i') ∧ (wlE tc ad X R ln RL ++ E)[q1]? = some (ad k' i', ceE tc ad X R ln k' i') := by
    intro k' i' g0 g1
    obtain ⟨q1, hq1⟩ := List.getElem?_of_mem ((hRL k' i').mpr ⟨g0, g1⟩)
    have hlt : q1 < (wlE tc ad X R ln RL).length := by
      have := (List.getElem?_eq_some_iff.mp hq1).1
      simpa [wlE] using this
    exact ⟨q1, hq1, by rw [List.getElem?_append_left hlt]; simp [wlE, hq1]⟩
  obtain ⟨q0, hr, hq⟩ := hget k i h0 h1
  have hq0 : q0 < (wlE tc ad X R ln RL).length := by
    have := (List.getElem?_eq_some_iff.mp hr).1
    simpa [wlE] using this
  refine ⟨wlE tc ad X R ln RL ++ E, q0, hP, hD, hq, fun k' i' g0 g1 => by obtain ⟨q1, -, h⟩ := hget k' i' g0 g1; exact ⟨q1, h⟩, ?_⟩
  intro X' R' H' hb hne hrf hP' hD'
  have hset : (wlE tc ad X R ln RL ++ E).set q0 (ad k i, ceE tc ad X' R' ln k i) = wlE tc ad X' R' ln RL ++ E := by
    rw [List.set_append_left _ _ hq0]
    congr 1
    apply List.ext_getElem?
    intro p
    by_cases hp : p = q0
    · subst hp
      rw [List.getElem?_set_self hq0]
      simp [wlE, hr]
    · rw [List.getElem?_set_ne (Ne.symm hp)]
      simp only [wlE, List.getElem?_map]
      cases hb2 : RL[p]? with
      | none => rfl
      | some r =>
        obtain ⟨rk, ri⟩ := r
        have hn : ¬ (rk = k ∧ ri = i) := by
          rintro ⟨rfl, rfl⟩
          have hlt : p < (wlE tc ad X R ln RL).length := by
            have := (List.getElem?_eq_some_iff.mp hb2).1
            simpa [wlE] using this
          have h2 : (wlE tc ad X R ln RL ++ E)[p]? = some (ad rk ri, ceE tc ad X R ln rk ri) := by rw [List.getElem?_append_left hlt]; simp [wlE, hb2]
          exact hp (hD.1 p q0 _ _ h2 hq rfl)
        have h3 := hne rk ri hn
        simp only [Option.map_some]
        rw [ceE_congr h3.1 h3.2]
  rw [hset] at hP' hD'
  exact ⟨⟨RL, hRL, hP', hD'⟩, hrf, hb⟩
theorem nx_aast {p : Program} {l : Launch} {e : Env} {R : Room} {s : State} {m : MethodId} {args : Array Value} {below : List Frame} {meth : Method} {c : Code} {H H0 : Heap} {locs : List Loc} {cells slots : Nat} {Q : State → Prop}
    {cc : ByteArray} {pc : Nat} {ls : Array Slot} {rest : List Value} {D : va_G} {tc : Nat → ClassId} {base : Nat} {ad : Nat → Int → Nat} {cnt : Nat → Int} {X : Nat → Int → Int → Int} {Y : Nat → Int → Int → Option Int} {ln : Int → Int} {E : va_W} {k tgt : Nat} {i z len : Int}
    (hx : p.tables.exec = Jvm.exec) (hb : c.code = cc) (hK : va_K D vwCl (tysL tc) s) (hw : wx D tc base (ad, cnt, X, Y, ln) E H) (hS : va_S (fun q => base ≤ q) H0 H locs) (hbs : base ≤ H0.size) (h0 : 0 ≤ i) (h1 : i < cnt k) {t0 cj j1 c1 t1 : Nat} {r : Int} {cl1 : vw_C} (hs : AR k 4 t0 tgt len) (ht : (tysL tc)[t0]? = some (tc t0, .object cl1.1)) (hc : vwCl[cj]? = some cl1) {N1 : Nat} (ho : SL tgt j1 cj c1 t1 N1) (hl : lenE ln k i = len) (z0 : 0 ≤ z) (z1 : z < len) (z2 : z ≤ 2147483647) (g0 : 0 ≤ r) (g1 : r < cnt tgt) (hdg : decode cc pc = .ok (.aastore, 1))
    (kk : ∀ (H1 : Heap) (locs1 : List Loc), wx D tc base (ad, cnt, X, u3 Y k i z (some r), ln) E H1 → va_S (fun q => base ≤ q) H0 H1 locs1 → W p l e R s m args below meth c H1 locs1 cells slots Q (F0 m (pc + 1) ls rest)) : W p l e R s m args below meth c H locs cells slots Q (F0 m pc ls (.ref (ad tgt r) :: .int (jI z) :: .ref (ad k i) :: rest)) := by
  obtain ⟨ws, q0, hP, hD, hq, hall, hset⟩ := wx_pos hw h0 h1
  obtain ⟨q1, hq1⟩ := hall tgt r g0 g1
  rw [ob_E ho] at hq1
  rw [ar_rE hs, hl] at hq
  refine va_astq hx hb hK hP hD hS q0 t0 q1 cj hq ht hq1 hc (jI_in z0 (by omega) z2) hdg (fun H1 locs1 hP1 hD1 hS1 => ?_)
  have he : ceE tc ad X (u3 Y k i z (some r)) ln k i = .inl (tc t0, len.toNat, .inr (.inr (.inr (.inr (va_up (fun q : Nat => (Y k i q).map (ad tgt)) (jI z).toNatClampNeg (some (ad tgt r))))))) := by
    rw [ar_rE hs, hl]
    congr 7
    funext q
    have e1 := jI_cl z0 z2
    by_cases hq2 : q = (jI z).toNatClampNeg
    · subst hq2
      simp [va_up, u3, e1]
    · have hq3 : ¬ ((q : Int) = z) := by omega
      simp [va_up, u3, hq2, hq3]
  rw [← he] at hP1 hD1
  refine kk H1 locs1 (hset X (u3 Y k i z (some r)) H1 (Nat.le_trans hbs hS1.1) (fun k' i' hne => ⟨rfl, u3_ne Y k k' i i' z _ hne⟩) (refOK_s (t := tgt) (wd_ref (wx_wd hw)) ?_ g0 g1) hP1 hD1) hS1
  intro j' t' ej hr
  rcases hr with ⟨-, -, z2⟩ | ⟨z1, -⟩
  · rw [hs.2.1] at z2; exact z2.symm
  · exact absurd hs.1 z1
end
section
/-! the journal is made -/
def JI (n : Int) (h0 : Nat) (ad : Nat → Int → Nat) (cnt : Nat → Int) (X : Nat → Int → Int → Int) (Y : Nat → Int → Int → Option Int) (ad1 : Nat → Int → Nat) (cnt1 : Nat → Int) (Y1 : Nat → Int → Int → Option Int) : Prop :=
  ad1 29 0 = h0 ∧ (∀ k i, k ∉ [28, 29, 30, 31] → ad1 k i = ad k i) ∧ (cnt1 28 = n ∧ cnt1 29 = 1 ∧ cnt1 30 = 1 ∧ cnt1 31 = 1) ∧ (∀ k, k ∉ [28, 29, 30, 31] → cnt1 k = cnt k) ∧ (∀ q, 0 ≤ q → q < n → Y1 30 0 q = some q) ∧ (∀ k i j, k ≠ 30 → Y1 k i j = Y k i j) ∧ Own cnt1 ∧ Zr cnt1 X Y1
set_option maxHeartbeats 4000000 in
set_option maxRecDepth 100000 in
theorem c_X2_init (l : Launch) (D : va_G) (tc : Nat → ClassId) (base : Nat) (ad : Nat → Int → Nat) (cnt : Nat → Int) (X : Nat → Int → Int → Int) (Y : Nat → Int → Int → Option Int) (ln : Int → Int) (E : va_W) (h0 : Nat) (hOw : Own cnt) (hz : Zr cnt X Y) (h28 : cnt 28 = 0) (h29 : cnt 29 = 0) (h30 : cnt 30 = 0) (h31 : cnt 31 = 0) :
    KC l D tc base yX2_init wsX2_init ({ frames := 2, cells := 82, slots := 404, locals := 32 } : Room) [.ref h0] (ad, cnt, X, Y, ln) (E ++ [(h0, .inr (2, [.null, .int 0, .null, .int 0]))]) 82 404 (fun u' E' => ∃ (ad1 : Nat → Int → Nat) (cnt1 : Nat → Int) (Y1 : Nat → Int → Int → Option Int), u' = (ad1, cnt1, X, Y1, ln) ∧ E' = E ∧ JI 80 h0 ad cnt X Y ad1 cnt1 Y1) := by
  refine KC_of (cc := cX2_init) (maxL := 2) (ret := none) (by decide) rfl (Nat.le_of_ble_eq_true rfl) ?_
  intro p e s m below meth c ls hx hb hr hml hown hts hlocks hnm hl hK hw hS
  have hnm : meth.name = "<init>" := hnm
  have hown : s.vm.findClass RX2 = some m.cls := hown
  have hbs : base ≤ s.heap.size := hw.2.2
  have hi2 : ∀ w ∈ wsX20, w ∈ wsX2_init := fun w h => List.mem_cons_of_mem _ (List.mem_append_left _ (List.mem_append_right _ h))
  have hi3 : ∀ w ∈ wsX30, w ∈ wsX2_init := fun w h => List.mem_cons_of_mem _ (List.mem_append_right _ h)
  have hf2 : fctx s m _ RX2 wsX2_init D tc RX2 TX2 4 2 := ⟨hts, hi2, hown, hK.1, rfl⟩
  have hf3 : fctx s m _ RX2 wsX2_init D tc RX3 TX3 4 3 := ⟨hts, hi3, hown, hK.1, rfl⟩
  have lk11 := hts (.fieldLink RX2 11 (TX2 0).1 (TX2 0).2.1 (TX2 0).2.2.1) (gj_X2_init_0 _ (gp_4 gp_h))
  have lk17 := hts (.fieldLink RX2 17 (TX2 2).1 (TX2 2).2.1 (TX2 2).2.2.1) (gj_X2_init_0 _ (gp_4 (gp_1 (gp_1 gp_h))))
  have hl : lv_has ls 2 [(0, .ref h0)] := hl
  refine lv_aload_n hx hb dX2_init_0 rfl (lv_at hl 0 rfl) ?_
  refine W.objInit hx hb hown (hts (.methodLink RX2 3 objectInit) (by first | exact gj_X2_init_0 _ (gp_h) | decide +kernel)) (hts (.instanceMethod objectInit) (by first | exact gj_X2_init_0 _ (gp_1 gp_h) | decide +kernel)) (hts _ (List.mem_cons_of_mem _ (List.mem_append_left _ (List.mem_append_left _ (List.mem_of_getElem? (i := 2) rfl))))) rfl (by rw [hml]; exact hl.1) rfl dX2_init_1 (Nat.le_of_ble_eq_true rfl) (Nat.le_of_ble_eq_true rfl) ?_
  refine W.eq (g2 := F0 m 4 ls []) rfl ?_
  refine lv_aload_n hx hb dX2_init_4 rfl (lv_at hl 0 rfl) ?_
  refine lv_bipush (v := jI 80) hx hb dX2_init_5 (by decide) ?_
  refine g_newq (t := 4) (z := 80) hx hb hown (hts (.classLink RX2 9 RX3) (by first | exact gj_X2_init_0 _ (gp_1 (gp_1 (gp_1 gp_h))) | decide +kernel)) hK.2.2.2.2.2.2.1 hK.1 rfl hw hS hbs (by omega) (by omega) (show 0 + 1 ≤ 82 by omega) (show 0 + (80 : Int).toNat ≤ 404 by omega) dX2_init_7 (fun q1 H hw hS => ?_)
  have hw : wx D tc base (ad, cnt, X, Y, ln) (E ++ [(h0, .inr (2, [.null, .int 0, .null, .int 0])), (q1, .inl (tc 4, (80 : Int).toNat, .inr (.inr (.inr (.inr (fun _ => none))))))]) H := hw
  refine W.widen (k := 1) (n := 80) (by omega) (by omega) ?_
  refine g_putF (ci := 2) hx hb hf2 ⟨tyX2_ok, nmX2⟩ hw hS 0 rfl 0 (by decide) lk11 rfl hnm rfl (tyX2_ok 0 (by decide)) rfl rfl (Nat.le_of_ble_eq_true rfl) dX2_init_10 (fun H locs hw hS => ?_)
  have hw : wx D tc base (ad, cnt, X, Y, ln) (E ++ [(h0, .inr (2, [.ref q1, .int 0, .null, .int 0])), (q1, .inl (tc 4, (80 : Int).toNat, .inr (.inr (.inr (.inr (fun _ => none))))))]) H := hw
  refine lv_aload_n hx hb dX2_init_13 rfl (lv_at hl 0 rfl) ?_
  refine lv_iconst (v := jI 4) hx hb dX2_init_14 rfl ?_
  refine g_newa (t := 0) (z := 4) (a0 := ((4 : Int).toNat, .inl (fun _ => 0))) (atype := .int) hx hb (hts (.arrayClass .int) (by first | exact gj_X2_init_0 _ (gp_4 (gp_1 gp_h)) | decide +kernel)) rfl hK.1 rfl hw hS hbs (fun _ => rfl) (by omega) (by omega) (by decide) (show 1 + 1 ≤ 82 by omega) (show 80 + (4 : Int).toNat ≤ 404 by omega) dX2_init_15 (fun q2 H hw hS => ?_)
  have hw : wx D tc base (ad, cnt, X, Y, ln) (E ++ [(h0, .inr (2, [.ref q1, .int 0, .null, .int 0])), (q1, .inl (tc 4, (80 : Int).toNat, .inr (.inr (.inr (.inr (fun _ => none)))))), (q2, .inl (tc 0, (4 : Int).toNat, .inl (fun _ => 0)))]) H := hw
  refine W.widen (k := 2) (n := 84) (by omega) (by omega) ?_
  refine g_putF (ci := 2) hx hb hf2 ⟨tyX2_ok, nmX2⟩ hw hS 0 rfl 2 (by decide) lk17 rfl hnm rfl (tyX2_ok 2 (by decide)) rfl rfl (Nat.le_of_ble_eq_true rfl) dX2_init_17 (fun H locs hw hS => ?_)
  have hw : wx D tc base (ad, cnt, X, Y, ln) (E ++ [(h0, .inr (2, [.ref q1, .int 0, .ref q2, .int 0])), (q1, .inl (tc 4, (80 : Int).toNat, .inr (.inr (.inr (.inr (fun _ => none)))))), (q2, .inl (tc 0, (4 : Int).toNat, .inl (fun _ => 0)))]) H := hw
  have hw := growz (KS := [29, 30, 31]) (n := 0) (f := fun k => if k = 29 then h0 else if k = 30 then q1 else q2) hw (by omega) (fun k hk => by
    simp only [List.mem_cons, List.not_mem_nil, or_false] at hk
    rcases hk with rfl | rfl | rfl
    · exact h29
    · exact h30
    · exact h31) (by decide) hOw hz rfl
  have hJ : JI 0 h0 ad cnt X Y (up2 ad [29, 30, 31] 0 (fun k => if k = 29 then h0 else if k = 30 then q1 else q2)) (upc cnt [29, 30, 31]) Y := by
    refine ⟨by rw [up2_s (by decide)]; rfl, fun k i hk => by rw [up2_k (fun q => hk (List.mem_cons_of_mem _ q))], ⟨by rw [upc_k (by decide), h28], by rw [upc_s (by decide), h29]; rfl, by rw [upc_s (by decide), h30]; rfl, by rw [upc_s (by decide), h31]; rfl⟩, fun k hk => upc_k (fun q => hk (List.mem_cons_of_mem _ q)), fun q g0 g1 => by omega, fun _ _ _ _ => rfl, hOw.up (by decide +kernel) (by decide +kernel), hz.up⟩
  generalize up2 ad [29, 30, 31] 0 (fun k => if k = 29 then h0 else if k = 30 then q1 else q2) = ad1 at hw hJ
  generalize upc cnt [29, 30, 31] = cnt1 at hw hJ
  refine lv_iconst (v := jI 0) hx hb dX2_init_20 rfl ?_
  refine lv_istore_n (lv' := [(1, .int (jI 0)), (0, .ref h0)]) hx hb dX2_init_21 rfl hl (by decide) rfl (fun ls hl => ?_)
  have lp : ∀ (nn : Nat) (n : Int) (ad1 : Nat → Int → Nat) (cnt1 : Nat → Int) (Y1 : Nat → Int → Int → Option Int) (cl sl : Nat) (H : Heap) (locs : List Loc) (ls : Array Slot), 80 - n < (nn : Int) → 0 ≤ n ∧ n ≤ 80 → JI n h0 ad cnt X Y ad1 cnt1 Y1 → (cl : Int) ≤ 2 + n ∧ (sl : Int) ≤ 84 + 4 * n → wx D tc base (ad1, cnt1, X, Y1, ln) E H → va_S (frA base) s.heap H locs → lv_has ls 2 [(1, .int (jI n)), (0, .ref h0)] →
      W p l e ({ frames := 2, cells := 82, slots := 404, locals := 32 } : Room) s m ([.ref h0] : List Value).toArray below meth c H locs cl sl (MQ below (QX D tc base (fun u' E' => ∃ (ad1 : Nat → Int → Nat) (cnt1 : Nat → Int) (Y1 : Nat → Int → Int → Option Int), u' = (ad1, cnt1, X, Y1, ln) ∧ E' = E ∧ JI 80 h0 ad cnt X Y ad1 cnt1 Y1)) ([.ref h0] : List Value).toArray s 82 404 (frA base)) (F0 m 22 ls []) := by
    intro nn
    induction nn with
    | zero => intro n ad1 cnt1 Y1 cl sl H locs ls hm hn; exfalso; omega
    | succ nn ih =>
      intro n ad1 cnt1 Y1 cl sl H locs ls hm hn hJ hcl hw hS hl
      obtain ⟨j1, j2, ⟨c28, c29, c30, c31⟩, j4, j5, j6, j7, j8⟩ := hJ
      refine lv_iload_n hx hb dX2_init_22 rfl (lv_at hl 0 rfl) ?_
      refine lv_bipush (v := jI 80) hx hb dX2_init_23 (by decide) ?_
      refine x_icmp_ge (tgt := 47) hx hb (by omega) (by omega) dX2_init_25 (by decide) (fun hc => ?_) (fun hc => ?_)
      · have e80 : n = 80 := by omega
        subst e80
        exact ret_x hx hb hr hlocks hw hS (by omega) (by omega) dX2_init_47 ⟨ad1, cnt1, Y1, rfl, rfl, j1, j2, ⟨c28, c29, c30, c31⟩, j4, j5, j6, j7, j8⟩
      · refine lv_aload_n hx hb dX2_init_28 rfl (lv_at hl 1 rfl) ?_
        refine W.eq (g2 := F0 m 29 ls [.ref (ad1 29 0)]) (by rw [j1]) ?_
        refine x_geto hx hb hf2 (wx_wd hw) (by omega) (by omega) sl_29_0 lk11 dX2_init_29 ?_
        refine lv_iload_n hx hb dX2_init_32 rfl (lv_at hl 0 rfl) ?_
        refine nx_new (ci := 3) (fs := [.null, .int 0, .long 0, .null]) hx hb hf3 ⟨tyX3_ok, nmX3⟩ (hts (.classLink RX2 9 RX3) (by first | exact gj_X2_init_0 _ (gp_1 (gp_1 (gp_1 gp_h))) | decide +kernel)) (hts (.instantiable RX3 4) (by first | exact gj_X2_init_0 _ (gp_4 (gp_1 (gp_1 (gp_1 gp_h)))) | decide +kernel)) (hts (.initialized RX3) (by first | exact gj_X2_init_0 _ (gp_4 (gp_4 gp_h)) | decide +kernel)) hw hS hbs (fun j hj => by rcases (show j = 0 ∨ j = 1 ∨ j = 2 ∨ j = 3 by omega) with rfl | rfl | rfl | rfl <;> rfl) (by show _ ≤ (82 : Nat); omega) (by show _ ≤ (404 : Nat); omega) dX2_init_33 (fun q H hw hS => ?_)
        refine lv_dup hx hb dX2_init_36 rfl ?_
        refine gos_x (run_IN (As := []) (rest := [.ref q, .int (jI n), .ref (ad1 30 0)]) (host := RX8) hx hb hml hown hts (c_X3_init l D tc base (ad1, cnt1, X, Y1, ln) E q) ⟨va_cnB 0 hts gX2_init_X3_init_n21 rfl rfl rfl hK.2.2.2.2.1.2.2.2 (hts (.initialized RX3) (by first | exact gj_X2_init_0 _ (gp_4 (gp_4 gp_h)) | decide +kernel)) (by decide +kernel) ⟨Nat.le_of_ble_eq_true rfl, Nat.le_of_ble_eq_true rfl⟩, rfl, hts (.instanceMethod yX3_init) (by first | exact gj_X2_init_0 _ (gp_4 (gp_4 (gp_1 gp_h))) | decide +kernel)⟩ hK hw rfl hl.1 rfl (Nat.le_of_ble_eq_true rfl) dX2_init_37 ⟨by show _ ≤ (82 : Nat); omega, by show _ ≤ (404 : Nat); omega⟩) hS (fun u9 E9 H locs p9 hw hS => ?_)
        obtain ⟨rfl, rfl⟩ := p9
        have hw := growz (KS := [28]) (n := n) (f := fun _ => q) hw (by omega) (fun k hk => by rw [List.mem_singleton.mp hk]; exact c28) (by decide) j7 j8 rfl
        have ha : up2 ad1 [28] n (fun _ => q) 28 n = q := up2_s (by decide)
        have hb30 : up2 ad1 [28] n (fun _ => q) 30 0 = ad1 30 0 := by rw [up2_k (by decide)]
        refine W.eq (g2 := F0 m 40 ls [.ref (up2 ad1 [28] n (fun _ => q) 28 n), .int (jI n), .ref (up2 ad1 [28] n (fun _ => q) 30 0)]) (by rw [ha, hb30]) ?_
        have k28 : upc cnt1 [28] 28 = n + 1 := by rw [upc_s (by decide), c28]
        have k30 : upc cnt1 [28] 30 = 1 := by rw [upc_k (by decide), c30]
        refine nx_aast hx hb hK.1 hw hS hbs (by omega) (by omega) ar_30 rfl rfl sl_28_0 (len_E ar_30 (by first | exact Nat.ne_of_beq_eq_false rfl | decide)) (by omega) (by omega) (by omega) (by omega) (by omega) dX2_init_40 (fun H locs hw hS => ?_)
        refine lv_iinc (v := jI (n + 1)) (lv' := [(1, .int (jI (n + 1))), (0, .ref h0)]) hx hb dX2_init_41 hl (k := 0) rfl (jI_add _ _) (by decide) rfl (fun ls hl => ?_)
        refine lv_goto (tgt := 22) hx hb dX2_init_44 (by decide) ?_
        refine ih (n + 1) _ _ _ _ _ _ _ _ (by omega) (by omega) ⟨?_, fun k i hk => ?_, ⟨k28, by rw [upc_k (by decide), c29], k30, by rw [upc_k (by decide), c31]⟩, fun k hk => ?_, fun q' g0 g1 => ?_, fun k i j hk => ?_, j7.up (by decide +kernel) (by decide +kernel), j8.up.setY (by omega) (by omega)⟩ (by omega) hw hS hl
        · rw [up2_k (by decide)]; exact j1
        · rw [up2_k (fun q => hk (by rw [List.mem_singleton.mp q]; decide))]; exact j2 k i hk
        · rw [upc_k (fun q => hk (by rw [List.mem_singleton.mp q]; decide))]; exact j4 k hk
        · by_cases hq : q' = n
          · rw [hq]; exact u3_s _ _ _ _ _
          · rw [u3_j _ _ _ _ hq]; exact j5 q' g0 (by omega)
        · rw [u3_k _ _ _ _ hk]; exact j6 k i j hk
  exact lp 81 0 ad1 cnt1 Y 2 84 _ _ _ (by omega) (by omega) hJ (by omega) hw hS hl
end
section
/-! new cells, told by their own addresses -/
section RW2
variable {D : va_G} {tc : Nat → ClassId} {base : Nat} {E F : va_W} {H : Heap} {ad : Nat → Int → Nat} {cnt : Nat → Int} {X : Nat → Int → Int → Int} {Y : Nat → Int → Int → Option Int} {ln : Int → Int} {KS : List Nat} {n : Int} {f : Nat → Nat} {k : Nat}
theorem rawE_congr {g g' : Nat → Nat} (h : ∀ t, (k, t) ∈ ownL → g t = g' t) : rawE tc g k = rawE tc g' k := by
  unfold rawE
  split
  · rfl
  · congr 2
    refine List.map_congr_left (fun j hj => ?_)
    unfold rawV
    split
    · rfl
    · split
      · rfl
      · split
        · rename_i h3
          rw [h (slo k j).2 (own_mem (j := j) (by rw [← h3]))]
        · rfl
theorem growz2 (hw : wx D tc base (ad, cnt, X, Y, ln) (E ++ F) H) (h0 : 0 ≤ n) (hn : ∀ k ∈ KS, cnt k = n) (h27 : 27 ∉ KS) (ho : Own cnt) (hz : Zr cnt X Y) (hcl : ∀ p ∈ ownL, p.1 ∈ KS → p.2 ∈ KS) (hF : F = KS.map fun k => (f k, rawE tc f k)) : wx D tc base (up2 ad KS n f, upc cnt KS, X, Y, ln) E H := by
  refine growz hw h0 hn h27 ho hz ?_
  rw [hF]
  refine List.map_congr_left (fun k hk => ?_)
  rw [rawE_congr (g' := fun t => up2 ad KS n f t n) (fun t ht => (up2_s (hcl (k, t) ht hk)).symm)]
end RW2
end
end
section
/-! the object is made -/
def K8 : List Nat := [0, 1, 2, 3, 4, 5, 6, 7, 8, 9, 10, 11, 12, 13, 14, 15, 16, 17, 28, 29, 30, 31, 32]
def SI (a7 a15 a28 a29 a32 a0 : Int) (cnt : Nat → Int) : Prop := (∀ k ∈ [7, 8, 9, 10, 11, 12, 13, 14], cnt k = a7) ∧ (∀ k ∈ [15, 16, 17], cnt k = a15) ∧ cnt 28 = a28 ∧ (∀ k ∈ [29, 30, 31], cnt k = a29) ∧ cnt 32 = a32 ∧ (∀ k ∈ [0, 1, 2, 3, 4, 5, 6], cnt k = a0) ∧ (∀ k, k ∉ K8 → cnt k = 0)
section SIx
variable {a7 a15 a28 a29 a32 a0 : Int} {cnt : Nat → Int}
theorem mem_sub {L M : List Nat} (h : ∀ k ∈ L, k ∈ M) {k : Nat} (hk : k ∈ L) : k ∈ M := h k hk
theorem mem_ne {L M : List Nat} (h : ∀ k ∈ L, k ∉ M) {k : Nat} (hk : k ∈ L) : k ∉ M := h k hk
theorem SI.up7 (h : SI a7 a15 a28 a29 a32 a0 cnt) : SI (a7 + 1) a15 a28 a29 a32 a0 (upc cnt [7, 8, 9, 10, 11, 12, 13, 14]) := by
  obtain ⟨h1, h2, h3, h4, h5, h6, h7⟩ := h
  exact ⟨fun k hk => by rw [upc_s hk, h1 k hk], fun k hk => by rw [upc_k (mem_ne (by decide) hk), h2 k hk], by rw [upc_k (by decide), h3], fun k hk => by rw [upc_k (mem_ne (by decide) hk), h4 k hk], by rw [upc_k (by decide), h5], fun k hk => by rw [upc_k (mem_ne (by decide) hk), h6 k hk], fun k hk => by rw [upc_k (fun q => hk (mem_sub (by decide) q)), h7 k hk]⟩
theorem SI.up15 (h : SI a7 a15 a28 a29 a32 a0 cnt) : SI a7 (a15 + 1) a28 a29 a32 a0 (upc cnt [15, 16, 17]) := by
  obtain ⟨h1, h2, h3, h4, h5, h6, h7⟩ := h
  exact ⟨fun k hk => by rw [upc_k (mem_ne (by decide) hk), h1 k hk], fun k hk => by rw [upc_s hk, h2 k hk], by rw [upc_k (by decide), h3], fun k hk => by rw [upc_k (mem_ne (by decide) hk), h4 k hk], by rw [upc_k (by decide), h5], fun k hk => by rw [upc_k (mem_ne (by decide) hk), h6 k hk], fun k hk => by rw [upc_k (fun q => hk (mem_sub (by decide) q)), h7 k hk]⟩
theorem SI.up32 (h : SI a7 a15 a28 a29 a32 a0 cnt) : SI a7 a15 a28 a29 (a32 + 1) a0 (upc cnt [32]) := by
  obtain ⟨h1, h2, h3, h4, h5, h6, h7⟩ := h
  exact ⟨fun k hk => by rw [upc_k (mem_ne (by decide) hk), h1 k hk], fun k hk => by rw [upc_k (mem_ne (by decide) hk), h2 k hk], by rw [upc_k (by decide), h3], fun k hk => by rw [upc_k (mem_ne (by decide) hk), h4 k hk], by rw [upc_s (by decide), h5], fun k hk => by rw [upc_k (mem_ne (by decide) hk), h6 k hk], fun k hk => by rw [upc_k (fun q => hk (mem_sub (by decide) q)), h7 k hk]⟩
theorem SI.up0 (h : SI a7 a15 a28 a29 a32 a0 cnt) : SI a7 a15 a28 a29 a32 (a0 + 1) (upc cnt [0, 1, 2, 3, 4, 5, 6]) := by
  obtain ⟨h1, h2, h3, h4, h5, h6, h7⟩ := h
  exact ⟨fun k hk => by rw [upc_k (mem_ne (by decide) hk), h1 k hk], fun k hk => by rw [upc_k (mem_ne (by decide) hk), h2 k hk], by rw [upc_k (by decide), h3], fun k hk => by rw [upc_k (mem_ne (by decide) hk), h4 k hk], by rw [upc_k (by decide), h5], fun k hk => by rw [upc_s hk, h6 k hk], fun k hk => by rw [upc_k (fun q => hk (mem_sub (by decide) q)), h7 k hk]⟩
end SIx
/-- what holds while the object is made, behind its fields: t things, w words, v saves -/
def OI (t w v : Int) (h0 : Nat) (ad : Nat → Int → Nat) (cnt : Nat → Int) (X : Nat → Int → Int → Int) (Y : Nat → Int → Int → Option Int) : Prop :=
  ad 0 0 = h0 ∧ SI (2 + v) t 80 1 1 1 cnt ∧ (∀ q, 0 ≤ q → q < t → Y 2 0 q = some q) ∧ (∀ k i j, X k i j = if k = 3 ∧ i = 0 ∧ 0 ≤ j ∧ j < w then 1 else 0) ∧ (∀ q, 0 ≤ q → q < v → Y 4 0 q = some (2 + q)) ∧ (Y 0 0 6 = some 0 ∧ Y 0 0 7 = some 1) ∧ (∀ q, 0 ≤ q → q < 80 → Y 30 0 q = some q) ∧ Own cnt ∧ Zr cnt X Y
set_option maxHeartbeats 2000000 in
theorem born_obj {D : va_G} {tc : Nat → ClassId} {base : Nat} {H : Heap} {ad : Nat → Int → Nat} {cnt : Nat → Int} {X : Nat → Int → Int → Int} {Y : Nat → Int → Int → Option Int} {ln : Int → Int} {h0 q1 q2 q3 q4 q5 q6 r1 r2 jq fq : Nat} (hw : wx D tc base (ad, cnt, X, Y, ln) ([(h0, .inr (8, [.ref q1, .int 0, .ref q2, .int 0, .ref q3, .ref q4, .ref r1, .ref r2, .ref q5, .ref q6, .ref jq, .ref fq])), (q1, .inl (tc 8, (8 : Int).toNat, .inr (.inr (.inr (.inr (fun _ => none)))))), (q2, .inl (tc 7, (30 : Int).toNat, .inr (.inr (.inr (.inr (fun _ => none)))))), (q3, .inl (tc 2, (16 : Int).toNat, .inl (fun _ => 0))), (q4, .inl (tc 5, (4 : Int).toNat, .inr (.inr (.inr (.inr (fun _ => none)))))), (q5, .inl (tc 7, (30 : Int).toNat, .inr (.inr (.inr (.inr (fun _ => none)))))), (q6, .inl (tc 6, (450 : Int).toNat, .inr (.inr (.inr (.inr (fun _ => none))))))]) H) (hX : ∀ k i j, X k i j = 0) (hY : ∀ k i j, k ≠ 30 → Y k i j = none) (h30 : ∀ q, 0 ≤ q → q < 80 → Y 30 0 q = some q) (hSI : SI 2 0 80 1 1 0 cnt) (hOw : Own cnt) (hz : Zr cnt X Y) (har1 : ad 7 0 = r1) (har2 : ad 7 1 = r2) (hajq : ad 29 0 = jq) (hafq : ad 32 0 = fq) :
    ∃ (ad1 : Nat → Int → Nat) (cnt1 : Nat → Int) (Y1 : Nat → Int → Int → Option Int), wx D tc base (ad1, cnt1, X, Y1, ln) [] H ∧ OI 0 0 0 h0 ad1 cnt1 X Y1 := by
  have hrf := wd_ref (wx_wd hw)
  have hKn : ∀ k ∈ [0, 1, 2, 3, 4, 5, 6], cnt k = 0 := hSI.2.2.2.2.2.1
  have hSI1 := hSI.up0
  have hzu : Zr (upc cnt [0, 1, 2, 3, 4, 5, 6]) X Y := hz.up
  have hu0 : upc cnt [0, 1, 2, 3, 4, 5, 6] 0 = 1 := hSI1.2.2.2.2.2.1 0 (by decide)
  have hu7 : upc cnt [0, 1, 2, 3, 4, 5, 6] 7 = 2 := hSI1.1 7 (by decide)
  have hz1 : Zr (upc cnt [0, 1, 2, 3, 4, 5, 6]) X (u3 (u3 Y 0 0 6 (some 0)) 0 0 7 (some 1)) := (hzu.setY (by omega) (by omega)).setY (by omega) (by omega)
  have hOw1 : Own (upc cnt [0, 1, 2, 3, 4, 5, 6]) := by
    refine ⟨fun p hp => ?_, fun k g1 g2 => by rw [upc_k (fun q => absurd g2 ((show ∀ k ∈ [0, 1, 2, 3, 4, 5, 6], (lay k).1 = 0 → (lay k).2.2.1.1 ≠ 9 by decide +kernel) k q g1))]; exact hOw.2 k g1 g2⟩
    have h3 := hOw.1 p hp
    by_cases hm : p.1 ∈ [0, 1, 2, 3, 4, 5, 6]
    · have h4 : ∀ p ∈ ownL, p.1 ∈ [0, 1, 2, 3, 4, 5, 6] → p.2 ∈ [0, 1, 2, 3, 4, 5, 6] ∨ p.2 = 29 ∨ p.2 = 32 := by decide +kernel
      rw [upc_s hm, hKn p.1 hm]
      rcases h4 p hp hm with h5 | h5 | h5
      · rw [upc_s h5, hKn p.2 h5]; omega
      · rw [h5, upc_k (by decide), hSI.2.2.2.1 29 (by decide)]; omega
      · rw [h5, upc_k (by decide), hSI.2.2.2.2.1]; omega
    · rw [upc_k hm]
      have : cnt p.2 ≤ upc cnt [0, 1, 2, 3, 4, 5, 6] p.2 := upc_le
      omega
  refine ⟨up2 ad [0, 1, 2, 3, 4, 5, 6] 0 (fun k => if k = 0 then h0 else if k = 1 then q1 else if k = 2 then q2 else if k = 3 then q3 else if k = 4 then q4 else if k = 5 then q5 else q6), upc cnt [0, 1, 2, 3, 4, 5, 6], u3 (u3 Y 0 0 6 (some 0)) 0 0 7 (some 1), adopt (E := []) (NL := [0, 1, 2, 3, 4, 5, 6].map fun k => (k, (0 : Int))) hw ?_ (fun k i g0 g1 => ?_) hOw (fun k i => ?_) ?_, by rw [up2_s (by decide)]; rfl, hSI1, fun q g0 g1 => by omega, fun k i j => by rw [hX, if_neg (fun q => by omega)], fun q g0 g1 => by omega, ⟨by rw [u3_j _ _ _ _ (by decide)]; exact u3_s _ _ _ _ _, u3_s _ _ _ _ _⟩, fun q g0 g1 => by rw [u3_k _ _ _ _ (by first | exact Nat.ne_of_beq_eq_false rfl | decide), u3_k _ _ _ _ (by first | exact Nat.ne_of_beq_eq_false rfl | decide)]; exact h30 q g0 g1, hOw1, hz1⟩
  · have e0 : ceE tc (up2 ad [0, 1, 2, 3, 4, 5, 6] 0 (fun k => if k = 0 then h0 else if k = 1 then q1 else if k = 2 then q2 else if k = 3 then q3 else if k = 4 then q4 else if k = 5 then q5 else q6)) X (u3 (u3 Y 0 0 6 (some 0)) 0 0 7 (some 1)) ln 0 0 = .inr (8, [.ref q1, .int 0, .ref q2, .int 0, .ref q3, .ref q4, .ref r1, .ref r2, .ref q5, .ref q6, .ref jq, .ref fq]) := by
      rw [ob_E sl_0_0]
      have t0 : slo 0 0 = (3, 1) := sl_0_0.2.2.1
      have t1 : slo 0 1 = (0, 0) := sl_0_1.2.2.1
      have t2 : slo 0 2 = (3, 2) := sl_0_2.2.2.1
      have t3 : slo 0 3 = (0, 0) := sl_0_3.2.2.1
      have t4 : slo 0 4 = (3, 3) := sl_0_4.2.2.1
      have t5 : slo 0 5 = (3, 4) := sl_0_5.2.2.1
      have t6 : slo 0 6 = (4, 7) := sl_0_6.2.2.1
      have t7 : slo 0 7 = (4, 7) := sl_0_7.2.2.1
      have t8 : slo 0 8 = (3, 5) := sl_0_8.2.2.1
      have t9 : slo 0 9 = (3, 6) := sl_0_9.2.2.1
      have t10 : slo 0 10 = (3, 29) := sl_0_10.2.2.1
      have t11 : slo 0 11 = (3, 32) := sl_0_11.2.2.1
      have x0 : X 0 0 = fun _ => 0 := funext (hX 0 0)
      simp only [List.range, List.range.loop, List.map, slV, t0, t1, t2, t3, t4, t5, t6, t7, t8, t9, t10, t11]
      have y6 : (u3 (u3 Y 0 0 6 (some 0)) 0 0 7 (some 1)) 0 0 6 = some 0 := by rw [u3_j _ _ _ _ (by decide)]; exact u3_s _ _ _ _ _
      have y7 : (u3 (u3 Y 0 0 6 (some 0)) 0 0 7 (some 1)) 0 0 7 = some 1 := u3_s _ _ _ _ _
      have a7 : (up2 ad [0, 1, 2, 3, 4, 5, 6] 0 (fun k => if k = 0 then h0 else if k = 1 then q1 else if k = 2 then q2 else if k = 3 then q3 else if k = 4 then q4 else if k = 5 then q5 else q6)) 7 0 = r1 := by rw [up2_k (by decide)]; exact har1
      have a71 : (up2 ad [0, 1, 2, 3, 4, 5, 6] 0 (fun k => if k = 0 then h0 else if k = 1 then q1 else if k = 2 then q2 else if k = 3 then q3 else if k = 4 then q4 else if k = 5 then q5 else q6)) 7 1 = r2 := by rw [up2_k (by decide)]; exact har2
      have a29 : (up2 ad [0, 1, 2, 3, 4, 5, 6] 0 (fun k => if k = 0 then h0 else if k = 1 then q1 else if k = 2 then q2 else if k = 3 then q3 else if k = 4 then q4 else if k = 5 then q5 else q6)) 29 0 = jq := by rw [up2_k (by decide)]; exact hajq
      have a32 : (up2 ad [0, 1, 2, 3, 4, 5, 6] 0 (fun k => if k = 0 then h0 else if k = 1 then q1 else if k = 2 then q2 else if k = 3 then q3 else if k = 4 then q4 else if k = 5 then q5 else q6)) 32 0 = fq := by rw [up2_k (by decide)]; exact hafq
      simp [y6, y7, a7, a71, a29, a32, x0, va_rf, up2_s]
      decide
    have e1 : ceE tc (up2 ad [0, 1, 2, 3, 4, 5, 6] 0 (fun k => if k = 0 then h0 else if k = 1 then q1 else if k = 2 then q2 else if k = 3 then q3 else if k = 4 then q4 else if k = 5 then q5 else q6)) X (u3 (u3 Y 0 0 6 (some 0)) 0 0 7 (some 1)) ln 1 0 = .inl (tc 8, (8 : Int).toNat, .inr (.inr (.inr (.inr (fun _ => none))))) := by
      rw [ceE_raw (by decide) (hX 1 0) (fun j => by rw [u3_k _ _ _ _ (by first | exact Nat.ne_of_beq_eq_false rfl | decide), u3_k _ _ _ _ (by first | exact Nat.ne_of_beq_eq_false rfl | decide)]; exact hY 1 0 j (by decide))]
      rfl
    have e2 : ceE tc (up2 ad [0, 1, 2, 3, 4, 5, 6] 0 (fun k => if k = 0 then h0 else if k = 1 then q1 else if k = 2 then q2 else if k = 3 then q3 else if k = 4 then q4 else if k = 5 then q5 else q6)) X (u3 (u3 Y 0 0 6 (some 0)) 0 0 7 (some 1)) ln 2 0 = .inl (tc 7, (30 : Int).toNat, .inr (.inr (.inr (.inr (fun _ => none))))) := by
      rw [ceE_raw (by decide) (hX 2 0) (fun j => by rw [u3_k _ _ _ _ (by first | exact Nat.ne_of_beq_eq_false rfl | decide), u3_k _ _ _ _ (by first | exact Nat.ne_of_beq_eq_false rfl | decide)]; exact hY 2 0 j (by decide))]
      rfl
    have e3 : ceE tc (up2 ad [0, 1, 2, 3, 4, 5, 6] 0 (fun k => if k = 0 then h0 else if k = 1 then q1 else if k = 2 then q2 else if k = 3 then q3 else if k = 4 then q4 else if k = 5 then q5 else q6)) X (u3 (u3 Y 0 0 6 (some 0)) 0 0 7 (some 1)) ln 3 0 = .inl (tc 2, (16 : Int).toNat, .inl (fun _ => 0)) := by
      rw [ceE_raw (by decide) (hX 3 0) (fun j => by rw [u3_k _ _ _ _ (by first | exact Nat.ne_of_beq_eq_false rfl | decide), u3_k _ _ _ _ (by first | exact Nat.ne_of_beq_eq_false rfl | decide)]; exact hY 3 0 j (by decide))]
      rfl
    have e4 : ceE tc (up2 ad [0, 1, 2, 3, 4, 5, 6] 0 (fun k => if k = 0 then h0 else if k = 1 then q1 else if k = 2 then q2 else if k = 3 then q3 else if k = 4 then q4 else if k = 5 then q5 else q6)) X (u3 (u3 Y 0 0 6 (some 0)) 0 0 7 (some 1)) ln 4 0 = .inl (tc 5, (4 : Int).toNat, .inr (.inr (.inr (.inr (fun _ => none))))) := by
      rw [ceE_raw (by decide) (hX 4 0) (fun j => by rw [u3_k _ _ _ _ (by first | exact Nat.ne_of_beq_eq_false rfl | decide), u3_k _ _ _ _ (by first | exact Nat.ne_of_beq_eq_false rfl | decide)]; exact hY 4 0 j (by decide))]
      rfl
    have e5 : ceE tc (up2 ad [0, 1, 2, 3, 4, 5, 6] 0 (fun k => if k = 0 then h0 else if k = 1 then q1 else if k = 2 then q2 else if k = 3 then q3 else if k = 4 then q4 else if k = 5 then q5 else q6)) X (u3 (u3 Y 0 0 6 (some 0)) 0 0 7 (some 1)) ln 5 0 = .inl (tc 7, (30 : Int).toNat, .inr (.inr (.inr (.inr (fun _ => none))))) := by
      rw [ceE_raw (by decide) (hX 5 0) (fun j => by rw [u3_k _ _ _ _ (by first | exact Nat.ne_of_beq_eq_false rfl | decide), u3_k _ _ _ _ (by first | exact Nat.ne_of_beq_eq_false rfl | decide)]; exact hY 5 0 j (by decide))]
      rfl
    have e6 : ceE tc (up2 ad [0, 1, 2, 3, 4, 5, 6] 0 (fun k => if k = 0 then h0 else if k = 1 then q1 else if k = 2 then q2 else if k = 3 then q3 else if k = 4 then q4 else if k = 5 then q5 else q6)) X (u3 (u3 Y 0 0 6 (some 0)) 0 0 7 (some 1)) ln 6 0 = .inl (tc 6, (450 : Int).toNat, .inr (.inr (.inr (.inr (fun _ => none))))) := by
      rw [ceE_raw (by decide) (hX 6 0) (fun j => by rw [u3_k _ _ _ _ (by first | exact Nat.ne_of_beq_eq_false rfl | decide), u3_k _ _ _ _ (by first | exact Nat.ne_of_beq_eq_false rfl | decide)]; exact hY 6 0 j (by decide))]
      rfl
    simp only [wlE, List.map, e0, e1, e2, e3, e4, e5, e6]
    rw [up2_s (by decide), up2_s (by decide), up2_s (by decide), up2_s (by decide), up2_s (by decide), up2_s (by decide), up2_s (by decide)]
    rfl
  · have hne : ¬ (k ∈ [0, 1, 2, 3, 4, 5, 6] ∧ i = 0) := fun q => by have := hKn k q.1; omega
    have hk0 : k ≠ 0 := fun q => by rw [q, hKn 0 (by decide)] at g1; omega
    exact ⟨by simp only [up2, if_neg hne], rfl, by rw [u3_k _ _ _ _ hk0, u3_k _ _ _ _ hk0], fun _ => rfl⟩
  · simp only [upc]
    by_cases hk : k ∈ [0, 1, 2, 3, 4, 5, 6]
    · have := hKn k hk
      rw [if_pos hk]
      constructor
      · intro h
        by_cases hi : i = 0
        · exact Or.inr (List.mem_map.mpr ⟨k, hk, by rw [hi]⟩)
        · exact Or.inl (by omega)
      · rintro (h | h)
        · omega
        · obtain ⟨k', -, e⟩ := List.mem_map.mp h
          cases e
          omega
    · rw [if_neg hk]
      constructor
      · exact fun h => Or.inl h
      · rintro (h | h)
        · exact h
        · obtain ⟨k', hk', e⟩ := List.mem_map.mp h
          cases e
          exact absurd hk' hk
  · intro k i j t r g0 g1 hr e
    have hlow : ∀ k i (j : Nat) r, Y k i j = some r → rfK k j t → 0 ≤ i → i < upc cnt [0, 1, 2, 3, 4, 5, 6] k → 0 ≤ r ∧ r < upc cnt [0, 1, 2, 3, 4, 5, 6] t := by
      intro k i j r e hr g0 g1
      by_cases hm : k ∈ [0, 1, 2, 3, 4, 5, 6]
      · rw [hY k i j (fun q => by rw [q] at hm; exact absurd hm (by decide))] at e
        cases e
      · rw [upc_k hm] at g1
        have := hrf k i j t r g0 g1 hr e
        have h2 : cnt t ≤ upc cnt [0, 1, 2, 3, 4, 5, 6] t := upc_le
        omega
    simp only [u3] at e
    split at e
    · rename_i h
      obtain ⟨rfl, rfl, h7⟩ := h
      have hj7 : j = 7 := by omega
      subst hj7
      cases e
      have ht : t = 7 := by
        rcases hr with ⟨h1, -⟩ | ⟨-, h2⟩
        · exact absurd h1 (by decide +kernel)
        · rw [show slo 0 7 = (4, 7) from sl_0_7.2.2.1] at h2
          exact (congrArg Prod.snd h2).symm
      subst ht
      omega
    · split at e
      · rename_i h
        obtain ⟨rfl, rfl, h7⟩ := h
        have hj7 : j = 6 := by omega
        subst hj7
        cases e
        have ht : t = 7 := by
          rcases hr with ⟨h1, -⟩ | ⟨-, h2⟩
          · exact absurd h1 (by decide +kernel)
          · rw [show slo 0 6 = (4, 7) from sl_0_6.2.2.1] at h2
            exact (congrArg Prod.snd h2).symm
        subst ht
        omega
      · exact hlow k i j r e hr g0 g1
set_option maxHeartbeats 8000000 in
set_option maxRecDepth 100000 in
theorem c_X8_init (l : Launch) (D : va_G) (tc : Nat → ClassId) (base : Nat) (ad : Nat → Int → Nat) (cnt : Nat → Int) (X : Nat → Int → Int → Int) (Y : Nat → Int → Int → Option Int) (ln : Int → Int) (h0 : Nat) (hc : ∀ k, cnt k = 0) (hX : ∀ k i j, X k i j = 0) (hY : ∀ k i j, Y k i j = none) : KC l D tc base yX8_init wsX8_init ({ frames := 3, cells := 228, slots := 16184, locals := 60 } : Room) [.ref h0] (ad, cnt, X, Y, ln) [(h0, .inr (8, [.null, .int 0, .null, .int 0, .null, .null, .null, .null, .null, .null, .null, .null]))] 228 16184 (fun u' E' => ∃ (ad1 : Nat → Int → Nat) (cnt1 : Nat → Int) (X1 : Nat → Int → Int → Int) (Y1 : Nat → Int → Int → Option Int), u' = (ad1, cnt1, X1, Y1, ln) ∧ E' = [] ∧ OI 30 16 4 h0 ad1 cnt1 X1 Y1) := by
  refine KC_of (cc := cX8_init) (maxL := 2) (ret := none) (by decide) rfl (Nat.le_of_ble_eq_true rfl) ?_
  intro p e s m below meth c ls hx hb hr hml hown hts hlocks hnm hl hK hw hS
  have hnm : meth.name = "<init>" := hnm
  have hown : s.vm.findClass RX8 = some m.cls := hown
  have hbs : base ≤ s.heap.size := hw.2.2
  have hi8 : ∀ w ∈ wsX80, w ∈ wsX8_init := fun w h => List.mem_cons_of_mem _ (List.mem_append_left _ (List.mem_append_left _ (List.mem_append_left _ (List.mem_append_left _ (List.mem_append_left _ (List.mem_append_right _ h))))))
  have hf8 : fctx s m _ RX8 wsX8_init D tc RX8 TX8 12 8 := ⟨hts, hi8, hown, hK.1, rfl⟩
  have hi4 : ∀ w ∈ wsX40, w ∈ wsX8_init := fun w h => List.mem_cons_of_mem _ (List.mem_append_left _ (List.mem_append_left _ (List.mem_append_left _ (List.mem_append_left _ (List.mem_append_right _ h)))))
  have hf4 : fctx s m _ RX8 wsX8_init D tc RX4 TX4 9 4 := ⟨hts, hi4, hown, hK.1, rfl⟩
  have hi2 : ∀ w ∈ wsX20, w ∈ wsX8_init := fun w h => List.mem_cons_of_mem _ (List.mem_append_left _ (List.mem_append_left _ (List.mem_append_left _ (List.mem_append_right _ h))))
  have hf2 : fctx s m _ RX8 wsX8_init D tc RX2 TX2 4 2 := ⟨hts, hi2, hown, hK.1, rfl⟩
  have hi1 : ∀ w ∈ wsX10, w ∈ wsX8_init := fun w h => List.mem_cons_of_mem _ (List.mem_append_left _ (List.mem_append_left _ (List.mem_append_right _ h)))
  have hf1 : fctx s m _ RX8 wsX8_init D tc RX1 TX1 4 1 := ⟨hts, hi1, hown, hK.1, rfl⟩
  have hi6 : ∀ w ∈ wsX60, w ∈ wsX8_init := fun w h => List.mem_cons_of_mem _ (List.mem_append_left _ (List.mem_append_right _ h))
  have hf6 : fctx s m _ RX8 wsX8_init D tc RX6 TX6 4 6 := ⟨hts, hi6, hown, hK.1, rfl⟩
  have lk11 := hts (.fieldLink RX8 11 (TX8 0).1 (TX8 0).2.1 (TX8 0).2.2.1) (gj_X8_init_0 _ (gp_4 gp_h))
  have lk17 := hts (.fieldLink RX8 17 (TX8 2).1 (TX8 2).2.1 (TX8 2).2.2.1) (gj_X8_init_0 _ (gp_4 (gp_1 (gp_1 gp_h))))
  have lk21 := hts (.fieldLink RX8 21 (TX8 4).1 (TX8 4).2.1 (TX8 4).2.2.1) (gj_X8_init_0 _ (gp_4 (gp_4 gp_h)))
  have lk27 := hts (.fieldLink RX8 27 (TX8 5).1 (TX8 5).2.1 (TX8 5).2.2.1) (gj_X8_init_0 _ (gp_4 (gp_4 (gp_1 (gp_1 gp_h)))))
  have lk32 := hts (.fieldLink RX8 32 (TX8 6).1 (TX8 6).2.1 (TX8 6).2.2.1) (gj_X8_init_0 _ (gp_4 (gp_4 (gp_4 (gp_1 gp_h)))))
  have lk36 := hts (.fieldLink RX8 36 (TX8 7).1 (TX8 7).2.1 (TX8 7).2.2.1) (gj_X8_init_0 _ (gp_4 (gp_4 (gp_4 (gp_1 (gp_1 gp_h))))))
  have lk39 := hts (.fieldLink RX8 39 (TX8 8).1 (TX8 8).2.1 (TX8 8).2.2.1) (gj_X8_init_0 _ (gp_4 (gp_4 (gp_4 (gp_1 (gp_1 (gp_1 gp_h)))))))
  have lk44 := hts (.fieldLink RX8 44 (TX8 9).1 (TX8 9).2.1 (TX8 9).2.2.1) (gj_X8_init_0 _ (gp_16 (gp_1 gp_h)))
  have lk51 := hts (.fieldLink RX8 51 (TX8 10).1 (TX8 10).2.1 (TX8 10).2.2.1) (gj_X8_init_0 _ (gp_16 (gp_4 (gp_1 gp_h))))
  have lk58 := hts (.fieldLink RX8 58 (TX8 11).1 (TX8 11).2.1 (TX8 11).2.2.1) (gj_X8_init_1 _ (gp_1 gp_h))
  have hl : lv_has ls 2 [(0, .ref h0)] := hl
  have hOw : Own cnt := ⟨fun p _ => by rw [hc, hc]; omega, fun k _ _ => by rw [hc]; omega⟩
  have hz : Zr cnt X Y := fun k i j _ => ⟨hX k i j, hY k i j⟩
  have hSI : SI 0 0 0 0 0 0 cnt := ⟨fun k _ => hc k, fun k _ => hc k, hc 28, fun k _ => hc k, hc 32, fun k _ => hc k, fun k _ => hc k⟩
  refine lv_aload_n hx hb dX8_init_0 rfl (lv_at hl 0 rfl) ?_
  refine W.objInit hx hb hown (hts (.methodLink RX8 3 objectInit) (by first | exact gj_X8_init_0 _ (gp_h) | decide +kernel)) (hts (.instanceMethod objectInit) (by first | exact gj_X8_init_0 _ (gp_1 gp_h) | decide +kernel)) (hts _ (List.mem_cons_of_mem _ (List.mem_append_left _ (List.mem_append_left _ (List.mem_append_left _ (List.mem_append_left _ (List.mem_append_left _ (List.mem_append_left _ (List.mem_append_left _ (List.mem_of_getElem? (i := 2) rfl)))))))))) rfl (by rw [hml]; exact hl.1) rfl dX8_init_1 (Nat.le_of_ble_eq_true rfl) (Nat.le_of_ble_eq_true rfl) ?_
  refine W.eq (g2 := F0 m 4 ls []) rfl ?_
  refine lv_aload_n hx hb dX8_init_4 rfl (lv_at hl 0 rfl) ?_
  refine lv_bipush (v := jI 8) hx hb dX8_init_5 (by decide) ?_
  refine nx_newq (t := 8) (z := 8) hx hb hown (hts (.classLink RX8 9 RX7) (by first | exact gj_X8_init_0 _ (gp_1 (gp_1 (gp_1 gp_h))) | decide +kernel)) hK.2.2.2.2.2.2.2.2.2.2 hK.1 rfl hw hS hbs (by omega) (by omega) (show 0 + 1 ≤ 228 by omega) (show 0 + (8 : Int).toNat ≤ 16184 by omega) dX8_init_7 (fun q1 H hw hS => ?_)
  have hw : wx D tc base (ad, cnt, X, Y, ln) ([(h0, .inr (8, [.null, .int 0, .null, .int 0, .null, .null, .null, .null, .null, .null, .null, .null])), (q1, .inl (tc 8, (8 : Int).toNat, .inr (.inr (.inr (.inr (fun _ => none))))))]) H := hw
  refine W.widen (k := 1) (n := 8) (by omega) (by omega) ?_
  refine nx_putF (ci := 8) hx hb hf8 ⟨tyX8_ok, nmX8⟩ hw hS 0 rfl 0 (by decide) lk11 rfl hnm rfl (tyX8_ok 0 (by decide)) rfl rfl (Nat.le_of_ble_eq_true rfl) dX8_init_10 (fun H locs hw hS => ?_)
  have hw : wx D tc base (ad, cnt, X, Y, ln) ([(h0, .inr (8, [.ref q1, .int 0, .null, .int 0, .null, .null, .null, .null, .null, .null, .null, .null])), (q1, .inl (tc 8, (8 : Int).toNat, .inr (.inr (.inr (.inr (fun _ => none))))))]) H := hw
  refine lv_aload_n hx hb dX8_init_13 rfl (lv_at hl 0 rfl) ?_
  refine lv_bipush (v := jI 30) hx hb dX8_init_14 (by decide) ?_
  refine nx_newq (t := 7) (z := 30) hx hb hown (hts (.classLink RX8 15 RX6) (by first | exact gj_X8_init_0 _ (gp_4 (gp_1 gp_h)) | decide +kernel)) hK.2.2.2.2.2.2.2.2.2.1 hK.1 rfl hw hS hbs (by omega) (by omega) (show 1 + 1 ≤ 228 by omega) (show 8 + (30 : Int).toNat ≤ 16184 by omega) dX8_init_16 (fun q2 H hw hS => ?_)
  have hw : wx D tc base (ad, cnt, X, Y, ln) ([(h0, .inr (8, [.ref q1, .int 0, .null, .int 0, .null, .null, .null, .null, .null, .null, .null, .null])), (q1, .inl (tc 8, (8 : Int).toNat, .inr (.inr (.inr (.inr (fun _ => none)))))), (q2, .inl (tc 7, (30 : Int).toNat, .inr (.inr (.inr (.inr (fun _ => none))))))]) H := hw
  refine W.widen (k := 2) (n := 38) (by omega) (by omega) ?_
  refine nx_putF (ci := 8) hx hb hf8 ⟨tyX8_ok, nmX8⟩ hw hS 0 rfl 2 (by decide) lk17 rfl hnm rfl (tyX8_ok 2 (by decide)) rfl rfl (Nat.le_of_ble_eq_true rfl) dX8_init_19 (fun H locs hw hS => ?_)
  have hw : wx D tc base (ad, cnt, X, Y, ln) ([(h0, .inr (8, [.ref q1, .int 0, .ref q2, .int 0, .null, .null, .null, .null, .null, .null, .null, .null])), (q1, .inl (tc 8, (8 : Int).toNat, .inr (.inr (.inr (.inr (fun _ => none)))))), (q2, .inl (tc 7, (30 : Int).toNat, .inr (.inr (.inr (.inr (fun _ => none))))))]) H := hw
  refine lv_aload_n hx hb dX8_init_22 rfl (lv_at hl 0 rfl) ?_
  refine lv_bipush (v := jI 16) hx hb dX8_init_23 (by decide) ?_
  refine nx_newa (t := 2) (z := 16) (a0 := ((16 : Int).toNat, .inl (fun _ => 0))) (atype := .boolean) hx hb (hts (.arrayClass .boolean) (by first | exact gj_X8_init_0 _ (gp_4 (gp_1 (gp_1 (gp_1 gp_h)))) | decide +kernel)) rfl hK.1 rfl hw hS hbs (fun _ => rfl) (by omega) (by omega) (by decide) (show 2 + 1 ≤ 228 by omega) (show 38 + (16 : Int).toNat ≤ 16184 by omega) dX8_init_25 (fun q3 H hw hS => ?_)
  have hw : wx D tc base (ad, cnt, X, Y, ln) ([(h0, .inr (8, [.ref q1, .int 0, .ref q2, .int 0, .null, .null, .null, .null, .null, .null, .null, .null])), (q1, .inl (tc 8, (8 : Int).toNat, .inr (.inr (.inr (.inr (fun _ => none)))))), (q2, .inl (tc 7, (30 : Int).toNat, .inr (.inr (.inr (.inr (fun _ => none)))))), (q3, .inl (tc 2, (16 : Int).toNat, .inl (fun _ => 0)))]) H := hw
  refine W.widen (k := 3) (n := 54) (by omega) (by omega) ?_
  refine nx_putF (ci := 8) hx hb hf8 ⟨tyX8_ok, nmX8⟩ hw hS 0 rfl 4 (by decide) lk21 rfl hnm rfl (tyX8_ok 4 (by decide)) rfl rfl (Nat.le_of_ble_eq_true rfl) dX8_init_27 (fun H locs hw hS => ?_)
  have hw : wx D tc base (ad, cnt, X, Y, ln) ([(h0, .inr (8, [.ref q1, .int 0, .ref q2, .int 0, .ref q3, .null, .null, .null, .null, .null, .null, .null])), (q1, .inl (tc 8, (8 : Int).toNat, .inr (.inr (.inr (.inr (fun _ => none)))))), (q2, .inl (tc 7, (30 : Int).toNat, .inr (.inr (.inr (.inr (fun _ => none)))))), (q3, .inl (tc 2, (16 : Int).toNat, .inl (fun _ => 0)))]) H := hw
  refine lv_aload_n hx hb dX8_init_30 rfl (lv_at hl 0 rfl) ?_
  refine lv_iconst (v := jI 4) hx hb dX8_init_31 rfl ?_
  refine nx_newq (t := 5) (z := 4) hx hb hown (hts (.classLink RX8 25 RX4) (by first | exact gj_X8_init_0 _ (gp_4 (gp_4 (gp_1 gp_h))) | decide +kernel)) hK.2.2.2.2.2.2.2.1 hK.1 rfl hw hS hbs (by omega) (by omega) (show 3 + 1 ≤ 228 by omega) (show 54 + (4 : Int).toNat ≤ 16184 by omega) dX8_init_32 (fun q4 H hw hS => ?_)
  have hw : wx D tc base (ad, cnt, X, Y, ln) ([(h0, .inr (8, [.ref q1, .int 0, .ref q2, .int 0, .ref q3, .null, .null, .null, .null, .null, .null, .null])), (q1, .inl (tc 8, (8 : Int).toNat, .inr (.inr (.inr (.inr (fun _ => none)))))), (q2, .inl (tc 7, (30 : Int).toNat, .inr (.inr (.inr (.inr (fun _ => none)))))), (q3, .inl (tc 2, (16 : Int).toNat, .inl (fun _ => 0))), (q4, .inl (tc 5, (4 : Int).toNat, .inr (.inr (.inr (.inr (fun _ => none))))))]) H := hw
  refine W.widen (k := 4) (n := 58) (by omega) (by omega) ?_
  refine nx_putF (ci := 8) hx hb hf8 ⟨tyX8_ok, nmX8⟩ hw hS 0 rfl 5 (by decide) lk27 rfl hnm rfl (tyX8_ok 5 (by decide)) rfl rfl (Nat.le_of_ble_eq_true rfl) dX8_init_35 (fun H locs hw hS => ?_)
  have hw : wx D tc base (ad, cnt, X, Y, ln) ([(h0, .inr (8, [.ref q1, .int 0, .ref q2, .int 0, .ref q3, .ref q4, .null, .null, .null, .null, .null, .null])), (q1, .inl (tc 8, (8 : Int).toNat, .inr (.inr (.inr (.inr (fun _ => none)))))), (q2, .inl (tc 7, (30 : Int).toNat, .inr (.inr (.inr (.inr (fun _ => none)))))), (q3, .inl (tc 2, (16 : Int).toNat, .inl (fun _ => 0))), (q4, .inl (tc 5, (4 : Int).toNat, .inr (.inr (.inr (.inr (fun _ => none))))))]) H := hw
  refine lv_aload_n hx hb dX8_init_38 rfl (lv_at hl 0 rfl) ?_
  refine nx_new (ci := 4) (fs := [.int 0, .null, .null, .null, .null, .null, .int 0, .null, .null]) hx hb hf4 ⟨tyX4_ok, nmX4⟩ (hts (.classLink RX8 25 RX4) (by first | exact gj_X8_init_0 _ (gp_4 (gp_4 (gp_1 gp_h))) | decide +kernel)) (hts (.instantiable RX4 9) (by first | exact gj_X8_init_0 _ (gp_4 (gp_4 (gp_1 (gp_1 (gp_1 gp_h))))) | decide +kernel)) (hts (.initialized RX4) (by first | exact gj_X8_init_0 _ (gp_4 (gp_4 (gp_4 gp_h))) | decide +kernel)) hw hS hbs (fun j hj => by rcases (show j = 0 ∨ j = 1 ∨ j = 2 ∨ j = 3 ∨ j = 4 ∨ j = 5 ∨ j = 6 ∨ j = 7 ∨ j = 8 by omega) with rfl | rfl | rfl | rfl | rfl | rfl | rfl | rfl | rfl <;> rfl) (by show _ ≤ (228 : Nat); omega) (by show _ ≤ (16184 : Nat); omega) dX8_init_39 (fun r1 H hw hS => ?_)
  refine lv_dup hx hb dX8_init_42 rfl ?_
  refine gos_x (run_IN (As := []) (rest := [.ref r1, .ref h0]) (host := RX8) hx hb hml hown hts (c_X4_init l D tc base (ad, cnt, X, Y, ln) ([(h0, .inr (8, [.ref q1, .int 0, .ref q2, .int 0, .ref q3, .ref q4, .null, .null, .null, .null, .null, .null])), (q1, .inl (tc 8, (8 : Int).toNat, .inr (.inr (.inr (.inr (fun _ => none)))))), (q2, .inl (tc 7, (30 : Int).toNat, .inr (.inr (.inr (.inr (fun _ => none)))))), (q3, .inl (tc 2, (16 : Int).toNat, .inl (fun _ => 0))), (q4, .inl (tc 5, (4 : Int).toNat, .inr (.inr (.inr (.inr (fun _ => none))))))]) r1) ⟨va_cnB 0 hts gX8_init_X4_init_n31 rfl rfl rfl hK.2.2.2.2.1.1 (hts (.initialized RX4) (by first | exact gj_X8_init_0 _ (gp_4 (gp_4 (gp_4 gp_h))) | decide +kernel)) (by decide +kernel) ⟨Nat.le_of_ble_eq_true rfl, Nat.le_of_ble_eq_true rfl⟩, rfl, hts (.instanceMethod yX4_init) (by first | exact gj_X8_init_1 _ (gp_4 gp_h) | decide +kernel)⟩ hK hw rfl hl.1 rfl (Nat.le_of_ble_eq_true rfl) dX8_init_43 ⟨by show _ ≤ (228 : Nat); omega, by show _ ≤ (16184 : Nat); omega⟩) hS (fun u9 E9 H locs p9 hw hS => ?_)
  obtain ⟨rfl, b1, b2, b3, b4, b5, b6, b7, rfl⟩ := p9
  refine W.widen (k := 12) (n := 2527) (by omega) (by omega) ?_
  have hw := growz (KS := [7, 8, 9, 10, 11, 12, 13, 14]) (n := 0) (f := fun k => if k = 7 then r1 else if k = 8 then b1 else if k = 9 then b2 else if k = 10 then b3 else if k = 11 then b4 else if k = 12 then b5 else if k = 13 then b6 else b7) hw (by omega) hSI.1 (by decide) hOw hz rfl
  have har1 : up2 ad [7, 8, 9, 10, 11, 12, 13, 14] 0 (fun k => if k = 7 then r1 else if k = 8 then b1 else if k = 9 then b2 else if k = 10 then b3 else if k = 11 then b4 else if k = 12 then b5 else if k = 13 then b6 else b7) 7 0 = r1 := by rw [up2_s (by decide)]; rfl
  have hSI := hSI.up7
  have hOw := hOw.up (KS := [7, 8, 9, 10, 11, 12, 13, 14]) (by decide +kernel) (by decide +kernel)
  have hz := hz.up (KS := [7, 8, 9, 10, 11, 12, 13, 14])
  generalize hg1 : up2 ad [7, 8, 9, 10, 11, 12, 13, 14] 0 (fun k => if k = 7 then r1 else if k = 8 then b1 else if k = 9 then b2 else if k = 10 then b3 else if k = 11 then b4 else if k = 12 then b5 else if k = 13 then b6 else b7) = ad1 at hw har1
  generalize upc cnt [7, 8, 9, 10, 11, 12, 13, 14] = cnt1 at hw hSI hOw hz
  clear hg1
  skip
  obtain ⟨ad, had⟩ : ∃ a, a = ad1 := ⟨_, rfl⟩
  obtain ⟨cnt, hcnt⟩ : ∃ a, a = cnt1 := ⟨_, rfl⟩
  rw [← had] at hw har1
  rw [← hcnt] at hw hSI hOw hz
  clear had hcnt
  have hw : wx D tc base (ad, cnt, X, Y, ln) ([(h0, .inr (8, [.ref q1, .int 0, .ref q2, .int 0, .ref q3, .ref q4, .null, .null, .null, .null, .null, .null])), (q1, .inl (tc 8, (8 : Int).toNat, .inr (.inr (.inr (.inr (fun _ => none)))))), (q2, .inl (tc 7, (30 : Int).toNat, .inr (.inr (.inr (.inr (fun _ => none)))))), (q3, .inl (tc 2, (16 : Int).toNat, .inl (fun _ => 0))), (q4, .inl (tc 5, (4 : Int).toNat, .inr (.inr (.inr (.inr (fun _ => none))))))]) H := hw
  refine nx_put (ci := 8) hx hb hf8 ⟨tyX8_ok, nmX8⟩ hw hS 0 rfl 6 (by decide) lk32 rfl (tyX8_ok 6 (by decide)) rfl rfl (Nat.le_of_ble_eq_true rfl) dX8_init_46 (fun H locs hw hS => ?_)
  have hw : wx D tc base (ad, cnt, X, Y, ln) ([(h0, .inr (8, [.ref q1, .int 0, .ref q2, .int 0, .ref q3, .ref q4, .ref r1, .null, .null, .null, .null, .null])), (q1, .inl (tc 8, (8 : Int).toNat, .inr (.inr (.inr (.inr (fun _ => none)))))), (q2, .inl (tc 7, (30 : Int).toNat, .inr (.inr (.inr (.inr (fun _ => none)))))), (q3, .inl (tc 2, (16 : Int).toNat, .inl (fun _ => 0))), (q4, .inl (tc 5, (4 : Int).toNat, .inr (.inr (.inr (.inr (fun _ => none))))))]) H := hw
  refine lv_aload_n hx hb dX8_init_49 rfl (lv_at hl 0 rfl) ?_
  refine nx_new (ci := 4) (fs := [.int 0, .null, .null, .null, .null, .null, .int 0, .null, .null]) hx hb hf4 ⟨tyX4_ok, nmX4⟩ (hts (.classLink RX8 25 RX4) (by first | exact gj_X8_init_0 _ (gp_4 (gp_4 (gp_1 gp_h))) | decide +kernel)) (hts (.instantiable RX4 9) (by first | exact gj_X8_init_0 _ (gp_4 (gp_4 (gp_1 (gp_1 (gp_1 gp_h))))) | decide +kernel)) (hts (.initialized RX4) (by first | exact gj_X8_init_0 _ (gp_4 (gp_4 (gp_4 gp_h))) | decide +kernel)) hw hS hbs (fun j hj => by rcases (show j = 0 ∨ j = 1 ∨ j = 2 ∨ j = 3 ∨ j = 4 ∨ j = 5 ∨ j = 6 ∨ j = 7 ∨ j = 8 by omega) with rfl | rfl | rfl | rfl | rfl | rfl | rfl | rfl | rfl <;> rfl) (by show _ ≤ (228 : Nat); omega) (by show _ ≤ (16184 : Nat); omega) dX8_init_50 (fun r2 H hw hS => ?_)
  refine lv_dup hx hb dX8_init_53 rfl ?_
  refine gos_x (run_IN (As := []) (rest := [.ref r2, .ref h0]) (host := RX8) hx hb hml hown hts (c_X4_init l D tc base (ad, cnt, X, Y, ln) ([(h0, .inr (8, [.ref q1, .int 0, .ref q2, .int 0, .ref q3, .ref q4, .ref r1, .null, .null, .null, .null, .null])), (q1, .inl (tc 8, (8 : Int).toNat, .inr (.inr (.inr (.inr (fun _ => none)))))), (q2, .inl (tc 7, (30 : Int).toNat, .inr (.inr (.inr (.inr (fun _ => none)))))), (q3, .inl (tc 2, (16 : Int).toNat, .inl (fun _ => 0))), (q4, .inl (tc 5, (4 : Int).toNat, .inr (.inr (.inr (.inr (fun _ => none))))))]) r2) ⟨va_cnB 0 hts gX8_init_X4_init_n31 rfl rfl rfl hK.2.2.2.2.1.1 (hts (.initialized RX4) (by first | exact gj_X8_init_0 _ (gp_4 (gp_4 (gp_4 gp_h))) | decide +kernel)) (by decide +kernel) ⟨Nat.le_of_ble_eq_true rfl, Nat.le_of_ble_eq_true rfl⟩, rfl, hts (.instanceMethod yX4_init) (by first | exact gj_X8_init_1 _ (gp_4 gp_h) | decide +kernel)⟩ hK hw rfl hl.1 rfl (Nat.le_of_ble_eq_true rfl) dX8_init_54 ⟨by show _ ≤ (228 : Nat); omega, by show _ ≤ (16184 : Nat); omega⟩) hS (fun u9 E9 H locs p9 hw hS => ?_)
  obtain ⟨rfl, b1, b2, b3, b4, b5, b6, b7, rfl⟩ := p9
  refine W.widen (k := 20) (n := 4996) (by omega) (by omega) ?_
  have hw := growz (KS := [7, 8, 9, 10, 11, 12, 13, 14]) (n := 1) (f := fun k => if k = 7 then r2 else if k = 8 then b1 else if k = 9 then b2 else if k = 10 then b3 else if k = 11 then b4 else if k = 12 then b5 else if k = 13 then b6 else b7) hw (by omega) hSI.1 (by decide) hOw hz rfl
  have har2 : up2 ad [7, 8, 9, 10, 11, 12, 13, 14] 1 (fun k => if k = 7 then r2 else if k = 8 then b1 else if k = 9 then b2 else if k = 10 then b3 else if k = 11 then b4 else if k = 12 then b5 else if k = 13 then b6 else b7) 7 1 = r2 := by rw [up2_s (by decide)]; rfl
  have har1 : up2 ad [7, 8, 9, 10, 11, 12, 13, 14] 1 (fun k => if k = 7 then r2 else if k = 8 then b1 else if k = 9 then b2 else if k = 10 then b3 else if k = 11 then b4 else if k = 12 then b5 else if k = 13 then b6 else b7) 7 0 = r1 := by rw [up2_n (by decide)]; exact har1
  have hSI := hSI.up7
  have hOw := hOw.up (KS := [7, 8, 9, 10, 11, 12, 13, 14]) (by decide +kernel) (by decide +kernel)
  have hz := hz.up (KS := [7, 8, 9, 10, 11, 12, 13, 14])
  generalize hg1 : up2 ad [7, 8, 9, 10, 11, 12, 13, 14] 1 (fun k => if k = 7 then r2 else if k = 8 then b1 else if k = 9 then b2 else if k = 10 then b3 else if k = 11 then b4 else if k = 12 then b5 else if k = 13 then b6 else b7) = ad1 at hw har1 har2
  generalize upc cnt [7, 8, 9, 10, 11, 12, 13, 14] = cnt1 at hw hSI hOw hz
  clear hg1
  skip
  obtain ⟨ad, had⟩ : ∃ a, a = ad1 := ⟨_, rfl⟩
  obtain ⟨cnt, hcnt⟩ : ∃ a, a = cnt1 := ⟨_, rfl⟩
  rw [← had] at hw har1 har2
  rw [← hcnt] at hw hSI hOw hz
  clear had hcnt
  have hw : wx D tc base (ad, cnt, X, Y, ln) ([(h0, .inr (8, [.ref q1, .int 0, .ref q2, .int 0, .ref q3, .ref q4, .ref r1, .null, .null, .null, .null, .null])), (q1, .inl (tc 8, (8 : Int).toNat, .inr (.inr (.inr (.inr (fun _ => none)))))), (q2, .inl (tc 7, (30 : Int).toNat, .inr (.inr (.inr (.inr (fun _ => none)))))), (q3, .inl (tc 2, (16 : Int).toNat, .inl (fun _ => 0))), (q4, .inl (tc 5, (4 : Int).toNat, .inr (.inr (.inr (.inr (fun _ => none))))))]) H := hw
  refine nx_putF (ci := 8) hx hb hf8 ⟨tyX8_ok, nmX8⟩ hw hS 0 rfl 7 (by decide) lk36 rfl hnm rfl (tyX8_ok 7 (by decide)) rfl rfl (Nat.le_of_ble_eq_true rfl) dX8_init_57 (fun H locs hw hS => ?_)
  have hw : wx D tc base (ad, cnt, X, Y, ln) ([(h0, .inr (8, [.ref q1, .int 0, .ref q2, .int 0, .ref q3, .ref q4, .ref r1, .ref r2, .null, .null, .null, .null])), (q1, .inl (tc 8, (8 : Int).toNat, .inr (.inr (.inr (.inr (fun _ => none)))))), (q2, .inl (tc 7, (30 : Int).toNat, .inr (.inr (.inr (.inr (fun _ => none)))))), (q3, .inl (tc 2, (16 : Int).toNat, .inl (fun _ => 0))), (q4, .inl (tc 5, (4 : Int).toNat, .inr (.inr (.inr (.inr (fun _ => none))))))]) H := hw
  refine lv_aload_n hx hb dX8_init_60 rfl (lv_at hl 0 rfl) ?_
  refine lv_bipush (v := jI 30) hx hb dX8_init_61 (by decide) ?_
  refine nx_newq (t := 7) (z := 30) hx hb hown (hts (.classLink RX8 15 RX6) (by first | exact gj_X8_init_0 _ (gp_4 (gp_1 gp_h)) | decide +kernel)) hK.2.2.2.2.2.2.2.2.2.1 hK.1 rfl hw hS hbs (by omega) (by omega) (show 20 + 1 ≤ 228 by omega) (show 4996 + (30 : Int).toNat ≤ 16184 by omega) dX8_init_63 (fun q5 H hw hS => ?_)
  have hw : wx D tc base (ad, cnt, X, Y, ln) ([(h0, .inr (8, [.ref q1, .int 0, .ref q2, .int 0, .ref q3, .ref q4, .ref r1, .ref r2, .null, .null, .null, .null])), (q1, .inl (tc 8, (8 : Int).toNat, .inr (.inr (.inr (.inr (fun _ => none)))))), (q2, .inl (tc 7, (30 : Int).toNat, .inr (.inr (.inr (.inr (fun _ => none)))))), (q3, .inl (tc 2, (16 : Int).toNat, .inl (fun _ => 0))), (q4, .inl (tc 5, (4 : Int).toNat, .inr (.inr (.inr (.inr (fun _ => none)))))), (q5, .inl (tc 7, (30 : Int).toNat, .inr (.inr (.inr (.inr (fun _ => none))))))]) H := hw
  refine W.widen (k := 21) (n := 5026) (by omega) (by omega) ?_
  refine nx_putF (ci := 8) hx hb hf8 ⟨tyX8_ok, nmX8⟩ hw hS 0 rfl 8 (by decide) lk39 rfl hnm rfl (tyX8_ok 8 (by decide)) rfl rfl (Nat.le_of_ble_eq_true rfl) dX8_init_66 (fun H locs hw hS => ?_)
  have hw : wx D tc base (ad, cnt, X, Y, ln) ([(h0, .inr (8, [.ref q1, .int 0, .ref q2, .int 0, .ref q3, .ref q4, .ref r1, .ref r2, .ref q5, .null, .null, .null])), (q1, .inl (tc 8, (8 : Int).toNat, .inr (.inr (.inr (.inr (fun _ => none)))))), (q2, .inl (tc 7, (30 : Int).toNat, .inr (.inr (.inr (.inr (fun _ => none)))))), (q3, .inl (tc 2, (16 : Int).toNat, .inl (fun _ => 0))), (q4, .inl (tc 5, (4 : Int).toNat, .inr (.inr (.inr (.inr (fun _ => none)))))), (q5, .inl (tc 7, (30 : Int).toNat, .inr (.inr (.inr (.inr (fun _ => none))))))]) H := hw
  refine lv_aload_n hx hb dX8_init_69 rfl (lv_at hl 0 rfl) ?_
  refine lv_sipush (v := jI 450) hx hb dX8_init_70 (by decide) ?_
  refine nx_newq (t := 6) (z := 450) hx hb hown (hts (.classLink RX8 42 RX5) (by first | exact gj_X8_init_0 _ (gp_16 gp_h) | decide +kernel)) hK.2.2.2.2.2.2.2.2.1 hK.1 rfl hw hS hbs (by omega) (by omega) (show 21 + 1 ≤ 228 by omega) (show 5026 + (450 : Int).toNat ≤ 16184 by omega) dX8_init_73 (fun q6 H hw hS => ?_)
  have hw : wx D tc base (ad, cnt, X, Y, ln) ([(h0, .inr (8, [.ref q1, .int 0, .ref q2, .int 0, .ref q3, .ref q4, .ref r1, .ref r2, .ref q5, .null, .null, .null])), (q1, .inl (tc 8, (8 : Int).toNat, .inr (.inr (.inr (.inr (fun _ => none)))))), (q2, .inl (tc 7, (30 : Int).toNat, .inr (.inr (.inr (.inr (fun _ => none)))))), (q3, .inl (tc 2, (16 : Int).toNat, .inl (fun _ => 0))), (q4, .inl (tc 5, (4 : Int).toNat, .inr (.inr (.inr (.inr (fun _ => none)))))), (q5, .inl (tc 7, (30 : Int).toNat, .inr (.inr (.inr (.inr (fun _ => none)))))), (q6, .inl (tc 6, (450 : Int).toNat, .inr (.inr (.inr (.inr (fun _ => none))))))]) H := hw
  refine W.widen (k := 22) (n := 5476) (by omega) (by omega) ?_
  refine nx_putF (ci := 8) hx hb hf8 ⟨tyX8_ok, nmX8⟩ hw hS 0 rfl 9 (by decide) lk44 rfl hnm rfl (tyX8_ok 9 (by decide)) rfl rfl (Nat.le_of_ble_eq_true rfl) dX8_init_76 (fun H locs hw hS => ?_)
  have hw : wx D tc base (ad, cnt, X, Y, ln) ([(h0, .inr (8, [.ref q1, .int 0, .ref q2, .int 0, .ref q3, .ref q4, .ref r1, .ref r2, .ref q5, .ref q6, .null, .null])), (q1, .inl (tc 8, (8 : Int).toNat, .inr (.inr (.inr (.inr (fun _ => none)))))), (q2, .inl (tc 7, (30 : Int).toNat, .inr (.inr (.inr (.inr (fun _ => none)))))), (q3, .inl (tc 2, (16 : Int).toNat, .inl (fun _ => 0))), (q4, .inl (tc 5, (4 : Int).toNat, .inr (.inr (.inr (.inr (fun _ => none)))))), (q5, .inl (tc 7, (30 : Int).toNat, .inr (.inr (.inr (.inr (fun _ => none)))))), (q6, .inl (tc 6, (450 : Int).toNat, .inr (.inr (.inr (.inr (fun _ => none))))))]) H := hw
  refine lv_aload_n hx hb dX8_init_79 rfl (lv_at hl 0 rfl) ?_
  refine nx_new (ci := 2) (fs := [.null, .int 0, .null, .int 0]) hx hb hf2 ⟨tyX2_ok, nmX2⟩ (hts (.classLink RX8 48 RX2) (by first | exact gj_X8_init_0 _ (gp_16 (gp_1 (gp_1 gp_h))) | decide +kernel)) (hts (.instantiable RX2 4) (by first | exact gj_X8_init_0 _ (gp_16 (gp_1 (gp_1 (gp_1 gp_h)))) | decide +kernel)) (hts (.initialized RX2) (by first | exact gj_X8_init_0 _ (gp_16 (gp_4 gp_h)) | decide +kernel)) hw hS hbs (fun j hj => by rcases (show j = 0 ∨ j = 1 ∨ j = 2 ∨ j = 3 by omega) with rfl | rfl | rfl | rfl <;> rfl) (by show _ ≤ (228 : Nat); omega) (by show _ ≤ (16184 : Nat); omega) dX8_init_80 (fun jq H hw hS => ?_)
  refine lv_dup hx hb dX8_init_83 rfl ?_
  refine gos_x (run_I (As := []) (rest := [.ref jq, .ref h0]) hx hb hml hown hts (c_X2_init l D tc base ad cnt X Y ln ([(h0, .inr (8, [.ref q1, .int 0, .ref q2, .int 0, .ref q3, .ref q4, .ref r1, .ref r2, .ref q5, .ref q6, .null, .null])), (q1, .inl (tc 8, (8 : Int).toNat, .inr (.inr (.inr (.inr (fun _ => none)))))), (q2, .inl (tc 7, (30 : Int).toNat, .inr (.inr (.inr (.inr (fun _ => none)))))), (q3, .inl (tc 2, (16 : Int).toNat, .inl (fun _ => 0))), (q4, .inl (tc 5, (4 : Int).toNat, .inr (.inr (.inr (.inr (fun _ => none)))))), (q5, .inl (tc 7, (30 : Int).toNat, .inr (.inr (.inr (.inr (fun _ => none)))))), (q6, .inl (tc 6, (450 : Int).toNat, .inr (.inr (.inr (.inr (fun _ => none))))))]) jq hOw hz hSI.2.2.1 (hSI.2.2.2.1 29 (by decide)) (hSI.2.2.2.1 30 (by decide)) (hSI.2.2.2.1 31 (by decide))) (cwI 0 hts gX8_init_X2_init rfl rfl rfl (hts (.initialized RX2) (by first | exact gj_X8_init_0 _ (gp_16 (gp_4 gp_h)) | decide +kernel)) (hts (.methodLink RX8 50 yX2_init) (by first | exact gj_X8_init_1 _ (gp_16 gp_h) | decide +kernel)) (hts (.instanceMethod yX2_init) (by first | exact gj_X8_init_1 _ (gp_16 (gp_1 gp_h)) | decide +kernel)) rfl (by decide +kernel) ⟨Nat.le_of_ble_eq_true rfl, Nat.le_of_ble_eq_true rfl⟩) hK hw rfl hl.1 rfl (Nat.le_of_ble_eq_true rfl) dX8_init_84 ⟨by show _ ≤ (228 : Nat); omega, by show _ ≤ (16184 : Nat); omega⟩) hS (fun u9 E9 H locs p9 hw hS => ?_)
  obtain ⟨ad1, cnt1, Y1, rfl, rfl, hajq, j2, ⟨c28, c29, c30, c31⟩, j4, j5, j6, hOw, hz⟩ := p9
  refine W.widen (k := 105) (n := 5884) (by omega) (by omega) ?_
  have har1 : ad1 7 0 = r1 := by rw [j2 _ _ (by decide)]; exact har1
  have har2 : ad1 7 1 = r2 := by rw [j2 _ _ (by decide)]; exact har2
  have hSI : SI 2 0 80 1 0 0 cnt1 := ⟨fun k hk => by rw [j4 k (mem_ne (by decide) hk)]; exact hSI.1 k hk, fun k hk => by rw [j4 k (mem_ne (by decide) hk)]; exact hSI.2.1 k hk, c28, fun k hk => by simp only [List.mem_cons, List.not_mem_nil, or_false] at hk; rcases hk with rfl | rfl | rfl <;> assumption, by rw [j4 32 (by decide)]; exact hSI.2.2.2.2.1, fun k hk => by rw [j4 k (mem_ne (by decide) hk)]; exact hSI.2.2.2.2.2.1 k hk, fun k hk => by rw [j4 k (fun q => hk (mem_sub (by decide) q))]; exact hSI.2.2.2.2.2.2 k hk⟩
  have hY : ∀ k i j, k ≠ 30 → Y1 k i j = none := fun k i j h => by rw [j6 k i j h]; exact hY k i j
  obtain ⟨ad, had⟩ : ∃ a, a = ad1 := ⟨_, rfl⟩
  obtain ⟨cnt, hcnt⟩ : ∃ a, a = cnt1 := ⟨_, rfl⟩
  obtain ⟨Y, hY9⟩ : ∃ a, a = Y1 := ⟨_, rfl⟩
  rw [← had] at hw har1 har2 hajq
  rw [← hcnt] at hw hSI hOw hz
  rw [← hY9] at hw hY hz j5
  clear had hcnt hY9 j2 j4 j6 c28 c29 c30 c31
  have hw : wx D tc base (ad, cnt, X, Y, ln) ([(h0, .inr (8, [.ref q1, .int 0, .ref q2, .int 0, .ref q3, .ref q4, .ref r1, .ref r2, .ref q5, .ref q6, .null, .null])), (q1, .inl (tc 8, (8 : Int).toNat, .inr (.inr (.inr (.inr (fun _ => none)))))), (q2, .inl (tc 7, (30 : Int).toNat, .inr (.inr (.inr (.inr (fun _ => none)))))), (q3, .inl (tc 2, (16 : Int).toNat, .inl (fun _ => 0))), (q4, .inl (tc 5, (4 : Int).toNat, .inr (.inr (.inr (.inr (fun _ => none)))))), (q5, .inl (tc 7, (30 : Int).toNat, .inr (.inr (.inr (.inr (fun _ => none)))))), (q6, .inl (tc 6, (450 : Int).toNat, .inr (.inr (.inr (.inr (fun _ => none))))))]) H := hw
  refine nx_putF (ci := 8) hx hb hf8 ⟨tyX8_ok, nmX8⟩ hw hS 0 rfl 10 (by decide) lk51 rfl hnm rfl (tyX8_ok 10 (by decide)) rfl rfl (Nat.le_of_ble_eq_true rfl) dX8_init_87 (fun H locs hw hS => ?_)
  have hw : wx D tc base (ad, cnt, X, Y, ln) ([(h0, .inr (8, [.ref q1, .int 0, .ref q2, .int 0, .ref q3, .ref q4, .ref r1, .ref r2, .ref q5, .ref q6, .ref jq, .null])), (q1, .inl (tc 8, (8 : Int).toNat, .inr (.inr (.inr (.inr (fun _ => none)))))), (q2, .inl (tc 7, (30 : Int).toNat, .inr (.inr (.inr (.inr (fun _ => none)))))), (q3, .inl (tc 2, (16 : Int).toNat, .inl (fun _ => 0))), (q4, .inl (tc 5, (4 : Int).toNat, .inr (.inr (.inr (.inr (fun _ => none)))))), (q5, .inl (tc 7, (30 : Int).toNat, .inr (.inr (.inr (.inr (fun _ => none)))))), (q6, .inl (tc 6, (450 : Int).toNat, .inr (.inr (.inr (.inr (fun _ => none))))))]) H := hw
  refine lv_aload_n hx hb dX8_init_90 rfl (lv_at hl 0 rfl) ?_
  refine nx_new (ci := 1) (fs := [.int 0, .int 0, .int 0, .int 0]) hx hb hf1 ⟨tyX1_ok, nmX1⟩ (hts (.classLink RX8 55 RX1) (by first | exact gj_X8_init_0 _ (gp_16 (gp_4 (gp_1 (gp_1 gp_h)))) | decide +kernel)) (hts (.instantiable RX1 4) (by first | exact gj_X8_init_0 _ (gp_16 (gp_4 (gp_1 (gp_1 (gp_1 gp_h))))) | decide +kernel)) (hts (.initialized RX1) (by first | exact gj_X8_init_1 _ (gp_h) | decide +kernel)) hw hS hbs (fun j hj => by rcases (show j = 0 ∨ j = 1 ∨ j = 2 ∨ j = 3 by omega) with rfl | rfl | rfl | rfl <;> rfl) (by show _ ≤ (228 : Nat); omega) (by show _ ≤ (16184 : Nat); omega) dX8_init_91 (fun fq H hw hS => ?_)
  refine lv_dup hx hb dX8_init_94 rfl ?_
  refine gos_x (run_IN (As := []) (rest := [.ref fq, .ref h0]) (host := RX8) hx hb hml hown hts (c_X1_init l D tc base (ad, cnt, X, Y, ln) ([(h0, .inr (8, [.ref q1, .int 0, .ref q2, .int 0, .ref q3, .ref q4, .ref r1, .ref r2, .ref q5, .ref q6, .ref jq, .null])), (q1, .inl (tc 8, (8 : Int).toNat, .inr (.inr (.inr (.inr (fun _ => none)))))), (q2, .inl (tc 7, (30 : Int).toNat, .inr (.inr (.inr (.inr (fun _ => none)))))), (q3, .inl (tc 2, (16 : Int).toNat, .inl (fun _ => 0))), (q4, .inl (tc 5, (4 : Int).toNat, .inr (.inr (.inr (.inr (fun _ => none)))))), (q5, .inl (tc 7, (30 : Int).toNat, .inr (.inr (.inr (.inr (fun _ => none)))))), (q6, .inl (tc 6, (450 : Int).toNat, .inr (.inr (.inr (.inr (fun _ => none))))))]) fq) ⟨va_cnB 0 hts gX8_init_X1_init_n57 rfl rfl rfl hK.2.2.2.2.1.2.1 (hts (.initialized RX1) (by first | exact gj_X8_init_1 _ (gp_h) | decide +kernel)) (by decide +kernel) ⟨Nat.le_of_ble_eq_true rfl, Nat.le_of_ble_eq_true rfl⟩, rfl, hts (.instanceMethod yX1_init) (by first | exact gj_X8_init_2 _ (gp_4 gp_h) | decide +kernel)⟩ hK hw rfl hl.1 rfl (Nat.le_of_ble_eq_true rfl) dX8_init_95 ⟨by show _ ≤ (228 : Nat); omega, by show _ ≤ (16184 : Nat); omega⟩) hS (fun u9 E9 H locs p9 hw hS => ?_)
  obtain ⟨rfl, rfl⟩ := p9
  refine W.widen (k := 106) (n := 5888) (by omega) (by omega) ?_
  have hw := growz (KS := [32]) (n := 0) (f := fun _ => fq) hw (by omega) (fun k hk => by rw [List.mem_singleton.mp hk]; exact hSI.2.2.2.2.1) (by decide) hOw hz rfl
  have hafq : up2 ad [32] 0 (fun _ => fq) 32 0 = fq := up2_s (by decide)
  have har1 : up2 ad [32] 0 (fun _ => fq) 7 0 = r1 := by rw [up2_k (by decide)]; exact har1
  have har2 : up2 ad [32] 0 (fun _ => fq) 7 1 = r2 := by rw [up2_k (by decide)]; exact har2
  have hajq : up2 ad [32] 0 (fun _ => fq) 29 0 = jq := by rw [up2_k (by decide)]; exact hajq
  have hSI := hSI.up32
  have hOw := hOw.up (KS := [32]) (by decide +kernel) (by decide +kernel)
  have hz := hz.up (KS := [32])
  generalize up2 ad [32] 0 (fun _ => fq) = ad1 at hw har1 har2 hajq hafq
  generalize upc cnt [32] = cnt1 at hw hSI hOw hz
  obtain ⟨ad, had⟩ : ∃ a, a = ad1 := ⟨_, rfl⟩
  obtain ⟨cnt, hcnt⟩ : ∃ a, a = cnt1 := ⟨_, rfl⟩
  rw [← had] at hw har1 har2 hajq hafq
  rw [← hcnt] at hw hSI hOw hz
  clear had hcnt
  have hw : wx D tc base (ad, cnt, X, Y, ln) ([(h0, .inr (8, [.ref q1, .int 0, .ref q2, .int 0, .ref q3, .ref q4, .ref r1, .ref r2, .ref q5, .ref q6, .ref jq, .null])), (q1, .inl (tc 8, (8 : Int).toNat, .inr (.inr (.inr (.inr (fun _ => none)))))), (q2, .inl (tc 7, (30 : Int).toNat, .inr (.inr (.inr (.inr (fun _ => none)))))), (q3, .inl (tc 2, (16 : Int).toNat, .inl (fun _ => 0))), (q4, .inl (tc 5, (4 : Int).toNat, .inr (.inr (.inr (.inr (fun _ => none)))))), (q5, .inl (tc 7, (30 : Int).toNat, .inr (.inr (.inr (.inr (fun _ => none)))))), (q6, .inl (tc 6, (450 : Int).toNat, .inr (.inr (.inr (.inr (fun _ => none))))))]) H := hw
  refine nx_putF (ci := 8) hx hb hf8 ⟨tyX8_ok, nmX8⟩ hw hS 0 rfl 11 (by decide) lk58 rfl hnm rfl (tyX8_ok 11 (by decide)) rfl rfl (Nat.le_of_ble_eq_true rfl) dX8_init_98 (fun H locs hw hS => ?_)
  have hw : wx D tc base (ad, cnt, X, Y, ln) ([(h0, .inr (8, [.ref q1, .int 0, .ref q2, .int 0, .ref q3, .ref q4, .ref r1, .ref r2, .ref q5, .ref q6, .ref jq, .ref fq])), (q1, .inl (tc 8, (8 : Int).toNat, .inr (.inr (.inr (.inr (fun _ => none)))))), (q2, .inl (tc 7, (30 : Int).toNat, .inr (.inr (.inr (.inr (fun _ => none)))))), (q3, .inl (tc 2, (16 : Int).toNat, .inl (fun _ => 0))), (q4, .inl (tc 5, (4 : Int).toNat, .inr (.inr (.inr (.inr (fun _ => none)))))), (q5, .inl (tc 7, (30 : Int).toNat, .inr (.inr (.inr (.inr (fun _ => none)))))), (q6, .inl (tc 6, (450 : Int).toNat, .inr (.inr (.inr (.inr (fun _ => none))))))]) H := hw
  obtain ⟨ad1, cnt1, Y1, hw, hO⟩ := born_obj hw hX hY j5 hSI hOw hz har1 har2 hajq hafq
  have lp3 : ∀ (nn : Nat) (n : Int) (ad : Nat → Int → Nat) (cnt : Nat → Int) (X : Nat → Int → Int → Int) (Y : Nat → Int → Int → Option Int) (cl sl : Nat) (H : Heap) (locs : List Loc) (ls : Array Slot), 4 - n < (nn : Int) → 0 ≤ n ∧ n ≤ 4 → OI 30 16 n h0 ad cnt X Y → (cl : Int) ≤ 196 + 8 * n ∧ (sl : Int) ≤ 6308 + 2469 * n → wx D tc base (ad, cnt, X, Y, ln) [] H → va_S (frA base) s.heap H locs → lv_has ls 2 [(1, .int (jI n)), (0, .ref h0)] → W p l e ({ frames := 3, cells := 228, slots := 16184, locals := 60 } : Room) s m ([.ref h0] : List Value).toArray below meth c H locs cl sl (MQ below (QX D tc base (fun u' E' => ∃ (ad1 : Nat → Int → Nat) (cnt1 : Nat → Int) (X1 : Nat → Int → Int → Int) (Y1 : Nat → Int → Int → Option Int), u' = (ad1, cnt1, X1, Y1, ln) ∧ E' = [] ∧ OI 30 16 4 h0 ad1 cnt1 X1 Y1)) ([.ref h0] : List Value).toArray s 228 16184 (frA base)) (F0 m 151 ls []) := by
    intro nn
    induction nn with
    | zero => intro n ad cnt X Y cl sl H locs ls hm hn; exfalso; omega
    | succ nn ih =>
      intro n ad cnt X Y cl sl H locs ls hm hn hO hcl hw hS hl
      obtain ⟨o1, hSI, o3, o4, o5, o6, o7, hOw, hz⟩ := hO
      refine lv_iload_n hx hb dX8_init_151 rfl (lv_at hl 0 rfl) ?_
      refine lv_iconst (v := jI 4) hx hb dX8_init_152 rfl ?_
      refine x_icmp_ge (tgt := 175) hx hb (by omega) (by omega) dX8_init_153 (by decide) (fun hc => ?_) (fun hc => ?_)
      · have e4 : n = 4 := by omega
        subst e4
        exact ret_x hx hb hr hlocks hw hS (by omega) (by omega) dX8_init_175 ⟨ad, cnt, X, Y, rfl, rfl, o1, hSI, o3, o4, o5, o6, o7, hOw, hz⟩
      · have c0 : cnt 0 = 1 := hSI.2.2.2.2.2.1 0 (by decide)
        have c4 : cnt 4 = 1 := hSI.2.2.2.2.2.1 4 (by decide)
        refine lv_aload_n hx hb dX8_init_156 rfl (lv_at hl 1 rfl) ?_
        refine W.eq (g2 := F0 m 157 ls [.ref (ad 0 0)]) (by rw [o1]) ?_
        refine x_geto hx hb hf8 (wx_wd hw) (by omega) (by omega) sl_0_5 lk27 dX8_init_157 ?_
        refine lv_iload_n hx hb dX8_init_160 rfl (lv_at hl 0 rfl) ?_
        refine nx_new (ci := 4) (fs := [.int 0, .null, .null, .null, .null, .null, .int 0, .null, .null]) hx hb hf4 ⟨tyX4_ok, nmX4⟩ (hts (.classLink RX8 25 RX4) (by first | exact gj_X8_init_0 _ (gp_4 (gp_4 (gp_1 gp_h))) | decide +kernel)) (hts (.instantiable RX4 9) (by first | exact gj_X8_init_0 _ (gp_4 (gp_4 (gp_1 (gp_1 (gp_1 gp_h))))) | decide +kernel)) (hts (.initialized RX4) (by first | exact gj_X8_init_0 _ (gp_4 (gp_4 (gp_4 gp_h))) | decide +kernel)) hw hS hbs (fun j hj => by rcases (show j = 0 ∨ j = 1 ∨ j = 2 ∨ j = 3 ∨ j = 4 ∨ j = 5 ∨ j = 6 ∨ j = 7 ∨ j = 8 by omega) with rfl | rfl | rfl | rfl | rfl | rfl | rfl | rfl | rfl <;> rfl) (by show _ ≤ (228 : Nat); omega) (by show _ ≤ (16184 : Nat); omega) dX8_init_161 (fun q H hw hS => ?_)
        refine lv_dup hx hb dX8_init_164 rfl ?_
        refine gos_x (run_IN (As := []) (rest := [.ref q, .int (jI n), .ref (ad 4 0)]) (host := RX8) hx hb hml hown hts (c_X4_init l D tc base (ad, cnt, X, Y, ln) [] q) ⟨va_cnB 0 hts gX8_init_X4_init_n31 rfl rfl rfl hK.2.2.2.2.1.1 (hts (.initialized RX4) (by first | exact gj_X8_init_0 _ (gp_4 (gp_4 (gp_4 gp_h))) | decide +kernel)) (by decide +kernel) ⟨Nat.le_of_ble_eq_true rfl, Nat.le_of_ble_eq_true rfl⟩, rfl, hts (.instanceMethod yX4_init) (by first | exact gj_X8_init_1 _ (gp_4 gp_h) | decide +kernel)⟩ hK hw rfl hl.1 rfl (Nat.le_of_ble_eq_true rfl) dX8_init_165 ⟨by show _ ≤ (228 : Nat); omega, by show _ ≤ (16184 : Nat); omega⟩) hS (fun u9 E9 H locs p9 hw hS => ?_)
        obtain ⟨rfl, b1, b2, b3, b4, b5, b6, b7, rfl⟩ := p9
        have hw := growz2 (KS := [7, 8, 9, 10, 11, 12, 13, 14]) (n := 2 + n) (f := fun k => if k = 7 then q else if k = 8 then b1 else if k = 9 then b2 else if k = 10 then b3 else if k = 11 then b4 else if k = 12 then b5 else if k = 13 then b6 else b7) hw (by omega) hSI.1 (by decide) hOw hz (by decide +kernel) rfl
        have ha7 : up2 ad [7, 8, 9, 10, 11, 12, 13, 14] (2 + n) (fun k => if k = 7 then q else if k = 8 then b1 else if k = 9 then b2 else if k = 10 then b3 else if k = 11 then b4 else if k = 12 then b5 else if k = 13 then b6 else b7) 7 (2 + n) = q := by rw [up2_s (by decide)]; rfl
        have ha4 : up2 ad [7, 8, 9, 10, 11, 12, 13, 14] (2 + n) (fun k => if k = 7 then q else if k = 8 then b1 else if k = 9 then b2 else if k = 10 then b3 else if k = 11 then b4 else if k = 12 then b5 else if k = 13 then b6 else b7) 4 0 = ad 4 0 := by rw [up2_k (by decide)]
        have ha0 : up2 ad [7, 8, 9, 10, 11, 12, 13, 14] (2 + n) (fun k => if k = 7 then q else if k = 8 then b1 else if k = 9 then b2 else if k = 10 then b3 else if k = 11 then b4 else if k = 12 then b5 else if k = 13 then b6 else b7) 0 0 = h0 := by rw [up2_k (by decide)]; exact o1
        have hSI := hSI.up7
        have hOw := hOw.up (KS := [7, 8, 9, 10, 11, 12, 13, 14]) (by decide +kernel) (by decide +kernel)
        have hz := hz.up (KS := [7, 8, 9, 10, 11, 12, 13, 14])
        generalize up2 ad [7, 8, 9, 10, 11, 12, 13, 14] (2 + n) (fun k => if k = 7 then q else if k = 8 then b1 else if k = 9 then b2 else if k = 10 then b3 else if k = 11 then b4 else if k = 12 then b5 else if k = 13 then b6 else b7) = ad1 at hw ha7 ha4 ha0
        generalize upc cnt [7, 8, 9, 10, 11, 12, 13, 14] = cnt1 at hw hSI hOw hz
        refine W.eq (g2 := F0 m 168 ls [.ref (ad1 7 (2 + n)), .int (jI n), .ref (ad1 4 0)]) (by rw [ha7, ha4]) ?_
        have c4 : cnt1 4 = 1 := hSI.2.2.2.2.2.1 4 (by decide)
        have c7 : cnt1 7 = 2 + n + 1 := hSI.1 7 (by decide)
        refine nx_aast hx hb hK.1 hw hS hbs (by omega) (by omega) ar_4 rfl rfl sl_7_0 (len_E ar_4 (by first | exact Nat.ne_of_beq_eq_false rfl | decide)) (by omega) (by omega) (by omega) (by omega) (by omega) dX8_init_168 (fun H locs hw hS => ?_)
        refine lv_iinc (v := jI (n + 1)) (lv' := [(1, .int (jI (n + 1))), (0, .ref h0)]) hx hb dX8_init_169 hl (k := 0) rfl (jI_add _ _) (by decide) rfl (fun ls hl => ?_)
        refine lv_goto (tgt := 151) hx hb dX8_init_172 (by decide) ?_
        refine ih (n + 1) _ _ _ _ _ _ _ _ _ (by omega) (by omega) ⟨ha0, by rw [show 2 + (n + 1) = 2 + n + 1 by omega]; exact hSI, fun q g0 g1 => by rw [u3_k _ _ _ _ (by first | exact Nat.ne_of_beq_eq_false rfl | decide)]; exact o3 q g0 g1, o4, fun q g0 g1 => ?_, by rw [u3_k _ _ _ _ (by first | exact Nat.ne_of_beq_eq_false rfl | decide)]; exact o6, fun q g0 g1 => by rw [u3_k _ _ _ _ (by first | exact Nat.ne_of_beq_eq_false rfl | decide)]; exact o7 q g0 g1, hOw, hz.setY (by omega) (by omega)⟩ (by omega) hw hS hl
        by_cases hq : q = n
        · rw [hq]; exact u3_s _ _ _ _ _
        · rw [u3_j _ _ _ _ hq]; exact o5 q g0 (by omega)
  have lp2 : ∀ (nn : Nat) (n : Int) (ad : Nat → Int → Nat) (cnt : Nat → Int) (X : Nat → Int → Int → Int) (Y : Nat → Int → Int → Option Int) (cl sl : Nat) (H : Heap) (locs : List Loc) (ls : Array Slot), 16 - n < (nn : Int) → 0 ≤ n ∧ n ≤ 16 → OI 30 n 0 h0 ad cnt X Y → (cl : Int) ≤ 196 ∧ (sl : Int) ≤ 6308 → wx D tc base (ad, cnt, X, Y, ln) [] H → va_S (frA base) s.heap H locs → lv_has ls 2 [(1, .int (jI n)), (0, .ref h0)] → W p l e ({ frames := 3, cells := 228, slots := 16184, locals := 60 } : Room) s m ([.ref h0] : List Value).toArray below meth c H locs cl sl (MQ below (QX D tc base (fun u' E' => ∃ (ad1 : Nat → Int → Nat) (cnt1 : Nat → Int) (X1 : Nat → Int → Int → Int) (Y1 : Nat → Int → Int → Option Int), u' = (ad1, cnt1, X1, Y1, ln) ∧ E' = [] ∧ OI 30 16 4 h0 ad1 cnt1 X1 Y1)) ([.ref h0] : List Value).toArray s 228 16184 (frA base)) (F0 m 130 ls []) := by
    intro nn
    induction nn with
    | zero => intro n ad cnt X Y cl sl H locs ls hm hn; exfalso; omega
    | succ nn ih =>
      intro n ad cnt X Y cl sl H locs ls hm hn hO hcl hw hS hl
      obtain ⟨o1, hSI, o3, o4, o5, o6, o7, hOw, hz⟩ := hO
      refine lv_iload_n hx hb dX8_init_130 rfl (lv_at hl 0 rfl) ?_
      refine lv_bipush (v := jI 16) hx hb dX8_init_131 (by decide) ?_
      refine x_icmp_ge (tgt := 149) hx hb (by omega) (by omega) dX8_init_133 (by decide) (fun hc => ?_) (fun hc => ?_)
      · have e4 : n = 16 := by omega
        subst e4
        refine lv_iconst (v := jI 0) hx hb dX8_init_149 rfl ?_
        refine lv_istore_n (lv' := [(1, .int (jI 0)), (0, .ref h0)]) hx hb dX8_init_150 rfl hl (by decide) rfl (fun ls hl => ?_)
        exact lp3 5 0 ad cnt X Y cl sl _ _ _ (by omega) (by omega) ⟨o1, hSI, o3, o4, o5, o6, o7, hOw, hz⟩ (by omega) hw hS hl
      · have c0 : cnt 0 = 1 := hSI.2.2.2.2.2.1 0 (by decide)
        have c3 : cnt 3 = 1 := hSI.2.2.2.2.2.1 3 (by decide)
        refine lv_aload_n hx hb dX8_init_136 rfl (lv_at hl 1 rfl) ?_
        refine W.eq (g2 := F0 m 137 ls [.ref (ad 0 0)]) (by rw [o1]) ?_
        refine x_geto hx hb hf8 (wx_wd hw) (by omega) (by omega) sl_0_4 lk21 dX8_init_137 ?_
        refine lv_iload_n hx hb dX8_init_140 rfl (lv_at hl 0 rfl) ?_
        refine lv_iconst (v := jI 1) hx hb dX8_init_141 rfl ?_
        refine x_zast hx hb hK.1 (wx_wd hw) hS (by omega) (by omega) ar_3 (len_E ar_3 (by first | exact Nat.ne_of_beq_eq_false rfl | decide)) (by omega) (by omega) (by omega) (by omega) (by omega) dX8_init_142 (fun H locs hw hS => ?_)
        refine lv_iinc (v := jI (n + 1)) (lv' := [(1, .int (jI (n + 1))), (0, .ref h0)]) hx hb dX8_init_143 hl (k := 0) rfl (jI_add _ _) (by decide) rfl (fun ls hl => ?_)
        refine lv_goto (tgt := 130) hx hb dX8_init_146 (by decide) ?_
        refine ih (n + 1) _ _ _ _ _ _ _ _ _ (by omega) (by omega) ⟨o1, hSI, o3, fun k i j => ?_, o5, o6, o7, hOw, hz.setX (by omega) (by omega)⟩ (by omega) (wx_of hw) hS hl
        simp only [u3]
        rw [o4 k i j]
        by_cases h3 : k = 3 ∧ i = 0
        · obtain ⟨rfl, rfl⟩ := h3
          by_cases hj : j = n
          · subst hj; rw [if_pos ⟨rfl, rfl, rfl⟩, if_pos ⟨rfl, rfl, by omega, by omega⟩]
          · rw [if_neg (fun q => hj q.2.2)]
            by_cases hr9 : 0 ≤ j ∧ j < n
            · rw [if_pos ⟨rfl, rfl, hr9⟩, if_pos ⟨rfl, rfl, by omega, by omega⟩]
            · rw [if_neg (fun q => hr9 q.2.2), if_neg (fun q => hr9 (by omega))]
        · rw [if_neg (fun q => h3 ⟨q.1, q.2.1⟩), if_neg (fun q => h3 ⟨q.1, q.2.1⟩), if_neg (fun q => h3 ⟨q.1, q.2.1⟩)]
  have lp1 : ∀ (nn : Nat) (n : Int) (ad : Nat → Int → Nat) (cnt : Nat → Int) (X : Nat → Int → Int → Int) (Y : Nat → Int → Int → Option Int) (cl sl : Nat) (H : Heap) (locs : List Loc) (ls : Array Slot), 30 - n < (nn : Int) → 0 ≤ n ∧ n ≤ 30 → OI n 0 0 h0 ad cnt X Y → (cl : Int) ≤ 106 + 3 * n ∧ (sl : Int) ≤ 5888 + 14 * n → wx D tc base (ad, cnt, X, Y, ln) [] H → va_S (frA base) s.heap H locs → lv_has ls 2 [(1, .int (jI n)), (0, .ref h0)] → W p l e ({ frames := 3, cells := 228, slots := 16184, locals := 60 } : Room) s m ([.ref h0] : List Value).toArray below meth c H locs cl sl (MQ below (QX D tc base (fun u' E' => ∃ (ad1 : Nat → Int → Nat) (cnt1 : Nat → Int) (X1 : Nat → Int → Int → Int) (Y1 : Nat → Int → Int → Option Int), u' = (ad1, cnt1, X1, Y1, ln) ∧ E' = [] ∧ OI 30 16 4 h0 ad1 cnt1 X1 Y1)) ([.ref h0] : List Value).toArray s 228 16184 (frA base)) (F0 m 103 ls []) := by
    intro nn
    induction nn with
    | zero => intro n ad cnt X Y cl sl H locs ls hm hn; exfalso; omega
    | succ nn ih =>
      intro n ad cnt X Y cl sl H locs ls hm hn hO hcl hw hS hl
      obtain ⟨o1, hSI, o3, o4, o5, o6, o7, hOw, hz⟩ := hO
      refine lv_iload_n hx hb dX8_init_103 rfl (lv_at hl 0 rfl) ?_
      refine lv_bipush (v := jI 30) hx hb dX8_init_104 (by decide) ?_
      refine x_icmp_ge (tgt := 128) hx hb (by omega) (by omega) dX8_init_106 (by decide) (fun hc => ?_) (fun hc => ?_)
      · have e4 : n = 30 := by omega
        subst e4
        refine lv_iconst (v := jI 0) hx hb dX8_init_128 rfl ?_
        refine lv_istore_n (lv' := [(1, .int (jI 0)), (0, .ref h0)]) hx hb dX8_init_129 rfl hl (by decide) rfl (fun ls hl => ?_)
        exact lp2 17 0 ad cnt X Y cl sl _ _ _ (by omega) (by omega) ⟨o1, hSI, o3, o4, o5, o6, o7, hOw, hz⟩ (by omega) hw hS hl
      · have c0 : cnt 0 = 1 := hSI.2.2.2.2.2.1 0 (by decide)
        have c2 : cnt 2 = 1 := hSI.2.2.2.2.2.1 2 (by decide)
        refine lv_aload_n hx hb dX8_init_109 rfl (lv_at hl 1 rfl) ?_
        refine W.eq (g2 := F0 m 110 ls [.ref (ad 0 0)]) (by rw [o1]) ?_
        refine x_geto hx hb hf8 (wx_wd hw) (by omega) (by omega) sl_0_2 lk17 dX8_init_110 ?_
        refine lv_iload_n hx hb dX8_init_113 rfl (lv_at hl 0 rfl) ?_
        refine nx_new (ci := 6) (fs := [.null, .null, .null, .int 0]) hx hb hf6 ⟨tyX6_ok, nmX6⟩ (hts (.classLink RX8 15 RX6) (by first | exact gj_X8_init_0 _ (gp_4 (gp_1 gp_h)) | decide +kernel)) (hts (.instantiable RX6 4) (by first | exact gj_X8_init_1 _ (gp_1 (gp_1 gp_h)) | decide +kernel)) (hts (.initialized RX6) (by first | exact gj_X8_init_1 _ (gp_1 (gp_1 (gp_1 gp_h))) | decide +kernel)) hw hS hbs (fun j hj => by rcases (show j = 0 ∨ j = 1 ∨ j = 2 ∨ j = 3 by omega) with rfl | rfl | rfl | rfl <;> rfl) (by show _ ≤ (228 : Nat); omega) (by show _ ≤ (16184 : Nat); omega) dX8_init_114 (fun q H hw hS => ?_)
        refine lv_dup hx hb dX8_init_117 rfl ?_
        refine gos_x (run_IN (As := []) (rest := [.ref q, .int (jI n), .ref (ad 2 0)]) (host := RX8) hx hb hml hown hts (c_X6_init l D tc base (ad, cnt, X, Y, ln) [] q) ⟨va_cnB 0 hts gX8_init_X6_init_n62 rfl rfl rfl hK.2.2.2.2.1.2.2.1 (hts (.initialized RX6) (by first | exact gj_X8_init_1 _ (gp_1 (gp_1 (gp_1 gp_h))) | decide +kernel)) (by decide +kernel) ⟨Nat.le_of_ble_eq_true rfl, Nat.le_of_ble_eq_true rfl⟩, rfl, hts (.instanceMethod yX6_init) (by first | exact gj_X8_init_2 _ (gp_4 (gp_1 (gp_1 (gp_1 gp_h)))) | decide +kernel)⟩ hK hw rfl hl.1 rfl (Nat.le_of_ble_eq_true rfl) dX8_init_118 ⟨by show _ ≤ (228 : Nat); omega, by show _ ≤ (16184 : Nat); omega⟩) hS (fun u9 E9 H locs p9 hw hS => ?_)
        obtain ⟨rfl, b1, b2, rfl⟩ := p9
        have hw := growz2 (KS := [15, 16, 17]) (n := n) (f := fun k => if k = 15 then q else if k = 16 then b1 else b2) hw (by omega) hSI.2.1 (by decide) hOw hz (by decide +kernel) rfl
        have ha7 : up2 ad [15, 16, 17] n (fun k => if k = 15 then q else if k = 16 then b1 else b2) 15 n = q := by rw [up2_s (by decide)]; rfl
        have ha4 : up2 ad [15, 16, 17] n (fun k => if k = 15 then q else if k = 16 then b1 else b2) 2 0 = ad 2 0 := by rw [up2_k (by decide)]
        have ha0 : up2 ad [15, 16, 17] n (fun k => if k = 15 then q else if k = 16 then b1 else b2) 0 0 = h0 := by rw [up2_k (by decide)]; exact o1
        have hSI := hSI.up15
        have hOw := hOw.up (KS := [15, 16, 17]) (by decide +kernel) (by decide +kernel)
        have hz := hz.up (KS := [15, 16, 17])
        generalize up2 ad [15, 16, 17] n (fun k => if k = 15 then q else if k = 16 then b1 else b2) = ad1 at hw ha7 ha4 ha0
        generalize upc cnt [15, 16, 17] = cnt1 at hw hSI hOw hz
        refine W.eq (g2 := F0 m 121 ls [.ref (ad1 15 n), .int (jI n), .ref (ad1 2 0)]) (by rw [ha7, ha4]) ?_
        have c4 : cnt1 2 = 1 := hSI.2.2.2.2.2.1 2 (by decide)
        have c7 : cnt1 15 = n + 1 := hSI.2.1 15 (by decide)
        refine nx_aast hx hb hK.1 hw hS hbs (by omega) (by omega) ar_2 rfl rfl sl_15_0 (len_E ar_2 (by first | exact Nat.ne_of_beq_eq_false rfl | decide)) (by omega) (by omega) (by omega) (by omega) (by omega) dX8_init_121 (fun H locs hw hS => ?_)
        refine lv_iinc (v := jI (n + 1)) (lv' := [(1, .int (jI (n + 1))), (0, .ref h0)]) hx hb dX8_init_122 hl (k := 0) rfl (jI_add _ _) (by decide) rfl (fun ls hl => ?_)
        refine lv_goto (tgt := 103) hx hb dX8_init_125 (by decide) ?_
        refine ih (n + 1) _ _ _ _ _ _ _ _ _ (by omega) (by omega) ⟨ha0, hSI, fun q g0 g1 => ?_, o4, fun q g0 g1 => by omega, by rw [u3_k _ _ _ _ (by first | exact Nat.ne_of_beq_eq_false rfl | decide)]; exact o6, fun q g0 g1 => by rw [u3_k _ _ _ _ (by first | exact Nat.ne_of_beq_eq_false rfl | decide)]; exact o7 q g0 g1, hOw, hz.setY (by omega) (by omega)⟩ (by omega) hw hS hl
        by_cases hq : q = n
        · rw [hq]; exact u3_s _ _ _ _ _
        · rw [u3_j _ _ _ _ hq]; exact o3 q g0 (by omega)
  refine lv_iconst (v := jI 0) hx hb dX8_init_101 rfl ?_
  refine lv_istore_n (lv' := [(1, .int (jI 0)), (0, .ref h0)]) hx hb dX8_init_102 rfl hl (by decide) rfl (fun ls hl => ?_)
  exact lp1 31 0 ad1 cnt1 X Y1 _ _ _ _ _ (by omega) (by omega) hO (by omega) hw hS hl
end
